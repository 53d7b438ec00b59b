section
theorem dX9_is_0 : decode cX9_is 0 = .ok (.iload_n 1, 1) := by decide +kernel
theorem dX9_is_1 : decode cX9_is 1 = .ok (.ifCond .lt 15, 3) := by decide +kernel
theorem dX9_is_4 : decode cX9_is 4 = .ok (.iload_n 1, 1) := by decide +kernel
theorem dX9_is_5 : decode cX9_is 5 = .ok (.aload_n 0, 1) := by decide +kernel
theorem dX9_is_6 : decode cX9_is 6 = .ok (.getfield 126, 3) := by decide +kernel
theorem dX9_is_9 : decode cX9_is 9 = .ok (.if_icmp .ge 7, 3) := by decide +kernel
theorem dX9_is_12 : decode cX9_is 12 = .ok (.iconst 1, 1) := by decide +kernel
theorem dX9_is_13 : decode cX9_is 13 = .ok (.goto 4, 3) := by decide +kernel
theorem dX9_is_16 : decode cX9_is 16 = .ok (.iconst 0, 1) := by decide +kernel
theorem dX9_is_17 : decode cX9_is 17 = .ok (.ireturn, 1) := by decide +kernel
theorem dX9_has_0 : decode cX9_has 0 = .ok (.aload_n 0, 1) := by decide +kernel
theorem dX9_has_1 : decode cX9_has 1 = .ok (.getfield 68, 3) := by decide +kernel
theorem dX9_has_4 : decode cX9_has 4 = .ok (.iload_n 1, 1) := by decide +kernel
theorem dX9_has_5 : decode cX9_has 5 = .ok (.bipush 40, 2) := by decide +kernel
theorem dX9_has_7 : decode cX9_has 7 = .ok (.imul, 1) := by decide +kernel
theorem dX9_has_8 : decode cX9_has 8 = .ok (.iload_n 2, 1) := by decide +kernel
theorem dX9_has_9 : decode cX9_has 9 = .ok (.iadd, 1) := by decide +kernel
theorem dX9_has_10 : decode cX9_has 10 = .ok (.bipush 40, 2) := by decide +kernel
theorem dX9_has_12 : decode cX9_has 12 = .ok (.imul, 1) := by decide +kernel
theorem dX9_has_13 : decode cX9_has 13 = .ok (.iload_n 3, 1) := by decide +kernel
theorem dX9_has_14 : decode cX9_has 14 = .ok (.iadd, 1) := by decide +kernel
theorem dX9_has_15 : decode cX9_has 15 = .ok (.baload, 1) := by decide +kernel
theorem dX9_has_16 : decode cX9_has 16 = .ok (.ireturn, 1) := by decide +kernel
theorem dX9_rests_0 : decode cX9_rests 0 = .ok (.iload_n 0, 1) := by decide +kernel
theorem dX9_rests_1 : decode cX9_rests 1 = .ok (.ifCond .eq 8, 3) := by decide +kernel
theorem dX9_rests_4 : decode cX9_rests 4 = .ok (.iload_n 0, 1) := by decide +kernel
theorem dX9_rests_5 : decode cX9_rests 5 = .ok (.iconst 4, 1) := by decide +kernel
theorem dX9_rests_6 : decode cX9_rests 6 = .ok (.if_icmp .ne 7, 3) := by decide +kernel
theorem dX9_rests_9 : decode cX9_rests 9 = .ok (.iconst 1, 1) := by decide +kernel
theorem dX9_rests_10 : decode cX9_rests 10 = .ok (.goto 4, 3) := by decide +kernel
theorem dX9_rests_13 : decode cX9_rests 13 = .ok (.iconst 0, 1) := by decide +kernel
theorem dX9_rests_14 : decode cX9_rests 14 = .ok (.ireturn, 1) := by decide +kernel
theorem dX9_waitsFor_0 : decode cX9_waitsFor 0 = .ok (.iload_n 0, 1) := by decide +kernel
theorem dX9_waitsFor_1 : decode cX9_waitsFor 1 = .ok (.ifCond .eq 11, 3) := by decide +kernel
theorem dX9_waitsFor_4 : decode cX9_waitsFor 4 = .ok (.iload_n 1, 1) := by decide +kernel
theorem dX9_waitsFor_5 : decode cX9_waitsFor 5 = .ok (.ifCond .eq 7, 3) := by decide +kernel
theorem dX9_waitsFor_8 : decode cX9_waitsFor 8 = .ok (.iconst 1, 1) := by decide +kernel
theorem dX9_waitsFor_9 : decode cX9_waitsFor 9 = .ok (.goto 4, 3) := by decide +kernel
theorem dX9_waitsFor_12 : decode cX9_waitsFor 12 = .ok (.iconst 0, 1) := by decide +kernel
theorem dX9_waitsFor_13 : decode cX9_waitsFor 13 = .ok (.ireturn, 1) := by decide +kernel
theorem dX9_to_0 : decode cX9_to 0 = .ok (.aload_n 0, 1) := by decide +kernel
theorem dX9_to_1 : decode cX9_to 1 = .ok (.getfield 31, 3) := by decide +kernel
theorem dX9_to_4 : decode cX9_to 4 = .ok (.iload_n 1, 1) := by decide +kernel
theorem dX9_to_5 : decode cX9_to 5 = .ok (.iload_n 2, 1) := by decide +kernel
theorem dX9_to_6 : decode cX9_to 6 = .ok (.iastore, 1) := by decide +kernel
theorem dX9_to_7 : decode cX9_to 7 = .ok (.aload_n 0, 1) := by decide +kernel
theorem dX9_to_8 : decode cX9_to 8 = .ok (.getfield 34, 3) := by decide +kernel
theorem dX9_to_11 : decode cX9_to 11 = .ok (.iload_n 1, 1) := by decide +kernel
theorem dX9_to_12 : decode cX9_to 12 = .ok (.aload_n 0, 1) := by decide +kernel
theorem dX9_to_13 : decode cX9_to 13 = .ok (.getfield 129, 3) := by decide +kernel
theorem dX9_to_16 : decode cX9_to 16 = .ok (.iastore, 1) := by decide +kernel
theorem dX9_to_17 : decode cX9_to 17 = .ok (.aload_n 0, 1) := by decide +kernel
theorem dX9_to_18 : decode cX9_to 18 = .ok (.getfield 117, 3) := by decide +kernel
theorem dX9_to_21 : decode cX9_to 21 = .ok (.aload_n 0, 1) := by decide +kernel
theorem dX9_to_22 : decode cX9_to 22 = .ok (.getfield 132, 3) := by decide +kernel
theorem dX9_to_25 : decode cX9_to 25 = .ok (.sipush 2000, 3) := by decide +kernel
theorem dX9_to_28 : decode cX9_to 28 = .ok (.irem, 1) := by decide +kernel
theorem dX9_to_29 : decode cX9_to 29 = .ok (.aload_n 0, 1) := by decide +kernel
theorem dX9_to_30 : decode cX9_to 30 = .ok (.getfield 129, 3) := by decide +kernel
theorem dX9_to_33 : decode cX9_to 33 = .ok (.iastore, 1) := by decide +kernel
theorem dX9_to_34 : decode cX9_to 34 = .ok (.aload_n 0, 1) := by decide +kernel
theorem dX9_to_35 : decode cX9_to 35 = .ok (.getfield 120, 3) := by decide +kernel
theorem dX9_to_38 : decode cX9_to 38 = .ok (.aload_n 0, 1) := by decide +kernel
theorem dX9_to_39 : decode cX9_to 39 = .ok (.getfield 132, 3) := by decide +kernel
theorem dX9_to_42 : decode cX9_to 42 = .ok (.sipush 2000, 3) := by decide +kernel
theorem dX9_to_45 : decode cX9_to 45 = .ok (.irem, 1) := by decide +kernel
theorem dX9_to_46 : decode cX9_to 46 = .ok (.iload_n 1, 1) := by decide +kernel
theorem dX9_to_47 : decode cX9_to 47 = .ok (.iastore, 1) := by decide +kernel
theorem dX9_to_48 : decode cX9_to 48 = .ok (.aload_n 0, 1) := by decide +kernel
theorem dX9_to_49 : decode cX9_to 49 = .ok (.getfield 123, 3) := by decide +kernel
theorem dX9_to_52 : decode cX9_to 52 = .ok (.aload_n 0, 1) := by decide +kernel
theorem dX9_to_53 : decode cX9_to 53 = .ok (.getfield 132, 3) := by decide +kernel
theorem dX9_to_56 : decode cX9_to 56 = .ok (.sipush 2000, 3) := by decide +kernel
theorem dX9_to_59 : decode cX9_to 59 = .ok (.irem, 1) := by decide +kernel
theorem dX9_to_60 : decode cX9_to 60 = .ok (.iload_n 2, 1) := by decide +kernel
theorem dX9_to_61 : decode cX9_to 61 = .ok (.iastore, 1) := by decide +kernel
theorem dX9_to_62 : decode cX9_to 62 = .ok (.aload_n 0, 1) := by decide +kernel
theorem dX9_to_63 : decode cX9_to 63 = .ok (.dup, 1) := by decide +kernel
theorem dX9_to_64 : decode cX9_to 64 = .ok (.getfield 132, 3) := by decide +kernel
theorem dX9_to_67 : decode cX9_to 67 = .ok (.iconst 1, 1) := by decide +kernel
theorem dX9_to_68 : decode cX9_to 68 = .ok (.iadd, 1) := by decide +kernel
theorem dX9_to_69 : decode cX9_to 69 = .ok (.putfield 132, 3) := by decide +kernel
theorem dX9_to_72 : decode cX9_to 72 = .ok (.aload_n 0, 1) := by decide +kernel
theorem dX9_to_73 : decode cX9_to 73 = .ok (.getfield 43, 3) := by decide +kernel
theorem dX9_to_76 : decode cX9_to 76 = .ok (.iload_n 1, 1) := by decide +kernel
theorem dX9_to_77 : decode cX9_to 77 = .ok (.iconst 0, 1) := by decide +kernel
theorem dX9_to_78 : decode cX9_to 78 = .ok (.bastore, 1) := by decide +kernel
theorem dX9_to_79 : decode cX9_to 79 = .ok (.iload_n 2, 1) := by decide +kernel
theorem dX9_to_80 : decode cX9_to 80 = .ok (.iconst 2, 1) := by decide +kernel
theorem dX9_to_81 : decode cX9_to 81 = .ok (.if_icmp .ne 51, 3) := by decide +kernel
theorem dX9_to_84 : decode cX9_to 84 = .ok (.aload_n 0, 1) := by decide +kernel
theorem dX9_to_85 : decode cX9_to 85 = .ok (.getfield 47, 3) := by decide +kernel
theorem dX9_to_88 : decode cX9_to 88 = .ok (.iload_n 1, 1) := by decide +kernel
theorem dX9_to_89 : decode cX9_to 89 = .ok (.aload_n 0, 1) := by decide +kernel
theorem dX9_to_90 : decode cX9_to 90 = .ok (.getfield 19, 3) := by decide +kernel
theorem dX9_to_93 : decode cX9_to 93 = .ok (.bipush 8, 2) := by decide +kernel
theorem dX9_to_95 : decode cX9_to 95 = .ok (.iload_n 1, 1) := by decide +kernel
theorem dX9_to_96 : decode cX9_to 96 = .ok (.imul, 1) := by decide +kernel
theorem dX9_to_97 : decode cX9_to 97 = .ok (.aload_n 0, 1) := by decide +kernel
theorem dX9_to_98 : decode cX9_to 98 = .ok (.getfield 37, 3) := by decide +kernel
theorem dX9_to_101 : decode cX9_to 101 = .ok (.iload_n 1, 1) := by decide +kernel
theorem dX9_to_102 : decode cX9_to 102 = .ok (.iaload, 1) := by decide +kernel
theorem dX9_to_103 : decode cX9_to 103 = .ok (.bipush 7, 2) := by decide +kernel
theorem dX9_to_105 : decode cX9_to 105 = .ok (.if_icmp .ge 12, 3) := by decide +kernel
theorem dX9_to_108 : decode cX9_to 108 = .ok (.aload_n 0, 1) := by decide +kernel
theorem dX9_to_109 : decode cX9_to 109 = .ok (.getfield 37, 3) := by decide +kernel
theorem dX9_to_112 : decode cX9_to 112 = .ok (.iload_n 1, 1) := by decide +kernel
theorem dX9_to_113 : decode cX9_to 113 = .ok (.iaload, 1) := by decide +kernel
theorem dX9_to_114 : decode cX9_to 114 = .ok (.goto 5, 3) := by decide +kernel
theorem dX9_to_117 : decode cX9_to 117 = .ok (.bipush 7, 2) := by decide +kernel
theorem dX9_to_119 : decode cX9_to 119 = .ok (.iadd, 1) := by decide +kernel
theorem dX9_to_120 : decode cX9_to 120 = .ok (.iaload, 1) := by decide +kernel
theorem dX9_to_121 : decode cX9_to 121 = .ok (.iastore, 1) := by decide +kernel
theorem dX9_to_122 : decode cX9_to 122 = .ok (.aload_n 0, 1) := by decide +kernel
theorem dX9_to_123 : decode cX9_to 123 = .ok (.getfield 37, 3) := by decide +kernel
theorem dX9_to_126 : decode cX9_to 126 = .ok (.iload_n 1, 1) := by decide +kernel
theorem dX9_to_127 : decode cX9_to 127 = .ok (.dup2, 1) := by decide +kernel
theorem dX9_to_128 : decode cX9_to 128 = .ok (.iaload, 1) := by decide +kernel
theorem dX9_to_129 : decode cX9_to 129 = .ok (.iconst 1, 1) := by decide +kernel
theorem dX9_to_130 : decode cX9_to 130 = .ok (.iadd, 1) := by decide +kernel
theorem dX9_to_131 : decode cX9_to 131 = .ok (.iastore, 1) := by decide +kernel
theorem dX9_to_132 : decode cX9_to 132 = .ok (.return_, 1) := by decide +kernel
theorem dX9_jobs_0 : decode cX9_jobs 0 = .ok (.iconst 0, 1) := by decide +kernel
theorem dX9_jobs_1 : decode cX9_jobs 1 = .ok (.istore_n 1, 1) := by decide +kernel
theorem dX9_jobs_2 : decode cX9_jobs 2 = .ok (.iconst 0, 1) := by decide +kernel
theorem dX9_jobs_3 : decode cX9_jobs 3 = .ok (.istore_n 2, 1) := by decide +kernel
theorem dX9_jobs_4 : decode cX9_jobs 4 = .ok (.iload_n 2, 1) := by decide +kernel
theorem dX9_jobs_5 : decode cX9_jobs 5 = .ok (.aload_n 0, 1) := by decide +kernel
theorem dX9_jobs_6 : decode cX9_jobs 6 = .ok (.getfield 126, 3) := by decide +kernel
theorem dX9_jobs_9 : decode cX9_jobs 9 = .ok (.if_icmp .ge 26, 3) := by decide +kernel
theorem dX9_jobs_12 : decode cX9_jobs 12 = .ok (.iload_n 1, 1) := by decide +kernel
theorem dX9_jobs_13 : decode cX9_jobs 13 = .ok (.aload_n 0, 1) := by decide +kernel
theorem dX9_jobs_14 : decode cX9_jobs 14 = .ok (.getfield 71, 3) := by decide +kernel
theorem dX9_jobs_17 : decode cX9_jobs 17 = .ok (.iload_n 2, 1) := by decide +kernel
theorem dX9_jobs_18 : decode cX9_jobs 18 = .ok (.iaload, 1) := by decide +kernel
theorem dX9_jobs_19 : decode cX9_jobs 19 = .ok (.ifCond .eq 7, 3) := by decide +kernel
theorem dX9_jobs_22 : decode cX9_jobs 22 = .ok (.iconst 1, 1) := by decide +kernel
theorem dX9_jobs_23 : decode cX9_jobs 23 = .ok (.goto 4, 3) := by decide +kernel
theorem dX9_jobs_26 : decode cX9_jobs 26 = .ok (.iconst 0, 1) := by decide +kernel
theorem dX9_jobs_27 : decode cX9_jobs 27 = .ok (.iadd, 1) := by decide +kernel
theorem dX9_jobs_28 : decode cX9_jobs 28 = .ok (.istore_n 1, 1) := by decide +kernel
theorem dX9_jobs_29 : decode cX9_jobs 29 = .ok (.iinc 2 1, 3) := by decide +kernel
theorem dX9_jobs_32 : decode cX9_jobs 32 = .ok (.goto (-28), 3) := by decide +kernel
theorem dX9_jobs_35 : decode cX9_jobs 35 = .ok (.iload_n 1, 1) := by decide +kernel
theorem dX9_jobs_36 : decode cX9_jobs 36 = .ok (.ireturn, 1) := by decide +kernel
theorem dX9_isPair_0 : decode cX9_isPair 0 = .ok (.iload_n 1, 1) := by decide +kernel
theorem dX9_isPair_1 : decode cX9_isPair 1 = .ok (.ifCond .lt 33, 3) := by decide +kernel
theorem dX9_isPair_4 : decode cX9_isPair 4 = .ok (.iload_n 1, 1) := by decide +kernel
theorem dX9_isPair_5 : decode cX9_isPair 5 = .ok (.iconst 3, 1) := by decide +kernel
theorem dX9_isPair_6 : decode cX9_isPair 6 = .ok (.if_icmp .gt 28, 3) := by decide +kernel
theorem dX9_isPair_9 : decode cX9_isPair 9 = .ok (.aload_n 0, 1) := by decide +kernel
theorem dX9_isPair_10 : decode cX9_isPair 10 = .ok (.iload_n 2, 1) := by decide +kernel
theorem dX9_isPair_11 : decode cX9_isPair 11 = .ok (.invokevirtual 135, 3) := by decide +kernel
theorem dX9_isPair_14 : decode cX9_isPair 14 = .ok (.ifCond .eq 20, 3) := by decide +kernel
theorem dX9_isPair_17 : decode cX9_isPair 17 = .ok (.aload_n 0, 1) := by decide +kernel
theorem dX9_isPair_18 : decode cX9_isPair 18 = .ok (.iload_n 3, 1) := by decide +kernel
theorem dX9_isPair_19 : decode cX9_isPair 19 = .ok (.invokevirtual 135, 3) := by decide +kernel
theorem dX9_isPair_22 : decode cX9_isPair 22 = .ok (.ifCond .eq 12, 3) := by decide +kernel
theorem dX9_isPair_25 : decode cX9_isPair 25 = .ok (.iload_n 2, 1) := by decide +kernel
theorem dX9_isPair_26 : decode cX9_isPair 26 = .ok (.iload_n 3, 1) := by decide +kernel
theorem dX9_isPair_27 : decode cX9_isPair 27 = .ok (.if_icmp .eq 7, 3) := by decide +kernel
theorem dX9_isPair_30 : decode cX9_isPair 30 = .ok (.iconst 1, 1) := by decide +kernel
theorem dX9_isPair_31 : decode cX9_isPair 31 = .ok (.goto 4, 3) := by decide +kernel
theorem dX9_isPair_34 : decode cX9_isPair 34 = .ok (.iconst 0, 1) := by decide +kernel
theorem dX9_isPair_35 : decode cX9_isPair 35 = .ok (.ireturn, 1) := by decide +kernel
theorem dX9_set_0 : decode cX9_set 0 = .ok (.aload_n 0, 1) := by decide +kernel
theorem dX9_set_1 : decode cX9_set 1 = .ok (.getfield 68, 3) := by decide +kernel
theorem dX9_set_4 : decode cX9_set 4 = .ok (.iload_n 1, 1) := by decide +kernel
theorem dX9_set_5 : decode cX9_set 5 = .ok (.bipush 40, 2) := by decide +kernel
theorem dX9_set_7 : decode cX9_set 7 = .ok (.imul, 1) := by decide +kernel
theorem dX9_set_8 : decode cX9_set 8 = .ok (.iload_n 2, 1) := by decide +kernel
theorem dX9_set_9 : decode cX9_set 9 = .ok (.iadd, 1) := by decide +kernel
theorem dX9_set_10 : decode cX9_set 10 = .ok (.bipush 40, 2) := by decide +kernel
theorem dX9_set_12 : decode cX9_set 12 = .ok (.imul, 1) := by decide +kernel
theorem dX9_set_13 : decode cX9_set 13 = .ok (.iload_n 3, 1) := by decide +kernel
theorem dX9_set_14 : decode cX9_set 14 = .ok (.iadd, 1) := by decide +kernel
theorem dX9_set_15 : decode cX9_set 15 = .ok (.iload 4, 2) := by decide +kernel
theorem dX9_set_17 : decode cX9_set 17 = .ok (.bastore, 1) := by decide +kernel
theorem dX9_set_18 : decode cX9_set 18 = .ok (.iload_n 1, 1) := by decide +kernel
theorem dX9_set_19 : decode cX9_set 19 = .ok (.iconst 3, 1) := by decide +kernel
theorem dX9_set_20 : decode cX9_set 20 = .ok (.if_icmp .ne 21, 3) := by decide +kernel
theorem dX9_set_23 : decode cX9_set 23 = .ok (.aload_n 0, 1) := by decide +kernel
theorem dX9_set_24 : decode cX9_set 24 = .ok (.getfield 68, 3) := by decide +kernel
theorem dX9_set_27 : decode cX9_set 27 = .ok (.iload_n 1, 1) := by decide +kernel
theorem dX9_set_28 : decode cX9_set 28 = .ok (.bipush 40, 2) := by decide +kernel
theorem dX9_set_30 : decode cX9_set 30 = .ok (.imul, 1) := by decide +kernel
theorem dX9_set_31 : decode cX9_set 31 = .ok (.iload_n 3, 1) := by decide +kernel
theorem dX9_set_32 : decode cX9_set 32 = .ok (.iadd, 1) := by decide +kernel
theorem dX9_set_33 : decode cX9_set 33 = .ok (.bipush 40, 2) := by decide +kernel
theorem dX9_set_35 : decode cX9_set 35 = .ok (.imul, 1) := by decide +kernel
theorem dX9_set_36 : decode cX9_set 36 = .ok (.iload_n 2, 1) := by decide +kernel
theorem dX9_set_37 : decode cX9_set 37 = .ok (.iadd, 1) := by decide +kernel
theorem dX9_set_38 : decode cX9_set 38 = .ok (.iload 4, 2) := by decide +kernel
theorem dX9_set_40 : decode cX9_set 40 = .ok (.bastore, 1) := by decide +kernel
theorem dX9_set_41 : decode cX9_set 41 = .ok (.return_, 1) := by decide +kernel
theorem dX9_relation_0 : decode cX9_relation 0 = .ok (.aload_n 0, 1) := by decide +kernel
theorem dX9_relation_1 : decode cX9_relation 1 = .ok (.iload_n 1, 1) := by decide +kernel
theorem dX9_relation_2 : decode cX9_relation 2 = .ok (.iload_n 2, 1) := by decide +kernel
theorem dX9_relation_3 : decode cX9_relation 3 = .ok (.iload_n 3, 1) := by decide +kernel
theorem dX9_relation_4 : decode cX9_relation 4 = .ok (.invokevirtual 139, 3) := by decide +kernel
theorem dX9_relation_7 : decode cX9_relation 7 = .ok (.ifCond .ne 5, 3) := by decide +kernel
theorem dX9_relation_10 : decode cX9_relation 10 = .ok (.iconst (-1), 1) := by decide +kernel
theorem dX9_relation_11 : decode cX9_relation 11 = .ok (.ireturn, 1) := by decide +kernel
theorem dX9_relation_12 : decode cX9_relation 12 = .ok (.aload_n 0, 1) := by decide +kernel
theorem dX9_relation_13 : decode cX9_relation 13 = .ok (.invokevirtual 143, 3) := by decide +kernel
theorem dX9_relation_16 : decode cX9_relation 16 = .ok (.ifCond .le 6, 3) := by decide +kernel
theorem dX9_relation_19 : decode cX9_relation 19 = .ok (.bipush (-3), 2) := by decide +kernel
theorem dX9_relation_21 : decode cX9_relation 21 = .ok (.ireturn, 1) := by decide +kernel
theorem dX9_relation_22 : decode cX9_relation 22 = .ok (.iload_n 1, 1) := by decide +kernel
theorem dX9_relation_23 : decode cX9_relation 23 = .ok (.ifCond .eq 8, 3) := by decide +kernel
theorem dX9_relation_26 : decode cX9_relation 26 = .ok (.iload_n 1, 1) := by decide +kernel
theorem dX9_relation_27 : decode cX9_relation 27 = .ok (.iconst 3, 1) := by decide +kernel
theorem dX9_relation_28 : decode cX9_relation 28 = .ok (.if_icmp .ne 30, 3) := by decide +kernel
theorem dX9_relation_31 : decode cX9_relation 31 = .ok (.aload_n 0, 1) := by decide +kernel
theorem dX9_relation_32 : decode cX9_relation 32 = .ok (.getfield 31, 3) := by decide +kernel
theorem dX9_relation_35 : decode cX9_relation 35 = .ok (.iload_n 2, 1) := by decide +kernel
theorem dX9_relation_36 : decode cX9_relation 36 = .ok (.iaload, 1) := by decide +kernel
theorem dX9_relation_37 : decode cX9_relation 37 = .ok (.invokestatic 147, 3) := by decide +kernel
theorem dX9_relation_40 : decode cX9_relation 40 = .ok (.ifCond .eq 15, 3) := by decide +kernel
theorem dX9_relation_43 : decode cX9_relation 43 = .ok (.aload_n 0, 1) := by decide +kernel
theorem dX9_relation_44 : decode cX9_relation 44 = .ok (.getfield 31, 3) := by decide +kernel
theorem dX9_relation_47 : decode cX9_relation 47 = .ok (.iload_n 3, 1) := by decide +kernel
theorem dX9_relation_48 : decode cX9_relation 48 = .ok (.iaload, 1) := by decide +kernel
theorem dX9_relation_49 : decode cX9_relation 49 = .ok (.invokestatic 147, 3) := by decide +kernel
theorem dX9_relation_52 : decode cX9_relation 52 = .ok (.ifCond .ne 6, 3) := by decide +kernel
theorem dX9_relation_55 : decode cX9_relation 55 = .ok (.bipush (-4), 2) := by decide +kernel
theorem dX9_relation_57 : decode cX9_relation 57 = .ok (.ireturn, 1) := by decide +kernel
theorem dX9_relation_58 : decode cX9_relation 58 = .ok (.aload_n 0, 1) := by decide +kernel
theorem dX9_relation_59 : decode cX9_relation 59 = .ok (.iload_n 1, 1) := by decide +kernel
theorem dX9_relation_60 : decode cX9_relation 60 = .ok (.iload_n 2, 1) := by decide +kernel
theorem dX9_relation_61 : decode cX9_relation 61 = .ok (.iload_n 3, 1) := by decide +kernel
theorem dX9_relation_62 : decode cX9_relation 62 = .ok (.invokevirtual 150, 3) := by decide +kernel
theorem dX9_relation_65 : decode cX9_relation 65 = .ok (.ifCond .eq 5, 3) := by decide +kernel
theorem dX9_relation_68 : decode cX9_relation 68 = .ok (.iconst 0, 1) := by decide +kernel
theorem dX9_relation_69 : decode cX9_relation 69 = .ok (.ireturn, 1) := by decide +kernel
theorem dX9_relation_70 : decode cX9_relation 70 = .ok (.aload_n 0, 1) := by decide +kernel
theorem dX9_relation_71 : decode cX9_relation 71 = .ok (.getfield 153, 3) := by decide +kernel
theorem dX9_relation_74 : decode cX9_relation 74 = .ok (.sipush 400, 3) := by decide +kernel
theorem dX9_relation_77 : decode cX9_relation 77 = .ok (.if_icmp .ne 6, 3) := by decide +kernel
theorem dX9_relation_80 : decode cX9_relation 80 = .ok (.bipush (-6), 2) := by decide +kernel
theorem dX9_relation_82 : decode cX9_relation 82 = .ok (.ireturn, 1) := by decide +kernel
theorem dX9_relation_83 : decode cX9_relation 83 = .ok (.aload_n 0, 1) := by decide +kernel
theorem dX9_relation_84 : decode cX9_relation 84 = .ok (.iload_n 1, 1) := by decide +kernel
theorem dX9_relation_85 : decode cX9_relation 85 = .ok (.iload_n 2, 1) := by decide +kernel
theorem dX9_relation_86 : decode cX9_relation 86 = .ok (.iload_n 3, 1) := by decide +kernel
theorem dX9_relation_87 : decode cX9_relation 87 = .ok (.iconst 1, 1) := by decide +kernel
theorem dX9_relation_88 : decode cX9_relation 88 = .ok (.invokevirtual 156, 3) := by decide +kernel
theorem dX9_relation_91 : decode cX9_relation 91 = .ok (.aload_n 0, 1) := by decide +kernel
theorem dX9_relation_92 : decode cX9_relation 92 = .ok (.dup, 1) := by decide +kernel
theorem dX9_relation_93 : decode cX9_relation 93 = .ok (.getfield 153, 3) := by decide +kernel
theorem dX9_relation_96 : decode cX9_relation 96 = .ok (.iconst 1, 1) := by decide +kernel
theorem dX9_relation_97 : decode cX9_relation 97 = .ok (.iadd, 1) := by decide +kernel
theorem dX9_relation_98 : decode cX9_relation 98 = .ok (.putfield 153, 3) := by decide +kernel
theorem dX9_relation_101 : decode cX9_relation 101 = .ok (.iconst 1, 1) := by decide +kernel
theorem dX9_relation_102 : decode cX9_relation 102 = .ok (.ireturn, 1) := by decide +kernel
theorem dX9_undo_0 : decode cX9_undo 0 = .ok (.aload_n 0, 1) := by decide +kernel
theorem dX9_undo_1 : decode cX9_undo 1 = .ok (.iload_n 1, 1) := by decide +kernel
theorem dX9_undo_2 : decode cX9_undo 2 = .ok (.iload_n 2, 1) := by decide +kernel
theorem dX9_undo_3 : decode cX9_undo 3 = .ok (.iload_n 3, 1) := by decide +kernel
theorem dX9_undo_4 : decode cX9_undo 4 = .ok (.invokevirtual 139, 3) := by decide +kernel
theorem dX9_undo_7 : decode cX9_undo 7 = .ok (.ifCond .ne 5, 3) := by decide +kernel
theorem dX9_undo_10 : decode cX9_undo 10 = .ok (.iconst (-1), 1) := by decide +kernel
theorem dX9_undo_11 : decode cX9_undo 11 = .ok (.ireturn, 1) := by decide +kernel
theorem dX9_undo_12 : decode cX9_undo 12 = .ok (.aload_n 0, 1) := by decide +kernel
theorem dX9_undo_13 : decode cX9_undo 13 = .ok (.invokevirtual 143, 3) := by decide +kernel
theorem dX9_undo_16 : decode cX9_undo 16 = .ok (.ifCond .le 6, 3) := by decide +kernel
theorem dX9_undo_19 : decode cX9_undo 19 = .ok (.bipush (-3), 2) := by decide +kernel
theorem dX9_undo_21 : decode cX9_undo 21 = .ok (.ireturn, 1) := by decide +kernel
theorem dX9_undo_22 : decode cX9_undo 22 = .ok (.aload_n 0, 1) := by decide +kernel
theorem dX9_undo_23 : decode cX9_undo 23 = .ok (.iload_n 1, 1) := by decide +kernel
theorem dX9_undo_24 : decode cX9_undo 24 = .ok (.iload_n 2, 1) := by decide +kernel
theorem dX9_undo_25 : decode cX9_undo 25 = .ok (.iload_n 3, 1) := by decide +kernel
theorem dX9_undo_26 : decode cX9_undo 26 = .ok (.invokevirtual 150, 3) := by decide +kernel
theorem dX9_undo_29 : decode cX9_undo 29 = .ok (.ifCond .ne 5, 3) := by decide +kernel
theorem dX9_undo_32 : decode cX9_undo 32 = .ok (.iconst 0, 1) := by decide +kernel
theorem dX9_undo_33 : decode cX9_undo 33 = .ok (.ireturn, 1) := by decide +kernel
theorem dX9_undo_34 : decode cX9_undo 34 = .ok (.aload_n 0, 1) := by decide +kernel
theorem dX9_undo_35 : decode cX9_undo 35 = .ok (.iload_n 1, 1) := by decide +kernel
theorem dX9_undo_36 : decode cX9_undo 36 = .ok (.iload_n 2, 1) := by decide +kernel
theorem dX9_undo_37 : decode cX9_undo 37 = .ok (.iload_n 3, 1) := by decide +kernel
theorem dX9_undo_38 : decode cX9_undo 38 = .ok (.iconst 0, 1) := by decide +kernel
theorem dX9_undo_39 : decode cX9_undo 39 = .ok (.invokevirtual 156, 3) := by decide +kernel
theorem dX9_undo_42 : decode cX9_undo 42 = .ok (.aload_n 0, 1) := by decide +kernel
theorem dX9_undo_43 : decode cX9_undo 43 = .ok (.dup, 1) := by decide +kernel
theorem dX9_undo_44 : decode cX9_undo 44 = .ok (.getfield 153, 3) := by decide +kernel
theorem dX9_undo_47 : decode cX9_undo 47 = .ok (.iconst 1, 1) := by decide +kernel
theorem dX9_undo_48 : decode cX9_undo 48 = .ok (.isub, 1) := by decide +kernel
theorem dX9_undo_49 : decode cX9_undo 49 = .ok (.putfield 153, 3) := by decide +kernel
theorem dX9_undo_52 : decode cX9_undo 52 = .ok (.iconst 1, 1) := by decide +kernel
theorem dX9_undo_53 : decode cX9_undo 53 = .ok (.ireturn, 1) := by decide +kernel
theorem dX9_clash_0 : decode cX9_clash 0 = .ok (.iconst 0, 1) := by decide +kernel
theorem dX9_clash_1 : decode cX9_clash 1 = .ok (.istore_n 2, 1) := by decide +kernel
theorem dX9_clash_2 : decode cX9_clash 2 = .ok (.iconst 0, 1) := by decide +kernel
theorem dX9_clash_3 : decode cX9_clash 3 = .ok (.istore_n 3, 1) := by decide +kernel
theorem dX9_clash_4 : decode cX9_clash 4 = .ok (.iload_n 3, 1) := by decide +kernel
theorem dX9_clash_5 : decode cX9_clash 5 = .ok (.aload_n 0, 1) := by decide +kernel
theorem dX9_clash_6 : decode cX9_clash 6 = .ok (.getfield 126, 3) := by decide +kernel
theorem dX9_clash_9 : decode cX9_clash 9 = .ok (.if_icmp .ge 61, 3) := by decide +kernel
theorem dX9_clash_12 : decode cX9_clash 12 = .ok (.iconst 0, 1) := by decide +kernel
theorem dX9_clash_13 : decode cX9_clash 13 = .ok (.istore 4, 2) := by decide +kernel
theorem dX9_clash_15 : decode cX9_clash 15 = .ok (.iload 4, 2) := by decide +kernel
theorem dX9_clash_17 : decode cX9_clash 17 = .ok (.aload_n 0, 1) := by decide +kernel
theorem dX9_clash_18 : decode cX9_clash 18 = .ok (.getfield 126, 3) := by decide +kernel
theorem dX9_clash_21 : decode cX9_clash 21 = .ok (.if_icmp .ge 43, 3) := by decide +kernel
theorem dX9_clash_24 : decode cX9_clash 24 = .ok (.iload_n 2, 1) := by decide +kernel
theorem dX9_clash_25 : decode cX9_clash 25 = .ok (.ifCond .ne 27, 3) := by decide +kernel
theorem dX9_clash_28 : decode cX9_clash 28 = .ok (.aload_n 1, 1) := by decide +kernel
theorem dX9_clash_29 : decode cX9_clash 29 = .ok (.iload_n 3, 1) := by decide +kernel
theorem dX9_clash_30 : decode cX9_clash 30 = .ok (.baload, 1) := by decide +kernel
theorem dX9_clash_31 : decode cX9_clash 31 = .ok (.ifCond .eq 25, 3) := by decide +kernel
theorem dX9_clash_34 : decode cX9_clash 34 = .ok (.aload_n 1, 1) := by decide +kernel
theorem dX9_clash_35 : decode cX9_clash 35 = .ok (.iload 4, 2) := by decide +kernel
theorem dX9_clash_37 : decode cX9_clash 37 = .ok (.baload, 1) := by decide +kernel
theorem dX9_clash_38 : decode cX9_clash 38 = .ok (.ifCond .eq 18, 3) := by decide +kernel
theorem dX9_clash_41 : decode cX9_clash 41 = .ok (.aload_n 0, 1) := by decide +kernel
theorem dX9_clash_42 : decode cX9_clash 42 = .ok (.iconst 3, 1) := by decide +kernel
theorem dX9_clash_43 : decode cX9_clash 43 = .ok (.iload_n 3, 1) := by decide +kernel
theorem dX9_clash_44 : decode cX9_clash 44 = .ok (.iload 4, 2) := by decide +kernel
theorem dX9_clash_46 : decode cX9_clash 46 = .ok (.invokevirtual 150, 3) := by decide +kernel
theorem dX9_clash_49 : decode cX9_clash 49 = .ok (.ifCond .eq 7, 3) := by decide +kernel
theorem dX9_clash_52 : decode cX9_clash 52 = .ok (.iconst 1, 1) := by decide +kernel
theorem dX9_clash_53 : decode cX9_clash 53 = .ok (.goto 4, 3) := by decide +kernel
theorem dX9_clash_56 : decode cX9_clash 56 = .ok (.iconst 0, 1) := by decide +kernel
theorem dX9_clash_57 : decode cX9_clash 57 = .ok (.istore_n 2, 1) := by decide +kernel
theorem dX9_clash_58 : decode cX9_clash 58 = .ok (.iinc 4 1, 3) := by decide +kernel
theorem dX9_clash_61 : decode cX9_clash 61 = .ok (.goto (-46), 3) := by decide +kernel
theorem dX9_clash_64 : decode cX9_clash 64 = .ok (.iinc 3 1, 3) := by decide +kernel
theorem dX9_clash_67 : decode cX9_clash 67 = .ok (.goto (-63), 3) := by decide +kernel
theorem dX9_clash_70 : decode cX9_clash 70 = .ok (.iload_n 2, 1) := by decide +kernel
theorem dX9_clash_71 : decode cX9_clash 71 = .ok (.ireturn, 1) := by decide +kernel
theorem dX9_waitsAmong_0 : decode cX9_waitsAmong 0 = .ok (.aload_n 1, 1) := by decide +kernel
theorem dX9_waitsAmong_1 : decode cX9_waitsAmong 1 = .ok (.iload_n 2, 1) := by decide +kernel
theorem dX9_waitsAmong_2 : decode cX9_waitsAmong 2 = .ok (.iaload, 1) := by decide +kernel
theorem dX9_waitsAmong_3 : decode cX9_waitsAmong 3 = .ok (.aload_n 1, 1) := by decide +kernel
theorem dX9_waitsAmong_4 : decode cX9_waitsAmong 4 = .ok (.iload_n 3, 1) := by decide +kernel
theorem dX9_waitsAmong_5 : decode cX9_waitsAmong 5 = .ok (.iaload, 1) := by decide +kernel
theorem dX9_waitsAmong_6 : decode cX9_waitsAmong 6 = .ok (.invokestatic 163, 3) := by decide +kernel
theorem dX9_waitsAmong_9 : decode cX9_waitsAmong 9 = .ok (.ifCond .eq 8, 3) := by decide +kernel
theorem dX9_waitsAmong_12 : decode cX9_waitsAmong 12 = .ok (.iload_n 2, 1) := by decide +kernel
theorem dX9_waitsAmong_13 : decode cX9_waitsAmong 13 = .ok (.iload_n 3, 1) := by decide +kernel
theorem dX9_waitsAmong_14 : decode cX9_waitsAmong 14 = .ok (.if_icmp .ne 5, 3) := by decide +kernel
theorem dX9_waitsAmong_17 : decode cX9_waitsAmong 17 = .ok (.iconst 0, 1) := by decide +kernel
theorem dX9_waitsAmong_18 : decode cX9_waitsAmong 18 = .ok (.ireturn, 1) := by decide +kernel
theorem dX9_waitsAmong_19 : decode cX9_waitsAmong 19 = .ok (.aload_n 1, 1) := by decide +kernel
theorem dX9_waitsAmong_20 : decode cX9_waitsAmong 20 = .ok (.iload_n 2, 1) := by decide +kernel
theorem dX9_waitsAmong_21 : decode cX9_waitsAmong 21 = .ok (.iaload, 1) := by decide +kernel
theorem dX9_waitsAmong_22 : decode cX9_waitsAmong 22 = .ok (.iconst 1, 1) := by decide +kernel
theorem dX9_waitsAmong_23 : decode cX9_waitsAmong 23 = .ok (.if_icmp .ne 46, 3) := by decide +kernel
theorem dX9_waitsAmong_26 : decode cX9_waitsAmong 26 = .ok (.aload_n 1, 1) := by decide +kernel
theorem dX9_waitsAmong_27 : decode cX9_waitsAmong 27 = .ok (.iload_n 3, 1) := by decide +kernel
theorem dX9_waitsAmong_28 : decode cX9_waitsAmong 28 = .ok (.iaload, 1) := by decide +kernel
theorem dX9_waitsAmong_29 : decode cX9_waitsAmong 29 = .ok (.iconst 1, 1) := by decide +kernel
theorem dX9_waitsAmong_30 : decode cX9_waitsAmong 30 = .ok (.if_icmp .ne 31, 3) := by decide +kernel
theorem dX9_waitsAmong_33 : decode cX9_waitsAmong 33 = .ok (.aload_n 0, 1) := by decide +kernel
theorem dX9_waitsAmong_34 : decode cX9_waitsAmong 34 = .ok (.iconst 0, 1) := by decide +kernel
theorem dX9_waitsAmong_35 : decode cX9_waitsAmong 35 = .ok (.iload_n 2, 1) := by decide +kernel
theorem dX9_waitsAmong_36 : decode cX9_waitsAmong 36 = .ok (.iload_n 3, 1) := by decide +kernel
theorem dX9_waitsAmong_37 : decode cX9_waitsAmong 37 = .ok (.invokevirtual 150, 3) := by decide +kernel
theorem dX9_waitsAmong_40 : decode cX9_waitsAmong 40 = .ok (.ifCond .ne 13, 3) := by decide +kernel
theorem dX9_waitsAmong_43 : decode cX9_waitsAmong 43 = .ok (.aload_n 0, 1) := by decide +kernel
theorem dX9_waitsAmong_44 : decode cX9_waitsAmong 44 = .ok (.iconst 2, 1) := by decide +kernel
theorem dX9_waitsAmong_45 : decode cX9_waitsAmong 45 = .ok (.iload_n 2, 1) := by decide +kernel
theorem dX9_waitsAmong_46 : decode cX9_waitsAmong 46 = .ok (.iload_n 3, 1) := by decide +kernel
theorem dX9_waitsAmong_47 : decode cX9_waitsAmong 47 = .ok (.invokevirtual 150, 3) := by decide +kernel
theorem dX9_waitsAmong_50 : decode cX9_waitsAmong 50 = .ok (.ifCond .eq 7, 3) := by decide +kernel
theorem dX9_waitsAmong_53 : decode cX9_waitsAmong 53 = .ok (.iconst 1, 1) := by decide +kernel
theorem dX9_waitsAmong_54 : decode cX9_waitsAmong 54 = .ok (.goto 14, 3) := by decide +kernel
theorem dX9_waitsAmong_57 : decode cX9_waitsAmong 57 = .ok (.iconst 0, 1) := by decide +kernel
theorem dX9_waitsAmong_58 : decode cX9_waitsAmong 58 = .ok (.goto 10, 3) := by decide +kernel
theorem dX9_waitsAmong_61 : decode cX9_waitsAmong 61 = .ok (.aload_n 0, 1) := by decide +kernel
theorem dX9_waitsAmong_62 : decode cX9_waitsAmong 62 = .ok (.iconst 3, 1) := by decide +kernel
theorem dX9_waitsAmong_63 : decode cX9_waitsAmong 63 = .ok (.iload_n 2, 1) := by decide +kernel
theorem dX9_waitsAmong_64 : decode cX9_waitsAmong 64 = .ok (.iload_n 3, 1) := by decide +kernel
theorem dX9_waitsAmong_65 : decode cX9_waitsAmong 65 = .ok (.invokevirtual 150, 3) := by decide +kernel
theorem dX9_waitsAmong_68 : decode cX9_waitsAmong 68 = .ok (.ireturn, 1) := by decide +kernel
theorem dX9_waitsAmong_69 : decode cX9_waitsAmong 69 = .ok (.aload_n 1, 1) := by decide +kernel
theorem dX9_waitsAmong_70 : decode cX9_waitsAmong 70 = .ok (.iload_n 3, 1) := by decide +kernel
theorem dX9_waitsAmong_71 : decode cX9_waitsAmong 71 = .ok (.iaload, 1) := by decide +kernel
theorem dX9_waitsAmong_72 : decode cX9_waitsAmong 72 = .ok (.iconst 2, 1) := by decide +kernel
theorem dX9_waitsAmong_73 : decode cX9_waitsAmong 73 = .ok (.if_icmp .ne 27, 3) := by decide +kernel
theorem dX9_waitsAmong_76 : decode cX9_waitsAmong 76 = .ok (.aload_n 0, 1) := by decide +kernel
theorem dX9_waitsAmong_77 : decode cX9_waitsAmong 77 = .ok (.iconst 0, 1) := by decide +kernel
theorem dX9_waitsAmong_78 : decode cX9_waitsAmong 78 = .ok (.iload_n 3, 1) := by decide +kernel
theorem dX9_waitsAmong_79 : decode cX9_waitsAmong 79 = .ok (.iload_n 2, 1) := by decide +kernel
theorem dX9_waitsAmong_80 : decode cX9_waitsAmong 80 = .ok (.invokevirtual 150, 3) := by decide +kernel
theorem dX9_waitsAmong_83 : decode cX9_waitsAmong 83 = .ok (.ifCond .ne 13, 3) := by decide +kernel
theorem dX9_waitsAmong_86 : decode cX9_waitsAmong 86 = .ok (.aload_n 0, 1) := by decide +kernel
theorem dX9_waitsAmong_87 : decode cX9_waitsAmong 87 = .ok (.iconst 2, 1) := by decide +kernel
theorem dX9_waitsAmong_88 : decode cX9_waitsAmong 88 = .ok (.iload_n 3, 1) := by decide +kernel
theorem dX9_waitsAmong_89 : decode cX9_waitsAmong 89 = .ok (.iload_n 2, 1) := by decide +kernel
theorem dX9_waitsAmong_90 : decode cX9_waitsAmong 90 = .ok (.invokevirtual 150, 3) := by decide +kernel
theorem dX9_waitsAmong_93 : decode cX9_waitsAmong 93 = .ok (.ifCond .eq 7, 3) := by decide +kernel
theorem dX9_waitsAmong_96 : decode cX9_waitsAmong 96 = .ok (.iconst 1, 1) := by decide +kernel
theorem dX9_waitsAmong_97 : decode cX9_waitsAmong 97 = .ok (.goto 4, 3) := by decide +kernel
theorem dX9_waitsAmong_100 : decode cX9_waitsAmong 100 = .ok (.iconst 0, 1) := by decide +kernel
theorem dX9_waitsAmong_101 : decode cX9_waitsAmong 101 = .ok (.ireturn, 1) := by decide +kernel
theorem dX9_isUpOrWaiting_0 : decode cX9_isUpOrWaiting 0 = .ok (.aload_n 0, 1) := by decide +kernel
theorem dX9_isUpOrWaiting_1 : decode cX9_isUpOrWaiting 1 = .ok (.getfield 31, 3) := by decide +kernel
theorem dX9_isUpOrWaiting_4 : decode cX9_isUpOrWaiting 4 = .ok (.iload_n 1, 1) := by decide +kernel
theorem dX9_isUpOrWaiting_5 : decode cX9_isUpOrWaiting 5 = .ok (.iaload, 1) := by decide +kernel
theorem dX9_isUpOrWaiting_6 : decode cX9_isUpOrWaiting 6 = .ok (.iconst 2, 1) := by decide +kernel
theorem dX9_isUpOrWaiting_7 : decode cX9_isUpOrWaiting 7 = .ok (.if_icmp .eq 13, 3) := by decide +kernel
theorem dX9_isUpOrWaiting_10 : decode cX9_isUpOrWaiting 10 = .ok (.aload_n 0, 1) := by decide +kernel
theorem dX9_isUpOrWaiting_11 : decode cX9_isUpOrWaiting 11 = .ok (.getfield 31, 3) := by decide +kernel
theorem dX9_isUpOrWaiting_14 : decode cX9_isUpOrWaiting 14 = .ok (.iload_n 1, 1) := by decide +kernel
theorem dX9_isUpOrWaiting_15 : decode cX9_isUpOrWaiting 15 = .ok (.iaload, 1) := by decide +kernel
theorem dX9_isUpOrWaiting_16 : decode cX9_isUpOrWaiting 16 = .ok (.iconst 5, 1) := by decide +kernel
theorem dX9_isUpOrWaiting_17 : decode cX9_isUpOrWaiting 17 = .ok (.if_icmp .ne 7, 3) := by decide +kernel
theorem dX9_isUpOrWaiting_20 : decode cX9_isUpOrWaiting 20 = .ok (.iconst 1, 1) := by decide +kernel
theorem dX9_isUpOrWaiting_21 : decode cX9_isUpOrWaiting 21 = .ok (.goto 4, 3) := by decide +kernel
theorem dX9_isUpOrWaiting_24 : decode cX9_isUpOrWaiting 24 = .ok (.iconst 0, 1) := by decide +kernel
theorem dX9_isUpOrWaiting_25 : decode cX9_isUpOrWaiting 25 = .ok (.ireturn, 1) := by decide +kernel
theorem dX9_many_0 : decode cX9_many 0 = .ok (.iconst 0, 1) := by decide +kernel
theorem dX9_many_1 : decode cX9_many 1 = .ok (.istore_n 2, 1) := by decide +kernel
theorem dX9_many_2 : decode cX9_many 2 = .ok (.iconst 0, 1) := by decide +kernel
theorem dX9_many_3 : decode cX9_many 3 = .ok (.istore_n 3, 1) := by decide +kernel
theorem dX9_many_4 : decode cX9_many 4 = .ok (.iload_n 3, 1) := by decide +kernel
theorem dX9_many_5 : decode cX9_many 5 = .ok (.iload_n 1, 1) := by decide +kernel
theorem dX9_many_6 : decode cX9_many 6 = .ok (.if_icmp .ge 23, 3) := by decide +kernel
theorem dX9_many_9 : decode cX9_many 9 = .ok (.iload_n 2, 1) := by decide +kernel
theorem dX9_many_10 : decode cX9_many 10 = .ok (.aload_n 0, 1) := by decide +kernel
theorem dX9_many_11 : decode cX9_many 11 = .ok (.iload_n 3, 1) := by decide +kernel
theorem dX9_many_12 : decode cX9_many 12 = .ok (.iaload, 1) := by decide +kernel
theorem dX9_many_13 : decode cX9_many 13 = .ok (.ifCond .eq 7, 3) := by decide +kernel
theorem dX9_many_16 : decode cX9_many 16 = .ok (.iconst 1, 1) := by decide +kernel
theorem dX9_many_17 : decode cX9_many 17 = .ok (.goto 4, 3) := by decide +kernel
theorem dX9_many_20 : decode cX9_many 20 = .ok (.iconst 0, 1) := by decide +kernel
theorem dX9_many_21 : decode cX9_many 21 = .ok (.iadd, 1) := by decide +kernel
theorem dX9_many_22 : decode cX9_many 22 = .ok (.istore_n 2, 1) := by decide +kernel
theorem dX9_many_23 : decode cX9_many 23 = .ok (.iinc 3 1, 3) := by decide +kernel
theorem dX9_many_26 : decode cX9_many 26 = .ok (.goto (-22), 3) := by decide +kernel
theorem dX9_many_29 : decode cX9_many 29 = .ok (.iload_n 2, 1) := by decide +kernel
theorem dX9_many_30 : decode cX9_many 30 = .ok (.ireturn, 1) := by decide +kernel
theorem dX9_waitsForAny_0 : decode cX9_waitsForAny 0 = .ok (.iconst 0, 1) := by decide +kernel
theorem dX9_waitsForAny_1 : decode cX9_waitsForAny 1 = .ok (.istore_n 2, 1) := by decide +kernel
theorem dX9_waitsForAny_2 : decode cX9_waitsForAny 2 = .ok (.iconst 0, 1) := by decide +kernel
theorem dX9_waitsForAny_3 : decode cX9_waitsForAny 3 = .ok (.istore_n 3, 1) := by decide +kernel
theorem dX9_waitsForAny_4 : decode cX9_waitsForAny 4 = .ok (.iload_n 3, 1) := by decide +kernel
theorem dX9_waitsForAny_5 : decode cX9_waitsForAny 5 = .ok (.aload_n 0, 1) := by decide +kernel
theorem dX9_waitsForAny_6 : decode cX9_waitsForAny 6 = .ok (.getfield 126, 3) := by decide +kernel
theorem dX9_waitsForAny_9 : decode cX9_waitsForAny 9 = .ok (.if_icmp .ge 32, 3) := by decide +kernel
theorem dX9_waitsForAny_12 : decode cX9_waitsForAny 12 = .ok (.iload_n 2, 1) := by decide +kernel
theorem dX9_waitsForAny_13 : decode cX9_waitsForAny 13 = .ok (.ifCond .ne 16, 3) := by decide +kernel
theorem dX9_waitsForAny_16 : decode cX9_waitsForAny 16 = .ok (.aload_n 0, 1) := by decide +kernel
theorem dX9_waitsForAny_17 : decode cX9_waitsForAny 17 = .ok (.aload_n 0, 1) := by decide +kernel
theorem dX9_waitsForAny_18 : decode cX9_waitsForAny 18 = .ok (.getfield 71, 3) := by decide +kernel
theorem dX9_waitsForAny_21 : decode cX9_waitsForAny 21 = .ok (.iload_n 1, 1) := by decide +kernel
theorem dX9_waitsForAny_22 : decode cX9_waitsForAny 22 = .ok (.iload_n 3, 1) := by decide +kernel
theorem dX9_waitsForAny_23 : decode cX9_waitsForAny 23 = .ok (.invokevirtual 167, 3) := by decide +kernel
theorem dX9_waitsForAny_26 : decode cX9_waitsForAny 26 = .ok (.ifCond .eq 7, 3) := by decide +kernel
theorem dX9_waitsForAny_29 : decode cX9_waitsForAny 29 = .ok (.iconst 1, 1) := by decide +kernel
theorem dX9_waitsForAny_30 : decode cX9_waitsForAny 30 = .ok (.goto 4, 3) := by decide +kernel
theorem dX9_waitsForAny_33 : decode cX9_waitsForAny 33 = .ok (.iconst 0, 1) := by decide +kernel
theorem dX9_waitsForAny_34 : decode cX9_waitsForAny 34 = .ok (.istore_n 2, 1) := by decide +kernel
theorem dX9_waitsForAny_35 : decode cX9_waitsForAny 35 = .ok (.iinc 3 1, 3) := by decide +kernel
theorem dX9_waitsForAny_38 : decode cX9_waitsForAny 38 = .ok (.goto (-34), 3) := by decide +kernel
theorem dX9_waitsForAny_41 : decode cX9_waitsForAny 41 = .ok (.iload_n 2, 1) := by decide +kernel
theorem dX9_waitsForAny_42 : decode cX9_waitsForAny 42 = .ok (.ireturn, 1) := by decide +kernel
theorem dX9_hasNeeds_0 : decode cX9_hasNeeds 0 = .ok (.iconst 1, 1) := by decide +kernel
theorem dX9_hasNeeds_1 : decode cX9_hasNeeds 1 = .ok (.istore_n 2, 1) := by decide +kernel
theorem dX9_hasNeeds_2 : decode cX9_hasNeeds 2 = .ok (.iconst 0, 1) := by decide +kernel
theorem dX9_hasNeeds_3 : decode cX9_hasNeeds 3 = .ok (.istore_n 3, 1) := by decide +kernel
theorem dX9_hasNeeds_4 : decode cX9_hasNeeds 4 = .ok (.iload_n 3, 1) := by decide +kernel
theorem dX9_hasNeeds_5 : decode cX9_hasNeeds 5 = .ok (.aload_n 0, 1) := by decide +kernel
theorem dX9_hasNeeds_6 : decode cX9_hasNeeds 6 = .ok (.getfield 126, 3) := by decide +kernel
theorem dX9_hasNeeds_9 : decode cX9_hasNeeds 9 = .ok (.if_icmp .ge 39, 3) := by decide +kernel
theorem dX9_hasNeeds_12 : decode cX9_hasNeeds 12 = .ok (.iload_n 2, 1) := by decide +kernel
theorem dX9_hasNeeds_13 : decode cX9_hasNeeds 13 = .ok (.ifCond .eq 27, 3) := by decide +kernel
theorem dX9_hasNeeds_16 : decode cX9_hasNeeds 16 = .ok (.aload_n 0, 1) := by decide +kernel
theorem dX9_hasNeeds_17 : decode cX9_hasNeeds 17 = .ok (.iconst 0, 1) := by decide +kernel
theorem dX9_hasNeeds_18 : decode cX9_hasNeeds 18 = .ok (.iload_n 1, 1) := by decide +kernel
theorem dX9_hasNeeds_19 : decode cX9_hasNeeds 19 = .ok (.iload_n 3, 1) := by decide +kernel
theorem dX9_hasNeeds_20 : decode cX9_hasNeeds 20 = .ok (.invokevirtual 150, 3) := by decide +kernel
theorem dX9_hasNeeds_23 : decode cX9_hasNeeds 23 = .ok (.ifCond .eq 13, 3) := by decide +kernel
theorem dX9_hasNeeds_26 : decode cX9_hasNeeds 26 = .ok (.aload_n 0, 1) := by decide +kernel
theorem dX9_hasNeeds_27 : decode cX9_hasNeeds 27 = .ok (.getfield 31, 3) := by decide +kernel
theorem dX9_hasNeeds_30 : decode cX9_hasNeeds 30 = .ok (.iload_n 3, 1) := by decide +kernel
theorem dX9_hasNeeds_31 : decode cX9_hasNeeds 31 = .ok (.iaload, 1) := by decide +kernel
theorem dX9_hasNeeds_32 : decode cX9_hasNeeds 32 = .ok (.iconst 2, 1) := by decide +kernel
theorem dX9_hasNeeds_33 : decode cX9_hasNeeds 33 = .ok (.if_icmp .ne 7, 3) := by decide +kernel
theorem dX9_hasNeeds_36 : decode cX9_hasNeeds 36 = .ok (.iconst 1, 1) := by decide +kernel
theorem dX9_hasNeeds_37 : decode cX9_hasNeeds 37 = .ok (.goto 4, 3) := by decide +kernel
theorem dX9_hasNeeds_40 : decode cX9_hasNeeds 40 = .ok (.iconst 0, 1) := by decide +kernel
theorem dX9_hasNeeds_41 : decode cX9_hasNeeds 41 = .ok (.istore_n 2, 1) := by decide +kernel
theorem dX9_hasNeeds_42 : decode cX9_hasNeeds 42 = .ok (.iinc 3 1, 3) := by decide +kernel
theorem dX9_hasNeeds_45 : decode cX9_hasNeeds 45 = .ok (.goto (-41), 3) := by decide +kernel
theorem dX9_hasNeeds_48 : decode cX9_hasNeeds 48 = .ok (.iload_n 2, 1) := by decide +kernel
theorem dX9_hasNeeds_49 : decode cX9_hasNeeds 49 = .ok (.ireturn, 1) := by decide +kernel
theorem dX9_in_0 : decode cX9_in 0 = .ok (.iload_n 1, 1) := by decide +kernel
theorem dX9_in_1 : decode cX9_in 1 = .ok (.ifCond .lt 8, 3) := by decide +kernel
theorem dX9_in_4 : decode cX9_in 4 = .ok (.iload_n 1, 1) := by decide +kernel
theorem dX9_in_5 : decode cX9_in 5 = .ok (.iconst 5, 1) := by decide +kernel
theorem dX9_in_6 : decode cX9_in 6 = .ok (.if_icmp .le 5, 3) := by decide +kernel
theorem dX9_in_9 : decode cX9_in 9 = .ok (.iconst (-1), 1) := by decide +kernel
theorem dX9_in_10 : decode cX9_in 10 = .ok (.ireturn, 1) := by decide +kernel
theorem dX9_in_11 : decode cX9_in 11 = .ok (.iconst 0, 1) := by decide +kernel
theorem dX9_in_12 : decode cX9_in 12 = .ok (.istore_n 2, 1) := by decide +kernel
theorem dX9_in_13 : decode cX9_in 13 = .ok (.iconst 0, 1) := by decide +kernel
theorem dX9_in_14 : decode cX9_in 14 = .ok (.istore_n 3, 1) := by decide +kernel
theorem dX9_in_15 : decode cX9_in 15 = .ok (.iload_n 3, 1) := by decide +kernel
theorem dX9_in_16 : decode cX9_in 16 = .ok (.aload_n 0, 1) := by decide +kernel
theorem dX9_in_17 : decode cX9_in 17 = .ok (.getfield 126, 3) := by decide +kernel
theorem dX9_in_20 : decode cX9_in 20 = .ok (.if_icmp .ge 27, 3) := by decide +kernel
theorem dX9_in_23 : decode cX9_in 23 = .ok (.iload_n 2, 1) := by decide +kernel
theorem dX9_in_24 : decode cX9_in 24 = .ok (.aload_n 0, 1) := by decide +kernel
theorem dX9_in_25 : decode cX9_in 25 = .ok (.getfield 31, 3) := by decide +kernel
theorem dX9_in_28 : decode cX9_in 28 = .ok (.iload_n 3, 1) := by decide +kernel
theorem dX9_in_29 : decode cX9_in 29 = .ok (.iaload, 1) := by decide +kernel
theorem dX9_in_30 : decode cX9_in 30 = .ok (.iload_n 1, 1) := by decide +kernel
theorem dX9_in_31 : decode cX9_in 31 = .ok (.if_icmp .ne 7, 3) := by decide +kernel
theorem dX9_in_34 : decode cX9_in 34 = .ok (.iconst 1, 1) := by decide +kernel
theorem dX9_in_35 : decode cX9_in 35 = .ok (.goto 4, 3) := by decide +kernel
theorem dX9_in_38 : decode cX9_in 38 = .ok (.iconst 0, 1) := by decide +kernel
theorem dX9_in_39 : decode cX9_in 39 = .ok (.iadd, 1) := by decide +kernel
theorem dX9_in_40 : decode cX9_in 40 = .ok (.istore_n 2, 1) := by decide +kernel
theorem dX9_in_41 : decode cX9_in 41 = .ok (.iinc 3 1, 3) := by decide +kernel
theorem dX9_in_44 : decode cX9_in 44 = .ok (.goto (-29), 3) := by decide +kernel
theorem dX9_in_47 : decode cX9_in 47 = .ok (.iload_n 2, 1) := by decide +kernel
theorem dX9_in_48 : decode cX9_in 48 = .ok (.ireturn, 1) := by decide +kernel
theorem dX9_shortest_0 : decode cX9_shortest 0 = .ok (.iconst 0, 1) := by decide +kernel
theorem dX9_shortest_1 : decode cX9_shortest 1 = .ok (.istore_n 1, 1) := by decide +kernel
theorem dX9_shortest_2 : decode cX9_shortest 2 = .ok (.iconst 0, 1) := by decide +kernel
theorem dX9_shortest_3 : decode cX9_shortest 3 = .ok (.istore_n 2, 1) := by decide +kernel
theorem dX9_shortest_4 : decode cX9_shortest 4 = .ok (.iload_n 2, 1) := by decide +kernel
theorem dX9_shortest_5 : decode cX9_shortest 5 = .ok (.aload_n 0, 1) := by decide +kernel
theorem dX9_shortest_6 : decode cX9_shortest 6 = .ok (.getfield 126, 3) := by decide +kernel
theorem dX9_shortest_9 : decode cX9_shortest 9 = .ok (.if_icmp .ge 183, 3) := by decide +kernel
theorem dX9_shortest_12 : decode cX9_shortest 12 = .ok (.iconst 0, 1) := by decide +kernel
theorem dX9_shortest_13 : decode cX9_shortest 13 = .ok (.istore_n 3, 1) := by decide +kernel
theorem dX9_shortest_14 : decode cX9_shortest 14 = .ok (.iload_n 3, 1) := by decide +kernel
theorem dX9_shortest_15 : decode cX9_shortest 15 = .ok (.aload_n 0, 1) := by decide +kernel
theorem dX9_shortest_16 : decode cX9_shortest 16 = .ok (.getfield 126, 3) := by decide +kernel
theorem dX9_shortest_19 : decode cX9_shortest 19 = .ok (.if_icmp .ge 34, 3) := by decide +kernel
theorem dX9_shortest_22 : decode cX9_shortest 22 = .ok (.aload_n 0, 1) := by decide +kernel
theorem dX9_shortest_23 : decode cX9_shortest 23 = .ok (.getfield 92, 3) := by decide +kernel
theorem dX9_shortest_26 : decode cX9_shortest 26 = .ok (.iload_n 3, 1) := by decide +kernel
theorem dX9_shortest_27 : decode cX9_shortest 27 = .ok (.aload_n 0, 1) := by decide +kernel
theorem dX9_shortest_28 : decode cX9_shortest 28 = .ok (.getfield 89, 3) := by decide +kernel
theorem dX9_shortest_31 : decode cX9_shortest 31 = .ok (.iload_n 2, 1) := by decide +kernel
theorem dX9_shortest_32 : decode cX9_shortest 32 = .ok (.bipush 40, 2) := by decide +kernel
theorem dX9_shortest_34 : decode cX9_shortest 34 = .ok (.imul, 1) := by decide +kernel
theorem dX9_shortest_35 : decode cX9_shortest 35 = .ok (.iload_n 3, 1) := by decide +kernel
theorem dX9_shortest_36 : decode cX9_shortest 36 = .ok (.iadd, 1) := by decide +kernel
theorem dX9_shortest_37 : decode cX9_shortest 37 = .ok (.baload, 1) := by decide +kernel
theorem dX9_shortest_38 : decode cX9_shortest 38 = .ok (.ifCond .eq 7, 3) := by decide +kernel
theorem dX9_shortest_41 : decode cX9_shortest 41 = .ok (.iconst 1, 1) := by decide +kernel
theorem dX9_shortest_42 : decode cX9_shortest 42 = .ok (.goto 4, 3) := by decide +kernel
theorem dX9_shortest_45 : decode cX9_shortest 45 = .ok (.iconst 0, 1) := by decide +kernel
theorem dX9_shortest_46 : decode cX9_shortest 46 = .ok (.iastore, 1) := by decide +kernel
theorem dX9_shortest_47 : decode cX9_shortest 47 = .ok (.iinc 3 1, 3) := by decide +kernel
theorem dX9_shortest_50 : decode cX9_shortest 50 = .ok (.goto (-36), 3) := by decide +kernel
theorem dX9_shortest_53 : decode cX9_shortest 53 = .ok (.iconst 1, 1) := by decide +kernel
theorem dX9_shortest_54 : decode cX9_shortest 54 = .ok (.istore_n 3, 1) := by decide +kernel
theorem dX9_shortest_55 : decode cX9_shortest 55 = .ok (.iload_n 3, 1) := by decide +kernel
theorem dX9_shortest_56 : decode cX9_shortest 56 = .ok (.aload_n 0, 1) := by decide +kernel
theorem dX9_shortest_57 : decode cX9_shortest 57 = .ok (.getfield 126, 3) := by decide +kernel
theorem dX9_shortest_60 : decode cX9_shortest 60 = .ok (.if_icmp .ge 92, 3) := by decide +kernel
theorem dX9_shortest_63 : decode cX9_shortest 63 = .ok (.iconst 0, 1) := by decide +kernel
theorem dX9_shortest_64 : decode cX9_shortest 64 = .ok (.istore 4, 2) := by decide +kernel
theorem dX9_shortest_66 : decode cX9_shortest 66 = .ok (.iload 4, 2) := by decide +kernel
theorem dX9_shortest_68 : decode cX9_shortest 68 = .ok (.aload_n 0, 1) := by decide +kernel
theorem dX9_shortest_69 : decode cX9_shortest 69 = .ok (.getfield 126, 3) := by decide +kernel
theorem dX9_shortest_72 : decode cX9_shortest 72 = .ok (.if_icmp .ge 74, 3) := by decide +kernel
theorem dX9_shortest_75 : decode cX9_shortest 75 = .ok (.iconst 0, 1) := by decide +kernel
theorem dX9_shortest_76 : decode cX9_shortest 76 = .ok (.istore 5, 2) := by decide +kernel
theorem dX9_shortest_78 : decode cX9_shortest 78 = .ok (.iload 5, 2) := by decide +kernel
theorem dX9_shortest_80 : decode cX9_shortest 80 = .ok (.aload_n 0, 1) := by decide +kernel
theorem dX9_shortest_81 : decode cX9_shortest 81 = .ok (.getfield 126, 3) := by decide +kernel
theorem dX9_shortest_84 : decode cX9_shortest 84 = .ok (.if_icmp .ge 56, 3) := by decide +kernel
theorem dX9_shortest_87 : decode cX9_shortest 87 = .ok (.aload_n 0, 1) := by decide +kernel
theorem dX9_shortest_88 : decode cX9_shortest 88 = .ok (.getfield 92, 3) := by decide +kernel
theorem dX9_shortest_91 : decode cX9_shortest 91 = .ok (.iload 4, 2) := by decide +kernel
theorem dX9_shortest_93 : decode cX9_shortest 93 = .ok (.iaload, 1) := by decide +kernel
theorem dX9_shortest_94 : decode cX9_shortest 94 = .ok (.iload_n 3, 1) := by decide +kernel
theorem dX9_shortest_95 : decode cX9_shortest 95 = .ok (.if_icmp .ne 45, 3) := by decide +kernel
theorem dX9_shortest_98 : decode cX9_shortest 98 = .ok (.aload_n 0, 1) := by decide +kernel
theorem dX9_shortest_99 : decode cX9_shortest 99 = .ok (.getfield 92, 3) := by decide +kernel
theorem dX9_shortest_102 : decode cX9_shortest 102 = .ok (.iload 5, 2) := by decide +kernel
theorem dX9_shortest_104 : decode cX9_shortest 104 = .ok (.iaload, 1) := by decide +kernel
theorem dX9_shortest_105 : decode cX9_shortest 105 = .ok (.ifCond .ne 29, 3) := by decide +kernel
theorem dX9_shortest_108 : decode cX9_shortest 108 = .ok (.aload_n 0, 1) := by decide +kernel
theorem dX9_shortest_109 : decode cX9_shortest 109 = .ok (.getfield 89, 3) := by decide +kernel
theorem dX9_shortest_112 : decode cX9_shortest 112 = .ok (.iload 4, 2) := by decide +kernel
theorem dX9_shortest_114 : decode cX9_shortest 114 = .ok (.bipush 40, 2) := by decide +kernel
theorem dX9_shortest_116 : decode cX9_shortest 116 = .ok (.imul, 1) := by decide +kernel
theorem dX9_shortest_117 : decode cX9_shortest 117 = .ok (.iload 5, 2) := by decide +kernel
theorem dX9_shortest_119 : decode cX9_shortest 119 = .ok (.iadd, 1) := by decide +kernel
theorem dX9_shortest_120 : decode cX9_shortest 120 = .ok (.baload, 1) := by decide +kernel
theorem dX9_shortest_121 : decode cX9_shortest 121 = .ok (.ifCond .eq 13, 3) := by decide +kernel
theorem dX9_shortest_124 : decode cX9_shortest 124 = .ok (.aload_n 0, 1) := by decide +kernel
theorem dX9_shortest_125 : decode cX9_shortest 125 = .ok (.getfield 92, 3) := by decide +kernel
theorem dX9_shortest_128 : decode cX9_shortest 128 = .ok (.iload 5, 2) := by decide +kernel
theorem dX9_shortest_130 : decode cX9_shortest 130 = .ok (.iload_n 3, 1) := by decide +kernel
theorem dX9_shortest_131 : decode cX9_shortest 131 = .ok (.iconst 1, 1) := by decide +kernel
theorem dX9_shortest_132 : decode cX9_shortest 132 = .ok (.iadd, 1) := by decide +kernel
theorem dX9_shortest_133 : decode cX9_shortest 133 = .ok (.iastore, 1) := by decide +kernel
theorem dX9_shortest_134 : decode cX9_shortest 134 = .ok (.iinc 5 1, 3) := by decide +kernel
theorem dX9_shortest_137 : decode cX9_shortest 137 = .ok (.goto (-59), 3) := by decide +kernel
theorem dX9_shortest_140 : decode cX9_shortest 140 = .ok (.iinc 4 1, 3) := by decide +kernel
theorem dX9_shortest_143 : decode cX9_shortest 143 = .ok (.goto (-77), 3) := by decide +kernel
theorem dX9_shortest_146 : decode cX9_shortest 146 = .ok (.iinc 3 1, 3) := by decide +kernel
theorem dX9_shortest_149 : decode cX9_shortest 149 = .ok (.goto (-94), 3) := by decide +kernel
theorem dX9_shortest_152 : decode cX9_shortest 152 = .ok (.aload_n 0, 1) := by decide +kernel
theorem dX9_shortest_153 : decode cX9_shortest 153 = .ok (.getfield 92, 3) := by decide +kernel
theorem dX9_shortest_156 : decode cX9_shortest 156 = .ok (.iload_n 2, 1) := by decide +kernel
theorem dX9_shortest_157 : decode cX9_shortest 157 = .ok (.iaload, 1) := by decide +kernel
theorem dX9_shortest_158 : decode cX9_shortest 158 = .ok (.ifCond .le 26, 3) := by decide +kernel
theorem dX9_shortest_161 : decode cX9_shortest 161 = .ok (.iload_n 1, 1) := by decide +kernel
theorem dX9_shortest_162 : decode cX9_shortest 162 = .ok (.ifCond .eq 13, 3) := by decide +kernel
theorem dX9_shortest_165 : decode cX9_shortest 165 = .ok (.aload_n 0, 1) := by decide +kernel
theorem dX9_shortest_166 : decode cX9_shortest 166 = .ok (.getfield 92, 3) := by decide +kernel
theorem dX9_shortest_169 : decode cX9_shortest 169 = .ok (.iload_n 2, 1) := by decide +kernel
theorem dX9_shortest_170 : decode cX9_shortest 170 = .ok (.iaload, 1) := by decide +kernel
theorem dX9_shortest_171 : decode cX9_shortest 171 = .ok (.iload_n 1, 1) := by decide +kernel
theorem dX9_shortest_172 : decode cX9_shortest 172 = .ok (.if_icmp .ge 12, 3) := by decide +kernel
theorem dX9_shortest_175 : decode cX9_shortest 175 = .ok (.aload_n 0, 1) := by decide +kernel
theorem dX9_shortest_176 : decode cX9_shortest 176 = .ok (.getfield 92, 3) := by decide +kernel
theorem dX9_shortest_179 : decode cX9_shortest 179 = .ok (.iload_n 2, 1) := by decide +kernel
theorem dX9_shortest_180 : decode cX9_shortest 180 = .ok (.iaload, 1) := by decide +kernel
theorem dX9_shortest_181 : decode cX9_shortest 181 = .ok (.goto 4, 3) := by decide +kernel
theorem dX9_shortest_184 : decode cX9_shortest 184 = .ok (.iload_n 1, 1) := by decide +kernel
theorem dX9_shortest_185 : decode cX9_shortest 185 = .ok (.istore_n 1, 1) := by decide +kernel
theorem dX9_shortest_186 : decode cX9_shortest 186 = .ok (.iinc 2 1, 3) := by decide +kernel
theorem dX9_shortest_189 : decode cX9_shortest 189 = .ok (.goto (-185), 3) := by decide +kernel
theorem dX9_shortest_192 : decode cX9_shortest 192 = .ok (.iload_n 1, 1) := by decide +kernel
theorem dX9_shortest_193 : decode cX9_shortest 193 = .ok (.ireturn, 1) := by decide +kernel
theorem dX9_memberRing_0 : decode cX9_memberRing 0 = .ok (.iconst 0, 1) := by decide +kernel
theorem dX9_memberRing_1 : decode cX9_memberRing 1 = .ok (.istore_n 2, 1) := by decide +kernel
theorem dX9_memberRing_2 : decode cX9_memberRing 2 = .ok (.iload_n 2, 1) := by decide +kernel
theorem dX9_memberRing_3 : decode cX9_memberRing 3 = .ok (.aload_n 0, 1) := by decide +kernel
theorem dX9_memberRing_4 : decode cX9_memberRing 4 = .ok (.getfield 126, 3) := by decide +kernel
theorem dX9_memberRing_7 : decode cX9_memberRing 7 = .ok (.if_icmp .ge 93, 3) := by decide +kernel
theorem dX9_memberRing_10 : decode cX9_memberRing 10 = .ok (.iconst 0, 1) := by decide +kernel
theorem dX9_memberRing_11 : decode cX9_memberRing 11 = .ok (.istore_n 3, 1) := by decide +kernel
theorem dX9_memberRing_12 : decode cX9_memberRing 12 = .ok (.iload_n 3, 1) := by decide +kernel
theorem dX9_memberRing_13 : decode cX9_memberRing 13 = .ok (.aload_n 0, 1) := by decide +kernel
theorem dX9_memberRing_14 : decode cX9_memberRing 14 = .ok (.getfield 126, 3) := by decide +kernel
theorem dX9_memberRing_17 : decode cX9_memberRing 17 = .ok (.if_icmp .ge 77, 3) := by decide +kernel
theorem dX9_memberRing_20 : decode cX9_memberRing 20 = .ok (.aload_n 0, 1) := by decide +kernel
theorem dX9_memberRing_21 : decode cX9_memberRing 21 = .ok (.getfield 89, 3) := by decide +kernel
theorem dX9_memberRing_24 : decode cX9_memberRing 24 = .ok (.iload_n 2, 1) := by decide +kernel
theorem dX9_memberRing_25 : decode cX9_memberRing 25 = .ok (.bipush 40, 2) := by decide +kernel
theorem dX9_memberRing_27 : decode cX9_memberRing 27 = .ok (.imul, 1) := by decide +kernel
theorem dX9_memberRing_28 : decode cX9_memberRing 28 = .ok (.iload_n 3, 1) := by decide +kernel
theorem dX9_memberRing_29 : decode cX9_memberRing 29 = .ok (.iadd, 1) := by decide +kernel
theorem dX9_memberRing_30 : decode cX9_memberRing 30 = .ok (.aload_n 1, 1) := by decide +kernel
theorem dX9_memberRing_31 : decode cX9_memberRing 31 = .ok (.iload_n 2, 1) := by decide +kernel
theorem dX9_memberRing_32 : decode cX9_memberRing 32 = .ok (.baload, 1) := by decide +kernel
theorem dX9_memberRing_33 : decode cX9_memberRing 33 = .ok (.ifCond .eq 53, 3) := by decide +kernel
theorem dX9_memberRing_36 : decode cX9_memberRing 36 = .ok (.aload_n 1, 1) := by decide +kernel
theorem dX9_memberRing_37 : decode cX9_memberRing 37 = .ok (.iload_n 3, 1) := by decide +kernel
theorem dX9_memberRing_38 : decode cX9_memberRing 38 = .ok (.baload, 1) := by decide +kernel
theorem dX9_memberRing_39 : decode cX9_memberRing 39 = .ok (.ifCond .eq 47, 3) := by decide +kernel
theorem dX9_memberRing_42 : decode cX9_memberRing 42 = .ok (.aload_n 0, 1) := by decide +kernel
theorem dX9_memberRing_43 : decode cX9_memberRing 43 = .ok (.getfield 31, 3) := by decide +kernel
theorem dX9_memberRing_46 : decode cX9_memberRing 46 = .ok (.iload_n 2, 1) := by decide +kernel
theorem dX9_memberRing_47 : decode cX9_memberRing 47 = .ok (.iaload, 1) := by decide +kernel
theorem dX9_memberRing_48 : decode cX9_memberRing 48 = .ok (.iconst 2, 1) := by decide +kernel
theorem dX9_memberRing_49 : decode cX9_memberRing 49 = .ok (.if_icmp .eq 37, 3) := by decide +kernel
theorem dX9_memberRing_52 : decode cX9_memberRing 52 = .ok (.aload_n 0, 1) := by decide +kernel
theorem dX9_memberRing_53 : decode cX9_memberRing 53 = .ok (.getfield 31, 3) := by decide +kernel
theorem dX9_memberRing_56 : decode cX9_memberRing 56 = .ok (.iload_n 3, 1) := by decide +kernel
theorem dX9_memberRing_57 : decode cX9_memberRing 57 = .ok (.iaload, 1) := by decide +kernel
theorem dX9_memberRing_58 : decode cX9_memberRing 58 = .ok (.iconst 2, 1) := by decide +kernel
theorem dX9_memberRing_59 : decode cX9_memberRing 59 = .ok (.if_icmp .eq 27, 3) := by decide +kernel
theorem dX9_memberRing_62 : decode cX9_memberRing 62 = .ok (.aload_n 0, 1) := by decide +kernel
theorem dX9_memberRing_63 : decode cX9_memberRing 63 = .ok (.iconst 0, 1) := by decide +kernel
theorem dX9_memberRing_64 : decode cX9_memberRing 64 = .ok (.iload_n 2, 1) := by decide +kernel
theorem dX9_memberRing_65 : decode cX9_memberRing 65 = .ok (.iload_n 3, 1) := by decide +kernel
theorem dX9_memberRing_66 : decode cX9_memberRing 66 = .ok (.invokevirtual 150, 3) := by decide +kernel
theorem dX9_memberRing_69 : decode cX9_memberRing 69 = .ok (.ifCond .ne 13, 3) := by decide +kernel
theorem dX9_memberRing_72 : decode cX9_memberRing 72 = .ok (.aload_n 0, 1) := by decide +kernel
theorem dX9_memberRing_73 : decode cX9_memberRing 73 = .ok (.iconst 2, 1) := by decide +kernel
theorem dX9_memberRing_74 : decode cX9_memberRing 74 = .ok (.iload_n 2, 1) := by decide +kernel
theorem dX9_memberRing_75 : decode cX9_memberRing 75 = .ok (.iload_n 3, 1) := by decide +kernel
theorem dX9_memberRing_76 : decode cX9_memberRing 76 = .ok (.invokevirtual 150, 3) := by decide +kernel
theorem dX9_memberRing_79 : decode cX9_memberRing 79 = .ok (.ifCond .eq 7, 3) := by decide +kernel
theorem dX9_memberRing_82 : decode cX9_memberRing 82 = .ok (.iconst 1, 1) := by decide +kernel
theorem dX9_memberRing_83 : decode cX9_memberRing 83 = .ok (.goto 4, 3) := by decide +kernel
theorem dX9_memberRing_86 : decode cX9_memberRing 86 = .ok (.iconst 0, 1) := by decide +kernel
theorem dX9_memberRing_87 : decode cX9_memberRing 87 = .ok (.bastore, 1) := by decide +kernel
theorem dX9_memberRing_88 : decode cX9_memberRing 88 = .ok (.iinc 3 1, 3) := by decide +kernel
theorem dX9_memberRing_91 : decode cX9_memberRing 91 = .ok (.goto (-79), 3) := by decide +kernel
theorem dX9_memberRing_94 : decode cX9_memberRing 94 = .ok (.iinc 2 1, 3) := by decide +kernel
theorem dX9_memberRing_97 : decode cX9_memberRing 97 = .ok (.goto (-95), 3) := by decide +kernel
theorem dX9_memberRing_100 : decode cX9_memberRing 100 = .ok (.aload_n 0, 1) := by decide +kernel
theorem dX9_memberRing_101 : decode cX9_memberRing 101 = .ok (.invokevirtual 160, 3) := by decide +kernel
theorem dX9_memberRing_104 : decode cX9_memberRing 104 = .ok (.ireturn, 1) := by decide +kernel
theorem dX9_jobRing_0 : decode cX9_jobRing 0 = .ok (.iconst 0, 1) := by decide +kernel
theorem dX9_jobRing_1 : decode cX9_jobRing 1 = .ok (.istore_n 2, 1) := by decide +kernel
theorem dX9_jobRing_2 : decode cX9_jobRing 2 = .ok (.iload_n 2, 1) := by decide +kernel
theorem dX9_jobRing_3 : decode cX9_jobRing 3 = .ok (.aload_n 0, 1) := by decide +kernel
theorem dX9_jobRing_4 : decode cX9_jobRing 4 = .ok (.getfield 126, 3) := by decide +kernel
theorem dX9_jobRing_7 : decode cX9_jobRing 7 = .ok (.if_icmp .ge 43, 3) := by decide +kernel
theorem dX9_jobRing_10 : decode cX9_jobRing 10 = .ok (.iconst 0, 1) := by decide +kernel
theorem dX9_jobRing_11 : decode cX9_jobRing 11 = .ok (.istore_n 3, 1) := by decide +kernel
theorem dX9_jobRing_12 : decode cX9_jobRing 12 = .ok (.iload_n 3, 1) := by decide +kernel
theorem dX9_jobRing_13 : decode cX9_jobRing 13 = .ok (.aload_n 0, 1) := by decide +kernel
theorem dX9_jobRing_14 : decode cX9_jobRing 14 = .ok (.getfield 126, 3) := by decide +kernel
theorem dX9_jobRing_17 : decode cX9_jobRing 17 = .ok (.if_icmp .ge 27, 3) := by decide +kernel
theorem dX9_jobRing_20 : decode cX9_jobRing 20 = .ok (.aload_n 0, 1) := by decide +kernel
theorem dX9_jobRing_21 : decode cX9_jobRing 21 = .ok (.getfield 89, 3) := by decide +kernel
theorem dX9_jobRing_24 : decode cX9_jobRing 24 = .ok (.iload_n 2, 1) := by decide +kernel
theorem dX9_jobRing_25 : decode cX9_jobRing 25 = .ok (.bipush 40, 2) := by decide +kernel
theorem dX9_jobRing_27 : decode cX9_jobRing 27 = .ok (.imul, 1) := by decide +kernel
theorem dX9_jobRing_28 : decode cX9_jobRing 28 = .ok (.iload_n 3, 1) := by decide +kernel
theorem dX9_jobRing_29 : decode cX9_jobRing 29 = .ok (.iadd, 1) := by decide +kernel
theorem dX9_jobRing_30 : decode cX9_jobRing 30 = .ok (.aload_n 0, 1) := by decide +kernel
theorem dX9_jobRing_31 : decode cX9_jobRing 31 = .ok (.aload_n 1, 1) := by decide +kernel
theorem dX9_jobRing_32 : decode cX9_jobRing 32 = .ok (.iload_n 2, 1) := by decide +kernel
theorem dX9_jobRing_33 : decode cX9_jobRing 33 = .ok (.iload_n 3, 1) := by decide +kernel
theorem dX9_jobRing_34 : decode cX9_jobRing 34 = .ok (.invokevirtual 167, 3) := by decide +kernel
theorem dX9_jobRing_37 : decode cX9_jobRing 37 = .ok (.bastore, 1) := by decide +kernel
theorem dX9_jobRing_38 : decode cX9_jobRing 38 = .ok (.iinc 3 1, 3) := by decide +kernel
theorem dX9_jobRing_41 : decode cX9_jobRing 41 = .ok (.goto (-29), 3) := by decide +kernel
theorem dX9_jobRing_44 : decode cX9_jobRing 44 = .ok (.iinc 2 1, 3) := by decide +kernel
theorem dX9_jobRing_47 : decode cX9_jobRing 47 = .ok (.goto (-45), 3) := by decide +kernel
theorem dX9_jobRing_50 : decode cX9_jobRing 50 = .ok (.aload_n 0, 1) := by decide +kernel
theorem dX9_jobRing_51 : decode cX9_jobRing 51 = .ok (.invokevirtual 160, 3) := by decide +kernel
theorem dX9_jobRing_54 : decode cX9_jobRing 54 = .ok (.ireturn, 1) := by decide +kernel
theorem dX9_endJobs_0 : decode cX9_endJobs 0 = .ok (.iconst 0, 1) := by decide +kernel
theorem dX9_endJobs_1 : decode cX9_endJobs 1 = .ok (.istore_n 1, 1) := by decide +kernel
theorem dX9_endJobs_2 : decode cX9_endJobs 2 = .ok (.iload_n 1, 1) := by decide +kernel
theorem dX9_endJobs_3 : decode cX9_endJobs 3 = .ok (.aload_n 0, 1) := by decide +kernel
theorem dX9_endJobs_4 : decode cX9_endJobs 4 = .ok (.getfield 126, 3) := by decide +kernel
theorem dX9_endJobs_7 : decode cX9_endJobs 7 = .ok (.if_icmp .ge 66, 3) := by decide +kernel
theorem dX9_endJobs_10 : decode cX9_endJobs 10 = .ok (.aload_n 0, 1) := by decide +kernel
theorem dX9_endJobs_11 : decode cX9_endJobs 11 = .ok (.getfield 71, 3) := by decide +kernel
theorem dX9_endJobs_14 : decode cX9_endJobs 14 = .ok (.iload_n 1, 1) := by decide +kernel
theorem dX9_endJobs_15 : decode cX9_endJobs 15 = .ok (.iaload, 1) := by decide +kernel
theorem dX9_endJobs_16 : decode cX9_endJobs 16 = .ok (.ifCond .eq 51, 3) := by decide +kernel
theorem dX9_endJobs_19 : decode cX9_endJobs 19 = .ok (.aload_n 0, 1) := by decide +kernel
theorem dX9_endJobs_20 : decode cX9_endJobs 20 = .ok (.getfield 74, 3) := by decide +kernel
theorem dX9_endJobs_23 : decode cX9_endJobs 23 = .ok (.iload_n 1, 1) := by decide +kernel
theorem dX9_endJobs_24 : decode cX9_endJobs 24 = .ok (.baload, 1) := by decide +kernel
theorem dX9_endJobs_25 : decode cX9_endJobs 25 = .ok (.ifCond .eq 42, 3) := by decide +kernel
theorem dX9_endJobs_28 : decode cX9_endJobs 28 = .ok (.aload_n 0, 1) := by decide +kernel
theorem dX9_endJobs_29 : decode cX9_endJobs 29 = .ok (.getfield 71, 3) := by decide +kernel
theorem dX9_endJobs_32 : decode cX9_endJobs 32 = .ok (.iload_n 1, 1) := by decide +kernel
theorem dX9_endJobs_33 : decode cX9_endJobs 33 = .ok (.iaload, 1) := by decide +kernel
theorem dX9_endJobs_34 : decode cX9_endJobs 34 = .ok (.iconst 1, 1) := by decide +kernel
theorem dX9_endJobs_35 : decode cX9_endJobs 35 = .ok (.if_icmp .ne 16, 3) := by decide +kernel
theorem dX9_endJobs_38 : decode cX9_endJobs 38 = .ok (.aload_n 0, 1) := by decide +kernel
theorem dX9_endJobs_39 : decode cX9_endJobs 39 = .ok (.getfield 31, 3) := by decide +kernel
theorem dX9_endJobs_42 : decode cX9_endJobs 42 = .ok (.iload_n 1, 1) := by decide +kernel
theorem dX9_endJobs_43 : decode cX9_endJobs 43 = .ok (.iaload, 1) := by decide +kernel
theorem dX9_endJobs_44 : decode cX9_endJobs 44 = .ok (.iconst 1, 1) := by decide +kernel
theorem dX9_endJobs_45 : decode cX9_endJobs 45 = .ok (.if_icmp .eq 22, 3) := by decide +kernel
theorem dX9_endJobs_48 : decode cX9_endJobs 48 = .ok (.goto 12, 3) := by decide +kernel
theorem dX9_endJobs_51 : decode cX9_endJobs 51 = .ok (.aload_n 0, 1) := by decide +kernel
theorem dX9_endJobs_52 : decode cX9_endJobs 52 = .ok (.getfield 31, 3) := by decide +kernel
theorem dX9_endJobs_55 : decode cX9_endJobs 55 = .ok (.iload_n 1, 1) := by decide +kernel
theorem dX9_endJobs_56 : decode cX9_endJobs 56 = .ok (.iaload, 1) := by decide +kernel
theorem dX9_endJobs_57 : decode cX9_endJobs 57 = .ok (.ifCond .ne 10, 3) := by decide +kernel
theorem dX9_endJobs_60 : decode cX9_endJobs 60 = .ok (.aload_n 0, 1) := by decide +kernel
theorem dX9_endJobs_61 : decode cX9_endJobs 61 = .ok (.getfield 71, 3) := by decide +kernel
theorem dX9_endJobs_64 : decode cX9_endJobs 64 = .ok (.iload_n 1, 1) := by decide +kernel
theorem dX9_endJobs_65 : decode cX9_endJobs 65 = .ok (.iconst 0, 1) := by decide +kernel
theorem dX9_endJobs_66 : decode cX9_endJobs 66 = .ok (.iastore, 1) := by decide +kernel
theorem dX9_endJobs_67 : decode cX9_endJobs 67 = .ok (.iinc 1 1, 3) := by decide +kernel
theorem dX9_endJobs_70 : decode cX9_endJobs 70 = .ok (.goto (-68), 3) := by decide +kernel
theorem dX9_endJobs_73 : decode cX9_endJobs 73 = .ok (.return_, 1) := by decide +kernel
theorem dX9_isFree_0 : decode cX9_isFree 0 = .ok (.aload_n 0, 1) := by decide +kernel
theorem dX9_isFree_1 : decode cX9_isFree 1 = .ok (.iload_n 1, 1) := by decide +kernel
theorem dX9_isFree_2 : decode cX9_isFree 2 = .ok (.invokevirtual 231, 3) := by decide +kernel
theorem dX9_isFree_5 : decode cX9_isFree 5 = .ok (.istore_n 2, 1) := by decide +kernel
theorem dX9_isFree_6 : decode cX9_isFree 6 = .ok (.iconst 0, 1) := by decide +kernel
theorem dX9_isFree_7 : decode cX9_isFree 7 = .ok (.istore_n 3, 1) := by decide +kernel
theorem dX9_isFree_8 : decode cX9_isFree 8 = .ok (.iload_n 3, 1) := by decide +kernel
theorem dX9_isFree_9 : decode cX9_isFree 9 = .ok (.aload_n 0, 1) := by decide +kernel
theorem dX9_isFree_10 : decode cX9_isFree 10 = .ok (.getfield 126, 3) := by decide +kernel
theorem dX9_isFree_13 : decode cX9_isFree 13 = .ok (.if_icmp .ge 59, 3) := by decide +kernel
theorem dX9_isFree_16 : decode cX9_isFree 16 = .ok (.iload_n 2, 1) := by decide +kernel
theorem dX9_isFree_17 : decode cX9_isFree 17 = .ok (.ifCond .eq 47, 3) := by decide +kernel
theorem dX9_isFree_20 : decode cX9_isFree 20 = .ok (.aload_n 0, 1) := by decide +kernel
theorem dX9_isFree_21 : decode cX9_isFree 21 = .ok (.iconst 3, 1) := by decide +kernel
theorem dX9_isFree_22 : decode cX9_isFree 22 = .ok (.iload_n 1, 1) := by decide +kernel
theorem dX9_isFree_23 : decode cX9_isFree 23 = .ok (.iload_n 3, 1) := by decide +kernel
theorem dX9_isFree_24 : decode cX9_isFree 24 = .ok (.invokevirtual 150, 3) := by decide +kernel
theorem dX9_isFree_27 : decode cX9_isFree 27 = .ok (.ifCond .eq 33, 3) := by decide +kernel
theorem dX9_isFree_30 : decode cX9_isFree 30 = .ok (.aload_n 0, 1) := by decide +kernel
theorem dX9_isFree_31 : decode cX9_isFree 31 = .ok (.getfield 31, 3) := by decide +kernel
theorem dX9_isFree_34 : decode cX9_isFree 34 = .ok (.iload_n 3, 1) := by decide +kernel
theorem dX9_isFree_35 : decode cX9_isFree 35 = .ok (.iaload, 1) := by decide +kernel
theorem dX9_isFree_36 : decode cX9_isFree 36 = .ok (.iconst 1, 1) := by decide +kernel
theorem dX9_isFree_37 : decode cX9_isFree 37 = .ok (.if_icmp .eq 27, 3) := by decide +kernel
theorem dX9_isFree_40 : decode cX9_isFree 40 = .ok (.aload_n 0, 1) := by decide +kernel
theorem dX9_isFree_41 : decode cX9_isFree 41 = .ok (.getfield 31, 3) := by decide +kernel
theorem dX9_isFree_44 : decode cX9_isFree 44 = .ok (.iload_n 3, 1) := by decide +kernel
theorem dX9_isFree_45 : decode cX9_isFree 45 = .ok (.iaload, 1) := by decide +kernel
theorem dX9_isFree_46 : decode cX9_isFree 46 = .ok (.iconst 2, 1) := by decide +kernel
theorem dX9_isFree_47 : decode cX9_isFree 47 = .ok (.if_icmp .eq 17, 3) := by decide +kernel
theorem dX9_isFree_50 : decode cX9_isFree 50 = .ok (.aload_n 0, 1) := by decide +kernel
theorem dX9_isFree_51 : decode cX9_isFree 51 = .ok (.getfield 31, 3) := by decide +kernel
theorem dX9_isFree_54 : decode cX9_isFree 54 = .ok (.iload_n 3, 1) := by decide +kernel
theorem dX9_isFree_55 : decode cX9_isFree 55 = .ok (.iaload, 1) := by decide +kernel
theorem dX9_isFree_56 : decode cX9_isFree 56 = .ok (.iconst 3, 1) := by decide +kernel
theorem dX9_isFree_57 : decode cX9_isFree 57 = .ok (.if_icmp .eq 7, 3) := by decide +kernel
theorem dX9_isFree_60 : decode cX9_isFree 60 = .ok (.iconst 1, 1) := by decide +kernel
theorem dX9_isFree_61 : decode cX9_isFree 61 = .ok (.goto 4, 3) := by decide +kernel
theorem dX9_isFree_64 : decode cX9_isFree 64 = .ok (.iconst 0, 1) := by decide +kernel
theorem dX9_isFree_65 : decode cX9_isFree 65 = .ok (.istore_n 2, 1) := by decide +kernel
theorem dX9_isFree_66 : decode cX9_isFree 66 = .ok (.iinc 3 1, 3) := by decide +kernel
theorem dX9_isFree_69 : decode cX9_isFree 69 = .ok (.goto (-61), 3) := by decide +kernel
theorem dX9_isFree_72 : decode cX9_isFree 72 = .ok (.iload_n 2, 1) := by decide +kernel
theorem dX9_isFree_73 : decode cX9_isFree 73 = .ok (.ireturn, 1) := by decide +kernel
theorem dX9_beginOne_0 : decode cX9_beginOne 0 = .ok (.aload_n 0, 1) := by decide +kernel
theorem dX9_beginOne_1 : decode cX9_beginOne 1 = .ok (.getfield 74, 3) := by decide +kernel
theorem dX9_beginOne_4 : decode cX9_beginOne 4 = .ok (.iload_n 1, 1) := by decide +kernel
theorem dX9_beginOne_5 : decode cX9_beginOne 5 = .ok (.iconst 1, 1) := by decide +kernel
theorem dX9_beginOne_6 : decode cX9_beginOne 6 = .ok (.bastore, 1) := by decide +kernel
theorem dX9_beginOne_7 : decode cX9_beginOne 7 = .ok (.aload_n 0, 1) := by decide +kernel
theorem dX9_beginOne_8 : decode cX9_beginOne 8 = .ok (.getfield 71, 3) := by decide +kernel
theorem dX9_beginOne_11 : decode cX9_beginOne 11 = .ok (.iload_n 1, 1) := by decide +kernel
theorem dX9_beginOne_12 : decode cX9_beginOne 12 = .ok (.iaload, 1) := by decide +kernel
theorem dX9_beginOne_13 : decode cX9_beginOne 13 = .ok (.iconst 1, 1) := by decide +kernel
theorem dX9_beginOne_14 : decode cX9_beginOne 14 = .ok (.if_icmp .ne 43, 3) := by decide +kernel
theorem dX9_beginOne_17 : decode cX9_beginOne 17 = .ok (.aload_n 0, 1) := by decide +kernel
theorem dX9_beginOne_18 : decode cX9_beginOne 18 = .ok (.iload_n 1, 1) := by decide +kernel
theorem dX9_beginOne_19 : decode cX9_beginOne 19 = .ok (.invokevirtual 231, 3) := by decide +kernel
theorem dX9_beginOne_22 : decode cX9_beginOne 22 = .ok (.ifCond .ne 13, 3) := by decide +kernel
theorem dX9_beginOne_25 : decode cX9_beginOne 25 = .ok (.aload_n 0, 1) := by decide +kernel
theorem dX9_beginOne_26 : decode cX9_beginOne 26 = .ok (.getfield 71, 3) := by decide +kernel
theorem dX9_beginOne_29 : decode cX9_beginOne 29 = .ok (.iload_n 1, 1) := by decide +kernel
theorem dX9_beginOne_30 : decode cX9_beginOne 30 = .ok (.iconst 0, 1) := by decide +kernel
theorem dX9_beginOne_31 : decode cX9_beginOne 31 = .ok (.iastore, 1) := by decide +kernel
theorem dX9_beginOne_32 : decode cX9_beginOne 32 = .ok (.goto 86, 3) := by decide +kernel
theorem dX9_beginOne_35 : decode cX9_beginOne 35 = .ok (.aload_n 0, 1) := by decide +kernel
theorem dX9_beginOne_36 : decode cX9_beginOne 36 = .ok (.iload_n 1, 1) := by decide +kernel
theorem dX9_beginOne_37 : decode cX9_beginOne 37 = .ok (.aload_n 0, 1) := by decide +kernel
theorem dX9_beginOne_38 : decode cX9_beginOne 38 = .ok (.getfield 13, 3) := by decide +kernel
theorem dX9_beginOne_41 : decode cX9_beginOne 41 = .ok (.iload_n 1, 1) := by decide +kernel
theorem dX9_beginOne_42 : decode cX9_beginOne 42 = .ok (.iaload, 1) := by decide +kernel
theorem dX9_beginOne_43 : decode cX9_beginOne 43 = .ok (.ifCond .ne 7, 3) := by decide +kernel
theorem dX9_beginOne_46 : decode cX9_beginOne 46 = .ok (.iconst 2, 1) := by decide +kernel
theorem dX9_beginOne_47 : decode cX9_beginOne 47 = .ok (.goto 4, 3) := by decide +kernel
theorem dX9_beginOne_50 : decode cX9_beginOne 50 = .ok (.iconst 1, 1) := by decide +kernel
theorem dX9_beginOne_51 : decode cX9_beginOne 51 = .ok (.invokevirtual 211, 3) := by decide +kernel
theorem dX9_beginOne_54 : decode cX9_beginOne 54 = .ok (.goto 64, 3) := by decide +kernel
theorem dX9_beginOne_57 : decode cX9_beginOne 57 = .ok (.aload_n 0, 1) := by decide +kernel
theorem dX9_beginOne_58 : decode cX9_beginOne 58 = .ok (.getfield 31, 3) := by decide +kernel
theorem dX9_beginOne_61 : decode cX9_beginOne 61 = .ok (.iload_n 1, 1) := by decide +kernel
theorem dX9_beginOne_62 : decode cX9_beginOne 62 = .ok (.iaload, 1) := by decide +kernel
theorem dX9_beginOne_63 : decode cX9_beginOne 63 = .ok (.invokestatic 147, 3) := by decide +kernel
theorem dX9_beginOne_66 : decode cX9_beginOne 66 = .ok (.ifCond .eq 13, 3) := by decide +kernel
theorem dX9_beginOne_69 : decode cX9_beginOne 69 = .ok (.aload_n 0, 1) := by decide +kernel
theorem dX9_beginOne_70 : decode cX9_beginOne 70 = .ok (.getfield 71, 3) := by decide +kernel
theorem dX9_beginOne_73 : decode cX9_beginOne 73 = .ok (.iload_n 1, 1) := by decide +kernel
theorem dX9_beginOne_74 : decode cX9_beginOne 74 = .ok (.iconst 0, 1) := by decide +kernel
theorem dX9_beginOne_75 : decode cX9_beginOne 75 = .ok (.iastore, 1) := by decide +kernel
theorem dX9_beginOne_76 : decode cX9_beginOne 76 = .ok (.goto 42, 3) := by decide +kernel
theorem dX9_beginOne_79 : decode cX9_beginOne 79 = .ok (.aload_n 0, 1) := by decide +kernel
theorem dX9_beginOne_80 : decode cX9_beginOne 80 = .ok (.getfield 31, 3) := by decide +kernel
theorem dX9_beginOne_83 : decode cX9_beginOne 83 = .ok (.iload_n 1, 1) := by decide +kernel
theorem dX9_beginOne_84 : decode cX9_beginOne 84 = .ok (.iaload, 1) := by decide +kernel
theorem dX9_beginOne_85 : decode cX9_beginOne 85 = .ok (.iconst 3, 1) := by decide +kernel
theorem dX9_beginOne_86 : decode cX9_beginOne 86 = .ok (.if_icmp .eq 32, 3) := by decide +kernel
theorem dX9_beginOne_89 : decode cX9_beginOne 89 = .ok (.aload_n 0, 1) := by decide +kernel
theorem dX9_beginOne_90 : decode cX9_beginOne 90 = .ok (.iload_n 1, 1) := by decide +kernel
theorem dX9_beginOne_91 : decode cX9_beginOne 91 = .ok (.aload_n 0, 1) := by decide +kernel
theorem dX9_beginOne_92 : decode cX9_beginOne 92 = .ok (.getfield 16, 3) := by decide +kernel
theorem dX9_beginOne_95 : decode cX9_beginOne 95 = .ok (.iload_n 1, 1) := by decide +kernel
theorem dX9_beginOne_96 : decode cX9_beginOne 96 = .ok (.iaload, 1) := by decide +kernel
theorem dX9_beginOne_97 : decode cX9_beginOne 97 = .ok (.ifCond .eq 13, 3) := by decide +kernel
theorem dX9_beginOne_100 : decode cX9_beginOne 100 = .ok (.aload_n 0, 1) := by decide +kernel
theorem dX9_beginOne_101 : decode cX9_beginOne 101 = .ok (.getfield 31, 3) := by decide +kernel
theorem dX9_beginOne_104 : decode cX9_beginOne 104 = .ok (.iload_n 1, 1) := by decide +kernel
theorem dX9_beginOne_105 : decode cX9_beginOne 105 = .ok (.iaload, 1) := by decide +kernel
theorem dX9_beginOne_106 : decode cX9_beginOne 106 = .ok (.iconst 5, 1) := by decide +kernel
theorem dX9_beginOne_107 : decode cX9_beginOne 107 = .ok (.if_icmp .ne 7, 3) := by decide +kernel
theorem dX9_beginOne_110 : decode cX9_beginOne 110 = .ok (.iconst 0, 1) := by decide +kernel
theorem dX9_beginOne_111 : decode cX9_beginOne 111 = .ok (.goto 4, 3) := by decide +kernel
theorem dX9_beginOne_114 : decode cX9_beginOne 114 = .ok (.iconst 3, 1) := by decide +kernel
theorem dX9_beginOne_115 : decode cX9_beginOne 115 = .ok (.invokevirtual 211, 3) := by decide +kernel
theorem dX9_beginOne_118 : decode cX9_beginOne 118 = .ok (.return_, 1) := by decide +kernel
theorem dX9_failsNow_0 : decode cX9_failsNow 0 = .ok (.aload_n 0, 1) := by decide +kernel
theorem dX9_failsNow_1 : decode cX9_failsNow 1 = .ok (.getfield 40, 3) := by decide +kernel
theorem dX9_failsNow_4 : decode cX9_failsNow 4 = .ok (.iload_n 1, 1) := by decide +kernel
theorem dX9_failsNow_5 : decode cX9_failsNow 5 = .ok (.dup2, 1) := by decide +kernel
theorem dX9_failsNow_6 : decode cX9_failsNow 6 = .ok (.iaload, 1) := by decide +kernel
theorem dX9_failsNow_7 : decode cX9_failsNow 7 = .ok (.iconst 1, 1) := by decide +kernel
theorem dX9_failsNow_8 : decode cX9_failsNow 8 = .ok (.iadd, 1) := by decide +kernel
theorem dX9_failsNow_9 : decode cX9_failsNow 9 = .ok (.iastore, 1) := by decide +kernel
theorem dX9_failsNow_10 : decode cX9_failsNow 10 = .ok (.iconst 0, 1) := by decide +kernel
theorem dX9_failsNow_11 : decode cX9_failsNow 11 = .ok (.istore_n 2, 1) := by decide +kernel
theorem dX9_failsNow_12 : decode cX9_failsNow 12 = .ok (.iconst 0, 1) := by decide +kernel
theorem dX9_failsNow_13 : decode cX9_failsNow 13 = .ok (.istore_n 3, 1) := by decide +kernel
theorem dX9_failsNow_14 : decode cX9_failsNow 14 = .ok (.iload_n 3, 1) := by decide +kernel
theorem dX9_failsNow_15 : decode cX9_failsNow 15 = .ok (.aload_n 0, 1) := by decide +kernel
theorem dX9_failsNow_16 : decode cX9_failsNow 16 = .ok (.getfield 53, 3) := by decide +kernel
theorem dX9_failsNow_19 : decode cX9_failsNow 19 = .ok (.iload_n 1, 1) := by decide +kernel
theorem dX9_failsNow_20 : decode cX9_failsNow 20 = .ok (.iaload, 1) := by decide +kernel
theorem dX9_failsNow_21 : decode cX9_failsNow 21 = .ok (.if_icmp .ge 42, 3) := by decide +kernel
theorem dX9_failsNow_24 : decode cX9_failsNow 24 = .ok (.iload_n 2, 1) := by decide +kernel
theorem dX9_failsNow_25 : decode cX9_failsNow 25 = .ok (.aload_n 0, 1) := by decide +kernel
theorem dX9_failsNow_26 : decode cX9_failsNow 26 = .ok (.getfield 129, 3) := by decide +kernel
theorem dX9_failsNow_29 : decode cX9_failsNow 29 = .ok (.aload_n 0, 1) := by decide +kernel
theorem dX9_failsNow_30 : decode cX9_failsNow 30 = .ok (.getfield 50, 3) := by decide +kernel
theorem dX9_failsNow_33 : decode cX9_failsNow 33 = .ok (.bipush 10, 2) := by decide +kernel
theorem dX9_failsNow_35 : decode cX9_failsNow 35 = .ok (.iload_n 1, 1) := by decide +kernel
theorem dX9_failsNow_36 : decode cX9_failsNow 36 = .ok (.imul, 1) := by decide +kernel
theorem dX9_failsNow_37 : decode cX9_failsNow 37 = .ok (.iload_n 3, 1) := by decide +kernel
theorem dX9_failsNow_38 : decode cX9_failsNow 38 = .ok (.iadd, 1) := by decide +kernel
theorem dX9_failsNow_39 : decode cX9_failsNow 39 = .ok (.iaload, 1) := by decide +kernel
theorem dX9_failsNow_40 : decode cX9_failsNow 40 = .ok (.isub, 1) := by decide +kernel
theorem dX9_failsNow_41 : decode cX9_failsNow 41 = .ok (.aload_n 0, 1) := by decide +kernel
theorem dX9_failsNow_42 : decode cX9_failsNow 42 = .ok (.getfield 28, 3) := by decide +kernel
theorem dX9_failsNow_45 : decode cX9_failsNow 45 = .ok (.iload_n 1, 1) := by decide +kernel
theorem dX9_failsNow_46 : decode cX9_failsNow 46 = .ok (.iaload, 1) := by decide +kernel
theorem dX9_failsNow_47 : decode cX9_failsNow 47 = .ok (.if_icmp .ge 7, 3) := by decide +kernel
theorem dX9_failsNow_50 : decode cX9_failsNow 50 = .ok (.iconst 1, 1) := by decide +kernel
theorem dX9_failsNow_51 : decode cX9_failsNow 51 = .ok (.goto 4, 3) := by decide +kernel
theorem dX9_failsNow_54 : decode cX9_failsNow 54 = .ok (.iconst 0, 1) := by decide +kernel
theorem dX9_failsNow_55 : decode cX9_failsNow 55 = .ok (.iadd, 1) := by decide +kernel
theorem dX9_failsNow_56 : decode cX9_failsNow 56 = .ok (.istore_n 2, 1) := by decide +kernel
theorem dX9_failsNow_57 : decode cX9_failsNow 57 = .ok (.iinc 3 1, 3) := by decide +kernel
theorem dX9_failsNow_60 : decode cX9_failsNow 60 = .ok (.goto (-46), 3) := by decide +kernel
theorem dX9_failsNow_63 : decode cX9_failsNow 63 = .ok (.aload_n 0, 1) := by decide +kernel
theorem dX9_failsNow_64 : decode cX9_failsNow 64 = .ok (.getfield 25, 3) := by decide +kernel
theorem dX9_failsNow_67 : decode cX9_failsNow 67 = .ok (.iload_n 1, 1) := by decide +kernel
theorem dX9_failsNow_68 : decode cX9_failsNow 68 = .ok (.iaload, 1) := by decide +kernel
theorem dX9_failsNow_69 : decode cX9_failsNow 69 = .ok (.ifCond .eq 13, 3) := by decide +kernel
theorem dX9_failsNow_72 : decode cX9_failsNow 72 = .ok (.iload_n 2, 1) := by decide +kernel
theorem dX9_failsNow_73 : decode cX9_failsNow 73 = .ok (.aload_n 0, 1) := by decide +kernel
theorem dX9_failsNow_74 : decode cX9_failsNow 74 = .ok (.getfield 25, 3) := by decide +kernel
theorem dX9_failsNow_77 : decode cX9_failsNow 77 = .ok (.iload_n 1, 1) := by decide +kernel
theorem dX9_failsNow_78 : decode cX9_failsNow 78 = .ok (.iaload, 1) := by decide +kernel
theorem dX9_failsNow_79 : decode cX9_failsNow 79 = .ok (.if_icmp .lt 10, 3) := by decide +kernel
theorem dX9_failsNow_82 : decode cX9_failsNow 82 = .ok (.aload_n 0, 1) := by decide +kernel
theorem dX9_failsNow_83 : decode cX9_failsNow 83 = .ok (.iload_n 1, 1) := by decide +kernel
theorem dX9_failsNow_84 : decode cX9_failsNow 84 = .ok (.iconst 4, 1) := by decide +kernel
theorem dX9_failsNow_85 : decode cX9_failsNow 85 = .ok (.invokevirtual 211, 3) := by decide +kernel
theorem dX9_failsNow_88 : decode cX9_failsNow 88 = .ok (.return_, 1) := by decide +kernel
theorem dX9_failsNow_89 : decode cX9_failsNow 89 = .ok (.aload_n 0, 1) := by decide +kernel
theorem dX9_failsNow_90 : decode cX9_failsNow 90 = .ok (.getfield 53, 3) := by decide +kernel
theorem dX9_failsNow_93 : decode cX9_failsNow 93 = .ok (.iload_n 1, 1) := by decide +kernel
theorem dX9_failsNow_94 : decode cX9_failsNow 94 = .ok (.iaload, 1) := by decide +kernel
theorem dX9_failsNow_95 : decode cX9_failsNow 95 = .ok (.bipush 10, 2) := by decide +kernel
theorem dX9_failsNow_97 : decode cX9_failsNow 97 = .ok (.if_icmp .ne 51, 3) := by decide +kernel
theorem dX9_failsNow_100 : decode cX9_failsNow 100 = .ok (.iconst 1, 1) := by decide +kernel
theorem dX9_failsNow_101 : decode cX9_failsNow 101 = .ok (.istore_n 3, 1) := by decide +kernel
theorem dX9_failsNow_102 : decode cX9_failsNow 102 = .ok (.iload_n 3, 1) := by decide +kernel
theorem dX9_failsNow_103 : decode cX9_failsNow 103 = .ok (.bipush 10, 2) := by decide +kernel
theorem dX9_failsNow_105 : decode cX9_failsNow 105 = .ok (.if_icmp .ge 33, 3) := by decide +kernel
theorem dX9_failsNow_108 : decode cX9_failsNow 108 = .ok (.aload_n 0, 1) := by decide +kernel
theorem dX9_failsNow_109 : decode cX9_failsNow 109 = .ok (.getfield 50, 3) := by decide +kernel
theorem dX9_failsNow_112 : decode cX9_failsNow 112 = .ok (.bipush 10, 2) := by decide +kernel
theorem dX9_failsNow_114 : decode cX9_failsNow 114 = .ok (.iload_n 1, 1) := by decide +kernel
theorem dX9_failsNow_115 : decode cX9_failsNow 115 = .ok (.imul, 1) := by decide +kernel
theorem dX9_failsNow_116 : decode cX9_failsNow 116 = .ok (.iload_n 3, 1) := by decide +kernel
theorem dX9_failsNow_117 : decode cX9_failsNow 117 = .ok (.iadd, 1) := by decide +kernel
theorem dX9_failsNow_118 : decode cX9_failsNow 118 = .ok (.iconst 1, 1) := by decide +kernel
theorem dX9_failsNow_119 : decode cX9_failsNow 119 = .ok (.isub, 1) := by decide +kernel
theorem dX9_failsNow_120 : decode cX9_failsNow 120 = .ok (.aload_n 0, 1) := by decide +kernel
theorem dX9_failsNow_121 : decode cX9_failsNow 121 = .ok (.getfield 50, 3) := by decide +kernel
theorem dX9_failsNow_124 : decode cX9_failsNow 124 = .ok (.bipush 10, 2) := by decide +kernel
theorem dX9_failsNow_126 : decode cX9_failsNow 126 = .ok (.iload_n 1, 1) := by decide +kernel
theorem dX9_failsNow_127 : decode cX9_failsNow 127 = .ok (.imul, 1) := by decide +kernel
theorem dX9_failsNow_128 : decode cX9_failsNow 128 = .ok (.iload_n 3, 1) := by decide +kernel
theorem dX9_failsNow_129 : decode cX9_failsNow 129 = .ok (.iadd, 1) := by decide +kernel
theorem dX9_failsNow_130 : decode cX9_failsNow 130 = .ok (.iaload, 1) := by decide +kernel
theorem dX9_failsNow_131 : decode cX9_failsNow 131 = .ok (.iastore, 1) := by decide +kernel
theorem dX9_failsNow_132 : decode cX9_failsNow 132 = .ok (.iinc 3 1, 3) := by decide +kernel
theorem dX9_failsNow_135 : decode cX9_failsNow 135 = .ok (.goto (-33), 3) := by decide +kernel
theorem dX9_failsNow_138 : decode cX9_failsNow 138 = .ok (.aload_n 0, 1) := by decide +kernel
theorem dX9_failsNow_139 : decode cX9_failsNow 139 = .ok (.getfield 53, 3) := by decide +kernel
theorem dX9_failsNow_142 : decode cX9_failsNow 142 = .ok (.iload_n 1, 1) := by decide +kernel
theorem dX9_failsNow_143 : decode cX9_failsNow 143 = .ok (.dup2, 1) := by decide +kernel
theorem dX9_failsNow_144 : decode cX9_failsNow 144 = .ok (.iaload, 1) := by decide +kernel
theorem dX9_failsNow_145 : decode cX9_failsNow 145 = .ok (.iconst 1, 1) := by decide +kernel
theorem dX9_failsNow_146 : decode cX9_failsNow 146 = .ok (.isub, 1) := by decide +kernel
theorem dX9_failsNow_147 : decode cX9_failsNow 147 = .ok (.iastore, 1) := by decide +kernel
theorem dX9_failsNow_148 : decode cX9_failsNow 148 = .ok (.aload_n 0, 1) := by decide +kernel
theorem dX9_failsNow_149 : decode cX9_failsNow 149 = .ok (.getfield 50, 3) := by decide +kernel
theorem dX9_failsNow_152 : decode cX9_failsNow 152 = .ok (.bipush 10, 2) := by decide +kernel
theorem dX9_failsNow_154 : decode cX9_failsNow 154 = .ok (.iload_n 1, 1) := by decide +kernel
theorem dX9_failsNow_155 : decode cX9_failsNow 155 = .ok (.imul, 1) := by decide +kernel
theorem dX9_failsNow_156 : decode cX9_failsNow 156 = .ok (.aload_n 0, 1) := by decide +kernel
theorem dX9_failsNow_157 : decode cX9_failsNow 157 = .ok (.getfield 53, 3) := by decide +kernel
theorem dX9_failsNow_160 : decode cX9_failsNow 160 = .ok (.iload_n 1, 1) := by decide +kernel
theorem dX9_failsNow_161 : decode cX9_failsNow 161 = .ok (.iaload, 1) := by decide +kernel
theorem dX9_failsNow_162 : decode cX9_failsNow 162 = .ok (.iadd, 1) := by decide +kernel
theorem dX9_failsNow_163 : decode cX9_failsNow 163 = .ok (.aload_n 0, 1) := by decide +kernel
theorem dX9_failsNow_164 : decode cX9_failsNow 164 = .ok (.getfield 129, 3) := by decide +kernel
theorem dX9_failsNow_167 : decode cX9_failsNow 167 = .ok (.iastore, 1) := by decide +kernel
theorem dX9_failsNow_168 : decode cX9_failsNow 168 = .ok (.aload_n 0, 1) := by decide +kernel
theorem dX9_failsNow_169 : decode cX9_failsNow 169 = .ok (.getfield 53, 3) := by decide +kernel
theorem dX9_failsNow_172 : decode cX9_failsNow 172 = .ok (.iload_n 1, 1) := by decide +kernel
theorem dX9_failsNow_173 : decode cX9_failsNow 173 = .ok (.dup2, 1) := by decide +kernel
theorem dX9_failsNow_174 : decode cX9_failsNow 174 = .ok (.iaload, 1) := by decide +kernel
theorem dX9_failsNow_175 : decode cX9_failsNow 175 = .ok (.iconst 1, 1) := by decide +kernel
theorem dX9_failsNow_176 : decode cX9_failsNow 176 = .ok (.iadd, 1) := by decide +kernel
theorem dX9_failsNow_177 : decode cX9_failsNow 177 = .ok (.iastore, 1) := by decide +kernel
theorem dX9_failsNow_178 : decode cX9_failsNow 178 = .ok (.aload_n 0, 1) := by decide +kernel
theorem dX9_failsNow_179 : decode cX9_failsNow 179 = .ok (.iload_n 1, 1) := by decide +kernel
theorem dX9_failsNow_180 : decode cX9_failsNow 180 = .ok (.iconst 5, 1) := by decide +kernel
theorem dX9_failsNow_181 : decode cX9_failsNow 181 = .ok (.invokevirtual 211, 3) := by decide +kernel
theorem dX9_failsNow_184 : decode cX9_failsNow 184 = .ok (.return_, 1) := by decide +kernel
theorem dX9_step_0 : decode cX9_step 0 = .ok (.aload_n 0, 1) := by decide +kernel
theorem dX9_step_1 : decode cX9_step 1 = .ok (.getfield 31, 3) := by decide +kernel
theorem dX9_step_4 : decode cX9_step 4 = .ok (.iload_n 1, 1) := by decide +kernel
theorem dX9_step_5 : decode cX9_step 5 = .ok (.iaload, 1) := by decide +kernel
theorem dX9_step_6 : decode cX9_step 6 = .ok (.iconst 1, 1) := by decide +kernel
theorem dX9_step_7 : decode cX9_step 7 = .ok (.if_icmp .ne 32, 3) := by decide +kernel
theorem dX9_step_10 : decode cX9_step 10 = .ok (.aload_n 0, 1) := by decide +kernel
theorem dX9_step_11 : decode cX9_step 11 = .ok (.getfield 129, 3) := by decide +kernel
theorem dX9_step_14 : decode cX9_step 14 = .ok (.aload_n 0, 1) := by decide +kernel
theorem dX9_step_15 : decode cX9_step 15 = .ok (.getfield 34, 3) := by decide +kernel
theorem dX9_step_18 : decode cX9_step 18 = .ok (.iload_n 1, 1) := by decide +kernel
theorem dX9_step_19 : decode cX9_step 19 = .ok (.iaload, 1) := by decide +kernel
theorem dX9_step_20 : decode cX9_step 20 = .ok (.isub, 1) := by decide +kernel
theorem dX9_step_21 : decode cX9_step 21 = .ok (.aload_n 0, 1) := by decide +kernel
theorem dX9_step_22 : decode cX9_step 22 = .ok (.getfield 13, 3) := by decide +kernel
theorem dX9_step_25 : decode cX9_step 25 = .ok (.iload_n 1, 1) := by decide +kernel
theorem dX9_step_26 : decode cX9_step 26 = .ok (.iaload, 1) := by decide +kernel
theorem dX9_step_27 : decode cX9_step 27 = .ok (.if_icmp .lt 12, 3) := by decide +kernel
theorem dX9_step_30 : decode cX9_step 30 = .ok (.aload_n 0, 1) := by decide +kernel
theorem dX9_step_31 : decode cX9_step 31 = .ok (.iload_n 1, 1) := by decide +kernel
theorem dX9_step_32 : decode cX9_step 32 = .ok (.iconst 2, 1) := by decide +kernel
theorem dX9_step_33 : decode cX9_step 33 = .ok (.invokevirtual 211, 3) := by decide +kernel
theorem dX9_step_36 : decode cX9_step 36 = .ok (.goto 39, 3) := by decide +kernel
theorem dX9_step_39 : decode cX9_step 39 = .ok (.aload_n 0, 1) := by decide +kernel
theorem dX9_step_40 : decode cX9_step 40 = .ok (.getfield 31, 3) := by decide +kernel
theorem dX9_step_43 : decode cX9_step 43 = .ok (.iload_n 1, 1) := by decide +kernel
theorem dX9_step_44 : decode cX9_step 44 = .ok (.iaload, 1) := by decide +kernel
theorem dX9_step_45 : decode cX9_step 45 = .ok (.iconst 3, 1) := by decide +kernel
theorem dX9_step_46 : decode cX9_step 46 = .ok (.if_icmp .ne 29, 3) := by decide +kernel
theorem dX9_step_49 : decode cX9_step 49 = .ok (.aload_n 0, 1) := by decide +kernel
theorem dX9_step_50 : decode cX9_step 50 = .ok (.getfield 129, 3) := by decide +kernel
theorem dX9_step_53 : decode cX9_step 53 = .ok (.aload_n 0, 1) := by decide +kernel
theorem dX9_step_54 : decode cX9_step 54 = .ok (.getfield 34, 3) := by decide +kernel
theorem dX9_step_57 : decode cX9_step 57 = .ok (.iload_n 1, 1) := by decide +kernel
theorem dX9_step_58 : decode cX9_step 58 = .ok (.iaload, 1) := by decide +kernel
theorem dX9_step_59 : decode cX9_step 59 = .ok (.isub, 1) := by decide +kernel
theorem dX9_step_60 : decode cX9_step 60 = .ok (.aload_n 0, 1) := by decide +kernel
theorem dX9_step_61 : decode cX9_step 61 = .ok (.getfield 16, 3) := by decide +kernel
theorem dX9_step_64 : decode cX9_step 64 = .ok (.iload_n 1, 1) := by decide +kernel
theorem dX9_step_65 : decode cX9_step 65 = .ok (.iaload, 1) := by decide +kernel
theorem dX9_step_66 : decode cX9_step 66 = .ok (.if_icmp .lt 9, 3) := by decide +kernel
theorem dX9_step_69 : decode cX9_step 69 = .ok (.aload_n 0, 1) := by decide +kernel
theorem dX9_step_70 : decode cX9_step 70 = .ok (.iload_n 1, 1) := by decide +kernel
theorem dX9_step_71 : decode cX9_step 71 = .ok (.iconst 0, 1) := by decide +kernel
theorem dX9_step_72 : decode cX9_step 72 = .ok (.invokevirtual 211, 3) := by decide +kernel
theorem dX9_step_75 : decode cX9_step 75 = .ok (.aload_n 0, 1) := by decide +kernel
theorem dX9_step_76 : decode cX9_step 76 = .ok (.getfield 31, 3) := by decide +kernel
theorem dX9_step_79 : decode cX9_step 79 = .ok (.iload_n 1, 1) := by decide +kernel
theorem dX9_step_80 : decode cX9_step 80 = .ok (.iaload, 1) := by decide +kernel
theorem dX9_step_81 : decode cX9_step 81 = .ok (.iconst 2, 1) := by decide +kernel
theorem dX9_step_82 : decode cX9_step 82 = .ok (.if_icmp .ne 63, 3) := by decide +kernel
theorem dX9_step_85 : decode cX9_step 85 = .ok (.aload_n 0, 1) := by decide +kernel
theorem dX9_step_86 : decode cX9_step 86 = .ok (.getfield 43, 3) := by decide +kernel
theorem dX9_step_89 : decode cX9_step 89 = .ok (.iload_n 1, 1) := by decide +kernel
theorem dX9_step_90 : decode cX9_step 90 = .ok (.baload, 1) := by decide +kernel
theorem dX9_step_91 : decode cX9_step 91 = .ok (.ifCond .ne 54, 3) := by decide +kernel
theorem dX9_step_94 : decode cX9_step 94 = .ok (.aload_n 0, 1) := by decide +kernel
theorem dX9_step_95 : decode cX9_step 95 = .ok (.getfield 47, 3) := by decide +kernel
theorem dX9_step_98 : decode cX9_step 98 = .ok (.iload_n 1, 1) := by decide +kernel
theorem dX9_step_99 : decode cX9_step 99 = .ok (.iaload, 1) := by decide +kernel
theorem dX9_step_100 : decode cX9_step 100 = .ok (.istore_n 2, 1) := by decide +kernel
theorem dX9_step_101 : decode cX9_step 101 = .ok (.iload_n 2, 1) := by decide +kernel
theorem dX9_step_102 : decode cX9_step 102 = .ok (.ifCond .le 43, 3) := by decide +kernel
theorem dX9_step_105 : decode cX9_step 105 = .ok (.aload_n 0, 1) := by decide +kernel
theorem dX9_step_106 : decode cX9_step 106 = .ok (.getfield 129, 3) := by decide +kernel
theorem dX9_step_109 : decode cX9_step 109 = .ok (.aload_n 0, 1) := by decide +kernel
theorem dX9_step_110 : decode cX9_step 110 = .ok (.getfield 34, 3) := by decide +kernel
theorem dX9_step_113 : decode cX9_step 113 = .ok (.iload_n 1, 1) := by decide +kernel
theorem dX9_step_114 : decode cX9_step 114 = .ok (.iaload, 1) := by decide +kernel
theorem dX9_step_115 : decode cX9_step 115 = .ok (.isub, 1) := by decide +kernel
theorem dX9_step_116 : decode cX9_step 116 = .ok (.iload_n 2, 1) := by decide +kernel
theorem dX9_step_117 : decode cX9_step 117 = .ok (.if_icmp .lt 28, 3) := by decide +kernel
theorem dX9_step_120 : decode cX9_step 120 = .ok (.aload_n 0, 1) := by decide +kernel
theorem dX9_step_121 : decode cX9_step 121 = .ok (.getfield 9, 3) := by decide +kernel
theorem dX9_step_124 : decode cX9_step 124 = .ok (.iload_n 1, 1) := by decide +kernel
theorem dX9_step_125 : decode cX9_step 125 = .ok (.iaload, 1) := by decide +kernel
theorem dX9_step_126 : decode cX9_step 126 = .ok (.iconst 1, 1) := by decide +kernel
theorem dX9_step_127 : decode cX9_step 127 = .ok (.if_icmp .ne 13, 3) := by decide +kernel
theorem dX9_step_130 : decode cX9_step 130 = .ok (.aload_n 0, 1) := by decide +kernel
theorem dX9_step_131 : decode cX9_step 131 = .ok (.getfield 43, 3) := by decide +kernel
theorem dX9_step_134 : decode cX9_step 134 = .ok (.iload_n 1, 1) := by decide +kernel
theorem dX9_step_135 : decode cX9_step 135 = .ok (.iconst 1, 1) := by decide +kernel
theorem dX9_step_136 : decode cX9_step 136 = .ok (.bastore, 1) := by decide +kernel
theorem dX9_step_137 : decode cX9_step 137 = .ok (.goto 8, 3) := by decide +kernel
theorem dX9_step_140 : decode cX9_step 140 = .ok (.aload_n 0, 1) := by decide +kernel
theorem dX9_step_141 : decode cX9_step 141 = .ok (.iload_n 1, 1) := by decide +kernel
theorem dX9_step_142 : decode cX9_step 142 = .ok (.invokevirtual 234, 3) := by decide +kernel
theorem dX9_step_145 : decode cX9_step 145 = .ok (.aload_n 0, 1) := by decide +kernel
theorem dX9_step_146 : decode cX9_step 146 = .ok (.getfield 31, 3) := by decide +kernel
theorem dX9_step_149 : decode cX9_step 149 = .ok (.iload_n 1, 1) := by decide +kernel
theorem dX9_step_150 : decode cX9_step 150 = .ok (.iaload, 1) := by decide +kernel
theorem dX9_step_151 : decode cX9_step 151 = .ok (.iconst 5, 1) := by decide +kernel
theorem dX9_step_152 : decode cX9_step 152 = .ok (.if_icmp .ne 76, 3) := by decide +kernel
theorem dX9_step_155 : decode cX9_step 155 = .ok (.aload_n 0, 1) := by decide +kernel
theorem dX9_step_156 : decode cX9_step 156 = .ok (.getfield 129, 3) := by decide +kernel
theorem dX9_step_159 : decode cX9_step 159 = .ok (.aload_n 0, 1) := by decide +kernel
theorem dX9_step_160 : decode cX9_step 160 = .ok (.getfield 34, 3) := by decide +kernel
theorem dX9_step_163 : decode cX9_step 163 = .ok (.iload_n 1, 1) := by decide +kernel
theorem dX9_step_164 : decode cX9_step 164 = .ok (.iaload, 1) := by decide +kernel
theorem dX9_step_165 : decode cX9_step 165 = .ok (.isub, 1) := by decide +kernel
theorem dX9_step_166 : decode cX9_step 166 = .ok (.aload_n 0, 1) := by decide +kernel
theorem dX9_step_167 : decode cX9_step 167 = .ok (.getfield 22, 3) := by decide +kernel
theorem dX9_step_170 : decode cX9_step 170 = .ok (.iload_n 1, 1) := by decide +kernel
theorem dX9_step_171 : decode cX9_step 171 = .ok (.iaload, 1) := by decide +kernel
theorem dX9_step_172 : decode cX9_step 172 = .ok (.if_icmp .lt 56, 3) := by decide +kernel
theorem dX9_step_175 : decode cX9_step 175 = .ok (.aload_n 0, 1) := by decide +kernel
theorem dX9_step_176 : decode cX9_step 176 = .ok (.getfield 40, 3) := by decide +kernel
theorem dX9_step_179 : decode cX9_step 179 = .ok (.iload_n 1, 1) := by decide +kernel
theorem dX9_step_180 : decode cX9_step 180 = .ok (.dup2, 1) := by decide +kernel
theorem dX9_step_181 : decode cX9_step 181 = .ok (.iaload, 1) := by decide +kernel
theorem dX9_step_182 : decode cX9_step 182 = .ok (.aload_n 0, 1) := by decide +kernel
theorem dX9_step_183 : decode cX9_step 183 = .ok (.iload_n 1, 1) := by decide +kernel
theorem dX9_step_184 : decode cX9_step 184 = .ok (.invokevirtual 237, 3) := by decide +kernel
theorem dX9_step_187 : decode cX9_step 187 = .ok (.ifCond .eq 7, 3) := by decide +kernel
theorem dX9_step_190 : decode cX9_step 190 = .ok (.iconst 0, 1) := by decide +kernel
theorem dX9_step_191 : decode cX9_step 191 = .ok (.goto 4, 3) := by decide +kernel
theorem dX9_step_194 : decode cX9_step 194 = .ok (.iconst 1, 1) := by decide +kernel
theorem dX9_step_195 : decode cX9_step 195 = .ok (.iadd, 1) := by decide +kernel
theorem dX9_step_196 : decode cX9_step 196 = .ok (.iastore, 1) := by decide +kernel
theorem dX9_step_197 : decode cX9_step 197 = .ok (.aload_n 0, 1) := by decide +kernel
theorem dX9_step_198 : decode cX9_step 198 = .ok (.iload_n 1, 1) := by decide +kernel
theorem dX9_step_199 : decode cX9_step 199 = .ok (.aload_n 0, 1) := by decide +kernel
theorem dX9_step_200 : decode cX9_step 200 = .ok (.iload_n 1, 1) := by decide +kernel
theorem dX9_step_201 : decode cX9_step 201 = .ok (.invokevirtual 237, 3) := by decide +kernel
theorem dX9_step_204 : decode cX9_step 204 = .ok (.ifCond .ne 7, 3) := by decide +kernel
theorem dX9_step_207 : decode cX9_step 207 = .ok (.iconst 4, 1) := by decide +kernel
theorem dX9_step_208 : decode cX9_step 208 = .ok (.goto 17, 3) := by decide +kernel
theorem dX9_step_211 : decode cX9_step 211 = .ok (.aload_n 0, 1) := by decide +kernel
theorem dX9_step_212 : decode cX9_step 212 = .ok (.getfield 13, 3) := by decide +kernel
theorem dX9_step_215 : decode cX9_step 215 = .ok (.iload_n 1, 1) := by decide +kernel
theorem dX9_step_216 : decode cX9_step 216 = .ok (.iaload, 1) := by decide +kernel
theorem dX9_step_217 : decode cX9_step 217 = .ok (.ifCond .ne 7, 3) := by decide +kernel
theorem dX9_step_220 : decode cX9_step 220 = .ok (.iconst 2, 1) := by decide +kernel
theorem dX9_step_221 : decode cX9_step 221 = .ok (.goto 4, 3) := by decide +kernel
theorem dX9_step_224 : decode cX9_step 224 = .ok (.iconst 1, 1) := by decide +kernel
theorem dX9_step_225 : decode cX9_step 225 = .ok (.invokevirtual 211, 3) := by decide +kernel
theorem dX9_step_228 : decode cX9_step 228 = .ok (.return_, 1) := by decide +kernel
theorem dX9_addNeeds_0 : decode cX9_addNeeds 0 = .ok (.iconst 1, 1) := by decide +kernel
theorem dX9_addNeeds_1 : decode cX9_addNeeds 1 = .ok (.istore_n 2, 1) := by decide +kernel
theorem dX9_addNeeds_2 : decode cX9_addNeeds 2 = .ok (.iload_n 2, 1) := by decide +kernel
theorem dX9_addNeeds_3 : decode cX9_addNeeds 3 = .ok (.ifCond .eq 73, 3) := by decide +kernel
theorem dX9_addNeeds_6 : decode cX9_addNeeds 6 = .ok (.iconst 0, 1) := by decide +kernel
theorem dX9_addNeeds_7 : decode cX9_addNeeds 7 = .ok (.istore_n 2, 1) := by decide +kernel
theorem dX9_addNeeds_8 : decode cX9_addNeeds 8 = .ok (.iconst 0, 1) := by decide +kernel
theorem dX9_addNeeds_9 : decode cX9_addNeeds 9 = .ok (.istore_n 3, 1) := by decide +kernel
theorem dX9_addNeeds_10 : decode cX9_addNeeds 10 = .ok (.iload_n 3, 1) := by decide +kernel
theorem dX9_addNeeds_11 : decode cX9_addNeeds 11 = .ok (.aload_n 0, 1) := by decide +kernel
theorem dX9_addNeeds_12 : decode cX9_addNeeds 12 = .ok (.getfield 126, 3) := by decide +kernel
theorem dX9_addNeeds_15 : decode cX9_addNeeds 15 = .ok (.if_icmp .ge 58, 3) := by decide +kernel
theorem dX9_addNeeds_18 : decode cX9_addNeeds 18 = .ok (.iconst 0, 1) := by decide +kernel
theorem dX9_addNeeds_19 : decode cX9_addNeeds 19 = .ok (.istore 4, 2) := by decide +kernel
theorem dX9_addNeeds_21 : decode cX9_addNeeds 21 = .ok (.iload 4, 2) := by decide +kernel
theorem dX9_addNeeds_23 : decode cX9_addNeeds 23 = .ok (.aload_n 0, 1) := by decide +kernel
theorem dX9_addNeeds_24 : decode cX9_addNeeds 24 = .ok (.getfield 126, 3) := by decide +kernel
theorem dX9_addNeeds_27 : decode cX9_addNeeds 27 = .ok (.if_icmp .ge 40, 3) := by decide +kernel
theorem dX9_addNeeds_30 : decode cX9_addNeeds 30 = .ok (.aload_n 1, 1) := by decide +kernel
theorem dX9_addNeeds_31 : decode cX9_addNeeds 31 = .ok (.iload_n 3, 1) := by decide +kernel
theorem dX9_addNeeds_32 : decode cX9_addNeeds 32 = .ok (.baload, 1) := by decide +kernel
theorem dX9_addNeeds_33 : decode cX9_addNeeds 33 = .ok (.ifCond .eq 28, 3) := by decide +kernel
theorem dX9_addNeeds_36 : decode cX9_addNeeds 36 = .ok (.aload_n 1, 1) := by decide +kernel
theorem dX9_addNeeds_37 : decode cX9_addNeeds 37 = .ok (.iload 4, 2) := by decide +kernel
theorem dX9_addNeeds_39 : decode cX9_addNeeds 39 = .ok (.baload, 1) := by decide +kernel
theorem dX9_addNeeds_40 : decode cX9_addNeeds 40 = .ok (.ifCond .ne 21, 3) := by decide +kernel
theorem dX9_addNeeds_43 : decode cX9_addNeeds 43 = .ok (.aload_n 0, 1) := by decide +kernel
theorem dX9_addNeeds_44 : decode cX9_addNeeds 44 = .ok (.iconst 0, 1) := by decide +kernel
theorem dX9_addNeeds_45 : decode cX9_addNeeds 45 = .ok (.iload_n 3, 1) := by decide +kernel
theorem dX9_addNeeds_46 : decode cX9_addNeeds 46 = .ok (.iload 4, 2) := by decide +kernel
theorem dX9_addNeeds_48 : decode cX9_addNeeds 48 = .ok (.invokevirtual 150, 3) := by decide +kernel
theorem dX9_addNeeds_51 : decode cX9_addNeeds 51 = .ok (.ifCond .eq 10, 3) := by decide +kernel
theorem dX9_addNeeds_54 : decode cX9_addNeeds 54 = .ok (.aload_n 1, 1) := by decide +kernel
theorem dX9_addNeeds_55 : decode cX9_addNeeds 55 = .ok (.iload 4, 2) := by decide +kernel
theorem dX9_addNeeds_57 : decode cX9_addNeeds 57 = .ok (.iconst 1, 1) := by decide +kernel
theorem dX9_addNeeds_58 : decode cX9_addNeeds 58 = .ok (.bastore, 1) := by decide +kernel
theorem dX9_addNeeds_59 : decode cX9_addNeeds 59 = .ok (.iconst 1, 1) := by decide +kernel
theorem dX9_addNeeds_60 : decode cX9_addNeeds 60 = .ok (.istore_n 2, 1) := by decide +kernel
theorem dX9_addNeeds_61 : decode cX9_addNeeds 61 = .ok (.iinc 4 1, 3) := by decide +kernel
theorem dX9_addNeeds_64 : decode cX9_addNeeds 64 = .ok (.goto (-43), 3) := by decide +kernel
theorem dX9_addNeeds_67 : decode cX9_addNeeds 67 = .ok (.iinc 3 1, 3) := by decide +kernel
theorem dX9_addNeeds_70 : decode cX9_addNeeds 70 = .ok (.goto (-60), 3) := by decide +kernel
theorem dX9_addNeeds_73 : decode cX9_addNeeds 73 = .ok (.goto (-71), 3) := by decide +kernel
theorem dX9_addNeeds_76 : decode cX9_addNeeds 76 = .ok (.return_, 1) := by decide +kernel
theorem dX9_addNeeding_0 : decode cX9_addNeeding 0 = .ok (.iconst 1, 1) := by decide +kernel
theorem dX9_addNeeding_1 : decode cX9_addNeeding 1 = .ok (.istore_n 2, 1) := by decide +kernel
theorem dX9_addNeeding_2 : decode cX9_addNeeding 2 = .ok (.iload_n 2, 1) := by decide +kernel
theorem dX9_addNeeding_3 : decode cX9_addNeeding 3 = .ok (.ifCond .eq 97, 3) := by decide +kernel
theorem dX9_addNeeding_6 : decode cX9_addNeeding 6 = .ok (.iconst 0, 1) := by decide +kernel
theorem dX9_addNeeding_7 : decode cX9_addNeeding 7 = .ok (.istore_n 2, 1) := by decide +kernel
theorem dX9_addNeeding_8 : decode cX9_addNeeding 8 = .ok (.iconst 0, 1) := by decide +kernel
theorem dX9_addNeeding_9 : decode cX9_addNeeding 9 = .ok (.istore_n 3, 1) := by decide +kernel
theorem dX9_addNeeding_10 : decode cX9_addNeeding 10 = .ok (.iload_n 3, 1) := by decide +kernel
theorem dX9_addNeeding_11 : decode cX9_addNeeding 11 = .ok (.aload_n 0, 1) := by decide +kernel
theorem dX9_addNeeding_12 : decode cX9_addNeeding 12 = .ok (.getfield 126, 3) := by decide +kernel
theorem dX9_addNeeding_15 : decode cX9_addNeeding 15 = .ok (.if_icmp .ge 82, 3) := by decide +kernel
theorem dX9_addNeeding_18 : decode cX9_addNeeding 18 = .ok (.iconst 0, 1) := by decide +kernel
theorem dX9_addNeeding_19 : decode cX9_addNeeding 19 = .ok (.istore 4, 2) := by decide +kernel
theorem dX9_addNeeding_21 : decode cX9_addNeeding 21 = .ok (.iload 4, 2) := by decide +kernel
theorem dX9_addNeeding_23 : decode cX9_addNeeding 23 = .ok (.aload_n 0, 1) := by decide +kernel
theorem dX9_addNeeding_24 : decode cX9_addNeeding 24 = .ok (.getfield 126, 3) := by decide +kernel
theorem dX9_addNeeding_27 : decode cX9_addNeeding 27 = .ok (.if_icmp .ge 64, 3) := by decide +kernel
theorem dX9_addNeeding_30 : decode cX9_addNeeding 30 = .ok (.aload_n 0, 1) := by decide +kernel
theorem dX9_addNeeding_31 : decode cX9_addNeeding 31 = .ok (.getfield 86, 3) := by decide +kernel
theorem dX9_addNeeding_34 : decode cX9_addNeeding 34 = .ok (.iload_n 3, 1) := by decide +kernel
theorem dX9_addNeeding_35 : decode cX9_addNeeding 35 = .ok (.iaload, 1) := by decide +kernel
theorem dX9_addNeeding_36 : decode cX9_addNeeding 36 = .ok (.iconst 2, 1) := by decide +kernel
theorem dX9_addNeeding_37 : decode cX9_addNeeding 37 = .ok (.if_icmp .eq 48, 3) := by decide +kernel
theorem dX9_addNeeding_40 : decode cX9_addNeeding 40 = .ok (.aload_n 0, 1) := by decide +kernel
theorem dX9_addNeeding_41 : decode cX9_addNeeding 41 = .ok (.iload_n 3, 1) := by decide +kernel
theorem dX9_addNeeding_42 : decode cX9_addNeeding 42 = .ok (.invokevirtual 171, 3) := by decide +kernel
theorem dX9_addNeeding_45 : decode cX9_addNeeding 45 = .ok (.ifCond .eq 40, 3) := by decide +kernel
theorem dX9_addNeeding_48 : decode cX9_addNeeding 48 = .ok (.aload_n 0, 1) := by decide +kernel
theorem dX9_addNeeding_49 : decode cX9_addNeeding 49 = .ok (.iconst 0, 1) := by decide +kernel
theorem dX9_addNeeding_50 : decode cX9_addNeeding 50 = .ok (.iload_n 3, 1) := by decide +kernel
theorem dX9_addNeeding_51 : decode cX9_addNeeding 51 = .ok (.iload 4, 2) := by decide +kernel
theorem dX9_addNeeding_53 : decode cX9_addNeeding 53 = .ok (.invokevirtual 150, 3) := by decide +kernel
theorem dX9_addNeeding_56 : decode cX9_addNeeding 56 = .ok (.ifCond .eq 29, 3) := by decide +kernel
theorem dX9_addNeeding_59 : decode cX9_addNeeding 59 = .ok (.aload_n 0, 1) := by decide +kernel
theorem dX9_addNeeding_60 : decode cX9_addNeeding 60 = .ok (.getfield 86, 3) := by decide +kernel
theorem dX9_addNeeding_63 : decode cX9_addNeeding 63 = .ok (.iload 4, 2) := by decide +kernel
theorem dX9_addNeeding_65 : decode cX9_addNeeding 65 = .ok (.iaload, 1) := by decide +kernel
theorem dX9_addNeeding_66 : decode cX9_addNeeding 66 = .ok (.iconst 2, 1) := by decide +kernel
theorem dX9_addNeeding_67 : decode cX9_addNeeding 67 = .ok (.if_icmp .eq 9, 3) := by decide +kernel
theorem dX9_addNeeding_70 : decode cX9_addNeeding 70 = .ok (.iload 4, 2) := by decide +kernel
theorem dX9_addNeeding_72 : decode cX9_addNeeding 72 = .ok (.iload_n 1, 1) := by decide +kernel
theorem dX9_addNeeding_73 : decode cX9_addNeeding 73 = .ok (.if_icmp .ne 12, 3) := by decide +kernel
theorem dX9_addNeeding_76 : decode cX9_addNeeding 76 = .ok (.aload_n 0, 1) := by decide +kernel
theorem dX9_addNeeding_77 : decode cX9_addNeeding 77 = .ok (.getfield 86, 3) := by decide +kernel
theorem dX9_addNeeding_80 : decode cX9_addNeeding 80 = .ok (.iload_n 3, 1) := by decide +kernel
theorem dX9_addNeeding_81 : decode cX9_addNeeding 81 = .ok (.iconst 2, 1) := by decide +kernel
theorem dX9_addNeeding_82 : decode cX9_addNeeding 82 = .ok (.iastore, 1) := by decide +kernel
theorem dX9_addNeeding_83 : decode cX9_addNeeding 83 = .ok (.iconst 1, 1) := by decide +kernel
theorem dX9_addNeeding_84 : decode cX9_addNeeding 84 = .ok (.istore_n 2, 1) := by decide +kernel
theorem dX9_addNeeding_85 : decode cX9_addNeeding 85 = .ok (.iinc 4 1, 3) := by decide +kernel
theorem dX9_addNeeding_88 : decode cX9_addNeeding 88 = .ok (.goto (-67), 3) := by decide +kernel
theorem dX9_addNeeding_91 : decode cX9_addNeeding 91 = .ok (.iinc 3 1, 3) := by decide +kernel
theorem dX9_addNeeding_94 : decode cX9_addNeeding 94 = .ok (.goto (-84), 3) := by decide +kernel
theorem dX9_addNeeding_97 : decode cX9_addNeeding 97 = .ok (.goto (-95), 3) := by decide +kernel
theorem dX9_addNeeding_100 : decode cX9_addNeeding 100 = .ok (.return_, 1) := by decide +kernel
theorem dX9_members_0 : decode cX9_members 0 = .ok (.iconst 0, 1) := by decide +kernel
theorem dX9_members_1 : decode cX9_members 1 = .ok (.istore_n 2, 1) := by decide +kernel
theorem dX9_members_2 : decode cX9_members 2 = .ok (.iload_n 2, 1) := by decide +kernel
theorem dX9_members_3 : decode cX9_members 3 = .ok (.aload_n 0, 1) := by decide +kernel
theorem dX9_members_4 : decode cX9_members 4 = .ok (.getfield 126, 3) := by decide +kernel
theorem dX9_members_7 : decode cX9_members 7 = .ok (.if_icmp .ge 32, 3) := by decide +kernel
theorem dX9_members_10 : decode cX9_members 10 = .ok (.aload_n 0, 1) := by decide +kernel
theorem dX9_members_11 : decode cX9_members 11 = .ok (.getfield 77, 3) := by decide +kernel
theorem dX9_members_14 : decode cX9_members 14 = .ok (.iload_n 2, 1) := by decide +kernel
theorem dX9_members_15 : decode cX9_members 15 = .ok (.iload_n 2, 1) := by decide +kernel
theorem dX9_members_16 : decode cX9_members 16 = .ok (.iload_n 1, 1) := by decide +kernel
theorem dX9_members_17 : decode cX9_members 17 = .ok (.if_icmp .ne 7, 3) := by decide +kernel
theorem dX9_members_20 : decode cX9_members 20 = .ok (.iconst 1, 1) := by decide +kernel
theorem dX9_members_21 : decode cX9_members 21 = .ok (.goto 4, 3) := by decide +kernel
theorem dX9_members_24 : decode cX9_members 24 = .ok (.iconst 0, 1) := by decide +kernel
theorem dX9_members_25 : decode cX9_members 25 = .ok (.bastore, 1) := by decide +kernel
theorem dX9_members_26 : decode cX9_members 26 = .ok (.aload_n 0, 1) := by decide +kernel
theorem dX9_members_27 : decode cX9_members 27 = .ok (.getfield 83, 3) := by decide +kernel
theorem dX9_members_30 : decode cX9_members 30 = .ok (.iload_n 2, 1) := by decide +kernel
theorem dX9_members_31 : decode cX9_members 31 = .ok (.iconst 0, 1) := by decide +kernel
theorem dX9_members_32 : decode cX9_members 32 = .ok (.bastore, 1) := by decide +kernel
theorem dX9_members_33 : decode cX9_members 33 = .ok (.iinc 2 1, 3) := by decide +kernel
theorem dX9_members_36 : decode cX9_members 36 = .ok (.goto (-34), 3) := by decide +kernel
theorem dX9_members_39 : decode cX9_members 39 = .ok (.aload_n 0, 1) := by decide +kernel
theorem dX9_members_40 : decode cX9_members 40 = .ok (.aload_n 0, 1) := by decide +kernel
theorem dX9_members_41 : decode cX9_members 41 = .ok (.getfield 77, 3) := by decide +kernel
theorem dX9_members_44 : decode cX9_members 44 = .ok (.invokevirtual 174, 3) := by decide +kernel
theorem dX9_members_47 : decode cX9_members 47 = .ok (.return_, 1) := by decide +kernel
theorem dX9_begin_0 : decode cX9_begin 0 = .ok (.iconst 1, 1) := by decide +kernel
theorem dX9_begin_1 : decode cX9_begin 1 = .ok (.istore_n 1, 1) := by decide +kernel
theorem dX9_begin_2 : decode cX9_begin 2 = .ok (.iload_n 1, 1) := by decide +kernel
theorem dX9_begin_3 : decode cX9_begin 3 = .ok (.ifCond .eq 75, 3) := by decide +kernel
theorem dX9_begin_6 : decode cX9_begin 6 = .ok (.aload_n 0, 1) := by decide +kernel
theorem dX9_begin_7 : decode cX9_begin 7 = .ok (.invokevirtual 222, 3) := by decide +kernel
theorem dX9_begin_10 : decode cX9_begin 10 = .ok (.iconst 0, 1) := by decide +kernel
theorem dX9_begin_11 : decode cX9_begin 11 = .ok (.istore_n 2, 1) := by decide +kernel
theorem dX9_begin_12 : decode cX9_begin 12 = .ok (.iload_n 2, 1) := by decide +kernel
theorem dX9_begin_13 : decode cX9_begin 13 = .ok (.aload_n 0, 1) := by decide +kernel
theorem dX9_begin_14 : decode cX9_begin 14 = .ok (.getfield 126, 3) := by decide +kernel
theorem dX9_begin_17 : decode cX9_begin 17 = .ok (.if_icmp .ge 35, 3) := by decide +kernel
theorem dX9_begin_20 : decode cX9_begin 20 = .ok (.aload_n 0, 1) := by decide +kernel
theorem dX9_begin_21 : decode cX9_begin 21 = .ok (.getfield 71, 3) := by decide +kernel
theorem dX9_begin_24 : decode cX9_begin 24 = .ok (.iload_n 2, 1) := by decide +kernel
theorem dX9_begin_25 : decode cX9_begin 25 = .ok (.iaload, 1) := by decide +kernel
theorem dX9_begin_26 : decode cX9_begin 26 = .ok (.ifCond .eq 20, 3) := by decide +kernel
theorem dX9_begin_29 : decode cX9_begin 29 = .ok (.aload_n 0, 1) := by decide +kernel
theorem dX9_begin_30 : decode cX9_begin 30 = .ok (.getfield 74, 3) := by decide +kernel
theorem dX9_begin_33 : decode cX9_begin 33 = .ok (.iload_n 2, 1) := by decide +kernel
theorem dX9_begin_34 : decode cX9_begin 34 = .ok (.baload, 1) := by decide +kernel
theorem dX9_begin_35 : decode cX9_begin 35 = .ok (.ifCond .ne 11, 3) := by decide +kernel
theorem dX9_begin_38 : decode cX9_begin 38 = .ok (.aload_n 0, 1) := by decide +kernel
theorem dX9_begin_39 : decode cX9_begin 39 = .ok (.iload_n 2, 1) := by decide +kernel
theorem dX9_begin_40 : decode cX9_begin 40 = .ok (.invokevirtual 225, 3) := by decide +kernel
theorem dX9_begin_43 : decode cX9_begin 43 = .ok (.ifCond .eq 9, 3) := by decide +kernel
theorem dX9_begin_46 : decode cX9_begin 46 = .ok (.iinc 2 1, 3) := by decide +kernel
theorem dX9_begin_49 : decode cX9_begin 49 = .ok (.goto (-37), 3) := by decide +kernel
theorem dX9_begin_52 : decode cX9_begin 52 = .ok (.iload_n 2, 1) := by decide +kernel
theorem dX9_begin_53 : decode cX9_begin 53 = .ok (.aload_n 0, 1) := by decide +kernel
theorem dX9_begin_54 : decode cX9_begin 54 = .ok (.getfield 126, 3) := by decide +kernel
theorem dX9_begin_57 : decode cX9_begin 57 = .ok (.if_icmp .ge 7, 3) := by decide +kernel
theorem dX9_begin_60 : decode cX9_begin 60 = .ok (.iconst 1, 1) := by decide +kernel
theorem dX9_begin_61 : decode cX9_begin 61 = .ok (.goto 4, 3) := by decide +kernel
theorem dX9_begin_64 : decode cX9_begin 64 = .ok (.iconst 0, 1) := by decide +kernel
theorem dX9_begin_65 : decode cX9_begin 65 = .ok (.istore_n 1, 1) := by decide +kernel
theorem dX9_begin_66 : decode cX9_begin 66 = .ok (.iload_n 1, 1) := by decide +kernel
theorem dX9_begin_67 : decode cX9_begin 67 = .ok (.ifCond .eq 8, 3) := by decide +kernel
theorem dX9_begin_70 : decode cX9_begin 70 = .ok (.aload_n 0, 1) := by decide +kernel
theorem dX9_begin_71 : decode cX9_begin 71 = .ok (.iload_n 2, 1) := by decide +kernel
theorem dX9_begin_72 : decode cX9_begin 72 = .ok (.invokevirtual 228, 3) := by decide +kernel
theorem dX9_begin_75 : decode cX9_begin 75 = .ok (.goto (-73), 3) := by decide +kernel
theorem dX9_begin_78 : decode cX9_begin 78 = .ok (.return_, 1) := by decide +kernel
theorem dX9_addWanted_0 : decode cX9_addWanted 0 = .ok (.iconst 1, 1) := by decide +kernel
theorem dX9_addWanted_1 : decode cX9_addWanted 1 = .ok (.istore_n 1, 1) := by decide +kernel
theorem dX9_addWanted_2 : decode cX9_addWanted 2 = .ok (.iload_n 1, 1) := by decide +kernel
theorem dX9_addWanted_3 : decode cX9_addWanted 3 = .ok (.ifCond .eq 202, 3) := by decide +kernel
theorem dX9_addWanted_6 : decode cX9_addWanted 6 = .ok (.iconst 0, 1) := by decide +kernel
theorem dX9_addWanted_7 : decode cX9_addWanted 7 = .ok (.istore_n 1, 1) := by decide +kernel
theorem dX9_addWanted_8 : decode cX9_addWanted 8 = .ok (.iconst (-1), 1) := by decide +kernel
theorem dX9_addWanted_9 : decode cX9_addWanted 9 = .ok (.istore_n 2, 1) := by decide +kernel
theorem dX9_addWanted_10 : decode cX9_addWanted 10 = .ok (.aload_n 0, 1) := by decide +kernel
theorem dX9_addWanted_11 : decode cX9_addWanted 11 = .ok (.getfield 126, 3) := by decide +kernel
theorem dX9_addWanted_14 : decode cX9_addWanted 14 = .ok (.iconst 1, 1) := by decide +kernel
theorem dX9_addWanted_15 : decode cX9_addWanted 15 = .ok (.isub, 1) := by decide +kernel
theorem dX9_addWanted_16 : decode cX9_addWanted 16 = .ok (.istore_n 3, 1) := by decide +kernel
theorem dX9_addWanted_17 : decode cX9_addWanted 17 = .ok (.iload_n 3, 1) := by decide +kernel
theorem dX9_addWanted_18 : decode cX9_addWanted 18 = .ok (.ifCond .lt 72, 3) := by decide +kernel
theorem dX9_addWanted_21 : decode cX9_addWanted 21 = .ok (.iconst 0, 1) := by decide +kernel
theorem dX9_addWanted_22 : decode cX9_addWanted 22 = .ok (.istore 4, 2) := by decide +kernel
theorem dX9_addWanted_24 : decode cX9_addWanted 24 = .ok (.iload 4, 2) := by decide +kernel
theorem dX9_addWanted_26 : decode cX9_addWanted 26 = .ok (.aload_n 0, 1) := by decide +kernel
theorem dX9_addWanted_27 : decode cX9_addWanted 27 = .ok (.getfield 126, 3) := by decide +kernel
theorem dX9_addWanted_30 : decode cX9_addWanted 30 = .ok (.if_icmp .ge 54, 3) := by decide +kernel
theorem dX9_addWanted_33 : decode cX9_addWanted 33 = .ok (.aload_n 0, 1) := by decide +kernel
theorem dX9_addWanted_34 : decode cX9_addWanted 34 = .ok (.getfield 77, 3) := by decide +kernel
theorem dX9_addWanted_37 : decode cX9_addWanted 37 = .ok (.iload 4, 2) := by decide +kernel
theorem dX9_addWanted_39 : decode cX9_addWanted 39 = .ok (.baload, 1) := by decide +kernel
theorem dX9_addWanted_40 : decode cX9_addWanted 40 = .ok (.ifCond .eq 36, 3) := by decide +kernel
theorem dX9_addWanted_43 : decode cX9_addWanted 43 = .ok (.aload_n 0, 1) := by decide +kernel
theorem dX9_addWanted_44 : decode cX9_addWanted 44 = .ok (.iconst 1, 1) := by decide +kernel
theorem dX9_addWanted_45 : decode cX9_addWanted 45 = .ok (.iload 4, 2) := by decide +kernel
theorem dX9_addWanted_47 : decode cX9_addWanted 47 = .ok (.iload_n 3, 1) := by decide +kernel
theorem dX9_addWanted_48 : decode cX9_addWanted 48 = .ok (.invokevirtual 150, 3) := by decide +kernel
theorem dX9_addWanted_51 : decode cX9_addWanted 51 = .ok (.ifCond .eq 25, 3) := by decide +kernel
theorem dX9_addWanted_54 : decode cX9_addWanted 54 = .ok (.aload_n 0, 1) := by decide +kernel
theorem dX9_addWanted_55 : decode cX9_addWanted 55 = .ok (.getfield 77, 3) := by decide +kernel
theorem dX9_addWanted_58 : decode cX9_addWanted 58 = .ok (.iload_n 3, 1) := by decide +kernel
theorem dX9_addWanted_59 : decode cX9_addWanted 59 = .ok (.baload, 1) := by decide +kernel
theorem dX9_addWanted_60 : decode cX9_addWanted 60 = .ok (.ifCond .ne 16, 3) := by decide +kernel
theorem dX9_addWanted_63 : decode cX9_addWanted 63 = .ok (.aload_n 0, 1) := by decide +kernel
theorem dX9_addWanted_64 : decode cX9_addWanted 64 = .ok (.getfield 83, 3) := by decide +kernel
theorem dX9_addWanted_67 : decode cX9_addWanted 67 = .ok (.iload_n 3, 1) := by decide +kernel
theorem dX9_addWanted_68 : decode cX9_addWanted 68 = .ok (.baload, 1) := by decide +kernel
theorem dX9_addWanted_69 : decode cX9_addWanted 69 = .ok (.ifCond .ne 7, 3) := by decide +kernel
theorem dX9_addWanted_72 : decode cX9_addWanted 72 = .ok (.iload_n 3, 1) := by decide +kernel
theorem dX9_addWanted_73 : decode cX9_addWanted 73 = .ok (.goto 4, 3) := by decide +kernel
theorem dX9_addWanted_76 : decode cX9_addWanted 76 = .ok (.iload_n 2, 1) := by decide +kernel
theorem dX9_addWanted_77 : decode cX9_addWanted 77 = .ok (.istore_n 2, 1) := by decide +kernel
theorem dX9_addWanted_78 : decode cX9_addWanted 78 = .ok (.iinc 4 1, 3) := by decide +kernel
theorem dX9_addWanted_81 : decode cX9_addWanted 81 = .ok (.goto (-57), 3) := by decide +kernel
theorem dX9_addWanted_84 : decode cX9_addWanted 84 = .ok (.iinc 3 (-1), 3) := by decide +kernel
theorem dX9_addWanted_87 : decode cX9_addWanted 87 = .ok (.goto (-70), 3) := by decide +kernel
theorem dX9_addWanted_90 : decode cX9_addWanted 90 = .ok (.iload_n 2, 1) := by decide +kernel
theorem dX9_addWanted_91 : decode cX9_addWanted 91 = .ok (.ifCond .lt 111, 3) := by decide +kernel
theorem dX9_addWanted_94 : decode cX9_addWanted 94 = .ok (.iconst 1, 1) := by decide +kernel
theorem dX9_addWanted_95 : decode cX9_addWanted 95 = .ok (.istore_n 1, 1) := by decide +kernel
theorem dX9_addWanted_96 : decode cX9_addWanted 96 = .ok (.aload_n 0, 1) := by decide +kernel
theorem dX9_addWanted_97 : decode cX9_addWanted 97 = .ok (.getfield 83, 3) := by decide +kernel
theorem dX9_addWanted_100 : decode cX9_addWanted 100 = .ok (.iload_n 2, 1) := by decide +kernel
theorem dX9_addWanted_101 : decode cX9_addWanted 101 = .ok (.iconst 1, 1) := by decide +kernel
theorem dX9_addWanted_102 : decode cX9_addWanted 102 = .ok (.bastore, 1) := by decide +kernel
theorem dX9_addWanted_103 : decode cX9_addWanted 103 = .ok (.iconst 0, 1) := by decide +kernel
theorem dX9_addWanted_104 : decode cX9_addWanted 104 = .ok (.istore_n 3, 1) := by decide +kernel
theorem dX9_addWanted_105 : decode cX9_addWanted 105 = .ok (.iload_n 3, 1) := by decide +kernel
theorem dX9_addWanted_106 : decode cX9_addWanted 106 = .ok (.aload_n 0, 1) := by decide +kernel
theorem dX9_addWanted_107 : decode cX9_addWanted 107 = .ok (.getfield 126, 3) := by decide +kernel
theorem dX9_addWanted_110 : decode cX9_addWanted 110 = .ok (.if_icmp .ge 34, 3) := by decide +kernel
theorem dX9_addWanted_113 : decode cX9_addWanted 113 = .ok (.aload_n 0, 1) := by decide +kernel
theorem dX9_addWanted_114 : decode cX9_addWanted 114 = .ok (.getfield 80, 3) := by decide +kernel
theorem dX9_addWanted_117 : decode cX9_addWanted 117 = .ok (.iload_n 3, 1) := by decide +kernel
theorem dX9_addWanted_118 : decode cX9_addWanted 118 = .ok (.aload_n 0, 1) := by decide +kernel
theorem dX9_addWanted_119 : decode cX9_addWanted 119 = .ok (.getfield 77, 3) := by decide +kernel
theorem dX9_addWanted_122 : decode cX9_addWanted 122 = .ok (.iload_n 3, 1) := by decide +kernel
theorem dX9_addWanted_123 : decode cX9_addWanted 123 = .ok (.baload, 1) := by decide +kernel
theorem dX9_addWanted_124 : decode cX9_addWanted 124 = .ok (.ifCond .ne 8, 3) := by decide +kernel
theorem dX9_addWanted_127 : decode cX9_addWanted 127 = .ok (.iload_n 3, 1) := by decide +kernel
theorem dX9_addWanted_128 : decode cX9_addWanted 128 = .ok (.iload_n 2, 1) := by decide +kernel
theorem dX9_addWanted_129 : decode cX9_addWanted 129 = .ok (.if_icmp .ne 7, 3) := by decide +kernel
theorem dX9_addWanted_132 : decode cX9_addWanted 132 = .ok (.iconst 1, 1) := by decide +kernel
theorem dX9_addWanted_133 : decode cX9_addWanted 133 = .ok (.goto 4, 3) := by decide +kernel
theorem dX9_addWanted_136 : decode cX9_addWanted 136 = .ok (.iconst 0, 1) := by decide +kernel
theorem dX9_addWanted_137 : decode cX9_addWanted 137 = .ok (.bastore, 1) := by decide +kernel
theorem dX9_addWanted_138 : decode cX9_addWanted 138 = .ok (.iinc 3 1, 3) := by decide +kernel
theorem dX9_addWanted_141 : decode cX9_addWanted 141 = .ok (.goto (-36), 3) := by decide +kernel
theorem dX9_addWanted_144 : decode cX9_addWanted 144 = .ok (.aload_n 0, 1) := by decide +kernel
theorem dX9_addWanted_145 : decode cX9_addWanted 145 = .ok (.aload_n 0, 1) := by decide +kernel
theorem dX9_addWanted_146 : decode cX9_addWanted 146 = .ok (.getfield 80, 3) := by decide +kernel
theorem dX9_addWanted_149 : decode cX9_addWanted 149 = .ok (.invokevirtual 174, 3) := by decide +kernel
theorem dX9_addWanted_152 : decode cX9_addWanted 152 = .ok (.aload_n 0, 1) := by decide +kernel
theorem dX9_addWanted_153 : decode cX9_addWanted 153 = .ok (.aload_n 0, 1) := by decide +kernel
theorem dX9_addWanted_154 : decode cX9_addWanted 154 = .ok (.getfield 80, 3) := by decide +kernel
theorem dX9_addWanted_157 : decode cX9_addWanted 157 = .ok (.invokevirtual 178, 3) := by decide +kernel
theorem dX9_addWanted_160 : decode cX9_addWanted 160 = .ok (.ifCond .ne 42, 3) := by decide +kernel
theorem dX9_addWanted_163 : decode cX9_addWanted 163 = .ok (.aload_n 0, 1) := by decide +kernel
theorem dX9_addWanted_164 : decode cX9_addWanted 164 = .ok (.aload_n 0, 1) := by decide +kernel
theorem dX9_addWanted_165 : decode cX9_addWanted 165 = .ok (.getfield 80, 3) := by decide +kernel
theorem dX9_addWanted_168 : decode cX9_addWanted 168 = .ok (.invokevirtual 182, 3) := by decide +kernel
theorem dX9_addWanted_171 : decode cX9_addWanted 171 = .ok (.ifCond .ne 31, 3) := by decide +kernel
theorem dX9_addWanted_174 : decode cX9_addWanted 174 = .ok (.iconst 0, 1) := by decide +kernel
theorem dX9_addWanted_175 : decode cX9_addWanted 175 = .ok (.istore_n 3, 1) := by decide +kernel
theorem dX9_addWanted_176 : decode cX9_addWanted 176 = .ok (.iload_n 3, 1) := by decide +kernel
theorem dX9_addWanted_177 : decode cX9_addWanted 177 = .ok (.aload_n 0, 1) := by decide +kernel
theorem dX9_addWanted_178 : decode cX9_addWanted 178 = .ok (.getfield 126, 3) := by decide +kernel
theorem dX9_addWanted_181 : decode cX9_addWanted 181 = .ok (.if_icmp .ge 21, 3) := by decide +kernel
theorem dX9_addWanted_184 : decode cX9_addWanted 184 = .ok (.aload_n 0, 1) := by decide +kernel
theorem dX9_addWanted_185 : decode cX9_addWanted 185 = .ok (.getfield 77, 3) := by decide +kernel
theorem dX9_addWanted_188 : decode cX9_addWanted 188 = .ok (.iload_n 3, 1) := by decide +kernel
theorem dX9_addWanted_189 : decode cX9_addWanted 189 = .ok (.aload_n 0, 1) := by decide +kernel
theorem dX9_addWanted_190 : decode cX9_addWanted 190 = .ok (.getfield 80, 3) := by decide +kernel
theorem dX9_addWanted_193 : decode cX9_addWanted 193 = .ok (.iload_n 3, 1) := by decide +kernel
theorem dX9_addWanted_194 : decode cX9_addWanted 194 = .ok (.baload, 1) := by decide +kernel
theorem dX9_addWanted_195 : decode cX9_addWanted 195 = .ok (.bastore, 1) := by decide +kernel
theorem dX9_addWanted_196 : decode cX9_addWanted 196 = .ok (.iinc 3 1, 3) := by decide +kernel
theorem dX9_addWanted_199 : decode cX9_addWanted 199 = .ok (.goto (-23), 3) := by decide +kernel
theorem dX9_addWanted_202 : decode cX9_addWanted 202 = .ok (.goto (-200), 3) := by decide +kernel
theorem dX9_addWanted_205 : decode cX9_addWanted 205 = .ok (.return_, 1) := by decide +kernel
theorem dX9_look_0 : decode cX9_look 0 = .ok (.aload_n 0, 1) := by decide +kernel
theorem dX9_look_1 : decode cX9_look 1 = .ok (.invokevirtual 143, 3) := by decide +kernel
theorem dX9_look_4 : decode cX9_look 4 = .ok (.ifCond .gt 17, 3) := by decide +kernel
theorem dX9_look_7 : decode cX9_look 7 = .ok (.aload_n 0, 1) := by decide +kernel
theorem dX9_look_8 : decode cX9_look 8 = .ok (.iconst 1, 1) := by decide +kernel
theorem dX9_look_9 : decode cX9_look 9 = .ok (.invokevirtual 186, 3) := by decide +kernel
theorem dX9_look_12 : decode cX9_look 12 = .ok (.aload_n 0, 1) := by decide +kernel
theorem dX9_look_13 : decode cX9_look 13 = .ok (.iconst 3, 1) := by decide +kernel
theorem dX9_look_14 : decode cX9_look 14 = .ok (.invokevirtual 186, 3) := by decide +kernel
theorem dX9_look_17 : decode cX9_look 17 = .ok (.iadd, 1) := by decide +kernel
theorem dX9_look_18 : decode cX9_look 18 = .ok (.ifCond .le 6, 3) := by decide +kernel
theorem dX9_look_21 : decode cX9_look 21 = .ok (.bipush (-3), 2) := by decide +kernel
theorem dX9_look_23 : decode cX9_look 23 = .ok (.ireturn, 1) := by decide +kernel
theorem dX9_look_24 : decode cX9_look 24 = .ok (.iconst 0, 1) := by decide +kernel
theorem dX9_look_25 : decode cX9_look 25 = .ok (.istore_n 3, 1) := by decide +kernel
theorem dX9_look_26 : decode cX9_look 26 = .ok (.iload_n 3, 1) := by decide +kernel
theorem dX9_look_27 : decode cX9_look 27 = .ok (.aload_n 0, 1) := by decide +kernel
theorem dX9_look_28 : decode cX9_look 28 = .ok (.getfield 126, 3) := by decide +kernel
theorem dX9_look_31 : decode cX9_look 31 = .ok (.if_icmp .ge 23, 3) := by decide +kernel
theorem dX9_look_34 : decode cX9_look 34 = .ok (.aload_n 0, 1) := by decide +kernel
theorem dX9_look_35 : decode cX9_look 35 = .ok (.getfield 86, 3) := by decide +kernel
theorem dX9_look_38 : decode cX9_look 38 = .ok (.iload_n 3, 1) := by decide +kernel
theorem dX9_look_39 : decode cX9_look 39 = .ok (.iconst 0, 1) := by decide +kernel
theorem dX9_look_40 : decode cX9_look 40 = .ok (.iastore, 1) := by decide +kernel
theorem dX9_look_41 : decode cX9_look 41 = .ok (.aload_n 0, 1) := by decide +kernel
theorem dX9_look_42 : decode cX9_look 42 = .ok (.getfield 77, 3) := by decide +kernel
theorem dX9_look_45 : decode cX9_look 45 = .ok (.iload_n 3, 1) := by decide +kernel
theorem dX9_look_46 : decode cX9_look 46 = .ok (.iconst 0, 1) := by decide +kernel
theorem dX9_look_47 : decode cX9_look 47 = .ok (.bastore, 1) := by decide +kernel
theorem dX9_look_48 : decode cX9_look 48 = .ok (.iinc 3 1, 3) := by decide +kernel
theorem dX9_look_51 : decode cX9_look 51 = .ok (.goto (-25), 3) := by decide +kernel
theorem dX9_look_54 : decode cX9_look 54 = .ok (.iload_n 1, 1) := by decide +kernel
theorem dX9_look_55 : decode cX9_look 55 = .ok (.iconst 1, 1) := by decide +kernel
theorem dX9_look_56 : decode cX9_look 56 = .ok (.if_icmp .ne 30, 3) := by decide +kernel
theorem dX9_look_59 : decode cX9_look 59 = .ok (.aload_n 0, 1) := by decide +kernel
theorem dX9_look_60 : decode cX9_look 60 = .ok (.getfield 86, 3) := by decide +kernel
theorem dX9_look_63 : decode cX9_look 63 = .ok (.iload_n 2, 1) := by decide +kernel
theorem dX9_look_64 : decode cX9_look 64 = .ok (.aload_n 0, 1) := by decide +kernel
theorem dX9_look_65 : decode cX9_look 65 = .ok (.iload_n 2, 1) := by decide +kernel
theorem dX9_look_66 : decode cX9_look 66 = .ok (.invokevirtual 171, 3) := by decide +kernel
theorem dX9_look_69 : decode cX9_look 69 = .ok (.ifCond .eq 7, 3) := by decide +kernel
theorem dX9_look_72 : decode cX9_look 72 = .ok (.iconst 2, 1) := by decide +kernel
theorem dX9_look_73 : decode cX9_look 73 = .ok (.goto 4, 3) := by decide +kernel
theorem dX9_look_76 : decode cX9_look 76 = .ok (.iconst 0, 1) := by decide +kernel
theorem dX9_look_77 : decode cX9_look 77 = .ok (.iastore, 1) := by decide +kernel
theorem dX9_look_78 : decode cX9_look 78 = .ok (.aload_n 0, 1) := by decide +kernel
theorem dX9_look_79 : decode cX9_look 79 = .ok (.iload_n 2, 1) := by decide +kernel
theorem dX9_look_80 : decode cX9_look 80 = .ok (.invokevirtual 190, 3) := by decide +kernel
theorem dX9_look_83 : decode cX9_look 83 = .ok (.goto 269, 3) := by decide +kernel
theorem dX9_look_86 : decode cX9_look 86 = .ok (.aload_n 0, 1) := by decide +kernel
theorem dX9_look_87 : decode cX9_look 87 = .ok (.iload_n 2, 1) := by decide +kernel
theorem dX9_look_88 : decode cX9_look 88 = .ok (.invokevirtual 194, 3) := by decide +kernel
theorem dX9_look_91 : decode cX9_look 91 = .ok (.aload_n 0, 1) := by decide +kernel
theorem dX9_look_92 : decode cX9_look 92 = .ok (.aload_n 0, 1) := by decide +kernel
theorem dX9_look_93 : decode cX9_look 93 = .ok (.getfield 77, 3) := by decide +kernel
theorem dX9_look_96 : decode cX9_look 96 = .ok (.invokevirtual 178, 3) := by decide +kernel
theorem dX9_look_99 : decode cX9_look 99 = .ok (.ifCond .eq 6, 3) := by decide +kernel
theorem dX9_look_102 : decode cX9_look 102 = .ok (.bipush (-4), 2) := by decide +kernel
theorem dX9_look_104 : decode cX9_look 104 = .ok (.ireturn, 1) := by decide +kernel
theorem dX9_look_105 : decode cX9_look 105 = .ok (.aload_n 0, 1) := by decide +kernel
theorem dX9_look_106 : decode cX9_look 106 = .ok (.aload_n 0, 1) := by decide +kernel
theorem dX9_look_107 : decode cX9_look 107 = .ok (.getfield 77, 3) := by decide +kernel
theorem dX9_look_110 : decode cX9_look 110 = .ok (.invokevirtual 182, 3) := by decide +kernel
theorem dX9_look_113 : decode cX9_look 113 = .ok (.istore_n 3, 1) := by decide +kernel
theorem dX9_look_114 : decode cX9_look 114 = .ok (.iload_n 3, 1) := by decide +kernel
theorem dX9_look_115 : decode cX9_look 115 = .ok (.ifCond .le 11, 3) := by decide +kernel
theorem dX9_look_118 : decode cX9_look 118 = .ok (.aload_n 0, 1) := by decide +kernel
theorem dX9_look_119 : decode cX9_look 119 = .ok (.iload_n 3, 1) := by decide +kernel
theorem dX9_look_120 : decode cX9_look 120 = .ok (.putfield 197, 3) := by decide +kernel
theorem dX9_look_123 : decode cX9_look 123 = .ok (.bipush (-5), 2) := by decide +kernel
theorem dX9_look_125 : decode cX9_look 125 = .ok (.ireturn, 1) := by decide +kernel
theorem dX9_look_126 : decode cX9_look 126 = .ok (.aload_n 0, 1) := by decide +kernel
theorem dX9_look_127 : decode cX9_look 127 = .ok (.invokevirtual 200, 3) := by decide +kernel
theorem dX9_look_130 : decode cX9_look 130 = .ok (.iconst 0, 1) := by decide +kernel
theorem dX9_look_131 : decode cX9_look 131 = .ok (.istore 4, 2) := by decide +kernel
theorem dX9_look_133 : decode cX9_look 133 = .ok (.iload 4, 2) := by decide +kernel
theorem dX9_look_135 : decode cX9_look 135 = .ok (.aload_n 0, 1) := by decide +kernel
theorem dX9_look_136 : decode cX9_look 136 = .ok (.getfield 126, 3) := by decide +kernel
theorem dX9_look_139 : decode cX9_look 139 = .ok (.if_icmp .ge 109, 3) := by decide +kernel
theorem dX9_look_142 : decode cX9_look 142 = .ok (.iload_n 1, 1) := by decide +kernel
theorem dX9_look_143 : decode cX9_look 143 = .ok (.iconst 2, 1) := by decide +kernel
theorem dX9_look_144 : decode cX9_look 144 = .ok (.if_icmp .ne 17, 3) := by decide +kernel
theorem dX9_look_147 : decode cX9_look 147 = .ok (.aload_n 0, 1) := by decide +kernel
theorem dX9_look_148 : decode cX9_look 148 = .ok (.getfield 77, 3) := by decide +kernel
theorem dX9_look_151 : decode cX9_look 151 = .ok (.iload 4, 2) := by decide +kernel
theorem dX9_look_153 : decode cX9_look 153 = .ok (.baload, 1) := by decide +kernel
theorem dX9_look_154 : decode cX9_look 154 = .ok (.ifCond .ne 7, 3) := by decide +kernel
theorem dX9_look_157 : decode cX9_look 157 = .ok (.iconst 1, 1) := by decide +kernel
theorem dX9_look_158 : decode cX9_look 158 = .ok (.goto 4, 3) := by decide +kernel
theorem dX9_look_161 : decode cX9_look 161 = .ok (.iconst 0, 1) := by decide +kernel
theorem dX9_look_162 : decode cX9_look 162 = .ok (.istore 5, 2) := by decide +kernel
theorem dX9_look_164 : decode cX9_look 164 = .ok (.iconst 0, 1) := by decide +kernel
theorem dX9_look_165 : decode cX9_look 165 = .ok (.istore 6, 2) := by decide +kernel
theorem dX9_look_167 : decode cX9_look 167 = .ok (.iload 6, 2) := by decide +kernel
theorem dX9_look_169 : decode cX9_look 169 = .ok (.aload_n 0, 1) := by decide +kernel
theorem dX9_look_170 : decode cX9_look 170 = .ok (.getfield 126, 3) := by decide +kernel
theorem dX9_look_173 : decode cX9_look 173 = .ok (.if_icmp .ge 43, 3) := by decide +kernel
theorem dX9_look_176 : decode cX9_look 176 = .ok (.iload 5, 2) := by decide +kernel
theorem dX9_look_178 : decode cX9_look 178 = .ok (.ifCond .ne 25, 3) := by decide +kernel
theorem dX9_look_181 : decode cX9_look 181 = .ok (.aload_n 0, 1) := by decide +kernel
theorem dX9_look_182 : decode cX9_look 182 = .ok (.getfield 77, 3) := by decide +kernel
theorem dX9_look_185 : decode cX9_look 185 = .ok (.iload 6, 2) := by decide +kernel
theorem dX9_look_187 : decode cX9_look 187 = .ok (.baload, 1) := by decide +kernel
theorem dX9_look_188 : decode cX9_look 188 = .ok (.ifCond .eq 19, 3) := by decide +kernel
theorem dX9_look_191 : decode cX9_look 191 = .ok (.aload_n 0, 1) := by decide +kernel
theorem dX9_look_192 : decode cX9_look 192 = .ok (.iconst 3, 1) := by decide +kernel
theorem dX9_look_193 : decode cX9_look 193 = .ok (.iload 4, 2) := by decide +kernel
theorem dX9_look_195 : decode cX9_look 195 = .ok (.iload 6, 2) := by decide +kernel
theorem dX9_look_197 : decode cX9_look 197 = .ok (.invokevirtual 150, 3) := by decide +kernel
theorem dX9_look_200 : decode cX9_look 200 = .ok (.ifCond .eq 7, 3) := by decide +kernel
theorem dX9_look_203 : decode cX9_look 203 = .ok (.iconst 1, 1) := by decide +kernel
theorem dX9_look_204 : decode cX9_look 204 = .ok (.goto 4, 3) := by decide +kernel
theorem dX9_look_207 : decode cX9_look 207 = .ok (.iconst 0, 1) := by decide +kernel
theorem dX9_look_208 : decode cX9_look 208 = .ok (.istore 5, 2) := by decide +kernel
theorem dX9_look_210 : decode cX9_look 210 = .ok (.iinc 6 1, 3) := by decide +kernel
theorem dX9_look_213 : decode cX9_look 213 = .ok (.goto (-46), 3) := by decide +kernel
theorem dX9_look_216 : decode cX9_look 216 = .ok (.aload_n 0, 1) := by decide +kernel
theorem dX9_look_217 : decode cX9_look 217 = .ok (.getfield 86, 3) := by decide +kernel
theorem dX9_look_220 : decode cX9_look 220 = .ok (.iload 4, 2) := by decide +kernel
theorem dX9_look_222 : decode cX9_look 222 = .ok (.iload 5, 2) := by decide +kernel
theorem dX9_look_224 : decode cX9_look 224 = .ok (.ifCond .eq 16, 3) := by decide +kernel
theorem dX9_look_227 : decode cX9_look 227 = .ok (.aload_n 0, 1) := by decide +kernel
theorem dX9_look_228 : decode cX9_look 228 = .ok (.iload 4, 2) := by decide +kernel
theorem dX9_look_230 : decode cX9_look 230 = .ok (.invokevirtual 171, 3) := by decide +kernel
theorem dX9_look_233 : decode cX9_look 233 = .ok (.ifCond .eq 7, 3) := by decide +kernel
theorem dX9_look_236 : decode cX9_look 236 = .ok (.iconst 2, 1) := by decide +kernel
theorem dX9_look_237 : decode cX9_look 237 = .ok (.goto 4, 3) := by decide +kernel
theorem dX9_look_240 : decode cX9_look 240 = .ok (.iconst 0, 1) := by decide +kernel
theorem dX9_look_241 : decode cX9_look 241 = .ok (.iastore, 1) := by decide +kernel
theorem dX9_look_242 : decode cX9_look 242 = .ok (.iinc 4 1, 3) := by decide +kernel
theorem dX9_look_245 : decode cX9_look 245 = .ok (.goto (-112), 3) := by decide +kernel
theorem dX9_look_248 : decode cX9_look 248 = .ok (.aload_n 0, 1) := by decide +kernel
theorem dX9_look_249 : decode cX9_look 249 = .ok (.iconst (-1), 1) := by decide +kernel
theorem dX9_look_250 : decode cX9_look 250 = .ok (.invokevirtual 190, 3) := by decide +kernel
theorem dX9_look_253 : decode cX9_look 253 = .ok (.iconst 0, 1) := by decide +kernel
theorem dX9_look_254 : decode cX9_look 254 = .ok (.istore 4, 2) := by decide +kernel
theorem dX9_look_256 : decode cX9_look 256 = .ok (.iload 4, 2) := by decide +kernel
theorem dX9_look_258 : decode cX9_look 258 = .ok (.aload_n 0, 1) := by decide +kernel
theorem dX9_look_259 : decode cX9_look 259 = .ok (.getfield 126, 3) := by decide +kernel
theorem dX9_look_262 : decode cX9_look 262 = .ok (.if_icmp .ge 33, 3) := by decide +kernel
theorem dX9_look_265 : decode cX9_look 265 = .ok (.aload_n 0, 1) := by decide +kernel
theorem dX9_look_266 : decode cX9_look 266 = .ok (.getfield 77, 3) := by decide +kernel
theorem dX9_look_269 : decode cX9_look 269 = .ok (.iload 4, 2) := by decide +kernel
theorem dX9_look_271 : decode cX9_look 271 = .ok (.baload, 1) := by decide +kernel
theorem dX9_look_272 : decode cX9_look 272 = .ok (.ifCond .eq 17, 3) := by decide +kernel
theorem dX9_look_275 : decode cX9_look 275 = .ok (.aload_n 0, 1) := by decide +kernel
theorem dX9_look_276 : decode cX9_look 276 = .ok (.getfield 86, 3) := by decide +kernel
theorem dX9_look_279 : decode cX9_look 279 = .ok (.iload 4, 2) := by decide +kernel
theorem dX9_look_281 : decode cX9_look 281 = .ok (.iaload, 1) := by decide +kernel
theorem dX9_look_282 : decode cX9_look 282 = .ok (.iconst 2, 1) := by decide +kernel
theorem dX9_look_283 : decode cX9_look 283 = .ok (.if_icmp .ne 6, 3) := by decide +kernel
theorem dX9_look_286 : decode cX9_look 286 = .ok (.bipush (-4), 2) := by decide +kernel
theorem dX9_look_288 : decode cX9_look 288 = .ok (.ireturn, 1) := by decide +kernel
theorem dX9_look_289 : decode cX9_look 289 = .ok (.iinc 4 1, 3) := by decide +kernel
theorem dX9_look_292 : decode cX9_look 292 = .ok (.goto (-36), 3) := by decide +kernel
theorem dX9_look_295 : decode cX9_look 295 = .ok (.iconst 0, 1) := by decide +kernel
theorem dX9_look_296 : decode cX9_look 296 = .ok (.istore 4, 2) := by decide +kernel
theorem dX9_look_298 : decode cX9_look 298 = .ok (.iload 4, 2) := by decide +kernel
theorem dX9_look_300 : decode cX9_look 300 = .ok (.aload_n 0, 1) := by decide +kernel
theorem dX9_look_301 : decode cX9_look 301 = .ok (.getfield 126, 3) := by decide +kernel
theorem dX9_look_304 : decode cX9_look 304 = .ok (.if_icmp .ge 48, 3) := by decide +kernel
theorem dX9_look_307 : decode cX9_look 307 = .ok (.aload_n 0, 1) := by decide +kernel
theorem dX9_look_308 : decode cX9_look 308 = .ok (.getfield 86, 3) := by decide +kernel
theorem dX9_look_311 : decode cX9_look 311 = .ok (.iload 4, 2) := by decide +kernel
theorem dX9_look_313 : decode cX9_look 313 = .ok (.aload_n 0, 1) := by decide +kernel
theorem dX9_look_314 : decode cX9_look 314 = .ok (.getfield 77, 3) := by decide +kernel
theorem dX9_look_317 : decode cX9_look 317 = .ok (.iload 4, 2) := by decide +kernel
theorem dX9_look_319 : decode cX9_look 319 = .ok (.baload, 1) := by decide +kernel
theorem dX9_look_320 : decode cX9_look 320 = .ok (.ifCond .eq 18, 3) := by decide +kernel
theorem dX9_look_323 : decode cX9_look 323 = .ok (.aload_n 0, 1) := by decide +kernel
theorem dX9_look_324 : decode cX9_look 324 = .ok (.getfield 31, 3) := by decide +kernel
theorem dX9_look_327 : decode cX9_look 327 = .ok (.iload 4, 2) := by decide +kernel
theorem dX9_look_329 : decode cX9_look 329 = .ok (.iaload, 1) := by decide +kernel
theorem dX9_look_330 : decode cX9_look 330 = .ok (.iconst 2, 1) := by decide +kernel
theorem dX9_look_331 : decode cX9_look 331 = .ok (.if_icmp .eq 7, 3) := by decide +kernel
theorem dX9_look_334 : decode cX9_look 334 = .ok (.iconst 1, 1) := by decide +kernel
theorem dX9_look_335 : decode cX9_look 335 = .ok (.goto 10, 3) := by decide +kernel
theorem dX9_look_338 : decode cX9_look 338 = .ok (.aload_n 0, 1) := by decide +kernel
theorem dX9_look_339 : decode cX9_look 339 = .ok (.getfield 86, 3) := by decide +kernel
theorem dX9_look_342 : decode cX9_look 342 = .ok (.iload 4, 2) := by decide +kernel
theorem dX9_look_344 : decode cX9_look 344 = .ok (.iaload, 1) := by decide +kernel
theorem dX9_look_345 : decode cX9_look 345 = .ok (.iastore, 1) := by decide +kernel
theorem dX9_look_346 : decode cX9_look 346 = .ok (.iinc 4 1, 3) := by decide +kernel
theorem dX9_look_349 : decode cX9_look 349 = .ok (.goto (-51), 3) := by decide +kernel
theorem dX9_look_352 : decode cX9_look 352 = .ok (.aload_n 0, 1) := by decide +kernel
theorem dX9_look_353 : decode cX9_look 353 = .ok (.aload_n 0, 1) := by decide +kernel
theorem dX9_look_354 : decode cX9_look 354 = .ok (.getfield 86, 3) := by decide +kernel
theorem dX9_look_357 : decode cX9_look 357 = .ok (.invokevirtual 203, 3) := by decide +kernel
theorem dX9_look_360 : decode cX9_look 360 = .ok (.istore_n 3, 1) := by decide +kernel
theorem dX9_look_361 : decode cX9_look 361 = .ok (.iload_n 3, 1) := by decide +kernel
theorem dX9_look_362 : decode cX9_look 362 = .ok (.ifCond .le 11, 3) := by decide +kernel
theorem dX9_look_365 : decode cX9_look 365 = .ok (.aload_n 0, 1) := by decide +kernel
theorem dX9_look_366 : decode cX9_look 366 = .ok (.iload_n 3, 1) := by decide +kernel
theorem dX9_look_367 : decode cX9_look 367 = .ok (.putfield 197, 3) := by decide +kernel
theorem dX9_look_370 : decode cX9_look 370 = .ok (.bipush (-5), 2) := by decide +kernel
theorem dX9_look_372 : decode cX9_look 372 = .ok (.ireturn, 1) := by decide +kernel
theorem dX9_look_373 : decode cX9_look 373 = .ok (.iconst 0, 1) := by decide +kernel
theorem dX9_look_374 : decode cX9_look 374 = .ok (.ireturn, 1) := by decide +kernel
theorem dX9_order_0 : decode cX9_order 0 = .ok (.iload_n 1, 1) := by decide +kernel
theorem dX9_order_1 : decode cX9_order 1 = .ok (.ifCond .lt 16, 3) := by decide +kernel
theorem dX9_order_4 : decode cX9_order 4 = .ok (.iload_n 1, 1) := by decide +kernel
theorem dX9_order_5 : decode cX9_order 5 = .ok (.iconst 2, 1) := by decide +kernel
theorem dX9_order_6 : decode cX9_order 6 = .ok (.if_icmp .gt 11, 3) := by decide +kernel
theorem dX9_order_9 : decode cX9_order 9 = .ok (.aload_n 0, 1) := by decide +kernel
theorem dX9_order_10 : decode cX9_order 10 = .ok (.iload_n 2, 1) := by decide +kernel
theorem dX9_order_11 : decode cX9_order 11 = .ok (.invokevirtual 135, 3) := by decide +kernel
theorem dX9_order_14 : decode cX9_order 14 = .ok (.ifCond .ne 5, 3) := by decide +kernel
theorem dX9_order_17 : decode cX9_order 17 = .ok (.iconst (-1), 1) := by decide +kernel
theorem dX9_order_18 : decode cX9_order 18 = .ok (.ireturn, 1) := by decide +kernel
theorem dX9_order_19 : decode cX9_order 19 = .ok (.aload_n 0, 1) := by decide +kernel
theorem dX9_order_20 : decode cX9_order 20 = .ok (.iload_n 1, 1) := by decide +kernel
theorem dX9_order_21 : decode cX9_order 21 = .ok (.iload_n 2, 1) := by decide +kernel
theorem dX9_order_22 : decode cX9_order 22 = .ok (.invokevirtual 207, 3) := by decide +kernel
theorem dX9_order_25 : decode cX9_order 25 = .ok (.istore_n 3, 1) := by decide +kernel
theorem dX9_order_26 : decode cX9_order 26 = .ok (.iload_n 3, 1) := by decide +kernel
theorem dX9_order_27 : decode cX9_order 27 = .ok (.ifCond .eq 5, 3) := by decide +kernel
theorem dX9_order_30 : decode cX9_order 30 = .ok (.iload_n 3, 1) := by decide +kernel
theorem dX9_order_31 : decode cX9_order 31 = .ok (.ireturn, 1) := by decide +kernel
theorem dX9_order_32 : decode cX9_order 32 = .ok (.iconst 0, 1) := by decide +kernel
theorem dX9_order_33 : decode cX9_order 33 = .ok (.istore 4, 2) := by decide +kernel
theorem dX9_order_35 : decode cX9_order 35 = .ok (.iload 4, 2) := by decide +kernel
theorem dX9_order_37 : decode cX9_order 37 = .ok (.aload_n 0, 1) := by decide +kernel
theorem dX9_order_38 : decode cX9_order 38 = .ok (.getfield 126, 3) := by decide +kernel
theorem dX9_order_41 : decode cX9_order 41 = .ok (.if_icmp .ge 59, 3) := by decide +kernel
theorem dX9_order_44 : decode cX9_order 44 = .ok (.aload_n 0, 1) := by decide +kernel
theorem dX9_order_45 : decode cX9_order 45 = .ok (.getfield 77, 3) := by decide +kernel
theorem dX9_order_48 : decode cX9_order 48 = .ok (.iload 4, 2) := by decide +kernel
theorem dX9_order_50 : decode cX9_order 50 = .ok (.baload, 1) := by decide +kernel
theorem dX9_order_51 : decode cX9_order 51 = .ok (.ifCond .eq 21, 3) := by decide +kernel
theorem dX9_order_54 : decode cX9_order 54 = .ok (.aload_n 0, 1) := by decide +kernel
theorem dX9_order_55 : decode cX9_order 55 = .ok (.getfield 31, 3) := by decide +kernel
theorem dX9_order_58 : decode cX9_order 58 = .ok (.iload 4, 2) := by decide +kernel
theorem dX9_order_60 : decode cX9_order 60 = .ok (.iaload, 1) := by decide +kernel
theorem dX9_order_61 : decode cX9_order 61 = .ok (.iconst 5, 1) := by decide +kernel
theorem dX9_order_62 : decode cX9_order 62 = .ok (.if_icmp .ne 10, 3) := by decide +kernel
theorem dX9_order_65 : decode cX9_order 65 = .ok (.aload_n 0, 1) := by decide +kernel
theorem dX9_order_66 : decode cX9_order 66 = .ok (.iload 4, 2) := by decide +kernel
theorem dX9_order_68 : decode cX9_order 68 = .ok (.iconst 0, 1) := by decide +kernel
theorem dX9_order_69 : decode cX9_order 69 = .ok (.invokevirtual 211, 3) := by decide +kernel
theorem dX9_order_72 : decode cX9_order 72 = .ok (.aload_n 0, 1) := by decide +kernel
theorem dX9_order_73 : decode cX9_order 73 = .ok (.getfield 71, 3) := by decide +kernel
theorem dX9_order_76 : decode cX9_order 76 = .ok (.iload 4, 2) := by decide +kernel
theorem dX9_order_78 : decode cX9_order 78 = .ok (.aload_n 0, 1) := by decide +kernel
theorem dX9_order_79 : decode cX9_order 79 = .ok (.getfield 86, 3) := by decide +kernel
theorem dX9_order_82 : decode cX9_order 82 = .ok (.iload 4, 2) := by decide +kernel
theorem dX9_order_84 : decode cX9_order 84 = .ok (.iaload, 1) := by decide +kernel
theorem dX9_order_85 : decode cX9_order 85 = .ok (.iastore, 1) := by decide +kernel
theorem dX9_order_86 : decode cX9_order 86 = .ok (.aload_n 0, 1) := by decide +kernel
theorem dX9_order_87 : decode cX9_order 87 = .ok (.getfield 74, 3) := by decide +kernel
theorem dX9_order_90 : decode cX9_order 90 = .ok (.iload 4, 2) := by decide +kernel
theorem dX9_order_92 : decode cX9_order 92 = .ok (.iconst 0, 1) := by decide +kernel
theorem dX9_order_93 : decode cX9_order 93 = .ok (.bastore, 1) := by decide +kernel
theorem dX9_order_94 : decode cX9_order 94 = .ok (.iinc 4 1, 3) := by decide +kernel
theorem dX9_order_97 : decode cX9_order 97 = .ok (.goto (-62), 3) := by decide +kernel
theorem dX9_order_100 : decode cX9_order 100 = .ok (.aload_n 0, 1) := by decide +kernel
theorem dX9_order_101 : decode cX9_order 101 = .ok (.invokevirtual 215, 3) := by decide +kernel
theorem dX9_order_104 : decode cX9_order 104 = .ok (.aload_n 0, 1) := by decide +kernel
theorem dX9_order_105 : decode cX9_order 105 = .ok (.getfield 86, 3) := by decide +kernel
theorem dX9_order_108 : decode cX9_order 108 = .ok (.aload_n 0, 1) := by decide +kernel
theorem dX9_order_109 : decode cX9_order 109 = .ok (.getfield 126, 3) := by decide +kernel
theorem dX9_order_112 : decode cX9_order 112 = .ok (.invokestatic 218, 3) := by decide +kernel
theorem dX9_order_115 : decode cX9_order 115 = .ok (.ireturn, 1) := by decide +kernel
theorem dX9_letter_0 : decode cX9_letter 0 = .ok (.aload_n 0, 1) := by decide +kernel
theorem dX9_letter_1 : decode cX9_letter 1 = .ok (.iload_n 1, 1) := by decide +kernel
theorem dX9_letter_2 : decode cX9_letter 2 = .ok (.invokevirtual 135, 3) := by decide +kernel
theorem dX9_letter_5 : decode cX9_letter 5 = .ok (.ifCond .ne 5, 3) := by decide +kernel
theorem dX9_letter_8 : decode cX9_letter 8 = .ok (.iconst (-1), 1) := by decide +kernel
theorem dX9_letter_9 : decode cX9_letter 9 = .ok (.ireturn, 1) := by decide +kernel
theorem dX9_letter_10 : decode cX9_letter 10 = .ok (.aload_n 0, 1) := by decide +kernel
theorem dX9_letter_11 : decode cX9_letter 11 = .ok (.getfield 9, 3) := by decide +kernel
theorem dX9_letter_14 : decode cX9_letter 14 = .ok (.iload_n 1, 1) := by decide +kernel
theorem dX9_letter_15 : decode cX9_letter 15 = .ok (.iaload, 1) := by decide +kernel
theorem dX9_letter_16 : decode cX9_letter 16 = .ok (.iconst 2, 1) := by decide +kernel
theorem dX9_letter_17 : decode cX9_letter 17 = .ok (.if_icmp .eq 6, 3) := by decide +kernel
theorem dX9_letter_20 : decode cX9_letter 20 = .ok (.bipush (-2), 2) := by decide +kernel
theorem dX9_letter_22 : decode cX9_letter 22 = .ok (.ireturn, 1) := by decide +kernel
theorem dX9_letter_23 : decode cX9_letter 23 = .ok (.aload_n 0, 1) := by decide +kernel
theorem dX9_letter_24 : decode cX9_letter 24 = .ok (.getfield 65, 3) := by decide +kernel
theorem dX9_letter_27 : decode cX9_letter 27 = .ok (.iload_n 1, 1) := by decide +kernel
theorem dX9_letter_28 : decode cX9_letter 28 = .ok (.iaload, 1) := by decide +kernel
theorem dX9_letter_29 : decode cX9_letter 29 = .ok (.bipush 20, 2) := by decide +kernel
theorem dX9_letter_31 : decode cX9_letter 31 = .ok (.if_icmp .ne 6, 3) := by decide +kernel
theorem dX9_letter_34 : decode cX9_letter 34 = .ok (.bipush (-6), 2) := by decide +kernel
theorem dX9_letter_36 : decode cX9_letter 36 = .ok (.ireturn, 1) := by decide +kernel
theorem dX9_letter_37 : decode cX9_letter 37 = .ok (.aload_n 0, 1) := by decide +kernel
theorem dX9_letter_38 : decode cX9_letter 38 = .ok (.getfield 62, 3) := by decide +kernel
theorem dX9_letter_41 : decode cX9_letter 41 = .ok (.bipush 20, 2) := by decide +kernel
theorem dX9_letter_43 : decode cX9_letter 43 = .ok (.iload_n 1, 1) := by decide +kernel
theorem dX9_letter_44 : decode cX9_letter 44 = .ok (.imul, 1) := by decide +kernel
theorem dX9_letter_45 : decode cX9_letter 45 = .ok (.aload_n 0, 1) := by decide +kernel
theorem dX9_letter_46 : decode cX9_letter 46 = .ok (.getfield 65, 3) := by decide +kernel
theorem dX9_letter_49 : decode cX9_letter 49 = .ok (.iload_n 1, 1) := by decide +kernel
theorem dX9_letter_50 : decode cX9_letter 50 = .ok (.iaload, 1) := by decide +kernel
theorem dX9_letter_51 : decode cX9_letter 51 = .ok (.iadd, 1) := by decide +kernel
theorem dX9_letter_52 : decode cX9_letter 52 = .ok (.aload_n 0, 1) := by decide +kernel
theorem dX9_letter_53 : decode cX9_letter 53 = .ok (.getfield 249, 3) := by decide +kernel
theorem dX9_letter_56 : decode cX9_letter 56 = .ok (.iastore, 1) := by decide +kernel
theorem dX9_letter_57 : decode cX9_letter 57 = .ok (.aload_n 0, 1) := by decide +kernel
theorem dX9_letter_58 : decode cX9_letter 58 = .ok (.getfield 65, 3) := by decide +kernel
theorem dX9_letter_61 : decode cX9_letter 61 = .ok (.iload_n 1, 1) := by decide +kernel
theorem dX9_letter_62 : decode cX9_letter 62 = .ok (.dup2, 1) := by decide +kernel
theorem dX9_letter_63 : decode cX9_letter 63 = .ok (.iaload, 1) := by decide +kernel
theorem dX9_letter_64 : decode cX9_letter 64 = .ok (.iconst 1, 1) := by decide +kernel
theorem dX9_letter_65 : decode cX9_letter 65 = .ok (.iadd, 1) := by decide +kernel
theorem dX9_letter_66 : decode cX9_letter 66 = .ok (.iastore, 1) := by decide +kernel
theorem dX9_letter_67 : decode cX9_letter 67 = .ok (.aload_n 0, 1) := by decide +kernel
theorem dX9_letter_68 : decode cX9_letter 68 = .ok (.dup, 1) := by decide +kernel
theorem dX9_letter_69 : decode cX9_letter 69 = .ok (.getfield 249, 3) := by decide +kernel
theorem dX9_letter_72 : decode cX9_letter 72 = .ok (.iconst 1, 1) := by decide +kernel
theorem dX9_letter_73 : decode cX9_letter 73 = .ok (.iadd, 1) := by decide +kernel
theorem dX9_letter_74 : decode cX9_letter 74 = .ok (.putfield 249, 3) := by decide +kernel
theorem dX9_letter_77 : decode cX9_letter 77 = .ok (.aload_n 0, 1) := by decide +kernel
theorem dX9_letter_78 : decode cX9_letter 78 = .ok (.getfield 31, 3) := by decide +kernel
theorem dX9_letter_81 : decode cX9_letter 81 = .ok (.iload_n 1, 1) := by decide +kernel
theorem dX9_letter_82 : decode cX9_letter 82 = .ok (.iaload, 1) := by decide +kernel
theorem dX9_letter_83 : decode cX9_letter 83 = .ok (.ifCond .ne 20, 3) := by decide +kernel
theorem dX9_letter_86 : decode cX9_letter 86 = .ok (.aload_n 0, 1) := by decide +kernel
theorem dX9_letter_87 : decode cX9_letter 87 = .ok (.getfield 197, 3) := by decide +kernel
theorem dX9_letter_90 : decode cX9_letter 90 = .ok (.istore_n 2, 1) := by decide +kernel
theorem dX9_letter_91 : decode cX9_letter 91 = .ok (.aload_n 0, 1) := by decide +kernel
theorem dX9_letter_92 : decode cX9_letter 92 = .ok (.iconst 0, 1) := by decide +kernel
theorem dX9_letter_93 : decode cX9_letter 93 = .ok (.iload_n 1, 1) := by decide +kernel
theorem dX9_letter_94 : decode cX9_letter 94 = .ok (.invokevirtual 252, 3) := by decide +kernel
theorem dX9_letter_97 : decode cX9_letter 97 = .ok (.istore_n 3, 1) := by decide +kernel
theorem dX9_letter_98 : decode cX9_letter 98 = .ok (.aload_n 0, 1) := by decide +kernel
theorem dX9_letter_99 : decode cX9_letter 99 = .ok (.iload_n 2, 1) := by decide +kernel
theorem dX9_letter_100 : decode cX9_letter 100 = .ok (.putfield 197, 3) := by decide +kernel
theorem dX9_letter_103 : decode cX9_letter 103 = .ok (.aload_n 0, 1) := by decide +kernel
theorem dX9_letter_104 : decode cX9_letter 104 = .ok (.getfield 249, 3) := by decide +kernel
theorem dX9_letter_107 : decode cX9_letter 107 = .ok (.iconst 1, 1) := by decide +kernel
theorem dX9_letter_108 : decode cX9_letter 108 = .ok (.isub, 1) := by decide +kernel
theorem dX9_letter_109 : decode cX9_letter 109 = .ok (.ireturn, 1) := by decide +kernel
theorem dX9_oneTick_0 : decode cX9_oneTick 0 = .ok (.aload_n 0, 1) := by decide +kernel
theorem dX9_oneTick_1 : decode cX9_oneTick 1 = .ok (.dup, 1) := by decide +kernel
theorem dX9_oneTick_2 : decode cX9_oneTick 2 = .ok (.getfield 129, 3) := by decide +kernel
theorem dX9_oneTick_5 : decode cX9_oneTick 5 = .ok (.iconst 1, 1) := by decide +kernel
theorem dX9_oneTick_6 : decode cX9_oneTick 6 = .ok (.iadd, 1) := by decide +kernel
theorem dX9_oneTick_7 : decode cX9_oneTick 7 = .ok (.putfield 129, 3) := by decide +kernel
theorem dX9_oneTick_10 : decode cX9_oneTick 10 = .ok (.iconst 0, 1) := by decide +kernel
theorem dX9_oneTick_11 : decode cX9_oneTick 11 = .ok (.istore_n 1, 1) := by decide +kernel
theorem dX9_oneTick_12 : decode cX9_oneTick 12 = .ok (.iload_n 1, 1) := by decide +kernel
theorem dX9_oneTick_13 : decode cX9_oneTick 13 = .ok (.aload_n 0, 1) := by decide +kernel
theorem dX9_oneTick_14 : decode cX9_oneTick 14 = .ok (.getfield 126, 3) := by decide +kernel
theorem dX9_oneTick_17 : decode cX9_oneTick 17 = .ok (.if_icmp .ge 14, 3) := by decide +kernel
theorem dX9_oneTick_20 : decode cX9_oneTick 20 = .ok (.aload_n 0, 1) := by decide +kernel
theorem dX9_oneTick_21 : decode cX9_oneTick 21 = .ok (.iload_n 1, 1) := by decide +kernel
theorem dX9_oneTick_22 : decode cX9_oneTick 22 = .ok (.invokevirtual 240, 3) := by decide +kernel
theorem dX9_oneTick_25 : decode cX9_oneTick 25 = .ok (.iinc 1 1, 3) := by decide +kernel
theorem dX9_oneTick_28 : decode cX9_oneTick 28 = .ok (.goto (-16), 3) := by decide +kernel
theorem dX9_oneTick_31 : decode cX9_oneTick 31 = .ok (.iconst 0, 1) := by decide +kernel
theorem dX9_oneTick_32 : decode cX9_oneTick 32 = .ok (.istore_n 1, 1) := by decide +kernel
theorem dX9_oneTick_33 : decode cX9_oneTick 33 = .ok (.iload_n 1, 1) := by decide +kernel
theorem dX9_oneTick_34 : decode cX9_oneTick 34 = .ok (.aload_n 0, 1) := by decide +kernel
theorem dX9_oneTick_35 : decode cX9_oneTick 35 = .ok (.getfield 126, 3) := by decide +kernel
theorem dX9_oneTick_38 : decode cX9_oneTick 38 = .ok (.if_icmp .ge 61, 3) := by decide +kernel
theorem dX9_oneTick_41 : decode cX9_oneTick 41 = .ok (.aload_n 0, 1) := by decide +kernel
theorem dX9_oneTick_42 : decode cX9_oneTick 42 = .ok (.getfield 31, 3) := by decide +kernel
theorem dX9_oneTick_45 : decode cX9_oneTick 45 = .ok (.iload_n 1, 1) := by decide +kernel
theorem dX9_oneTick_46 : decode cX9_oneTick 46 = .ok (.iaload, 1) := by decide +kernel
theorem dX9_oneTick_47 : decode cX9_oneTick 47 = .ok (.iconst 1, 1) := by decide +kernel
theorem dX9_oneTick_48 : decode cX9_oneTick 48 = .ok (.if_icmp .eq 13, 3) := by decide +kernel
theorem dX9_oneTick_51 : decode cX9_oneTick 51 = .ok (.aload_n 0, 1) := by decide +kernel
theorem dX9_oneTick_52 : decode cX9_oneTick 52 = .ok (.getfield 31, 3) := by decide +kernel
theorem dX9_oneTick_55 : decode cX9_oneTick 55 = .ok (.iload_n 1, 1) := by decide +kernel
theorem dX9_oneTick_56 : decode cX9_oneTick 56 = .ok (.iaload, 1) := by decide +kernel
theorem dX9_oneTick_57 : decode cX9_oneTick 57 = .ok (.iconst 2, 1) := by decide +kernel
theorem dX9_oneTick_58 : decode cX9_oneTick 58 = .ok (.if_icmp .ne 35, 3) := by decide +kernel
theorem dX9_oneTick_61 : decode cX9_oneTick 61 = .ok (.aload_n 0, 1) := by decide +kernel
theorem dX9_oneTick_62 : decode cX9_oneTick 62 = .ok (.iload_n 1, 1) := by decide +kernel
theorem dX9_oneTick_63 : decode cX9_oneTick 63 = .ok (.invokevirtual 231, 3) := by decide +kernel
theorem dX9_oneTick_66 : decode cX9_oneTick 66 = .ok (.ifCond .ne 27, 3) := by decide +kernel
theorem dX9_oneTick_69 : decode cX9_oneTick 69 = .ok (.aload_n 0, 1) := by decide +kernel
theorem dX9_oneTick_70 : decode cX9_oneTick 70 = .ok (.iload_n 1, 1) := by decide +kernel
theorem dX9_oneTick_71 : decode cX9_oneTick 71 = .ok (.aload_n 0, 1) := by decide +kernel
theorem dX9_oneTick_72 : decode cX9_oneTick 72 = .ok (.getfield 16, 3) := by decide +kernel
theorem dX9_oneTick_75 : decode cX9_oneTick 75 = .ok (.iload_n 1, 1) := by decide +kernel
theorem dX9_oneTick_76 : decode cX9_oneTick 76 = .ok (.iaload, 1) := by decide +kernel
theorem dX9_oneTick_77 : decode cX9_oneTick 77 = .ok (.ifCond .ne 7, 3) := by decide +kernel
theorem dX9_oneTick_80 : decode cX9_oneTick 80 = .ok (.iconst 0, 1) := by decide +kernel
theorem dX9_oneTick_81 : decode cX9_oneTick 81 = .ok (.goto 4, 3) := by decide +kernel
theorem dX9_oneTick_84 : decode cX9_oneTick 84 = .ok (.iconst 3, 1) := by decide +kernel
theorem dX9_oneTick_85 : decode cX9_oneTick 85 = .ok (.invokevirtual 211, 3) := by decide +kernel
theorem dX9_oneTick_88 : decode cX9_oneTick 88 = .ok (.iconst 0, 1) := by decide +kernel
theorem dX9_oneTick_89 : decode cX9_oneTick 89 = .ok (.istore_n 1, 1) := by decide +kernel
theorem dX9_oneTick_90 : decode cX9_oneTick 90 = .ok (.goto (-57), 3) := by decide +kernel
theorem dX9_oneTick_93 : decode cX9_oneTick 93 = .ok (.iinc 1 1, 3) := by decide +kernel
theorem dX9_oneTick_96 : decode cX9_oneTick 96 = .ok (.goto (-63), 3) := by decide +kernel
theorem dX9_oneTick_99 : decode cX9_oneTick 99 = .ok (.iconst 0, 1) := by decide +kernel
theorem dX9_oneTick_100 : decode cX9_oneTick 100 = .ok (.istore_n 2, 1) := by decide +kernel
theorem dX9_oneTick_101 : decode cX9_oneTick 101 = .ok (.iload_n 2, 1) := by decide +kernel
theorem dX9_oneTick_102 : decode cX9_oneTick 102 = .ok (.aload_n 0, 1) := by decide +kernel
theorem dX9_oneTick_103 : decode cX9_oneTick 103 = .ok (.getfield 126, 3) := by decide +kernel
theorem dX9_oneTick_106 : decode cX9_oneTick 106 = .ok (.if_icmp .ge 125, 3) := by decide +kernel
theorem dX9_oneTick_109 : decode cX9_oneTick 109 = .ok (.aload_n 0, 1) := by decide +kernel
theorem dX9_oneTick_110 : decode cX9_oneTick 110 = .ok (.getfield 9, 3) := by decide +kernel
theorem dX9_oneTick_113 : decode cX9_oneTick 113 = .ok (.iload_n 2, 1) := by decide +kernel
theorem dX9_oneTick_114 : decode cX9_oneTick 114 = .ok (.iaload, 1) := by decide +kernel
theorem dX9_oneTick_115 : decode cX9_oneTick 115 = .ok (.iconst 2, 1) := by decide +kernel
theorem dX9_oneTick_116 : decode cX9_oneTick 116 = .ok (.if_icmp .ne 109, 3) := by decide +kernel
theorem dX9_oneTick_119 : decode cX9_oneTick 119 = .ok (.aload_n 0, 1) := by decide +kernel
theorem dX9_oneTick_120 : decode cX9_oneTick 120 = .ok (.getfield 31, 3) := by decide +kernel
theorem dX9_oneTick_123 : decode cX9_oneTick 123 = .ok (.iload_n 2, 1) := by decide +kernel
theorem dX9_oneTick_124 : decode cX9_oneTick 124 = .ok (.iaload, 1) := by decide +kernel
theorem dX9_oneTick_125 : decode cX9_oneTick 125 = .ok (.iconst 2, 1) := by decide +kernel
theorem dX9_oneTick_126 : decode cX9_oneTick 126 = .ok (.if_icmp .ne 99, 3) := by decide +kernel
theorem dX9_oneTick_129 : decode cX9_oneTick 129 = .ok (.aload_n 0, 1) := by decide +kernel
theorem dX9_oneTick_130 : decode cX9_oneTick 130 = .ok (.getfield 65, 3) := by decide +kernel
theorem dX9_oneTick_133 : decode cX9_oneTick 133 = .ok (.iload_n 2, 1) := by decide +kernel
theorem dX9_oneTick_134 : decode cX9_oneTick 134 = .ok (.iaload, 1) := by decide +kernel
theorem dX9_oneTick_135 : decode cX9_oneTick 135 = .ok (.ifCond .le 90, 3) := by decide +kernel
theorem dX9_oneTick_138 : decode cX9_oneTick 138 = .ok (.aload_n 0, 1) := by decide +kernel
theorem dX9_oneTick_139 : decode cX9_oneTick 139 = .ok (.getfield 59, 3) := by decide +kernel
theorem dX9_oneTick_142 : decode cX9_oneTick 142 = .ok (.iload_n 2, 1) := by decide +kernel
theorem dX9_oneTick_143 : decode cX9_oneTick 143 = .ok (.aload_n 0, 1) := by decide +kernel
theorem dX9_oneTick_144 : decode cX9_oneTick 144 = .ok (.getfield 62, 3) := by decide +kernel
theorem dX9_oneTick_147 : decode cX9_oneTick 147 = .ok (.bipush 20, 2) := by decide +kernel
theorem dX9_oneTick_149 : decode cX9_oneTick 149 = .ok (.iload_n 2, 1) := by decide +kernel
theorem dX9_oneTick_150 : decode cX9_oneTick 150 = .ok (.imul, 1) := by decide +kernel
theorem dX9_oneTick_151 : decode cX9_oneTick 151 = .ok (.iaload, 1) := by decide +kernel
theorem dX9_oneTick_152 : decode cX9_oneTick 152 = .ok (.iastore, 1) := by decide +kernel
theorem dX9_oneTick_153 : decode cX9_oneTick 153 = .ok (.aload_n 0, 1) := by decide +kernel
theorem dX9_oneTick_154 : decode cX9_oneTick 154 = .ok (.getfield 65, 3) := by decide +kernel
theorem dX9_oneTick_157 : decode cX9_oneTick 157 = .ok (.iload_n 2, 1) := by decide +kernel
theorem dX9_oneTick_158 : decode cX9_oneTick 158 = .ok (.dup2, 1) := by decide +kernel
theorem dX9_oneTick_159 : decode cX9_oneTick 159 = .ok (.iaload, 1) := by decide +kernel
theorem dX9_oneTick_160 : decode cX9_oneTick 160 = .ok (.iconst 1, 1) := by decide +kernel
theorem dX9_oneTick_161 : decode cX9_oneTick 161 = .ok (.isub, 1) := by decide +kernel
theorem dX9_oneTick_162 : decode cX9_oneTick 162 = .ok (.iastore, 1) := by decide +kernel
theorem dX9_oneTick_163 : decode cX9_oneTick 163 = .ok (.iconst 0, 1) := by decide +kernel
theorem dX9_oneTick_164 : decode cX9_oneTick 164 = .ok (.istore_n 3, 1) := by decide +kernel
theorem dX9_oneTick_165 : decode cX9_oneTick 165 = .ok (.iload_n 3, 1) := by decide +kernel
theorem dX9_oneTick_166 : decode cX9_oneTick 166 = .ok (.aload_n 0, 1) := by decide +kernel
theorem dX9_oneTick_167 : decode cX9_oneTick 167 = .ok (.getfield 65, 3) := by decide +kernel
theorem dX9_oneTick_170 : decode cX9_oneTick 170 = .ok (.iload_n 2, 1) := by decide +kernel
theorem dX9_oneTick_171 : decode cX9_oneTick 171 = .ok (.iaload, 1) := by decide +kernel
theorem dX9_oneTick_172 : decode cX9_oneTick 172 = .ok (.if_icmp .ge 33, 3) := by decide +kernel
theorem dX9_oneTick_175 : decode cX9_oneTick 175 = .ok (.aload_n 0, 1) := by decide +kernel
theorem dX9_oneTick_176 : decode cX9_oneTick 176 = .ok (.getfield 62, 3) := by decide +kernel
theorem dX9_oneTick_179 : decode cX9_oneTick 179 = .ok (.bipush 20, 2) := by decide +kernel
theorem dX9_oneTick_181 : decode cX9_oneTick 181 = .ok (.iload_n 2, 1) := by decide +kernel
theorem dX9_oneTick_182 : decode cX9_oneTick 182 = .ok (.imul, 1) := by decide +kernel
theorem dX9_oneTick_183 : decode cX9_oneTick 183 = .ok (.iload_n 3, 1) := by decide +kernel
theorem dX9_oneTick_184 : decode cX9_oneTick 184 = .ok (.iadd, 1) := by decide +kernel
theorem dX9_oneTick_185 : decode cX9_oneTick 185 = .ok (.aload_n 0, 1) := by decide +kernel
theorem dX9_oneTick_186 : decode cX9_oneTick 186 = .ok (.getfield 62, 3) := by decide +kernel
theorem dX9_oneTick_189 : decode cX9_oneTick 189 = .ok (.bipush 20, 2) := by decide +kernel
theorem dX9_oneTick_191 : decode cX9_oneTick 191 = .ok (.iload_n 2, 1) := by decide +kernel
theorem dX9_oneTick_192 : decode cX9_oneTick 192 = .ok (.imul, 1) := by decide +kernel
theorem dX9_oneTick_193 : decode cX9_oneTick 193 = .ok (.iload_n 3, 1) := by decide +kernel
theorem dX9_oneTick_194 : decode cX9_oneTick 194 = .ok (.iadd, 1) := by decide +kernel
theorem dX9_oneTick_195 : decode cX9_oneTick 195 = .ok (.iconst 1, 1) := by decide +kernel
theorem dX9_oneTick_196 : decode cX9_oneTick 196 = .ok (.iadd, 1) := by decide +kernel
theorem dX9_oneTick_197 : decode cX9_oneTick 197 = .ok (.iaload, 1) := by decide +kernel
theorem dX9_oneTick_198 : decode cX9_oneTick 198 = .ok (.iastore, 1) := by decide +kernel
theorem dX9_oneTick_199 : decode cX9_oneTick 199 = .ok (.iinc 3 1, 3) := by decide +kernel
theorem dX9_oneTick_202 : decode cX9_oneTick 202 = .ok (.goto (-37), 3) := by decide +kernel
theorem dX9_oneTick_205 : decode cX9_oneTick 205 = .ok (.aload_n 0, 1) := by decide +kernel
theorem dX9_oneTick_206 : decode cX9_oneTick 206 = .ok (.getfield 56, 3) := by decide +kernel
theorem dX9_oneTick_209 : decode cX9_oneTick 209 = .ok (.iload_n 2, 1) := by decide +kernel
theorem dX9_oneTick_210 : decode cX9_oneTick 210 = .ok (.dup2, 1) := by decide +kernel
theorem dX9_oneTick_211 : decode cX9_oneTick 211 = .ok (.iaload, 1) := by decide +kernel
theorem dX9_oneTick_212 : decode cX9_oneTick 212 = .ok (.iconst 1, 1) := by decide +kernel
theorem dX9_oneTick_213 : decode cX9_oneTick 213 = .ok (.iadd, 1) := by decide +kernel
theorem dX9_oneTick_214 : decode cX9_oneTick 214 = .ok (.iastore, 1) := by decide +kernel
theorem dX9_oneTick_215 : decode cX9_oneTick 215 = .ok (.aload_n 0, 1) := by decide +kernel
theorem dX9_oneTick_216 : decode cX9_oneTick 216 = .ok (.dup, 1) := by decide +kernel
theorem dX9_oneTick_217 : decode cX9_oneTick 217 = .ok (.getfield 243, 3) := by decide +kernel
theorem dX9_oneTick_220 : decode cX9_oneTick 220 = .ok (.iconst 1, 1) := by decide +kernel
theorem dX9_oneTick_221 : decode cX9_oneTick 221 = .ok (.iadd, 1) := by decide +kernel
theorem dX9_oneTick_222 : decode cX9_oneTick 222 = .ok (.putfield 243, 3) := by decide +kernel
theorem dX9_oneTick_225 : decode cX9_oneTick 225 = .ok (.iinc 2 1, 3) := by decide +kernel
theorem dX9_oneTick_228 : decode cX9_oneTick 228 = .ok (.goto (-127), 3) := by decide +kernel
theorem dX9_oneTick_231 : decode cX9_oneTick 231 = .ok (.aload_n 0, 1) := by decide +kernel
theorem dX9_oneTick_232 : decode cX9_oneTick 232 = .ok (.invokevirtual 215, 3) := by decide +kernel
theorem dX9_oneTick_235 : decode cX9_oneTick 235 = .ok (.return_, 1) := by decide +kernel
theorem dX9_tick_0 : decode cX9_tick 0 = .ok (.iload_n 1, 1) := by decide +kernel
theorem dX9_tick_1 : decode cX9_tick 1 = .ok (.iconst 1, 1) := by decide +kernel
theorem dX9_tick_2 : decode cX9_tick 2 = .ok (.if_icmp .lt 10, 3) := by decide +kernel
theorem dX9_tick_5 : decode cX9_tick 5 = .ok (.iload_n 1, 1) := by decide +kernel
theorem dX9_tick_6 : decode cX9_tick 6 = .ok (.sipush 1000, 3) := by decide +kernel
theorem dX9_tick_9 : decode cX9_tick 9 = .ok (.if_icmp .le 5, 3) := by decide +kernel
theorem dX9_tick_12 : decode cX9_tick 12 = .ok (.iconst (-1), 1) := by decide +kernel
theorem dX9_tick_13 : decode cX9_tick 13 = .ok (.ireturn, 1) := by decide +kernel
theorem dX9_tick_14 : decode cX9_tick 14 = .ok (.iconst 0, 1) := by decide +kernel
theorem dX9_tick_15 : decode cX9_tick 15 = .ok (.istore_n 2, 1) := by decide +kernel
theorem dX9_tick_16 : decode cX9_tick 16 = .ok (.iload_n 2, 1) := by decide +kernel
theorem dX9_tick_17 : decode cX9_tick 17 = .ok (.iload_n 1, 1) := by decide +kernel
theorem dX9_tick_18 : decode cX9_tick 18 = .ok (.if_icmp .ge 13, 3) := by decide +kernel
theorem dX9_tick_21 : decode cX9_tick 21 = .ok (.aload_n 0, 1) := by decide +kernel
theorem dX9_tick_22 : decode cX9_tick 22 = .ok (.invokevirtual 246, 3) := by decide +kernel
theorem dX9_tick_25 : decode cX9_tick 25 = .ok (.iinc 2 1, 3) := by decide +kernel
theorem dX9_tick_28 : decode cX9_tick 28 = .ok (.goto (-12), 3) := by decide +kernel
theorem dX9_tick_31 : decode cX9_tick 31 = .ok (.aload_n 0, 1) := by decide +kernel
theorem dX9_tick_32 : decode cX9_tick 32 = .ok (.getfield 129, 3) := by decide +kernel
theorem dX9_tick_35 : decode cX9_tick 35 = .ok (.ireturn, 1) := by decide +kernel
theorem dX9_about_0 : decode cX9_about 0 = .ok (.aload_n 0, 1) := by decide +kernel
theorem dX9_about_1 : decode cX9_about 1 = .ok (.iload_n 1, 1) := by decide +kernel
theorem dX9_about_2 : decode cX9_about 2 = .ok (.invokevirtual 135, 3) := by decide +kernel
theorem dX9_about_5 : decode cX9_about 5 = .ok (.ifCond .ne 5, 3) := by decide +kernel
theorem dX9_about_8 : decode cX9_about 8 = .ok (.iconst (-1), 1) := by decide +kernel
theorem dX9_about_9 : decode cX9_about 9 = .ok (.ireturn, 1) := by decide +kernel
theorem dX9_about_10 : decode cX9_about 10 = .ok (.iload_n 2, 1) := by decide +kernel
theorem dX9_about_11 : decode cX9_about 11 = .ok (.tableswitch 131 0 9 #[53, 60, 67, 74, 81, 96, 103, 110, 117, 124], 53) := by decide +kernel
theorem dX9_about_64 : decode cX9_about 64 = .ok (.aload_n 0, 1) := by decide +kernel
theorem dX9_about_65 : decode cX9_about 65 = .ok (.getfield 31, 3) := by decide +kernel
theorem dX9_about_68 : decode cX9_about 68 = .ok (.iload_n 1, 1) := by decide +kernel
theorem dX9_about_69 : decode cX9_about 69 = .ok (.iaload, 1) := by decide +kernel
theorem dX9_about_70 : decode cX9_about 70 = .ok (.ireturn, 1) := by decide +kernel
theorem dX9_about_71 : decode cX9_about 71 = .ok (.aload_n 0, 1) := by decide +kernel
theorem dX9_about_72 : decode cX9_about 72 = .ok (.getfield 34, 3) := by decide +kernel
theorem dX9_about_75 : decode cX9_about 75 = .ok (.iload_n 1, 1) := by decide +kernel
theorem dX9_about_76 : decode cX9_about 76 = .ok (.iaload, 1) := by decide +kernel
theorem dX9_about_77 : decode cX9_about 77 = .ok (.ireturn, 1) := by decide +kernel
theorem dX9_about_78 : decode cX9_about 78 = .ok (.aload_n 0, 1) := by decide +kernel
theorem dX9_about_79 : decode cX9_about 79 = .ok (.getfield 37, 3) := by decide +kernel
theorem dX9_about_82 : decode cX9_about 82 = .ok (.iload_n 1, 1) := by decide +kernel
theorem dX9_about_83 : decode cX9_about 83 = .ok (.iaload, 1) := by decide +kernel
theorem dX9_about_84 : decode cX9_about 84 = .ok (.ireturn, 1) := by decide +kernel
theorem dX9_about_85 : decode cX9_about 85 = .ok (.aload_n 0, 1) := by decide +kernel
theorem dX9_about_86 : decode cX9_about 86 = .ok (.getfield 40, 3) := by decide +kernel
theorem dX9_about_89 : decode cX9_about 89 = .ok (.iload_n 1, 1) := by decide +kernel
theorem dX9_about_90 : decode cX9_about 90 = .ok (.iaload, 1) := by decide +kernel
theorem dX9_about_91 : decode cX9_about 91 = .ok (.ireturn, 1) := by decide +kernel
theorem dX9_about_92 : decode cX9_about 92 = .ok (.aload_n 0, 1) := by decide +kernel
theorem dX9_about_93 : decode cX9_about 93 = .ok (.getfield 43, 3) := by decide +kernel
theorem dX9_about_96 : decode cX9_about 96 = .ok (.iload_n 1, 1) := by decide +kernel
theorem dX9_about_97 : decode cX9_about 97 = .ok (.baload, 1) := by decide +kernel
theorem dX9_about_98 : decode cX9_about 98 = .ok (.ifCond .eq 7, 3) := by decide +kernel
theorem dX9_about_101 : decode cX9_about 101 = .ok (.iconst 1, 1) := by decide +kernel
theorem dX9_about_102 : decode cX9_about 102 = .ok (.goto 4, 3) := by decide +kernel
theorem dX9_about_105 : decode cX9_about 105 = .ok (.iconst 0, 1) := by decide +kernel
theorem dX9_about_106 : decode cX9_about 106 = .ok (.ireturn, 1) := by decide +kernel
theorem dX9_about_107 : decode cX9_about 107 = .ok (.aload_n 0, 1) := by decide +kernel
theorem dX9_about_108 : decode cX9_about 108 = .ok (.getfield 71, 3) := by decide +kernel
theorem dX9_about_111 : decode cX9_about 111 = .ok (.iload_n 1, 1) := by decide +kernel
theorem dX9_about_112 : decode cX9_about 112 = .ok (.iaload, 1) := by decide +kernel
theorem dX9_about_113 : decode cX9_about 113 = .ok (.ireturn, 1) := by decide +kernel
theorem dX9_about_114 : decode cX9_about 114 = .ok (.aload_n 0, 1) := by decide +kernel
theorem dX9_about_115 : decode cX9_about 115 = .ok (.getfield 65, 3) := by decide +kernel
theorem dX9_about_118 : decode cX9_about 118 = .ok (.iload_n 1, 1) := by decide +kernel
theorem dX9_about_119 : decode cX9_about 119 = .ok (.iaload, 1) := by decide +kernel
theorem dX9_about_120 : decode cX9_about 120 = .ok (.ireturn, 1) := by decide +kernel
theorem dX9_about_121 : decode cX9_about 121 = .ok (.aload_n 0, 1) := by decide +kernel
theorem dX9_about_122 : decode cX9_about 122 = .ok (.getfield 56, 3) := by decide +kernel
theorem dX9_about_125 : decode cX9_about 125 = .ok (.iload_n 1, 1) := by decide +kernel
theorem dX9_about_126 : decode cX9_about 126 = .ok (.iaload, 1) := by decide +kernel
theorem dX9_about_127 : decode cX9_about 127 = .ok (.ireturn, 1) := by decide +kernel
theorem dX9_about_128 : decode cX9_about 128 = .ok (.aload_n 0, 1) := by decide +kernel
theorem dX9_about_129 : decode cX9_about 129 = .ok (.getfield 59, 3) := by decide +kernel
theorem dX9_about_132 : decode cX9_about 132 = .ok (.iload_n 1, 1) := by decide +kernel
theorem dX9_about_133 : decode cX9_about 133 = .ok (.iaload, 1) := by decide +kernel
theorem dX9_about_134 : decode cX9_about 134 = .ok (.ireturn, 1) := by decide +kernel
theorem dX9_about_135 : decode cX9_about 135 = .ok (.aload_n 0, 1) := by decide +kernel
theorem dX9_about_136 : decode cX9_about 136 = .ok (.getfield 9, 3) := by decide +kernel
theorem dX9_about_139 : decode cX9_about 139 = .ok (.iload_n 1, 1) := by decide +kernel
theorem dX9_about_140 : decode cX9_about 140 = .ok (.iaload, 1) := by decide +kernel
theorem dX9_about_141 : decode cX9_about 141 = .ok (.ireturn, 1) := by decide +kernel
theorem dX9_about_142 : decode cX9_about 142 = .ok (.iconst (-1), 1) := by decide +kernel
theorem dX9_about_143 : decode cX9_about 143 = .ok (.ireturn, 1) := by decide +kernel
theorem dX9_count_0 : decode cX9_count 0 = .ok (.iload_n 1, 1) := by decide +kernel
theorem dX9_count_1 : decode cX9_count 1 = .ok (.tableswitch 69 0 5 #[39, 44, 49, 54, 59, 64], 39) := by decide +kernel
theorem dX9_count_40 : decode cX9_count 40 = .ok (.aload_n 0, 1) := by decide +kernel
theorem dX9_count_41 : decode cX9_count 41 = .ok (.getfield 126, 3) := by decide +kernel
theorem dX9_count_44 : decode cX9_count 44 = .ok (.ireturn, 1) := by decide +kernel
theorem dX9_count_45 : decode cX9_count 45 = .ok (.aload_n 0, 1) := by decide +kernel
theorem dX9_count_46 : decode cX9_count 46 = .ok (.getfield 153, 3) := by decide +kernel
theorem dX9_count_49 : decode cX9_count 49 = .ok (.ireturn, 1) := by decide +kernel
theorem dX9_count_50 : decode cX9_count 50 = .ok (.aload_n 0, 1) := by decide +kernel
theorem dX9_count_51 : decode cX9_count 51 = .ok (.invokevirtual 143, 3) := by decide +kernel
theorem dX9_count_54 : decode cX9_count 54 = .ok (.ireturn, 1) := by decide +kernel
theorem dX9_count_55 : decode cX9_count 55 = .ok (.aload_n 0, 1) := by decide +kernel
theorem dX9_count_56 : decode cX9_count 56 = .ok (.getfield 129, 3) := by decide +kernel
theorem dX9_count_59 : decode cX9_count 59 = .ok (.ireturn, 1) := by decide +kernel
theorem dX9_count_60 : decode cX9_count 60 = .ok (.aload_n 0, 1) := by decide +kernel
theorem dX9_count_61 : decode cX9_count 61 = .ok (.getfield 249, 3) := by decide +kernel
theorem dX9_count_64 : decode cX9_count 64 = .ok (.ireturn, 1) := by decide +kernel
theorem dX9_count_65 : decode cX9_count 65 = .ok (.aload_n 0, 1) := by decide +kernel
theorem dX9_count_66 : decode cX9_count 66 = .ok (.getfield 243, 3) := by decide +kernel
theorem dX9_count_69 : decode cX9_count 69 = .ok (.ireturn, 1) := by decide +kernel
theorem dX9_count_70 : decode cX9_count 70 = .ok (.iconst (-1), 1) := by decide +kernel
theorem dX9_count_71 : decode cX9_count 71 = .ok (.ireturn, 1) := by decide +kernel
theorem dX9_related_0 : decode cX9_related 0 = .ok (.aload_n 0, 1) := by decide +kernel
theorem dX9_related_1 : decode cX9_related 1 = .ok (.iload_n 1, 1) := by decide +kernel
theorem dX9_related_2 : decode cX9_related 2 = .ok (.iload_n 2, 1) := by decide +kernel
theorem dX9_related_3 : decode cX9_related 3 = .ok (.iload_n 3, 1) := by decide +kernel
theorem dX9_related_4 : decode cX9_related 4 = .ok (.invokevirtual 139, 3) := by decide +kernel
theorem dX9_related_7 : decode cX9_related 7 = .ok (.ifCond .eq 21, 3) := by decide +kernel
theorem dX9_related_10 : decode cX9_related 10 = .ok (.aload_n 0, 1) := by decide +kernel
theorem dX9_related_11 : decode cX9_related 11 = .ok (.iload_n 1, 1) := by decide +kernel
theorem dX9_related_12 : decode cX9_related 12 = .ok (.iload_n 2, 1) := by decide +kernel
theorem dX9_related_13 : decode cX9_related 13 = .ok (.iload_n 3, 1) := by decide +kernel
theorem dX9_related_14 : decode cX9_related 14 = .ok (.invokevirtual 150, 3) := by decide +kernel
theorem dX9_related_17 : decode cX9_related 17 = .ok (.ifCond .eq 7, 3) := by decide +kernel
theorem dX9_related_20 : decode cX9_related 20 = .ok (.iconst 1, 1) := by decide +kernel
theorem dX9_related_21 : decode cX9_related 21 = .ok (.goto 8, 3) := by decide +kernel
theorem dX9_related_24 : decode cX9_related 24 = .ok (.iconst 0, 1) := by decide +kernel
theorem dX9_related_25 : decode cX9_related 25 = .ok (.goto 4, 3) := by decide +kernel
theorem dX9_related_28 : decode cX9_related 28 = .ok (.iconst (-1), 1) := by decide +kernel
theorem dX9_related_29 : decode cX9_related 29 = .ok (.ireturn, 1) := by decide +kernel
theorem dX9_waits_0 : decode cX9_waits 0 = .ok (.aload_n 0, 1) := by decide +kernel
theorem dX9_waits_1 : decode cX9_waits 1 = .ok (.iload_n 1, 1) := by decide +kernel
theorem dX9_waits_2 : decode cX9_waits 2 = .ok (.invokevirtual 135, 3) := by decide +kernel
theorem dX9_waits_5 : decode cX9_waits 5 = .ok (.ifCond .eq 12, 3) := by decide +kernel
theorem dX9_waits_8 : decode cX9_waits 8 = .ok (.iload_n 2, 1) := by decide +kernel
theorem dX9_waits_9 : decode cX9_waits 9 = .ok (.ifCond .lt 8, 3) := by decide +kernel
theorem dX9_waits_12 : decode cX9_waits 12 = .ok (.iload_n 2, 1) := by decide +kernel
theorem dX9_waits_13 : decode cX9_waits 13 = .ok (.iconst 1, 1) := by decide +kernel
theorem dX9_waits_14 : decode cX9_waits 14 = .ok (.if_icmp .le 5, 3) := by decide +kernel
theorem dX9_waits_17 : decode cX9_waits 17 = .ok (.iconst (-1), 1) := by decide +kernel
theorem dX9_waits_18 : decode cX9_waits 18 = .ok (.ireturn, 1) := by decide +kernel
theorem dX9_waits_19 : decode cX9_waits 19 = .ok (.iconst 0, 1) := by decide +kernel
theorem dX9_waits_20 : decode cX9_waits 20 = .ok (.istore_n 3, 1) := by decide +kernel
theorem dX9_waits_21 : decode cX9_waits 21 = .ok (.iconst 0, 1) := by decide +kernel
theorem dX9_waits_22 : decode cX9_waits 22 = .ok (.istore 4, 2) := by decide +kernel
theorem dX9_waits_24 : decode cX9_waits 24 = .ok (.iload 4, 2) := by decide +kernel
theorem dX9_waits_26 : decode cX9_waits 26 = .ok (.aload_n 0, 1) := by decide +kernel
theorem dX9_waits_27 : decode cX9_waits 27 = .ok (.getfield 126, 3) := by decide +kernel
theorem dX9_waits_30 : decode cX9_waits 30 = .ok (.if_icmp .ge 71, 3) := by decide +kernel
theorem dX9_waits_33 : decode cX9_waits 33 = .ok (.iload_n 3, 1) := by decide +kernel
theorem dX9_waits_34 : decode cX9_waits 34 = .ok (.iload_n 2, 1) := by decide +kernel
theorem dX9_waits_35 : decode cX9_waits 35 = .ok (.ifCond .ne 29, 3) := by decide +kernel
theorem dX9_waits_38 : decode cX9_waits 38 = .ok (.aload_n 0, 1) := by decide +kernel
theorem dX9_waits_39 : decode cX9_waits 39 = .ok (.aload_n 0, 1) := by decide +kernel
theorem dX9_waits_40 : decode cX9_waits 40 = .ok (.getfield 71, 3) := by decide +kernel
theorem dX9_waits_43 : decode cX9_waits 43 = .ok (.iload_n 1, 1) := by decide +kernel
theorem dX9_waits_44 : decode cX9_waits 44 = .ok (.iload 4, 2) := by decide +kernel
theorem dX9_waits_46 : decode cX9_waits 46 = .ok (.invokevirtual 167, 3) := by decide +kernel
theorem dX9_waits_49 : decode cX9_waits 49 = .ok (.ifCond .eq 43, 3) := by decide +kernel
theorem dX9_waits_52 : decode cX9_waits 52 = .ok (.aload_n 0, 1) := by decide +kernel
theorem dX9_waits_53 : decode cX9_waits 53 = .ok (.getfield 74, 3) := by decide +kernel
theorem dX9_waits_56 : decode cX9_waits 56 = .ok (.iload_n 1, 1) := by decide +kernel
theorem dX9_waits_57 : decode cX9_waits 57 = .ok (.baload, 1) := by decide +kernel
theorem dX9_waits_58 : decode cX9_waits 58 = .ok (.ifCond .ne 34, 3) := by decide +kernel
theorem dX9_waits_61 : decode cX9_waits 61 = .ok (.goto 27, 3) := by decide +kernel
theorem dX9_waits_64 : decode cX9_waits 64 = .ok (.aload_n 0, 1) := by decide +kernel
theorem dX9_waits_65 : decode cX9_waits 65 = .ok (.aload_n 0, 1) := by decide +kernel
theorem dX9_waits_66 : decode cX9_waits 66 = .ok (.getfield 71, 3) := by decide +kernel
theorem dX9_waits_69 : decode cX9_waits 69 = .ok (.iload 4, 2) := by decide +kernel
theorem dX9_waits_71 : decode cX9_waits 71 = .ok (.iload_n 1, 1) := by decide +kernel
theorem dX9_waits_72 : decode cX9_waits 72 = .ok (.invokevirtual 167, 3) := by decide +kernel
theorem dX9_waits_75 : decode cX9_waits 75 = .ok (.ifCond .eq 17, 3) := by decide +kernel
theorem dX9_waits_78 : decode cX9_waits 78 = .ok (.aload_n 0, 1) := by decide +kernel
theorem dX9_waits_79 : decode cX9_waits 79 = .ok (.getfield 74, 3) := by decide +kernel
theorem dX9_waits_82 : decode cX9_waits 82 = .ok (.iload 4, 2) := by decide +kernel
theorem dX9_waits_84 : decode cX9_waits 84 = .ok (.baload, 1) := by decide +kernel
theorem dX9_waits_85 : decode cX9_waits 85 = .ok (.ifCond .ne 7, 3) := by decide +kernel
theorem dX9_waits_88 : decode cX9_waits 88 = .ok (.iconst 1, 1) := by decide +kernel
theorem dX9_waits_89 : decode cX9_waits 89 = .ok (.goto 4, 3) := by decide +kernel
theorem dX9_waits_92 : decode cX9_waits 92 = .ok (.iconst 0, 1) := by decide +kernel
theorem dX9_waits_93 : decode cX9_waits 93 = .ok (.iadd, 1) := by decide +kernel
theorem dX9_waits_94 : decode cX9_waits 94 = .ok (.istore_n 3, 1) := by decide +kernel
theorem dX9_waits_95 : decode cX9_waits 95 = .ok (.iinc 4 1, 3) := by decide +kernel
theorem dX9_waits_98 : decode cX9_waits 98 = .ok (.goto (-74), 3) := by decide +kernel
theorem dX9_waits_101 : decode cX9_waits 101 = .ok (.iload_n 3, 1) := by decide +kernel
theorem dX9_waits_102 : decode cX9_waits 102 = .ok (.ireturn, 1) := by decide +kernel
theorem dX9_plan_0 : decode cX9_plan 0 = .ok (.iload_n 1, 1) := by decide +kernel
theorem dX9_plan_1 : decode cX9_plan 1 = .ok (.ifCond .lt 16, 3) := by decide +kernel
theorem dX9_plan_4 : decode cX9_plan 4 = .ok (.iload_n 1, 1) := by decide +kernel
theorem dX9_plan_5 : decode cX9_plan 5 = .ok (.iconst 2, 1) := by decide +kernel
theorem dX9_plan_6 : decode cX9_plan 6 = .ok (.if_icmp .gt 11, 3) := by decide +kernel
theorem dX9_plan_9 : decode cX9_plan 9 = .ok (.aload_n 0, 1) := by decide +kernel
theorem dX9_plan_10 : decode cX9_plan 10 = .ok (.iload_n 2, 1) := by decide +kernel
theorem dX9_plan_11 : decode cX9_plan 11 = .ok (.invokevirtual 135, 3) := by decide +kernel
theorem dX9_plan_14 : decode cX9_plan 14 = .ok (.ifCond .ne 5, 3) := by decide +kernel
theorem dX9_plan_17 : decode cX9_plan 17 = .ok (.iconst (-1), 1) := by decide +kernel
theorem dX9_plan_18 : decode cX9_plan 18 = .ok (.ireturn, 1) := by decide +kernel
theorem dX9_plan_19 : decode cX9_plan 19 = .ok (.aload_n 0, 1) := by decide +kernel
theorem dX9_plan_20 : decode cX9_plan 20 = .ok (.iload_n 1, 1) := by decide +kernel
theorem dX9_plan_21 : decode cX9_plan 21 = .ok (.iload_n 2, 1) := by decide +kernel
theorem dX9_plan_22 : decode cX9_plan 22 = .ok (.invokevirtual 207, 3) := by decide +kernel
theorem dX9_plan_25 : decode cX9_plan 25 = .ok (.istore_n 3, 1) := by decide +kernel
theorem dX9_plan_26 : decode cX9_plan 26 = .ok (.iload_n 3, 1) := by decide +kernel
theorem dX9_plan_27 : decode cX9_plan 27 = .ok (.ifCond .eq 5, 3) := by decide +kernel
theorem dX9_plan_30 : decode cX9_plan 30 = .ok (.iload_n 3, 1) := by decide +kernel
theorem dX9_plan_31 : decode cX9_plan 31 = .ok (.ireturn, 1) := by decide +kernel
theorem dX9_plan_32 : decode cX9_plan 32 = .ok (.iconst 0, 1) := by decide +kernel
theorem dX9_plan_33 : decode cX9_plan 33 = .ok (.istore 4, 2) := by decide +kernel
theorem dX9_plan_35 : decode cX9_plan 35 = .ok (.iload 4, 2) := by decide +kernel
theorem dX9_plan_37 : decode cX9_plan 37 = .ok (.aload_n 0, 1) := by decide +kernel
theorem dX9_plan_38 : decode cX9_plan 38 = .ok (.getfield 126, 3) := by decide +kernel
theorem dX9_plan_41 : decode cX9_plan 41 = .ok (.if_icmp .ge 17, 3) := by decide +kernel
theorem dX9_plan_44 : decode cX9_plan 44 = .ok (.aload_n 0, 1) := by decide +kernel
theorem dX9_plan_45 : decode cX9_plan 45 = .ok (.getfield 111, 3) := by decide +kernel
theorem dX9_plan_48 : decode cX9_plan 48 = .ok (.iload 4, 2) := by decide +kernel
theorem dX9_plan_50 : decode cX9_plan 50 = .ok (.iconst (-1), 1) := by decide +kernel
theorem dX9_plan_51 : decode cX9_plan 51 = .ok (.iastore, 1) := by decide +kernel
theorem dX9_plan_52 : decode cX9_plan 52 = .ok (.iinc 4 1, 3) := by decide +kernel
theorem dX9_plan_55 : decode cX9_plan 55 = .ok (.goto (-20), 3) := by decide +kernel
theorem dX9_plan_58 : decode cX9_plan 58 = .ok (.iconst 0, 1) := by decide +kernel
theorem dX9_plan_59 : decode cX9_plan 59 = .ok (.istore 4, 2) := by decide +kernel
theorem dX9_plan_61 : decode cX9_plan 61 = .ok (.iload 4, 2) := by decide +kernel
theorem dX9_plan_63 : decode cX9_plan 63 = .ok (.aload_n 0, 1) := by decide +kernel
theorem dX9_plan_64 : decode cX9_plan 64 = .ok (.getfield 126, 3) := by decide +kernel
theorem dX9_plan_67 : decode cX9_plan 67 = .ok (.if_icmp .ge 53, 3) := by decide +kernel
theorem dX9_plan_70 : decode cX9_plan 70 = .ok (.iconst 0, 1) := by decide +kernel
theorem dX9_plan_71 : decode cX9_plan 71 = .ok (.istore 5, 2) := by decide +kernel
theorem dX9_plan_73 : decode cX9_plan 73 = .ok (.iload 5, 2) := by decide +kernel
theorem dX9_plan_75 : decode cX9_plan 75 = .ok (.aload_n 0, 1) := by decide +kernel
theorem dX9_plan_76 : decode cX9_plan 76 = .ok (.getfield 126, 3) := by decide +kernel
theorem dX9_plan_79 : decode cX9_plan 79 = .ok (.if_icmp .ge 35, 3) := by decide +kernel
theorem dX9_plan_82 : decode cX9_plan 82 = .ok (.aload_n 0, 1) := by decide +kernel
theorem dX9_plan_83 : decode cX9_plan 83 = .ok (.getfield 86, 3) := by decide +kernel
theorem dX9_plan_86 : decode cX9_plan 86 = .ok (.iload 5, 2) := by decide +kernel
theorem dX9_plan_88 : decode cX9_plan 88 = .ok (.iaload, 1) := by decide +kernel
theorem dX9_plan_89 : decode cX9_plan 89 = .ok (.ifCond .eq 19, 3) := by decide +kernel
theorem dX9_plan_92 : decode cX9_plan 92 = .ok (.aload_n 0, 1) := by decide +kernel
theorem dX9_plan_93 : decode cX9_plan 93 = .ok (.getfield 111, 3) := by decide +kernel
theorem dX9_plan_96 : decode cX9_plan 96 = .ok (.iload 5, 2) := by decide +kernel
theorem dX9_plan_98 : decode cX9_plan 98 = .ok (.iaload, 1) := by decide +kernel
theorem dX9_plan_99 : decode cX9_plan 99 = .ok (.ifCond .ge 9, 3) := by decide +kernel
theorem dX9_plan_102 : decode cX9_plan 102 = .ok (.aload_n 0, 1) := by decide +kernel
theorem dX9_plan_103 : decode cX9_plan 103 = .ok (.iload 5, 2) := by decide +kernel
theorem dX9_plan_105 : decode cX9_plan 105 = .ok (.invokevirtual 255, 3) := by decide +kernel
theorem dX9_plan_108 : decode cX9_plan 108 = .ok (.iinc 5 1, 3) := by decide +kernel
theorem dX9_plan_111 : decode cX9_plan 111 = .ok (.goto (-38), 3) := by decide +kernel
theorem dX9_plan_114 : decode cX9_plan 114 = .ok (.iinc 4 1, 3) := by decide +kernel
theorem dX9_plan_117 : decode cX9_plan 117 = .ok (.goto (-56), 3) := by decide +kernel
theorem dX9_plan_120 : decode cX9_plan 120 = .ok (.aload_n 0, 1) := by decide +kernel
theorem dX9_plan_121 : decode cX9_plan 121 = .ok (.iconst 0, 1) := by decide +kernel
theorem dX9_plan_122 : decode cX9_plan 122 = .ok (.putfield 258, 3) := by decide +kernel
theorem dX9_plan_125 : decode cX9_plan 125 = .ok (.aload_n 0, 1) := by decide +kernel
theorem dX9_plan_126 : decode cX9_plan 126 = .ok (.iconst 0, 1) := by decide +kernel
theorem dX9_plan_127 : decode cX9_plan 127 = .ok (.putfield 107, 3) := by decide +kernel
theorem dX9_plan_130 : decode cX9_plan 130 = .ok (.iconst 0, 1) := by decide +kernel
theorem dX9_plan_131 : decode cX9_plan 131 = .ok (.istore 4, 2) := by decide +kernel
theorem dX9_plan_133 : decode cX9_plan 133 = .ok (.iload 4, 2) := by decide +kernel
theorem dX9_plan_135 : decode cX9_plan 135 = .ok (.aload_n 0, 1) := by decide +kernel
theorem dX9_plan_136 : decode cX9_plan 136 = .ok (.getfield 126, 3) := by decide +kernel
theorem dX9_plan_139 : decode cX9_plan 139 = .ok (.if_icmp .ge 212, 3) := by decide +kernel
theorem dX9_plan_142 : decode cX9_plan 142 = .ok (.aload_n 0, 1) := by decide +kernel
theorem dX9_plan_143 : decode cX9_plan 143 = .ok (.getfield 86, 3) := by decide +kernel
theorem dX9_plan_146 : decode cX9_plan 146 = .ok (.iload 4, 2) := by decide +kernel
theorem dX9_plan_148 : decode cX9_plan 148 = .ok (.iaload, 1) := by decide +kernel
theorem dX9_plan_149 : decode cX9_plan 149 = .ok (.ifCond .eq 196, 3) := by decide +kernel
theorem dX9_plan_152 : decode cX9_plan 152 = .ok (.aload_n 0, 1) := by decide +kernel
theorem dX9_plan_153 : decode cX9_plan 153 = .ok (.getfield 258, 3) := by decide +kernel
theorem dX9_plan_156 : decode cX9_plan 156 = .ok (.istore 5, 2) := by decide +kernel
theorem dX9_plan_158 : decode cX9_plan 158 = .ok (.iload 5, 2) := by decide +kernel
theorem dX9_plan_160 : decode cX9_plan 160 = .ok (.ifCond .le 92, 3) := by decide +kernel
theorem dX9_plan_163 : decode cX9_plan 163 = .ok (.aload_n 0, 1) := by decide +kernel
theorem dX9_plan_164 : decode cX9_plan 164 = .ok (.getfield 101, 3) := by decide +kernel
theorem dX9_plan_167 : decode cX9_plan 167 = .ok (.iload 5, 2) := by decide +kernel
theorem dX9_plan_169 : decode cX9_plan 169 = .ok (.iconst 1, 1) := by decide +kernel
theorem dX9_plan_170 : decode cX9_plan 170 = .ok (.isub, 1) := by decide +kernel
theorem dX9_plan_171 : decode cX9_plan 171 = .ok (.iaload, 1) := by decide +kernel
theorem dX9_plan_172 : decode cX9_plan 172 = .ok (.aload_n 0, 1) := by decide +kernel
theorem dX9_plan_173 : decode cX9_plan 173 = .ok (.getfield 114, 3) := by decide +kernel
theorem dX9_plan_176 : decode cX9_plan 176 = .ok (.iload 4, 2) := by decide +kernel
theorem dX9_plan_178 : decode cX9_plan 178 = .ok (.iaload, 1) := by decide +kernel
theorem dX9_plan_179 : decode cX9_plan 179 = .ok (.if_icmp .le 73, 3) := by decide +kernel
theorem dX9_plan_182 : decode cX9_plan 182 = .ok (.aload_n 0, 1) := by decide +kernel
theorem dX9_plan_183 : decode cX9_plan 183 = .ok (.getfield 95, 3) := by decide +kernel
theorem dX9_plan_186 : decode cX9_plan 186 = .ok (.iload 5, 2) := by decide +kernel
theorem dX9_plan_188 : decode cX9_plan 188 = .ok (.aload_n 0, 1) := by decide +kernel
theorem dX9_plan_189 : decode cX9_plan 189 = .ok (.getfield 95, 3) := by decide +kernel
theorem dX9_plan_192 : decode cX9_plan 192 = .ok (.iload 5, 2) := by decide +kernel
theorem dX9_plan_194 : decode cX9_plan 194 = .ok (.iconst 1, 1) := by decide +kernel
theorem dX9_plan_195 : decode cX9_plan 195 = .ok (.isub, 1) := by decide +kernel
theorem dX9_plan_196 : decode cX9_plan 196 = .ok (.iaload, 1) := by decide +kernel
theorem dX9_plan_197 : decode cX9_plan 197 = .ok (.iastore, 1) := by decide +kernel
theorem dX9_plan_198 : decode cX9_plan 198 = .ok (.aload_n 0, 1) := by decide +kernel
theorem dX9_plan_199 : decode cX9_plan 199 = .ok (.getfield 98, 3) := by decide +kernel
theorem dX9_plan_202 : decode cX9_plan 202 = .ok (.iload 5, 2) := by decide +kernel
theorem dX9_plan_204 : decode cX9_plan 204 = .ok (.aload_n 0, 1) := by decide +kernel
theorem dX9_plan_205 : decode cX9_plan 205 = .ok (.getfield 98, 3) := by decide +kernel
theorem dX9_plan_208 : decode cX9_plan 208 = .ok (.iload 5, 2) := by decide +kernel
theorem dX9_plan_210 : decode cX9_plan 210 = .ok (.iconst 1, 1) := by decide +kernel
theorem dX9_plan_211 : decode cX9_plan 211 = .ok (.isub, 1) := by decide +kernel
theorem dX9_plan_212 : decode cX9_plan 212 = .ok (.iaload, 1) := by decide +kernel
theorem dX9_plan_213 : decode cX9_plan 213 = .ok (.iastore, 1) := by decide +kernel
theorem dX9_plan_214 : decode cX9_plan 214 = .ok (.aload_n 0, 1) := by decide +kernel
theorem dX9_plan_215 : decode cX9_plan 215 = .ok (.getfield 101, 3) := by decide +kernel
theorem dX9_plan_218 : decode cX9_plan 218 = .ok (.iload 5, 2) := by decide +kernel
theorem dX9_plan_220 : decode cX9_plan 220 = .ok (.aload_n 0, 1) := by decide +kernel
theorem dX9_plan_221 : decode cX9_plan 221 = .ok (.getfield 101, 3) := by decide +kernel
theorem dX9_plan_224 : decode cX9_plan 224 = .ok (.iload 5, 2) := by decide +kernel
theorem dX9_plan_226 : decode cX9_plan 226 = .ok (.iconst 1, 1) := by decide +kernel
theorem dX9_plan_227 : decode cX9_plan 227 = .ok (.isub, 1) := by decide +kernel
theorem dX9_plan_228 : decode cX9_plan 228 = .ok (.iaload, 1) := by decide +kernel
theorem dX9_plan_229 : decode cX9_plan 229 = .ok (.iastore, 1) := by decide +kernel
theorem dX9_plan_230 : decode cX9_plan 230 = .ok (.aload_n 0, 1) := by decide +kernel
theorem dX9_plan_231 : decode cX9_plan 231 = .ok (.getfield 104, 3) := by decide +kernel
theorem dX9_plan_234 : decode cX9_plan 234 = .ok (.iload 5, 2) := by decide +kernel
theorem dX9_plan_236 : decode cX9_plan 236 = .ok (.aload_n 0, 1) := by decide +kernel
theorem dX9_plan_237 : decode cX9_plan 237 = .ok (.getfield 104, 3) := by decide +kernel
theorem dX9_plan_240 : decode cX9_plan 240 = .ok (.iload 5, 2) := by decide +kernel
theorem dX9_plan_242 : decode cX9_plan 242 = .ok (.iconst 1, 1) := by decide +kernel
theorem dX9_plan_243 : decode cX9_plan 243 = .ok (.isub, 1) := by decide +kernel
theorem dX9_plan_244 : decode cX9_plan 244 = .ok (.iaload, 1) := by decide +kernel
theorem dX9_plan_245 : decode cX9_plan 245 = .ok (.iastore, 1) := by decide +kernel
theorem dX9_plan_246 : decode cX9_plan 246 = .ok (.iinc 5 (-1), 3) := by decide +kernel
theorem dX9_plan_249 : decode cX9_plan 249 = .ok (.goto (-91), 3) := by decide +kernel
theorem dX9_plan_252 : decode cX9_plan 252 = .ok (.aload_n 0, 1) := by decide +kernel
theorem dX9_plan_253 : decode cX9_plan 253 = .ok (.getfield 95, 3) := by decide +kernel
theorem dX9_plan_256 : decode cX9_plan 256 = .ok (.iload 5, 2) := by decide +kernel
theorem dX9_plan_258 : decode cX9_plan 258 = .ok (.iload 4, 2) := by decide +kernel
theorem dX9_plan_260 : decode cX9_plan 260 = .ok (.iastore, 1) := by decide +kernel
theorem dX9_plan_261 : decode cX9_plan 261 = .ok (.aload_n 0, 1) := by decide +kernel
theorem dX9_plan_262 : decode cX9_plan 262 = .ok (.getfield 98, 3) := by decide +kernel
theorem dX9_plan_265 : decode cX9_plan 265 = .ok (.iload 5, 2) := by decide +kernel
theorem dX9_plan_267 : decode cX9_plan 267 = .ok (.aload_n 0, 1) := by decide +kernel
theorem dX9_plan_268 : decode cX9_plan 268 = .ok (.getfield 86, 3) := by decide +kernel
theorem dX9_plan_271 : decode cX9_plan 271 = .ok (.iload 4, 2) := by decide +kernel
theorem dX9_plan_273 : decode cX9_plan 273 = .ok (.iaload, 1) := by decide +kernel
theorem dX9_plan_274 : decode cX9_plan 274 = .ok (.iastore, 1) := by decide +kernel
theorem dX9_plan_275 : decode cX9_plan 275 = .ok (.aload_n 0, 1) := by decide +kernel
theorem dX9_plan_276 : decode cX9_plan 276 = .ok (.getfield 101, 3) := by decide +kernel
theorem dX9_plan_279 : decode cX9_plan 279 = .ok (.iload 5, 2) := by decide +kernel
theorem dX9_plan_281 : decode cX9_plan 281 = .ok (.aload_n 0, 1) := by decide +kernel
theorem dX9_plan_282 : decode cX9_plan 282 = .ok (.getfield 114, 3) := by decide +kernel
theorem dX9_plan_285 : decode cX9_plan 285 = .ok (.iload 4, 2) := by decide +kernel
theorem dX9_plan_287 : decode cX9_plan 287 = .ok (.iaload, 1) := by decide +kernel
theorem dX9_plan_288 : decode cX9_plan 288 = .ok (.iastore, 1) := by decide +kernel
theorem dX9_plan_289 : decode cX9_plan 289 = .ok (.aload_n 0, 1) := by decide +kernel
theorem dX9_plan_290 : decode cX9_plan 290 = .ok (.getfield 104, 3) := by decide +kernel
theorem dX9_plan_293 : decode cX9_plan 293 = .ok (.iload 5, 2) := by decide +kernel
theorem dX9_plan_295 : decode cX9_plan 295 = .ok (.aload_n 0, 1) := by decide +kernel
theorem dX9_plan_296 : decode cX9_plan 296 = .ok (.getfield 111, 3) := by decide +kernel
theorem dX9_plan_299 : decode cX9_plan 299 = .ok (.iload 4, 2) := by decide +kernel
theorem dX9_plan_301 : decode cX9_plan 301 = .ok (.iaload, 1) := by decide +kernel
theorem dX9_plan_302 : decode cX9_plan 302 = .ok (.iastore, 1) := by decide +kernel
theorem dX9_plan_303 : decode cX9_plan 303 = .ok (.aload_n 0, 1) := by decide +kernel
theorem dX9_plan_304 : decode cX9_plan 304 = .ok (.dup, 1) := by decide +kernel
theorem dX9_plan_305 : decode cX9_plan 305 = .ok (.getfield 258, 3) := by decide +kernel
theorem dX9_plan_308 : decode cX9_plan 308 = .ok (.iconst 1, 1) := by decide +kernel
theorem dX9_plan_309 : decode cX9_plan 309 = .ok (.iadd, 1) := by decide +kernel
theorem dX9_plan_310 : decode cX9_plan 310 = .ok (.putfield 258, 3) := by decide +kernel
theorem dX9_plan_313 : decode cX9_plan 313 = .ok (.aload_n 0, 1) := by decide +kernel
theorem dX9_plan_314 : decode cX9_plan 314 = .ok (.aload_n 0, 1) := by decide +kernel
theorem dX9_plan_315 : decode cX9_plan 315 = .ok (.getfield 111, 3) := by decide +kernel
theorem dX9_plan_318 : decode cX9_plan 318 = .ok (.iload 4, 2) := by decide +kernel
theorem dX9_plan_320 : decode cX9_plan 320 = .ok (.iaload, 1) := by decide +kernel
theorem dX9_plan_321 : decode cX9_plan 321 = .ok (.aload_n 0, 1) := by decide +kernel
theorem dX9_plan_322 : decode cX9_plan 322 = .ok (.getfield 107, 3) := by decide +kernel
theorem dX9_plan_325 : decode cX9_plan 325 = .ok (.if_icmp .le 13, 3) := by decide +kernel
theorem dX9_plan_328 : decode cX9_plan 328 = .ok (.aload_n 0, 1) := by decide +kernel
theorem dX9_plan_329 : decode cX9_plan 329 = .ok (.getfield 111, 3) := by decide +kernel
theorem dX9_plan_332 : decode cX9_plan 332 = .ok (.iload 4, 2) := by decide +kernel
theorem dX9_plan_334 : decode cX9_plan 334 = .ok (.iaload, 1) := by decide +kernel
theorem dX9_plan_335 : decode cX9_plan 335 = .ok (.goto 7, 3) := by decide +kernel
theorem dX9_plan_338 : decode cX9_plan 338 = .ok (.aload_n 0, 1) := by decide +kernel
theorem dX9_plan_339 : decode cX9_plan 339 = .ok (.getfield 107, 3) := by decide +kernel
theorem dX9_plan_342 : decode cX9_plan 342 = .ok (.putfield 107, 3) := by decide +kernel
theorem dX9_plan_345 : decode cX9_plan 345 = .ok (.iinc 4 1, 3) := by decide +kernel
theorem dX9_plan_348 : decode cX9_plan 348 = .ok (.goto (-215), 3) := by decide +kernel
theorem dX9_plan_351 : decode cX9_plan 351 = .ok (.aload_n 0, 1) := by decide +kernel
theorem dX9_plan_352 : decode cX9_plan 352 = .ok (.getfield 258, 3) := by decide +kernel
theorem dX9_plan_355 : decode cX9_plan 355 = .ok (.ireturn, 1) := by decide +kernel
theorem dX9_reckon_0 : decode cX9_reckon 0 = .ok (.iconst 0, 1) := by decide +kernel
theorem dX9_reckon_1 : decode cX9_reckon 1 = .ok (.istore_n 2, 1) := by decide +kernel
theorem dX9_reckon_2 : decode cX9_reckon 2 = .ok (.iconst 1, 1) := by decide +kernel
theorem dX9_reckon_3 : decode cX9_reckon 3 = .ok (.istore_n 3, 1) := by decide +kernel
theorem dX9_reckon_4 : decode cX9_reckon 4 = .ok (.iconst 0, 1) := by decide +kernel
theorem dX9_reckon_5 : decode cX9_reckon 5 = .ok (.istore 4, 2) := by decide +kernel
theorem dX9_reckon_7 : decode cX9_reckon 7 = .ok (.iload 4, 2) := by decide +kernel
theorem dX9_reckon_9 : decode cX9_reckon 9 = .ok (.aload_n 0, 1) := by decide +kernel
theorem dX9_reckon_10 : decode cX9_reckon 10 = .ok (.getfield 126, 3) := by decide +kernel
theorem dX9_reckon_13 : decode cX9_reckon 13 = .ok (.if_icmp .ge 66, 3) := by decide +kernel
theorem dX9_reckon_16 : decode cX9_reckon 16 = .ok (.aload_n 0, 1) := by decide +kernel
theorem dX9_reckon_17 : decode cX9_reckon 17 = .ok (.aload_n 0, 1) := by decide +kernel
theorem dX9_reckon_18 : decode cX9_reckon 18 = .ok (.getfield 86, 3) := by decide +kernel
theorem dX9_reckon_21 : decode cX9_reckon 21 = .ok (.iload_n 1, 1) := by decide +kernel
theorem dX9_reckon_22 : decode cX9_reckon 22 = .ok (.iload 4, 2) := by decide +kernel
theorem dX9_reckon_24 : decode cX9_reckon 24 = .ok (.invokevirtual 167, 3) := by decide +kernel
theorem dX9_reckon_27 : decode cX9_reckon 27 = .ok (.ifCond .eq 46, 3) := by decide +kernel
theorem dX9_reckon_30 : decode cX9_reckon 30 = .ok (.iload_n 3, 1) := by decide +kernel
theorem dX9_reckon_31 : decode cX9_reckon 31 = .ok (.ifCond .eq 17, 3) := by decide +kernel
theorem dX9_reckon_34 : decode cX9_reckon 34 = .ok (.aload_n 0, 1) := by decide +kernel
theorem dX9_reckon_35 : decode cX9_reckon 35 = .ok (.getfield 111, 3) := by decide +kernel
theorem dX9_reckon_38 : decode cX9_reckon 38 = .ok (.iload 4, 2) := by decide +kernel
theorem dX9_reckon_40 : decode cX9_reckon 40 = .ok (.iaload, 1) := by decide +kernel
theorem dX9_reckon_41 : decode cX9_reckon 41 = .ok (.ifCond .lt 7, 3) := by decide +kernel
theorem dX9_reckon_44 : decode cX9_reckon 44 = .ok (.iconst 1, 1) := by decide +kernel
theorem dX9_reckon_45 : decode cX9_reckon 45 = .ok (.goto 4, 3) := by decide +kernel
theorem dX9_reckon_48 : decode cX9_reckon 48 = .ok (.iconst 0, 1) := by decide +kernel
theorem dX9_reckon_49 : decode cX9_reckon 49 = .ok (.istore_n 3, 1) := by decide +kernel
theorem dX9_reckon_50 : decode cX9_reckon 50 = .ok (.aload_n 0, 1) := by decide +kernel
theorem dX9_reckon_51 : decode cX9_reckon 51 = .ok (.getfield 111, 3) := by decide +kernel
theorem dX9_reckon_54 : decode cX9_reckon 54 = .ok (.iload 4, 2) := by decide +kernel
theorem dX9_reckon_56 : decode cX9_reckon 56 = .ok (.iaload, 1) := by decide +kernel
theorem dX9_reckon_57 : decode cX9_reckon 57 = .ok (.iload_n 2, 1) := by decide +kernel
theorem dX9_reckon_58 : decode cX9_reckon 58 = .ok (.if_icmp .le 13, 3) := by decide +kernel
theorem dX9_reckon_61 : decode cX9_reckon 61 = .ok (.aload_n 0, 1) := by decide +kernel
theorem dX9_reckon_62 : decode cX9_reckon 62 = .ok (.getfield 111, 3) := by decide +kernel
theorem dX9_reckon_65 : decode cX9_reckon 65 = .ok (.iload 4, 2) := by decide +kernel
theorem dX9_reckon_67 : decode cX9_reckon 67 = .ok (.iaload, 1) := by decide +kernel
theorem dX9_reckon_68 : decode cX9_reckon 68 = .ok (.goto 4, 3) := by decide +kernel
theorem dX9_reckon_71 : decode cX9_reckon 71 = .ok (.iload_n 2, 1) := by decide +kernel
theorem dX9_reckon_72 : decode cX9_reckon 72 = .ok (.istore_n 2, 1) := by decide +kernel
theorem dX9_reckon_73 : decode cX9_reckon 73 = .ok (.iinc 4 1, 3) := by decide +kernel
theorem dX9_reckon_76 : decode cX9_reckon 76 = .ok (.goto (-69), 3) := by decide +kernel
theorem dX9_reckon_79 : decode cX9_reckon 79 = .ok (.iload_n 3, 1) := by decide +kernel
theorem dX9_reckon_80 : decode cX9_reckon 80 = .ok (.ifCond .eq 57, 3) := by decide +kernel
theorem dX9_reckon_83 : decode cX9_reckon 83 = .ok (.aload_n 0, 1) := by decide +kernel
theorem dX9_reckon_84 : decode cX9_reckon 84 = .ok (.getfield 114, 3) := by decide +kernel
theorem dX9_reckon_87 : decode cX9_reckon 87 = .ok (.iload_n 1, 1) := by decide +kernel
theorem dX9_reckon_88 : decode cX9_reckon 88 = .ok (.iload_n 2, 1) := by decide +kernel
theorem dX9_reckon_89 : decode cX9_reckon 89 = .ok (.iastore, 1) := by decide +kernel
theorem dX9_reckon_90 : decode cX9_reckon 90 = .ok (.aload_n 0, 1) := by decide +kernel
theorem dX9_reckon_91 : decode cX9_reckon 91 = .ok (.getfield 111, 3) := by decide +kernel
theorem dX9_reckon_94 : decode cX9_reckon 94 = .ok (.iload_n 1, 1) := by decide +kernel
theorem dX9_reckon_95 : decode cX9_reckon 95 = .ok (.iload_n 2, 1) := by decide +kernel
theorem dX9_reckon_96 : decode cX9_reckon 96 = .ok (.aload_n 0, 1) := by decide +kernel
theorem dX9_reckon_97 : decode cX9_reckon 97 = .ok (.getfield 86, 3) := by decide +kernel
theorem dX9_reckon_100 : decode cX9_reckon 100 = .ok (.iload_n 1, 1) := by decide +kernel
theorem dX9_reckon_101 : decode cX9_reckon 101 = .ok (.iaload, 1) := by decide +kernel
theorem dX9_reckon_102 : decode cX9_reckon 102 = .ok (.iconst 1, 1) := by decide +kernel
theorem dX9_reckon_103 : decode cX9_reckon 103 = .ok (.if_icmp .ne 12, 3) := by decide +kernel
theorem dX9_reckon_106 : decode cX9_reckon 106 = .ok (.aload_n 0, 1) := by decide +kernel
theorem dX9_reckon_107 : decode cX9_reckon 107 = .ok (.getfield 13, 3) := by decide +kernel
theorem dX9_reckon_110 : decode cX9_reckon 110 = .ok (.iload_n 1, 1) := by decide +kernel
theorem dX9_reckon_111 : decode cX9_reckon 111 = .ok (.iaload, 1) := by decide +kernel
theorem dX9_reckon_112 : decode cX9_reckon 112 = .ok (.goto 23, 3) := by decide +kernel
theorem dX9_reckon_115 : decode cX9_reckon 115 = .ok (.aload_n 0, 1) := by decide +kernel
theorem dX9_reckon_116 : decode cX9_reckon 116 = .ok (.getfield 31, 3) := by decide +kernel
theorem dX9_reckon_119 : decode cX9_reckon 119 = .ok (.iload_n 1, 1) := by decide +kernel
theorem dX9_reckon_120 : decode cX9_reckon 120 = .ok (.iaload, 1) := by decide +kernel
theorem dX9_reckon_121 : decode cX9_reckon 121 = .ok (.iconst 5, 1) := by decide +kernel
theorem dX9_reckon_122 : decode cX9_reckon 122 = .ok (.if_icmp .ne 7, 3) := by decide +kernel
theorem dX9_reckon_125 : decode cX9_reckon 125 = .ok (.iconst 0, 1) := by decide +kernel
theorem dX9_reckon_126 : decode cX9_reckon 126 = .ok (.goto 9, 3) := by decide +kernel
theorem dX9_reckon_129 : decode cX9_reckon 129 = .ok (.aload_n 0, 1) := by decide +kernel
theorem dX9_reckon_130 : decode cX9_reckon 130 = .ok (.getfield 16, 3) := by decide +kernel
theorem dX9_reckon_133 : decode cX9_reckon 133 = .ok (.iload_n 1, 1) := by decide +kernel
theorem dX9_reckon_134 : decode cX9_reckon 134 = .ok (.iaload, 1) := by decide +kernel
theorem dX9_reckon_135 : decode cX9_reckon 135 = .ok (.iadd, 1) := by decide +kernel
theorem dX9_reckon_136 : decode cX9_reckon 136 = .ok (.iastore, 1) := by decide +kernel
theorem dX9_reckon_137 : decode cX9_reckon 137 = .ok (.return_, 1) := by decide +kernel
theorem dX9_planned_0 : decode cX9_planned 0 = .ok (.iload_n 1, 1) := by decide +kernel
theorem dX9_planned_1 : decode cX9_planned 1 = .ok (.ifCond .lt 20, 3) := by decide +kernel
theorem dX9_planned_4 : decode cX9_planned 4 = .ok (.iload_n 1, 1) := by decide +kernel
theorem dX9_planned_5 : decode cX9_planned 5 = .ok (.aload_n 0, 1) := by decide +kernel
theorem dX9_planned_6 : decode cX9_planned 6 = .ok (.getfield 258, 3) := by decide +kernel
theorem dX9_planned_9 : decode cX9_planned 9 = .ok (.if_icmp .ge 12, 3) := by decide +kernel
theorem dX9_planned_12 : decode cX9_planned 12 = .ok (.iload_n 2, 1) := by decide +kernel
theorem dX9_planned_13 : decode cX9_planned 13 = .ok (.ifCond .lt 8, 3) := by decide +kernel
theorem dX9_planned_16 : decode cX9_planned 16 = .ok (.iload_n 2, 1) := by decide +kernel
theorem dX9_planned_17 : decode cX9_planned 17 = .ok (.iconst 3, 1) := by decide +kernel
theorem dX9_planned_18 : decode cX9_planned 18 = .ok (.if_icmp .le 5, 3) := by decide +kernel
theorem dX9_planned_21 : decode cX9_planned 21 = .ok (.iconst (-1), 1) := by decide +kernel
theorem dX9_planned_22 : decode cX9_planned 22 = .ok (.ireturn, 1) := by decide +kernel
theorem dX9_planned_23 : decode cX9_planned 23 = .ok (.iload_n 2, 1) := by decide +kernel
theorem dX9_planned_24 : decode cX9_planned 24 = .ok (.ifCond .ne 12, 3) := by decide +kernel
theorem dX9_planned_27 : decode cX9_planned 27 = .ok (.aload_n 0, 1) := by decide +kernel
theorem dX9_planned_28 : decode cX9_planned 28 = .ok (.getfield 95, 3) := by decide +kernel
theorem dX9_planned_31 : decode cX9_planned 31 = .ok (.iload_n 1, 1) := by decide +kernel
theorem dX9_planned_32 : decode cX9_planned 32 = .ok (.iaload, 1) := by decide +kernel
theorem dX9_planned_33 : decode cX9_planned 33 = .ok (.goto 37, 3) := by decide +kernel
theorem dX9_planned_36 : decode cX9_planned 36 = .ok (.iload_n 2, 1) := by decide +kernel
theorem dX9_planned_37 : decode cX9_planned 37 = .ok (.iconst 1, 1) := by decide +kernel
theorem dX9_planned_38 : decode cX9_planned 38 = .ok (.if_icmp .ne 12, 3) := by decide +kernel
theorem dX9_planned_41 : decode cX9_planned 41 = .ok (.aload_n 0, 1) := by decide +kernel
theorem dX9_planned_42 : decode cX9_planned 42 = .ok (.getfield 98, 3) := by decide +kernel
theorem dX9_planned_45 : decode cX9_planned 45 = .ok (.iload_n 1, 1) := by decide +kernel
theorem dX9_planned_46 : decode cX9_planned 46 = .ok (.iaload, 1) := by decide +kernel
theorem dX9_planned_47 : decode cX9_planned 47 = .ok (.goto 23, 3) := by decide +kernel
theorem dX9_planned_50 : decode cX9_planned 50 = .ok (.iload_n 2, 1) := by decide +kernel
theorem dX9_planned_51 : decode cX9_planned 51 = .ok (.iconst 2, 1) := by decide +kernel
theorem dX9_planned_52 : decode cX9_planned 52 = .ok (.if_icmp .ne 12, 3) := by decide +kernel
theorem dX9_planned_55 : decode cX9_planned 55 = .ok (.aload_n 0, 1) := by decide +kernel
theorem dX9_planned_56 : decode cX9_planned 56 = .ok (.getfield 101, 3) := by decide +kernel
theorem dX9_planned_59 : decode cX9_planned 59 = .ok (.iload_n 1, 1) := by decide +kernel
theorem dX9_planned_60 : decode cX9_planned 60 = .ok (.iaload, 1) := by decide +kernel
theorem dX9_planned_61 : decode cX9_planned 61 = .ok (.goto 9, 3) := by decide +kernel
theorem dX9_planned_64 : decode cX9_planned 64 = .ok (.aload_n 0, 1) := by decide +kernel
theorem dX9_planned_65 : decode cX9_planned 65 = .ok (.getfield 104, 3) := by decide +kernel
theorem dX9_planned_68 : decode cX9_planned 68 = .ok (.iload_n 1, 1) := by decide +kernel
theorem dX9_planned_69 : decode cX9_planned 69 = .ok (.iaload, 1) := by decide +kernel
theorem dX9_planned_70 : decode cX9_planned 70 = .ok (.ireturn, 1) := by decide +kernel
theorem dX9_quick_0 : decode cX9_quick 0 = .ok (.aload_n 0, 1) := by decide +kernel
theorem dX9_quick_1 : decode cX9_quick 1 = .ok (.getfield 107, 3) := by decide +kernel
theorem dX9_quick_4 : decode cX9_quick 4 = .ok (.ireturn, 1) := by decide +kernel
theorem dX9_ring_0 : decode cX9_ring 0 = .ok (.aload_n 0, 1) := by decide +kernel
theorem dX9_ring_1 : decode cX9_ring 1 = .ok (.getfield 197, 3) := by decide +kernel
theorem dX9_ring_4 : decode cX9_ring 4 = .ok (.ireturn, 1) := by decide +kernel
theorem dX9_changes_0 : decode cX9_changes 0 = .ok (.aload_n 0, 1) := by decide +kernel
theorem dX9_changes_1 : decode cX9_changes 1 = .ok (.getfield 132, 3) := by decide +kernel
theorem dX9_changes_4 : decode cX9_changes 4 = .ok (.ireturn, 1) := by decide +kernel
theorem dX9_change_0 : decode cX9_change 0 = .ok (.iload_n 1, 1) := by decide +kernel
theorem dX9_change_1 : decode cX9_change 1 = .ok (.ifCond .lt 32, 3) := by decide +kernel
theorem dX9_change_4 : decode cX9_change 4 = .ok (.iload_n 1, 1) := by decide +kernel
theorem dX9_change_5 : decode cX9_change 5 = .ok (.aload_n 0, 1) := by decide +kernel
theorem dX9_change_6 : decode cX9_change 6 = .ok (.getfield 132, 3) := by decide +kernel
theorem dX9_change_9 : decode cX9_change 9 = .ok (.if_icmp .ge 24, 3) := by decide +kernel
theorem dX9_change_12 : decode cX9_change 12 = .ok (.iload_n 1, 1) := by decide +kernel
theorem dX9_change_13 : decode cX9_change 13 = .ok (.aload_n 0, 1) := by decide +kernel
theorem dX9_change_14 : decode cX9_change 14 = .ok (.getfield 132, 3) := by decide +kernel
theorem dX9_change_17 : decode cX9_change 17 = .ok (.sipush 2000, 3) := by decide +kernel
theorem dX9_change_20 : decode cX9_change 20 = .ok (.isub, 1) := by decide +kernel
theorem dX9_change_21 : decode cX9_change 21 = .ok (.if_icmp .lt 12, 3) := by decide +kernel
theorem dX9_change_24 : decode cX9_change 24 = .ok (.iload_n 2, 1) := by decide +kernel
theorem dX9_change_25 : decode cX9_change 25 = .ok (.ifCond .lt 8, 3) := by decide +kernel
theorem dX9_change_28 : decode cX9_change 28 = .ok (.iload_n 2, 1) := by decide +kernel
theorem dX9_change_29 : decode cX9_change 29 = .ok (.iconst 2, 1) := by decide +kernel
theorem dX9_change_30 : decode cX9_change 30 = .ok (.if_icmp .le 5, 3) := by decide +kernel
theorem dX9_change_33 : decode cX9_change 33 = .ok (.iconst (-1), 1) := by decide +kernel
theorem dX9_change_34 : decode cX9_change 34 = .ok (.ireturn, 1) := by decide +kernel
theorem dX9_change_35 : decode cX9_change 35 = .ok (.iload_n 2, 1) := by decide +kernel
theorem dX9_change_36 : decode cX9_change 36 = .ok (.ifCond .ne 16, 3) := by decide +kernel
theorem dX9_change_39 : decode cX9_change 39 = .ok (.aload_n 0, 1) := by decide +kernel
theorem dX9_change_40 : decode cX9_change 40 = .ok (.getfield 117, 3) := by decide +kernel
theorem dX9_change_43 : decode cX9_change 43 = .ok (.iload_n 1, 1) := by decide +kernel
theorem dX9_change_44 : decode cX9_change 44 = .ok (.sipush 2000, 3) := by decide +kernel
theorem dX9_change_47 : decode cX9_change 47 = .ok (.irem, 1) := by decide +kernel
theorem dX9_change_48 : decode cX9_change 48 = .ok (.iaload, 1) := by decide +kernel
theorem dX9_change_49 : decode cX9_change 49 = .ok (.goto 31, 3) := by decide +kernel
theorem dX9_change_52 : decode cX9_change 52 = .ok (.iload_n 2, 1) := by decide +kernel
theorem dX9_change_53 : decode cX9_change 53 = .ok (.iconst 1, 1) := by decide +kernel
theorem dX9_change_54 : decode cX9_change 54 = .ok (.if_icmp .ne 16, 3) := by decide +kernel
theorem dX9_change_57 : decode cX9_change 57 = .ok (.aload_n 0, 1) := by decide +kernel
theorem dX9_change_58 : decode cX9_change 58 = .ok (.getfield 120, 3) := by decide +kernel
theorem dX9_change_61 : decode cX9_change 61 = .ok (.iload_n 1, 1) := by decide +kernel
theorem dX9_change_62 : decode cX9_change 62 = .ok (.sipush 2000, 3) := by decide +kernel
theorem dX9_change_65 : decode cX9_change 65 = .ok (.irem, 1) := by decide +kernel
theorem dX9_change_66 : decode cX9_change 66 = .ok (.iaload, 1) := by decide +kernel
theorem dX9_change_67 : decode cX9_change 67 = .ok (.goto 13, 3) := by decide +kernel
theorem dX9_change_70 : decode cX9_change 70 = .ok (.aload_n 0, 1) := by decide +kernel
theorem dX9_change_71 : decode cX9_change 71 = .ok (.getfield 123, 3) := by decide +kernel
theorem dX9_change_74 : decode cX9_change 74 = .ok (.iload_n 1, 1) := by decide +kernel
theorem dX9_change_75 : decode cX9_change 75 = .ok (.sipush 2000, 3) := by decide +kernel
theorem dX9_change_78 : decode cX9_change 78 = .ok (.irem, 1) := by decide +kernel
theorem dX9_change_79 : decode cX9_change 79 = .ok (.iaload, 1) := by decide +kernel
theorem dX9_change_80 : decode cX9_change 80 = .ok (.ireturn, 1) := by decide +kernel
theorem dX9_check_0 : decode cX9_check 0 = .ok (.iconst 0, 1) := by decide +kernel
theorem dX9_check_1 : decode cX9_check 1 = .ok (.istore_n 1, 1) := by decide +kernel
theorem dX9_check_2 : decode cX9_check 2 = .ok (.iconst 0, 1) := by decide +kernel
theorem dX9_check_3 : decode cX9_check 3 = .ok (.istore_n 2, 1) := by decide +kernel
theorem dX9_check_4 : decode cX9_check 4 = .ok (.iconst 0, 1) := by decide +kernel
theorem dX9_check_5 : decode cX9_check 5 = .ok (.istore_n 3, 1) := by decide +kernel
theorem dX9_check_6 : decode cX9_check 6 = .ok (.iload_n 3, 1) := by decide +kernel
theorem dX9_check_7 : decode cX9_check 7 = .ok (.aload_n 0, 1) := by decide +kernel
theorem dX9_check_8 : decode cX9_check 8 = .ok (.getfield 126, 3) := by decide +kernel
theorem dX9_check_11 : decode cX9_check 11 = .ok (.if_icmp .ge 128, 3) := by decide +kernel
theorem dX9_check_14 : decode cX9_check 14 = .ok (.iload_n 1, 1) := by decide +kernel
theorem dX9_check_15 : decode cX9_check 15 = .ok (.ifCond .ne 31, 3) := by decide +kernel
theorem dX9_check_18 : decode cX9_check 18 = .ok (.aload_n 0, 1) := by decide +kernel
theorem dX9_check_19 : decode cX9_check 19 = .ok (.getfield 31, 3) := by decide +kernel
theorem dX9_check_22 : decode cX9_check 22 = .ok (.iload_n 3, 1) := by decide +kernel
theorem dX9_check_23 : decode cX9_check 23 = .ok (.iaload, 1) := by decide +kernel
theorem dX9_check_24 : decode cX9_check 24 = .ok (.iconst 1, 1) := by decide +kernel
theorem dX9_check_25 : decode cX9_check 25 = .ok (.if_icmp .eq 13, 3) := by decide +kernel
theorem dX9_check_28 : decode cX9_check 28 = .ok (.aload_n 0, 1) := by decide +kernel
theorem dX9_check_29 : decode cX9_check 29 = .ok (.getfield 31, 3) := by decide +kernel
theorem dX9_check_32 : decode cX9_check 32 = .ok (.iload_n 3, 1) := by decide +kernel
theorem dX9_check_33 : decode cX9_check 33 = .ok (.iaload, 1) := by decide +kernel
theorem dX9_check_34 : decode cX9_check 34 = .ok (.iconst 2, 1) := by decide +kernel
theorem dX9_check_35 : decode cX9_check 35 = .ok (.if_icmp .ne 15, 3) := by decide +kernel
theorem dX9_check_38 : decode cX9_check 38 = .ok (.aload_n 0, 1) := by decide +kernel
theorem dX9_check_39 : decode cX9_check 39 = .ok (.iload_n 3, 1) := by decide +kernel
theorem dX9_check_40 : decode cX9_check 40 = .ok (.invokevirtual 231, 3) := by decide +kernel
theorem dX9_check_43 : decode cX9_check 43 = .ok (.ifCond .ne 7, 3) := by decide +kernel
theorem dX9_check_46 : decode cX9_check 46 = .ok (.iconst 1, 1) := by decide +kernel
theorem dX9_check_47 : decode cX9_check 47 = .ok (.goto 4, 3) := by decide +kernel
theorem dX9_check_50 : decode cX9_check 50 = .ok (.iconst 0, 1) := by decide +kernel
theorem dX9_check_51 : decode cX9_check 51 = .ok (.istore_n 1, 1) := by decide +kernel
theorem dX9_check_52 : decode cX9_check 52 = .ok (.iconst 0, 1) := by decide +kernel
theorem dX9_check_53 : decode cX9_check 53 = .ok (.istore 4, 2) := by decide +kernel
theorem dX9_check_55 : decode cX9_check 55 = .ok (.iload 4, 2) := by decide +kernel
theorem dX9_check_57 : decode cX9_check 57 = .ok (.aload_n 0, 1) := by decide +kernel
theorem dX9_check_58 : decode cX9_check 58 = .ok (.getfield 126, 3) := by decide +kernel
theorem dX9_check_61 : decode cX9_check 61 = .ok (.if_icmp .ge 72, 3) := by decide +kernel
theorem dX9_check_64 : decode cX9_check 64 = .ok (.iload_n 2, 1) := by decide +kernel
theorem dX9_check_65 : decode cX9_check 65 = .ok (.ifCond .ne 56, 3) := by decide +kernel
theorem dX9_check_68 : decode cX9_check 68 = .ok (.aload_n 0, 1) := by decide +kernel
theorem dX9_check_69 : decode cX9_check 69 = .ok (.iconst 3, 1) := by decide +kernel
theorem dX9_check_70 : decode cX9_check 70 = .ok (.iload_n 3, 1) := by decide +kernel
theorem dX9_check_71 : decode cX9_check 71 = .ok (.iload 4, 2) := by decide +kernel
theorem dX9_check_73 : decode cX9_check 73 = .ok (.invokevirtual 150, 3) := by decide +kernel
theorem dX9_check_76 : decode cX9_check 76 = .ok (.ifCond .eq 49, 3) := by decide +kernel
theorem dX9_check_79 : decode cX9_check 79 = .ok (.aload_n 0, 1) := by decide +kernel
theorem dX9_check_80 : decode cX9_check 80 = .ok (.getfield 31, 3) := by decide +kernel
theorem dX9_check_83 : decode cX9_check 83 = .ok (.iload_n 3, 1) := by decide +kernel
theorem dX9_check_84 : decode cX9_check 84 = .ok (.iaload, 1) := by decide +kernel
theorem dX9_check_85 : decode cX9_check 85 = .ok (.iconst 1, 1) := by decide +kernel
theorem dX9_check_86 : decode cX9_check 86 = .ok (.if_icmp .lt 39, 3) := by decide +kernel
theorem dX9_check_89 : decode cX9_check 89 = .ok (.aload_n 0, 1) := by decide +kernel
theorem dX9_check_90 : decode cX9_check 90 = .ok (.getfield 31, 3) := by decide +kernel
theorem dX9_check_93 : decode cX9_check 93 = .ok (.iload_n 3, 1) := by decide +kernel
theorem dX9_check_94 : decode cX9_check 94 = .ok (.iaload, 1) := by decide +kernel
theorem dX9_check_95 : decode cX9_check 95 = .ok (.iconst 3, 1) := by decide +kernel
theorem dX9_check_96 : decode cX9_check 96 = .ok (.if_icmp .gt 29, 3) := by decide +kernel
theorem dX9_check_99 : decode cX9_check 99 = .ok (.aload_n 0, 1) := by decide +kernel
theorem dX9_check_100 : decode cX9_check 100 = .ok (.getfield 31, 3) := by decide +kernel
theorem dX9_check_103 : decode cX9_check 103 = .ok (.iload 4, 2) := by decide +kernel
theorem dX9_check_105 : decode cX9_check 105 = .ok (.iaload, 1) := by decide +kernel
theorem dX9_check_106 : decode cX9_check 106 = .ok (.iconst 1, 1) := by decide +kernel
theorem dX9_check_107 : decode cX9_check 107 = .ok (.if_icmp .lt 18, 3) := by decide +kernel
theorem dX9_check_110 : decode cX9_check 110 = .ok (.aload_n 0, 1) := by decide +kernel
theorem dX9_check_111 : decode cX9_check 111 = .ok (.getfield 31, 3) := by decide +kernel
theorem dX9_check_114 : decode cX9_check 114 = .ok (.iload 4, 2) := by decide +kernel
theorem dX9_check_116 : decode cX9_check 116 = .ok (.iaload, 1) := by decide +kernel
theorem dX9_check_117 : decode cX9_check 117 = .ok (.iconst 3, 1) := by decide +kernel
theorem dX9_check_118 : decode cX9_check 118 = .ok (.if_icmp .gt 7, 3) := by decide +kernel
theorem dX9_check_121 : decode cX9_check 121 = .ok (.iconst 1, 1) := by decide +kernel
theorem dX9_check_122 : decode cX9_check 122 = .ok (.goto 4, 3) := by decide +kernel
theorem dX9_check_125 : decode cX9_check 125 = .ok (.iconst 0, 1) := by decide +kernel
theorem dX9_check_126 : decode cX9_check 126 = .ok (.istore_n 2, 1) := by decide +kernel
theorem dX9_check_127 : decode cX9_check 127 = .ok (.iinc 4 1, 3) := by decide +kernel
theorem dX9_check_130 : decode cX9_check 130 = .ok (.goto (-75), 3) := by decide +kernel
theorem dX9_check_133 : decode cX9_check 133 = .ok (.iinc 3 1, 3) := by decide +kernel
theorem dX9_check_136 : decode cX9_check 136 = .ok (.goto (-130), 3) := by decide +kernel
theorem dX9_check_139 : decode cX9_check 139 = .ok (.iload_n 1, 1) := by decide +kernel
theorem dX9_check_140 : decode cX9_check 140 = .ok (.ifCond .eq 7, 3) := by decide +kernel
theorem dX9_check_143 : decode cX9_check 143 = .ok (.iconst 1, 1) := by decide +kernel
theorem dX9_check_144 : decode cX9_check 144 = .ok (.goto 4, 3) := by decide +kernel
theorem dX9_check_147 : decode cX9_check 147 = .ok (.iconst 0, 1) := by decide +kernel
theorem dX9_check_148 : decode cX9_check 148 = .ok (.iload_n 2, 1) := by decide +kernel
theorem dX9_check_149 : decode cX9_check 149 = .ok (.ifCond .eq 7, 3) := by decide +kernel
theorem dX9_check_152 : decode cX9_check 152 = .ok (.iconst 1, 1) := by decide +kernel
theorem dX9_check_153 : decode cX9_check 153 = .ok (.goto 4, 3) := by decide +kernel
theorem dX9_check_156 : decode cX9_check 156 = .ok (.iconst 0, 1) := by decide +kernel
theorem dX9_check_157 : decode cX9_check 157 = .ok (.iadd, 1) := by decide +kernel
theorem dX9_check_158 : decode cX9_check 158 = .ok (.ireturn, 1) := by decide +kernel
theorem dX9_make_0 : decode cX9_make 0 = .ok (.iload_n 1, 1) := by decide +kernel
theorem dX9_make_1 : decode cX9_make 1 = .ok (.ifCond .lt 41, 3) := by decide +kernel
theorem dX9_make_4 : decode cX9_make 4 = .ok (.iload_n 1, 1) := by decide +kernel
theorem dX9_make_5 : decode cX9_make 5 = .ok (.iconst 3, 1) := by decide +kernel
theorem dX9_make_6 : decode cX9_make 6 = .ok (.if_icmp .gt 36, 3) := by decide +kernel
theorem dX9_make_9 : decode cX9_make 9 = .ok (.iload_n 2, 1) := by decide +kernel
theorem dX9_make_10 : decode cX9_make 10 = .ok (.ifCond .lt 32, 3) := by decide +kernel
theorem dX9_make_13 : decode cX9_make 13 = .ok (.iload_n 2, 1) := by decide +kernel
theorem dX9_make_14 : decode cX9_make 14 = .ok (.bipush 50, 2) := by decide +kernel
theorem dX9_make_16 : decode cX9_make 16 = .ok (.if_icmp .gt 26, 3) := by decide +kernel
theorem dX9_make_19 : decode cX9_make 19 = .ok (.iload_n 3, 1) := by decide +kernel
theorem dX9_make_20 : decode cX9_make 20 = .ok (.ifCond .lt 22, 3) := by decide +kernel
theorem dX9_make_23 : decode cX9_make 23 = .ok (.iload_n 3, 1) := by decide +kernel
theorem dX9_make_24 : decode cX9_make 24 = .ok (.bipush 50, 2) := by decide +kernel
theorem dX9_make_26 : decode cX9_make 26 = .ok (.if_icmp .gt 16, 3) := by decide +kernel
theorem dX9_make_29 : decode cX9_make 29 = .ok (.iload_n 1, 1) := by decide +kernel
theorem dX9_make_30 : decode cX9_make 30 = .ok (.iconst 3, 1) := by decide +kernel
theorem dX9_make_31 : decode cX9_make 31 = .ok (.if_icmp .ne 13, 3) := by decide +kernel
theorem dX9_make_34 : decode cX9_make 34 = .ok (.iload_n 2, 1) := by decide +kernel
theorem dX9_make_35 : decode cX9_make 35 = .ok (.ifCond .gt 7, 3) := by decide +kernel
theorem dX9_make_38 : decode cX9_make 38 = .ok (.iload_n 3, 1) := by decide +kernel
theorem dX9_make_39 : decode cX9_make 39 = .ok (.ifCond .le 5, 3) := by decide +kernel
theorem dX9_make_42 : decode cX9_make 42 = .ok (.iconst (-1), 1) := by decide +kernel
theorem dX9_make_43 : decode cX9_make 43 = .ok (.ireturn, 1) := by decide +kernel
theorem dX9_make_44 : decode cX9_make 44 = .ok (.aload_n 0, 1) := by decide +kernel
theorem dX9_make_45 : decode cX9_make 45 = .ok (.getfield 126, 3) := by decide +kernel
theorem dX9_make_48 : decode cX9_make 48 = .ok (.bipush 40, 2) := by decide +kernel
theorem dX9_make_50 : decode cX9_make 50 = .ok (.if_icmp .ne 6, 3) := by decide +kernel
theorem dX9_make_53 : decode cX9_make 53 = .ok (.bipush (-6), 2) := by decide +kernel
theorem dX9_make_55 : decode cX9_make 55 = .ok (.ireturn, 1) := by decide +kernel
theorem dX9_make_56 : decode cX9_make 56 = .ok (.aload_n 0, 1) := by decide +kernel
theorem dX9_make_57 : decode cX9_make 57 = .ok (.getfield 126, 3) := by decide +kernel
theorem dX9_make_60 : decode cX9_make 60 = .ok (.istore 4, 2) := by decide +kernel
theorem dX9_make_62 : decode cX9_make 62 = .ok (.aload_n 0, 1) := by decide +kernel
theorem dX9_make_63 : decode cX9_make 63 = .ok (.getfield 9, 3) := by decide +kernel
theorem dX9_make_66 : decode cX9_make 66 = .ok (.iload 4, 2) := by decide +kernel
theorem dX9_make_68 : decode cX9_make 68 = .ok (.iload_n 1, 1) := by decide +kernel
theorem dX9_make_69 : decode cX9_make 69 = .ok (.iastore, 1) := by decide +kernel
theorem dX9_make_70 : decode cX9_make 70 = .ok (.aload_n 0, 1) := by decide +kernel
theorem dX9_make_71 : decode cX9_make 71 = .ok (.getfield 13, 3) := by decide +kernel
theorem dX9_make_74 : decode cX9_make 74 = .ok (.iload 4, 2) := by decide +kernel
theorem dX9_make_76 : decode cX9_make 76 = .ok (.iload_n 2, 1) := by decide +kernel
theorem dX9_make_77 : decode cX9_make 77 = .ok (.iastore, 1) := by decide +kernel
theorem dX9_make_78 : decode cX9_make 78 = .ok (.aload_n 0, 1) := by decide +kernel
theorem dX9_make_79 : decode cX9_make 79 = .ok (.getfield 16, 3) := by decide +kernel
theorem dX9_make_82 : decode cX9_make 82 = .ok (.iload 4, 2) := by decide +kernel
theorem dX9_make_84 : decode cX9_make 84 = .ok (.iload_n 3, 1) := by decide +kernel
theorem dX9_make_85 : decode cX9_make 85 = .ok (.iastore, 1) := by decide +kernel
theorem dX9_make_86 : decode cX9_make 86 = .ok (.aload_n 0, 1) := by decide +kernel
theorem dX9_make_87 : decode cX9_make 87 = .ok (.getfield 22, 3) := by decide +kernel
theorem dX9_make_90 : decode cX9_make 90 = .ok (.iload 4, 2) := by decide +kernel
theorem dX9_make_92 : decode cX9_make 92 = .ok (.iconst 1, 1) := by decide +kernel
theorem dX9_make_93 : decode cX9_make 93 = .ok (.iastore, 1) := by decide +kernel
theorem dX9_make_94 : decode cX9_make 94 = .ok (.aload_n 0, 1) := by decide +kernel
theorem dX9_make_95 : decode cX9_make 95 = .ok (.getfield 28, 3) := by decide +kernel
theorem dX9_make_98 : decode cX9_make 98 = .ok (.iload 4, 2) := by decide +kernel
theorem dX9_make_100 : decode cX9_make 100 = .ok (.iconst 1, 1) := by decide +kernel
theorem dX9_make_101 : decode cX9_make 101 = .ok (.iastore, 1) := by decide +kernel
theorem dX9_make_102 : decode cX9_make 102 = .ok (.aload_n 0, 1) := by decide +kernel
theorem dX9_make_103 : decode cX9_make 103 = .ok (.getfield 59, 3) := by decide +kernel
theorem dX9_make_106 : decode cX9_make 106 = .ok (.iload 4, 2) := by decide +kernel
theorem dX9_make_108 : decode cX9_make 108 = .ok (.iconst (-1), 1) := by decide +kernel
theorem dX9_make_109 : decode cX9_make 109 = .ok (.iastore, 1) := by decide +kernel
theorem dX9_make_110 : decode cX9_make 110 = .ok (.aload_n 0, 1) := by decide +kernel
theorem dX9_make_111 : decode cX9_make 111 = .ok (.dup, 1) := by decide +kernel
theorem dX9_make_112 : decode cX9_make 112 = .ok (.getfield 126, 3) := by decide +kernel
theorem dX9_make_115 : decode cX9_make 115 = .ok (.iconst 1, 1) := by decide +kernel
theorem dX9_make_116 : decode cX9_make 116 = .ok (.iadd, 1) := by decide +kernel
theorem dX9_make_117 : decode cX9_make 117 = .ok (.putfield 126, 3) := by decide +kernel
theorem dX9_make_120 : decode cX9_make 120 = .ok (.iload 4, 2) := by decide +kernel
theorem dX9_make_122 : decode cX9_make 122 = .ok (.ireturn, 1) := by decide +kernel
theorem dX9_life_0 : decode cX9_life 0 = .ok (.aload_n 0, 1) := by decide +kernel
theorem dX9_life_1 : decode cX9_life 1 = .ok (.iload_n 1, 1) := by decide +kernel
theorem dX9_life_2 : decode cX9_life 2 = .ok (.invokevirtual 135, 3) := by decide +kernel
theorem dX9_life_5 : decode cX9_life 5 = .ok (.ifCond .eq 24, 3) := by decide +kernel
theorem dX9_life_8 : decode cX9_life 8 = .ok (.iload_n 2, 1) := by decide +kernel
theorem dX9_life_9 : decode cX9_life 9 = .ok (.ifCond .lt 20, 3) := by decide +kernel
theorem dX9_life_12 : decode cX9_life 12 = .ok (.iload_n 2, 1) := by decide +kernel
theorem dX9_life_13 : decode cX9_life 13 = .ok (.bipush 7, 2) := by decide +kernel
theorem dX9_life_15 : decode cX9_life 15 = .ok (.if_icmp .gt 14, 3) := by decide +kernel
theorem dX9_life_18 : decode cX9_life 18 = .ok (.iload_n 3, 1) := by decide +kernel
theorem dX9_life_19 : decode cX9_life 19 = .ok (.ifCond .lt 10, 3) := by decide +kernel
theorem dX9_life_22 : decode cX9_life 22 = .ok (.iload_n 3, 1) := by decide +kernel
theorem dX9_life_23 : decode cX9_life 23 = .ok (.sipush 1000, 3) := by decide +kernel
theorem dX9_life_26 : decode cX9_life 26 = .ok (.if_icmp .le 5, 3) := by decide +kernel
theorem dX9_life_29 : decode cX9_life 29 = .ok (.iconst (-1), 1) := by decide +kernel
theorem dX9_life_30 : decode cX9_life 30 = .ok (.ireturn, 1) := by decide +kernel
theorem dX9_life_31 : decode cX9_life 31 = .ok (.aload_n 0, 1) := by decide +kernel
theorem dX9_life_32 : decode cX9_life 32 = .ok (.getfield 9, 3) := by decide +kernel
theorem dX9_life_35 : decode cX9_life 35 = .ok (.iload_n 1, 1) := by decide +kernel
theorem dX9_life_36 : decode cX9_life 36 = .ok (.iaload, 1) := by decide +kernel
theorem dX9_life_37 : decode cX9_life 37 = .ok (.iconst 3, 1) := by decide +kernel
theorem dX9_life_38 : decode cX9_life 38 = .ok (.if_icmp .ne 6, 3) := by decide +kernel
theorem dX9_life_41 : decode cX9_life 41 = .ok (.bipush (-2), 2) := by decide +kernel
theorem dX9_life_43 : decode cX9_life 43 = .ok (.ireturn, 1) := by decide +kernel
theorem dX9_life_44 : decode cX9_life 44 = .ok (.aload_n 0, 1) := by decide +kernel
theorem dX9_life_45 : decode cX9_life 45 = .ok (.getfield 19, 3) := by decide +kernel
theorem dX9_life_48 : decode cX9_life 48 = .ok (.bipush 8, 2) := by decide +kernel
theorem dX9_life_50 : decode cX9_life 50 = .ok (.iload_n 1, 1) := by decide +kernel
theorem dX9_life_51 : decode cX9_life 51 = .ok (.imul, 1) := by decide +kernel
theorem dX9_life_52 : decode cX9_life 52 = .ok (.iload_n 2, 1) := by decide +kernel
theorem dX9_life_53 : decode cX9_life 53 = .ok (.iadd, 1) := by decide +kernel
theorem dX9_life_54 : decode cX9_life 54 = .ok (.iaload, 1) := by decide +kernel
theorem dX9_life_55 : decode cX9_life 55 = .ok (.istore 4, 2) := by decide +kernel
theorem dX9_life_57 : decode cX9_life 57 = .ok (.aload_n 0, 1) := by decide +kernel
theorem dX9_life_58 : decode cX9_life 58 = .ok (.getfield 19, 3) := by decide +kernel
theorem dX9_life_61 : decode cX9_life 61 = .ok (.bipush 8, 2) := by decide +kernel
theorem dX9_life_63 : decode cX9_life 63 = .ok (.iload_n 1, 1) := by decide +kernel
theorem dX9_life_64 : decode cX9_life 64 = .ok (.imul, 1) := by decide +kernel
theorem dX9_life_65 : decode cX9_life 65 = .ok (.iload_n 2, 1) := by decide +kernel
theorem dX9_life_66 : decode cX9_life 66 = .ok (.iadd, 1) := by decide +kernel
theorem dX9_life_67 : decode cX9_life 67 = .ok (.iload_n 3, 1) := by decide +kernel
theorem dX9_life_68 : decode cX9_life 68 = .ok (.iastore, 1) := by decide +kernel
theorem dX9_life_69 : decode cX9_life 69 = .ok (.iload 4, 2) := by decide +kernel
theorem dX9_life_71 : decode cX9_life 71 = .ok (.ireturn, 1) := by decide +kernel
theorem dX9_again_0 : decode cX9_again 0 = .ok (.aload_n 0, 1) := by decide +kernel
theorem dX9_again_1 : decode cX9_again 1 = .ok (.iload_n 1, 1) := by decide +kernel
theorem dX9_again_2 : decode cX9_again 2 = .ok (.invokevirtual 135, 3) := by decide +kernel
theorem dX9_again_5 : decode cX9_again 5 = .ok (.ifCond .eq 38, 3) := by decide +kernel
theorem dX9_again_8 : decode cX9_again 8 = .ok (.iload_n 2, 1) := by decide +kernel
theorem dX9_again_9 : decode cX9_again 9 = .ok (.iconst 1, 1) := by decide +kernel
theorem dX9_again_10 : decode cX9_again 10 = .ok (.if_icmp .lt 33, 3) := by decide +kernel
theorem dX9_again_13 : decode cX9_again 13 = .ok (.iload_n 2, 1) := by decide +kernel
theorem dX9_again_14 : decode cX9_again 14 = .ok (.bipush 50, 2) := by decide +kernel
theorem dX9_again_16 : decode cX9_again 16 = .ok (.if_icmp .gt 27, 3) := by decide +kernel
theorem dX9_again_19 : decode cX9_again 19 = .ok (.iload_n 3, 1) := by decide +kernel
theorem dX9_again_20 : decode cX9_again 20 = .ok (.ifCond .lt 23, 3) := by decide +kernel
theorem dX9_again_23 : decode cX9_again 23 = .ok (.iload_n 3, 1) := by decide +kernel
theorem dX9_again_24 : decode cX9_again 24 = .ok (.bipush 10, 2) := by decide +kernel
theorem dX9_again_26 : decode cX9_again 26 = .ok (.if_icmp .gt 17, 3) := by decide +kernel
theorem dX9_again_29 : decode cX9_again 29 = .ok (.iload 4, 2) := by decide +kernel
theorem dX9_again_31 : decode cX9_again 31 = .ok (.iconst 1, 1) := by decide +kernel
theorem dX9_again_32 : decode cX9_again 32 = .ok (.if_icmp .lt 11, 3) := by decide +kernel
theorem dX9_again_35 : decode cX9_again 35 = .ok (.iload 4, 2) := by decide +kernel
theorem dX9_again_37 : decode cX9_again 37 = .ok (.sipush 200, 3) := by decide +kernel
theorem dX9_again_40 : decode cX9_again 40 = .ok (.if_icmp .le 5, 3) := by decide +kernel
theorem dX9_again_43 : decode cX9_again 43 = .ok (.iconst (-1), 1) := by decide +kernel
theorem dX9_again_44 : decode cX9_again 44 = .ok (.ireturn, 1) := by decide +kernel
theorem dX9_again_45 : decode cX9_again 45 = .ok (.aload_n 0, 1) := by decide +kernel
theorem dX9_again_46 : decode cX9_again 46 = .ok (.getfield 22, 3) := by decide +kernel
theorem dX9_again_49 : decode cX9_again 49 = .ok (.iload_n 1, 1) := by decide +kernel
theorem dX9_again_50 : decode cX9_again 50 = .ok (.iload_n 2, 1) := by decide +kernel
theorem dX9_again_51 : decode cX9_again 51 = .ok (.iastore, 1) := by decide +kernel
theorem dX9_again_52 : decode cX9_again 52 = .ok (.aload_n 0, 1) := by decide +kernel
theorem dX9_again_53 : decode cX9_again 53 = .ok (.getfield 25, 3) := by decide +kernel
theorem dX9_again_56 : decode cX9_again 56 = .ok (.iload_n 1, 1) := by decide +kernel
theorem dX9_again_57 : decode cX9_again 57 = .ok (.iload_n 3, 1) := by decide +kernel
theorem dX9_again_58 : decode cX9_again 58 = .ok (.iastore, 1) := by decide +kernel
theorem dX9_again_59 : decode cX9_again 59 = .ok (.aload_n 0, 1) := by decide +kernel
theorem dX9_again_60 : decode cX9_again 60 = .ok (.getfield 28, 3) := by decide +kernel
theorem dX9_again_63 : decode cX9_again 63 = .ok (.iload_n 1, 1) := by decide +kernel
theorem dX9_again_64 : decode cX9_again 64 = .ok (.iload 4, 2) := by decide +kernel
theorem dX9_again_66 : decode cX9_again 66 = .ok (.iastore, 1) := by decide +kernel
theorem dX9_again_67 : decode cX9_again 67 = .ok (.iconst 1, 1) := by decide +kernel
theorem dX9_again_68 : decode cX9_again 68 = .ok (.ireturn, 1) := by decide +kernel
theorem dX1_weigh_0 : decode cX1_weigh 0 = .ok (.lload_n 3, 1) := by decide +kernel
theorem dX1_weigh_1 : decode cX1_weigh 1 = .ok (.lload 5, 2) := by decide +kernel
theorem dX1_weigh_3 : decode cX1_weigh 3 = .ok (.lor, 1) := by decide +kernel
theorem dX1_weigh_4 : decode cX1_weigh 4 = .ok (.lstore 7, 2) := by decide +kernel
theorem dX1_weigh_6 : decode cX1_weigh 6 = .ok (.aload_n 0, 1) := by decide +kernel
theorem dX1_weigh_7 : decode cX1_weigh 7 = .ok (.lconst 0, 1) := by decide +kernel
theorem dX1_weigh_8 : decode cX1_weigh 8 = .ok (.putfield 15, 3) := by decide +kernel
theorem dX1_weigh_11 : decode cX1_weigh 11 = .ok (.iload_n 1, 1) := by decide +kernel
theorem dX1_weigh_12 : decode cX1_weigh 12 = .ok (.iconst 1, 1) := by decide +kernel
theorem dX1_weigh_13 : decode cX1_weigh 13 = .ok (.if_icmp .ne 26, 3) := by decide +kernel
theorem dX1_weigh_16 : decode cX1_weigh 16 = .ok (.aload_n 0, 1) := by decide +kernel
theorem dX1_weigh_17 : decode cX1_weigh 17 = .ok (.aload_n 0, 1) := by decide +kernel
theorem dX1_weigh_18 : decode cX1_weigh 18 = .ok (.getfield 9, 3) := by decide +kernel
theorem dX1_weigh_21 : decode cX1_weigh 21 = .ok (.iload_n 2, 1) := by decide +kernel
theorem dX1_weigh_22 : decode cX1_weigh 22 = .ok (.invokestatic 19, 3) := by decide +kernel
theorem dX1_weigh_25 : decode cX1_weigh 25 = .ok (.lload 7, 2) := by decide +kernel
theorem dX1_weigh_27 : decode cX1_weigh 27 = .ok (.invokevirtual 23, 3) := by decide +kernel
theorem dX1_weigh_30 : decode cX1_weigh 30 = .ok (.lload 7, 2) := by decide +kernel
theorem dX1_weigh_32 : decode cX1_weigh 32 = .ok (.land, 1) := by decide +kernel
theorem dX1_weigh_33 : decode cX1_weigh 33 = .ok (.putfield 29, 3) := by decide +kernel
theorem dX1_weigh_36 : decode cX1_weigh 36 = .ok (.goto 99, 3) := by decide +kernel
theorem dX1_weigh_39 : decode cX1_weigh 39 = .ok (.aload_n 0, 1) := by decide +kernel
theorem dX1_weigh_40 : decode cX1_weigh 40 = .ok (.iload_n 2, 1) := by decide +kernel
theorem dX1_weigh_41 : decode cX1_weigh 41 = .ok (.lload_n 3, 1) := by decide +kernel
theorem dX1_weigh_42 : decode cX1_weigh 42 = .ok (.ldc2_w 32, 3) := by decide +kernel
theorem dX1_weigh_45 : decode cX1_weigh 45 = .ok (.lxor, 1) := by decide +kernel
theorem dX1_weigh_46 : decode cX1_weigh 46 = .ok (.invokevirtual 34, 3) := by decide +kernel
theorem dX1_weigh_49 : decode cX1_weigh 49 = .ok (.istore 9, 2) := by decide +kernel
theorem dX1_weigh_51 : decode cX1_weigh 51 = .ok (.iload 9, 2) := by decide +kernel
theorem dX1_weigh_53 : decode cX1_weigh 53 = .ok (.ifCond .ge 6, 3) := by decide +kernel
theorem dX1_weigh_56 : decode cX1_weigh 56 = .ok (.iload 9, 2) := by decide +kernel
theorem dX1_weigh_58 : decode cX1_weigh 58 = .ok (.ireturn, 1) := by decide +kernel
theorem dX1_weigh_59 : decode cX1_weigh 59 = .ok (.aload_n 0, 1) := by decide +kernel
theorem dX1_weigh_60 : decode cX1_weigh 60 = .ok (.lload_n 3, 1) := by decide +kernel
theorem dX1_weigh_61 : decode cX1_weigh 61 = .ok (.ldc2_w 32, 3) := by decide +kernel
theorem dX1_weigh_64 : decode cX1_weigh 64 = .ok (.lxor, 1) := by decide +kernel
theorem dX1_weigh_65 : decode cX1_weigh 65 = .ok (.invokevirtual 38, 3) := by decide +kernel
theorem dX1_weigh_68 : decode cX1_weigh 68 = .ok (.aload_n 0, 1) := by decide +kernel
theorem dX1_weigh_69 : decode cX1_weigh 69 = .ok (.getfield 9, 3) := by decide +kernel
theorem dX1_weigh_72 : decode cX1_weigh 72 = .ok (.iconst 3, 1) := by decide +kernel
theorem dX1_weigh_73 : decode cX1_weigh 73 = .ok (.aload_n 0, 1) := by decide +kernel
theorem dX1_weigh_74 : decode cX1_weigh 74 = .ok (.getfield 15, 3) := by decide +kernel
theorem dX1_weigh_77 : decode cX1_weigh 77 = .ok (.invokevirtual 42, 3) := by decide +kernel
theorem dX1_weigh_80 : decode cX1_weigh 80 = .ok (.iload_n 1, 1) := by decide +kernel
theorem dX1_weigh_81 : decode cX1_weigh 81 = .ok (.iconst 2, 1) := by decide +kernel
theorem dX1_weigh_82 : decode cX1_weigh 82 = .ok (.if_icmp .ne 14, 3) := by decide +kernel
theorem dX1_weigh_85 : decode cX1_weigh 85 = .ok (.aload_n 0, 1) := by decide +kernel
theorem dX1_weigh_86 : decode cX1_weigh 86 = .ok (.getfield 15, 3) := by decide +kernel
theorem dX1_weigh_89 : decode cX1_weigh 89 = .ok (.ldc2_w 32, 3) := by decide +kernel
theorem dX1_weigh_92 : decode cX1_weigh 92 = .ok (.lxor, 1) := by decide +kernel
theorem dX1_weigh_93 : decode cX1_weigh 93 = .ok (.goto 4, 3) := by decide +kernel
theorem dX1_weigh_96 : decode cX1_weigh 96 = .ok (.lconst 0, 1) := by decide +kernel
theorem dX1_weigh_97 : decode cX1_weigh 97 = .ok (.lor, 1) := by decide +kernel
theorem dX1_weigh_98 : decode cX1_weigh 98 = .ok (.lstore 10, 2) := by decide +kernel
theorem dX1_weigh_100 : decode cX1_weigh 100 = .ok (.aload_n 0, 1) := by decide +kernel
theorem dX1_weigh_101 : decode cX1_weigh 101 = .ok (.aload_n 0, 1) := by decide +kernel
theorem dX1_weigh_102 : decode cX1_weigh 102 = .ok (.getfield 9, 3) := by decide +kernel
theorem dX1_weigh_105 : decode cX1_weigh 105 = .ok (.lload 10, 2) := by decide +kernel
theorem dX1_weigh_107 : decode cX1_weigh 107 = .ok (.lload 7, 2) := by decide +kernel
theorem dX1_weigh_109 : decode cX1_weigh 109 = .ok (.land, 1) := by decide +kernel
theorem dX1_weigh_110 : decode cX1_weigh 110 = .ok (.lload 7, 2) := by decide +kernel
theorem dX1_weigh_112 : decode cX1_weigh 112 = .ok (.invokevirtual 23, 3) := by decide +kernel
theorem dX1_weigh_115 : decode cX1_weigh 115 = .ok (.putfield 29, 3) := by decide +kernel
theorem dX1_weigh_118 : decode cX1_weigh 118 = .ok (.aload_n 0, 1) := by decide +kernel
theorem dX1_weigh_119 : decode cX1_weigh 119 = .ok (.getfield 29, 3) := by decide +kernel
theorem dX1_weigh_122 : decode cX1_weigh 122 = .ok (.aload_n 0, 1) := by decide +kernel
theorem dX1_weigh_123 : decode cX1_weigh 123 = .ok (.getfield 15, 3) := by decide +kernel
theorem dX1_weigh_126 : decode cX1_weigh 126 = .ok (.land, 1) := by decide +kernel
theorem dX1_weigh_127 : decode cX1_weigh 127 = .ok (.lconst 0, 1) := by decide +kernel
theorem dX1_weigh_128 : decode cX1_weigh 128 = .ok (.lcmp, 1) := by decide +kernel
theorem dX1_weigh_129 : decode cX1_weigh 129 = .ok (.ifCond .eq 6, 3) := by decide +kernel
theorem dX1_weigh_132 : decode cX1_weigh 132 = .ok (.bipush (-4), 2) := by decide +kernel
theorem dX1_weigh_134 : decode cX1_weigh 134 = .ok (.ireturn, 1) := by decide +kernel
theorem dX1_weigh_135 : decode cX1_weigh 135 = .ok (.aload_n 0, 1) := by decide +kernel
theorem dX1_weigh_136 : decode cX1_weigh 136 = .ok (.aload_n 0, 1) := by decide +kernel
theorem dX1_weigh_137 : decode cX1_weigh 137 = .ok (.getfield 15, 3) := by decide +kernel
theorem dX1_weigh_140 : decode cX1_weigh 140 = .ok (.lload_n 3, 1) := by decide +kernel
theorem dX1_weigh_141 : decode cX1_weigh 141 = .ok (.ldc2_w 32, 3) := by decide +kernel
theorem dX1_weigh_144 : decode cX1_weigh 144 = .ok (.lxor, 1) := by decide +kernel
theorem dX1_weigh_145 : decode cX1_weigh 145 = .ok (.land, 1) := by decide +kernel
theorem dX1_weigh_146 : decode cX1_weigh 146 = .ok (.putfield 46, 3) := by decide +kernel
theorem dX1_weigh_149 : decode cX1_weigh 149 = .ok (.aload_n 0, 1) := by decide +kernel
theorem dX1_weigh_150 : decode cX1_weigh 150 = .ok (.aload_n 0, 1) := by decide +kernel
theorem dX1_weigh_151 : decode cX1_weigh 151 = .ok (.getfield 9, 3) := by decide +kernel
theorem dX1_weigh_154 : decode cX1_weigh 154 = .ok (.aload_n 0, 1) := by decide +kernel
theorem dX1_weigh_155 : decode cX1_weigh 155 = .ok (.getfield 29, 3) := by decide +kernel
theorem dX1_weigh_158 : decode cX1_weigh 158 = .ok (.invokevirtual 49, 3) := by decide +kernel
theorem dX1_weigh_161 : decode cX1_weigh 161 = .ok (.putfield 53, 3) := by decide +kernel
theorem dX1_weigh_164 : decode cX1_weigh 164 = .ok (.aload_n 0, 1) := by decide +kernel
theorem dX1_weigh_165 : decode cX1_weigh 165 = .ok (.getfield 53, 3) := by decide +kernel
theorem dX1_weigh_168 : decode cX1_weigh 168 = .ok (.ifCond .le 8, 3) := by decide +kernel
theorem dX1_weigh_171 : decode cX1_weigh 171 = .ok (.bipush (-5), 2) := by decide +kernel
theorem dX1_weigh_173 : decode cX1_weigh 173 = .ok (.goto 15, 3) := by decide +kernel
theorem dX1_weigh_176 : decode cX1_weigh 176 = .ok (.aload_n 0, 1) := by decide +kernel
theorem dX1_weigh_177 : decode cX1_weigh 177 = .ok (.getfield 46, 3) := by decide +kernel
theorem dX1_weigh_180 : decode cX1_weigh 180 = .ok (.aload_n 0, 1) := by decide +kernel
theorem dX1_weigh_181 : decode cX1_weigh 181 = .ok (.getfield 29, 3) := by decide +kernel
theorem dX1_weigh_184 : decode cX1_weigh 184 = .ok (.lor, 1) := by decide +kernel
theorem dX1_weigh_185 : decode cX1_weigh 185 = .ok (.invokestatic 57, 3) := by decide +kernel
theorem dX1_weigh_188 : decode cX1_weigh 188 = .ok (.ireturn, 1) := by decide +kernel
theorem dX2_tell_0 : decode cX2_tell 0 = .ok (.iload_n 1, 1) := by decide +kernel
theorem dX2_tell_1 : decode cX2_tell 1 = .ok (.ifCond .lt 23, 3) := by decide +kernel
theorem dX2_tell_4 : decode cX2_tell 4 = .ok (.iload_n 1, 1) := by decide +kernel
theorem dX2_tell_5 : decode cX2_tell 5 = .ok (.aload_n 0, 1) := by decide +kernel
theorem dX2_tell_6 : decode cX2_tell 6 = .ok (.getfield 15, 3) := by decide +kernel
theorem dX2_tell_9 : decode cX2_tell 9 = .ok (.if_icmp .ge 15, 3) := by decide +kernel
theorem dX2_tell_12 : decode cX2_tell 12 = .ok (.iload_n 1, 1) := by decide +kernel
theorem dX2_tell_13 : decode cX2_tell 13 = .ok (.aload_n 0, 1) := by decide +kernel
theorem dX2_tell_14 : decode cX2_tell 14 = .ok (.getfield 15, 3) := by decide +kernel
theorem dX2_tell_17 : decode cX2_tell 17 = .ok (.sipush 2000, 3) := by decide +kernel
theorem dX2_tell_20 : decode cX2_tell 20 = .ok (.isub, 1) := by decide +kernel
theorem dX2_tell_21 : decode cX2_tell 21 = .ok (.if_icmp .ge 5, 3) := by decide +kernel
theorem dX2_tell_24 : decode cX2_tell 24 = .ok (.iconst (-1), 1) := by decide +kernel
theorem dX2_tell_25 : decode cX2_tell 25 = .ok (.ireturn, 1) := by decide +kernel
theorem dX2_tell_26 : decode cX2_tell 26 = .ok (.aload_n 0, 1) := by decide +kernel
theorem dX2_tell_27 : decode cX2_tell 27 = .ok (.getfield 9, 3) := by decide +kernel
theorem dX2_tell_30 : decode cX2_tell 30 = .ok (.iload_n 1, 1) := by decide +kernel
theorem dX2_tell_31 : decode cX2_tell 31 = .ok (.sipush 2000, 3) := by decide +kernel
theorem dX2_tell_34 : decode cX2_tell 34 = .ok (.irem, 1) := by decide +kernel
theorem dX2_tell_35 : decode cX2_tell 35 = .ok (.laload, 1) := by decide +kernel
theorem dX2_tell_36 : decode cX2_tell 36 = .ok (.lstore_n 3, 1) := by decide +kernel
theorem dX2_tell_37 : decode cX2_tell 37 = .ok (.iload_n 2, 1) := by decide +kernel
theorem dX2_tell_38 : decode cX2_tell 38 = .ok (.tableswitch 51 0 2 #[26, 33, 44], 26) := by decide +kernel
theorem dX2_tell_64 : decode cX2_tell 64 = .ok (.lload_n 3, 1) := by decide +kernel
theorem dX2_tell_65 : decode cX2_tell 65 = .ok (.ldc2_w 25, 3) := by decide +kernel
theorem dX2_tell_68 : decode cX2_tell 68 = .ok (.ldiv, 1) := by decide +kernel
theorem dX2_tell_69 : decode cX2_tell 69 = .ok (.l2i, 1) := by decide +kernel
theorem dX2_tell_70 : decode cX2_tell 70 = .ok (.ireturn, 1) := by decide +kernel
theorem dX2_tell_71 : decode cX2_tell 71 = .ok (.lload_n 3, 1) := by decide +kernel
theorem dX2_tell_72 : decode cX2_tell 72 = .ok (.ldc2_w 25, 3) := by decide +kernel
theorem dX2_tell_75 : decode cX2_tell 75 = .ok (.lrem, 1) := by decide +kernel
theorem dX2_tell_76 : decode cX2_tell 76 = .ok (.ldc2_w 27, 3) := by decide +kernel
theorem dX2_tell_79 : decode cX2_tell 79 = .ok (.ldiv, 1) := by decide +kernel
theorem dX2_tell_80 : decode cX2_tell 80 = .ok (.l2i, 1) := by decide +kernel
theorem dX2_tell_81 : decode cX2_tell 81 = .ok (.ireturn, 1) := by decide +kernel
theorem dX2_tell_82 : decode cX2_tell 82 = .ok (.lload_n 3, 1) := by decide +kernel
theorem dX2_tell_83 : decode cX2_tell 83 = .ok (.ldc2_w 27, 3) := by decide +kernel
theorem dX2_tell_86 : decode cX2_tell 86 = .ok (.lrem, 1) := by decide +kernel
theorem dX2_tell_87 : decode cX2_tell 87 = .ok (.l2i, 1) := by decide +kernel
theorem dX2_tell_88 : decode cX2_tell 88 = .ok (.ireturn, 1) := by decide +kernel
theorem dX2_tell_89 : decode cX2_tell 89 = .ok (.iconst (-1), 1) := by decide +kernel
theorem dX2_tell_90 : decode cX2_tell 90 = .ok (.ireturn, 1) := by decide +kernel
theorem dX8_life_0 : decode cX8_life 0 = .ok (.aload_n 0, 1) := by decide +kernel
theorem dX8_life_1 : decode cX8_life 1 = .ok (.iload_n 1, 1) := by decide +kernel
theorem dX8_life_2 : decode cX8_life 2 = .ok (.invokevirtual 82, 3) := by decide +kernel
theorem dX8_life_5 : decode cX8_life 5 = .ok (.ifCond .eq 24, 3) := by decide +kernel
theorem dX8_life_8 : decode cX8_life 8 = .ok (.iload_n 2, 1) := by decide +kernel
theorem dX8_life_9 : decode cX8_life 9 = .ok (.iconst 0, 1) := by decide +kernel
theorem dX8_life_10 : decode cX8_life 10 = .ok (.bipush 7, 2) := by decide +kernel
theorem dX8_life_12 : decode cX8_life 12 = .ok (.invokestatic 57, 3) := by decide +kernel
theorem dX8_life_15 : decode cX8_life 15 = .ok (.ifCond .eq 14, 3) := by decide +kernel
theorem dX8_life_18 : decode cX8_life 18 = .ok (.iload_n 3, 1) := by decide +kernel
theorem dX8_life_19 : decode cX8_life 19 = .ok (.iconst 0, 1) := by decide +kernel
theorem dX8_life_20 : decode cX8_life 20 = .ok (.sipush 1000, 3) := by decide +kernel
theorem dX8_life_23 : decode cX8_life 23 = .ok (.invokestatic 57, 3) := by decide +kernel
theorem dX8_life_26 : decode cX8_life 26 = .ok (.ifCond .ne 5, 3) := by decide +kernel
theorem dX8_life_29 : decode cX8_life 29 = .ok (.iconst (-1), 1) := by decide +kernel
theorem dX8_life_30 : decode cX8_life 30 = .ok (.ireturn, 1) := by decide +kernel
theorem dX8_life_31 : decode cX8_life 31 = .ok (.aload_n 0, 1) := by decide +kernel
theorem dX8_life_32 : decode cX8_life 32 = .ok (.getfield 10, 3) := by decide +kernel
theorem dX8_life_35 : decode cX8_life 35 = .ok (.iload_n 1, 1) := by decide +kernel
theorem dX8_life_36 : decode cX8_life 36 = .ok (.invokevirtual 86, 3) := by decide +kernel
theorem dX8_life_39 : decode cX8_life 39 = .ok (.checkcast 65, 3) := by decide +kernel
theorem dX8_life_42 : decode cX8_life 42 = .ok (.astore 4, 2) := by decide +kernel
theorem dX8_life_44 : decode cX8_life 44 = .ok (.aload 4, 2) := by decide +kernel
theorem dX8_life_46 : decode cX8_life 46 = .ok (.getfield 90, 3) := by decide +kernel
theorem dX8_life_49 : decode cX8_life 49 = .ok (.iconst 3, 1) := by decide +kernel
theorem dX8_life_50 : decode cX8_life 50 = .ok (.if_icmp .ne 6, 3) := by decide +kernel
theorem dX8_life_53 : decode cX8_life 53 = .ok (.bipush (-2), 2) := by decide +kernel
theorem dX8_life_55 : decode cX8_life 55 = .ok (.ireturn, 1) := by decide +kernel
theorem dX8_life_56 : decode cX8_life 56 = .ok (.aload 4, 2) := by decide +kernel
theorem dX8_life_58 : decode cX8_life 58 = .ok (.getfield 93, 3) := by decide +kernel
theorem dX8_life_61 : decode cX8_life 61 = .ok (.iload_n 2, 1) := by decide +kernel
theorem dX8_life_62 : decode cX8_life 62 = .ok (.iaload, 1) := by decide +kernel
theorem dX8_life_63 : decode cX8_life 63 = .ok (.istore 5, 2) := by decide +kernel
theorem dX8_life_65 : decode cX8_life 65 = .ok (.aload 4, 2) := by decide +kernel
theorem dX8_life_67 : decode cX8_life 67 = .ok (.getfield 93, 3) := by decide +kernel
theorem dX8_life_70 : decode cX8_life 70 = .ok (.iload_n 2, 1) := by decide +kernel
theorem dX8_life_71 : decode cX8_life 71 = .ok (.iload_n 3, 1) := by decide +kernel
theorem dX8_life_72 : decode cX8_life 72 = .ok (.iastore, 1) := by decide +kernel
theorem dX8_life_73 : decode cX8_life 73 = .ok (.iload 5, 2) := by decide +kernel
theorem dX8_life_75 : decode cX8_life 75 = .ok (.ireturn, 1) := by decide +kernel
theorem dX8_again_0 : decode cX8_again 0 = .ok (.aload_n 0, 1) := by decide +kernel
theorem dX8_again_1 : decode cX8_again 1 = .ok (.iload_n 1, 1) := by decide +kernel
theorem dX8_again_2 : decode cX8_again 2 = .ok (.invokevirtual 82, 3) := by decide +kernel
theorem dX8_again_5 : decode cX8_again 5 = .ok (.ifCond .eq 35, 3) := by decide +kernel
theorem dX8_again_8 : decode cX8_again 8 = .ok (.iload_n 2, 1) := by decide +kernel
theorem dX8_again_9 : decode cX8_again 9 = .ok (.iconst 1, 1) := by decide +kernel
theorem dX8_again_10 : decode cX8_again 10 = .ok (.bipush 50, 2) := by decide +kernel
theorem dX8_again_12 : decode cX8_again 12 = .ok (.invokestatic 57, 3) := by decide +kernel
theorem dX8_again_15 : decode cX8_again 15 = .ok (.ifCond .eq 25, 3) := by decide +kernel
theorem dX8_again_18 : decode cX8_again 18 = .ok (.iload_n 3, 1) := by decide +kernel
theorem dX8_again_19 : decode cX8_again 19 = .ok (.iconst 0, 1) := by decide +kernel
theorem dX8_again_20 : decode cX8_again 20 = .ok (.bipush 10, 2) := by decide +kernel
theorem dX8_again_22 : decode cX8_again 22 = .ok (.invokestatic 57, 3) := by decide +kernel
theorem dX8_again_25 : decode cX8_again 25 = .ok (.ifCond .eq 15, 3) := by decide +kernel
theorem dX8_again_28 : decode cX8_again 28 = .ok (.iload 4, 2) := by decide +kernel
theorem dX8_again_30 : decode cX8_again 30 = .ok (.iconst 1, 1) := by decide +kernel
theorem dX8_again_31 : decode cX8_again 31 = .ok (.sipush 200, 3) := by decide +kernel
theorem dX8_again_34 : decode cX8_again 34 = .ok (.invokestatic 57, 3) := by decide +kernel
theorem dX8_again_37 : decode cX8_again 37 = .ok (.ifCond .ne 5, 3) := by decide +kernel
theorem dX8_again_40 : decode cX8_again 40 = .ok (.iconst (-1), 1) := by decide +kernel
theorem dX8_again_41 : decode cX8_again 41 = .ok (.ireturn, 1) := by decide +kernel
theorem dX8_again_42 : decode cX8_again 42 = .ok (.aload_n 0, 1) := by decide +kernel
theorem dX8_again_43 : decode cX8_again 43 = .ok (.getfield 10, 3) := by decide +kernel
theorem dX8_again_46 : decode cX8_again 46 = .ok (.iload_n 1, 1) := by decide +kernel
theorem dX8_again_47 : decode cX8_again 47 = .ok (.invokevirtual 86, 3) := by decide +kernel
theorem dX8_again_50 : decode cX8_again 50 = .ok (.checkcast 65, 3) := by decide +kernel
theorem dX8_again_53 : decode cX8_again 53 = .ok (.getfield 97, 3) := by decide +kernel
theorem dX8_again_56 : decode cX8_again 56 = .ok (.iload_n 2, 1) := by decide +kernel
theorem dX8_again_57 : decode cX8_again 57 = .ok (.iload_n 3, 1) := by decide +kernel
theorem dX8_again_58 : decode cX8_again 58 = .ok (.iload 4, 2) := by decide +kernel
theorem dX8_again_60 : decode cX8_again 60 = .ok (.invokevirtual 101, 3) := by decide +kernel
theorem dX8_again_63 : decode cX8_again 63 = .ok (.iconst 1, 1) := by decide +kernel
theorem dX8_again_64 : decode cX8_again 64 = .ok (.ireturn, 1) := by decide +kernel
theorem dX8_canRelate_0 : decode cX8_canRelate 0 = .ok (.iload_n 1, 1) := by decide +kernel
theorem dX8_canRelate_1 : decode cX8_canRelate 1 = .ok (.iconst 0, 1) := by decide +kernel
theorem dX8_canRelate_2 : decode cX8_canRelate 2 = .ok (.iconst 3, 1) := by decide +kernel
theorem dX8_canRelate_3 : decode cX8_canRelate 3 = .ok (.invokestatic 57, 3) := by decide +kernel
theorem dX8_canRelate_6 : decode cX8_canRelate 6 = .ok (.ifCond .eq 28, 3) := by decide +kernel
theorem dX8_canRelate_9 : decode cX8_canRelate 9 = .ok (.aload_n 0, 1) := by decide +kernel
theorem dX8_canRelate_10 : decode cX8_canRelate 10 = .ok (.iload_n 2, 1) := by decide +kernel
theorem dX8_canRelate_11 : decode cX8_canRelate 11 = .ok (.invokevirtual 82, 3) := by decide +kernel
theorem dX8_canRelate_14 : decode cX8_canRelate 14 = .ok (.ifCond .eq 20, 3) := by decide +kernel
theorem dX8_canRelate_17 : decode cX8_canRelate 17 = .ok (.aload_n 0, 1) := by decide +kernel
theorem dX8_canRelate_18 : decode cX8_canRelate 18 = .ok (.iload_n 3, 1) := by decide +kernel
theorem dX8_canRelate_19 : decode cX8_canRelate 19 = .ok (.invokevirtual 82, 3) := by decide +kernel
theorem dX8_canRelate_22 : decode cX8_canRelate 22 = .ok (.ifCond .eq 12, 3) := by decide +kernel
theorem dX8_canRelate_25 : decode cX8_canRelate 25 = .ok (.iload_n 2, 1) := by decide +kernel
theorem dX8_canRelate_26 : decode cX8_canRelate 26 = .ok (.iload_n 3, 1) := by decide +kernel
theorem dX8_canRelate_27 : decode cX8_canRelate 27 = .ok (.if_icmp .eq 7, 3) := by decide +kernel
theorem dX8_canRelate_30 : decode cX8_canRelate 30 = .ok (.iconst 1, 1) := by decide +kernel
theorem dX8_canRelate_31 : decode cX8_canRelate 31 = .ok (.goto 4, 3) := by decide +kernel
theorem dX8_canRelate_34 : decode cX8_canRelate 34 = .ok (.iconst 0, 1) := by decide +kernel
theorem dX8_canRelate_35 : decode cX8_canRelate 35 = .ok (.ireturn, 1) := by decide +kernel
theorem dX8_relation_0 : decode cX8_relation 0 = .ok (.aload_n 0, 1) := by decide +kernel
theorem dX8_relation_1 : decode cX8_relation 1 = .ok (.iload_n 1, 1) := by decide +kernel
theorem dX8_relation_2 : decode cX8_relation 2 = .ok (.iload_n 2, 1) := by decide +kernel
theorem dX8_relation_3 : decode cX8_relation 3 = .ok (.iload_n 3, 1) := by decide +kernel
theorem dX8_relation_4 : decode cX8_relation 4 = .ok (.invokevirtual 107, 3) := by decide +kernel
theorem dX8_relation_7 : decode cX8_relation 7 = .ok (.ifCond .ne 5, 3) := by decide +kernel
theorem dX8_relation_10 : decode cX8_relation 10 = .ok (.iconst (-1), 1) := by decide +kernel
theorem dX8_relation_11 : decode cX8_relation 11 = .ok (.ireturn, 1) := by decide +kernel
theorem dX8_relation_12 : decode cX8_relation 12 = .ok (.aload_n 0, 1) := by decide +kernel
theorem dX8_relation_13 : decode cX8_relation 13 = .ok (.getfield 35, 3) := by decide +kernel
theorem dX8_relation_16 : decode cX8_relation 16 = .ok (.invokevirtual 110, 3) := by decide +kernel
theorem dX8_relation_19 : decode cX8_relation 19 = .ok (.lconst 0, 1) := by decide +kernel
theorem dX8_relation_20 : decode cX8_relation 20 = .ok (.lcmp, 1) := by decide +kernel
theorem dX8_relation_21 : decode cX8_relation 21 = .ok (.ifCond .eq 6, 3) := by decide +kernel
theorem dX8_relation_24 : decode cX8_relation 24 = .ok (.bipush (-3), 2) := by decide +kernel
theorem dX8_relation_26 : decode cX8_relation 26 = .ok (.ireturn, 1) := by decide +kernel
theorem dX8_relation_27 : decode cX8_relation 27 = .ok (.aload_n 0, 1) := by decide +kernel
theorem dX8_relation_28 : decode cX8_relation 28 = .ok (.getfield 53, 3) := by decide +kernel
theorem dX8_relation_31 : decode cX8_relation 31 = .ok (.iconst 0, 1) := by decide +kernel
theorem dX8_relation_32 : decode cX8_relation 32 = .ok (.laload, 1) := by decide +kernel
theorem dX8_relation_33 : decode cX8_relation 33 = .ok (.aload_n 0, 1) := by decide +kernel
theorem dX8_relation_34 : decode cX8_relation 34 = .ok (.getfield 53, 3) := by decide +kernel
theorem dX8_relation_37 : decode cX8_relation 37 = .ok (.iconst 4, 1) := by decide +kernel
theorem dX8_relation_38 : decode cX8_relation 38 = .ok (.laload, 1) := by decide +kernel
theorem dX8_relation_39 : decode cX8_relation 39 = .ok (.lor, 1) := by decide +kernel
theorem dX8_relation_40 : decode cX8_relation 40 = .ok (.lstore 4, 2) := by decide +kernel
theorem dX8_relation_42 : decode cX8_relation 42 = .ok (.iload_n 1, 1) := by decide +kernel
theorem dX8_relation_43 : decode cX8_relation 43 = .ok (.ifCond .eq 8, 3) := by decide +kernel
theorem dX8_relation_46 : decode cX8_relation 46 = .ok (.iload_n 1, 1) := by decide +kernel
theorem dX8_relation_47 : decode cX8_relation 47 = .ok (.iconst 3, 1) := by decide +kernel
theorem dX8_relation_48 : decode cX8_relation 48 = .ok (.if_icmp .ne 24, 3) := by decide +kernel
theorem dX8_relation_51 : decode cX8_relation 51 = .ok (.lload 4, 2) := by decide +kernel
theorem dX8_relation_53 : decode cX8_relation 53 = .ok (.iload_n 2, 1) := by decide +kernel
theorem dX8_relation_54 : decode cX8_relation 54 = .ok (.invokestatic 114, 3) := by decide +kernel
theorem dX8_relation_57 : decode cX8_relation 57 = .ok (.ifCond .eq 12, 3) := by decide +kernel
theorem dX8_relation_60 : decode cX8_relation 60 = .ok (.lload 4, 2) := by decide +kernel
theorem dX8_relation_62 : decode cX8_relation 62 = .ok (.iload_n 3, 1) := by decide +kernel
theorem dX8_relation_63 : decode cX8_relation 63 = .ok (.invokestatic 114, 3) := by decide +kernel
theorem dX8_relation_66 : decode cX8_relation 66 = .ok (.ifCond .ne 6, 3) := by decide +kernel
theorem dX8_relation_69 : decode cX8_relation 69 = .ok (.bipush (-4), 2) := by decide +kernel
theorem dX8_relation_71 : decode cX8_relation 71 = .ok (.ireturn, 1) := by decide +kernel
theorem dX8_relation_72 : decode cX8_relation 72 = .ok (.aload_n 0, 1) := by decide +kernel
theorem dX8_relation_73 : decode cX8_relation 73 = .ok (.getfield 19, 3) := by decide +kernel
theorem dX8_relation_76 : decode cX8_relation 76 = .ok (.iload_n 1, 1) := by decide +kernel
theorem dX8_relation_77 : decode cX8_relation 77 = .ok (.iload_n 2, 1) := by decide +kernel
theorem dX8_relation_78 : decode cX8_relation 78 = .ok (.iload_n 3, 1) := by decide +kernel
theorem dX8_relation_79 : decode cX8_relation 79 = .ok (.invokevirtual 118, 3) := by decide +kernel
theorem dX8_relation_82 : decode cX8_relation 82 = .ok (.ifCond .eq 5, 3) := by decide +kernel
theorem dX8_relation_85 : decode cX8_relation 85 = .ok (.iconst 0, 1) := by decide +kernel
theorem dX8_relation_86 : decode cX8_relation 86 = .ok (.ireturn, 1) := by decide +kernel
theorem dX8_relation_87 : decode cX8_relation 87 = .ok (.aload_n 0, 1) := by decide +kernel
theorem dX8_relation_88 : decode cX8_relation 88 = .ok (.getfield 19, 3) := by decide +kernel
theorem dX8_relation_91 : decode cX8_relation 91 = .ok (.getfield 121, 3) := by decide +kernel
theorem dX8_relation_94 : decode cX8_relation 94 = .ok (.sipush 400, 3) := by decide +kernel
theorem dX8_relation_97 : decode cX8_relation 97 = .ok (.if_icmp .lt 6, 3) := by decide +kernel
theorem dX8_relation_100 : decode cX8_relation 100 = .ok (.bipush (-6), 2) := by decide +kernel
theorem dX8_relation_102 : decode cX8_relation 102 = .ok (.ireturn, 1) := by decide +kernel
theorem dX8_relation_103 : decode cX8_relation 103 = .ok (.aload_n 0, 1) := by decide +kernel
theorem dX8_relation_104 : decode cX8_relation 104 = .ok (.getfield 19, 3) := by decide +kernel
theorem dX8_relation_107 : decode cX8_relation 107 = .ok (.iload_n 1, 1) := by decide +kernel
theorem dX8_relation_108 : decode cX8_relation 108 = .ok (.iload_n 2, 1) := by decide +kernel
theorem dX8_relation_109 : decode cX8_relation 109 = .ok (.iload_n 3, 1) := by decide +kernel
theorem dX8_relation_110 : decode cX8_relation 110 = .ok (.invokevirtual 123, 3) := by decide +kernel
theorem dX8_relation_113 : decode cX8_relation 113 = .ok (.iconst 1, 1) := by decide +kernel
theorem dX8_relation_114 : decode cX8_relation 114 = .ok (.ireturn, 1) := by decide +kernel
theorem dX8_undo_0 : decode cX8_undo 0 = .ok (.aload_n 0, 1) := by decide +kernel
theorem dX8_undo_1 : decode cX8_undo 1 = .ok (.iload_n 1, 1) := by decide +kernel
theorem dX8_undo_2 : decode cX8_undo 2 = .ok (.iload_n 2, 1) := by decide +kernel
theorem dX8_undo_3 : decode cX8_undo 3 = .ok (.iload_n 3, 1) := by decide +kernel
theorem dX8_undo_4 : decode cX8_undo 4 = .ok (.invokevirtual 107, 3) := by decide +kernel
theorem dX8_undo_7 : decode cX8_undo 7 = .ok (.ifCond .ne 5, 3) := by decide +kernel
theorem dX8_undo_10 : decode cX8_undo 10 = .ok (.iconst (-1), 1) := by decide +kernel
theorem dX8_undo_11 : decode cX8_undo 11 = .ok (.ireturn, 1) := by decide +kernel
theorem dX8_undo_12 : decode cX8_undo 12 = .ok (.aload_n 0, 1) := by decide +kernel
theorem dX8_undo_13 : decode cX8_undo 13 = .ok (.getfield 35, 3) := by decide +kernel
theorem dX8_undo_16 : decode cX8_undo 16 = .ok (.invokevirtual 110, 3) := by decide +kernel
theorem dX8_undo_19 : decode cX8_undo 19 = .ok (.lconst 0, 1) := by decide +kernel
theorem dX8_undo_20 : decode cX8_undo 20 = .ok (.lcmp, 1) := by decide +kernel
theorem dX8_undo_21 : decode cX8_undo 21 = .ok (.ifCond .eq 6, 3) := by decide +kernel
theorem dX8_undo_24 : decode cX8_undo 24 = .ok (.bipush (-3), 2) := by decide +kernel
theorem dX8_undo_26 : decode cX8_undo 26 = .ok (.ireturn, 1) := by decide +kernel
theorem dX8_undo_27 : decode cX8_undo 27 = .ok (.aload_n 0, 1) := by decide +kernel
theorem dX8_undo_28 : decode cX8_undo 28 = .ok (.getfield 19, 3) := by decide +kernel
theorem dX8_undo_31 : decode cX8_undo 31 = .ok (.iload_n 1, 1) := by decide +kernel
theorem dX8_undo_32 : decode cX8_undo 32 = .ok (.iload_n 2, 1) := by decide +kernel
theorem dX8_undo_33 : decode cX8_undo 33 = .ok (.iload_n 3, 1) := by decide +kernel
theorem dX8_undo_34 : decode cX8_undo 34 = .ok (.invokevirtual 118, 3) := by decide +kernel
theorem dX8_undo_37 : decode cX8_undo 37 = .ok (.ifCond .ne 5, 3) := by decide +kernel
theorem dX8_undo_40 : decode cX8_undo 40 = .ok (.iconst 0, 1) := by decide +kernel
theorem dX8_undo_41 : decode cX8_undo 41 = .ok (.ireturn, 1) := by decide +kernel
theorem dX8_undo_42 : decode cX8_undo 42 = .ok (.aload_n 0, 1) := by decide +kernel
theorem dX8_undo_43 : decode cX8_undo 43 = .ok (.getfield 19, 3) := by decide +kernel
theorem dX8_undo_46 : decode cX8_undo 46 = .ok (.iload_n 1, 1) := by decide +kernel
theorem dX8_undo_47 : decode cX8_undo 47 = .ok (.iload_n 2, 1) := by decide +kernel
theorem dX8_undo_48 : decode cX8_undo 48 = .ok (.iload_n 3, 1) := by decide +kernel
theorem dX8_undo_49 : decode cX8_undo 49 = .ok (.invokevirtual 125, 3) := by decide +kernel
theorem dX8_undo_52 : decode cX8_undo 52 = .ok (.iconst 1, 1) := by decide +kernel
theorem dX8_undo_53 : decode cX8_undo 53 = .ok (.ireturn, 1) := by decide +kernel
theorem dX8_startingUpOrStopping_0 : decode cX8_startingUpOrStopping 0 = .ok (.aload_n 0, 1) := by decide +kernel
theorem dX8_startingUpOrStopping_1 : decode cX8_startingUpOrStopping 1 = .ok (.getfield 53, 3) := by decide +kernel
theorem dX8_startingUpOrStopping_4 : decode cX8_startingUpOrStopping 4 = .ok (.iconst 1, 1) := by decide +kernel
theorem dX8_startingUpOrStopping_5 : decode cX8_startingUpOrStopping 5 = .ok (.laload, 1) := by decide +kernel
theorem dX8_startingUpOrStopping_6 : decode cX8_startingUpOrStopping 6 = .ok (.aload_n 0, 1) := by decide +kernel
theorem dX8_startingUpOrStopping_7 : decode cX8_startingUpOrStopping 7 = .ok (.getfield 53, 3) := by decide +kernel
theorem dX8_startingUpOrStopping_10 : decode cX8_startingUpOrStopping 10 = .ok (.iconst 2, 1) := by decide +kernel
theorem dX8_startingUpOrStopping_11 : decode cX8_startingUpOrStopping 11 = .ok (.laload, 1) := by decide +kernel
theorem dX8_startingUpOrStopping_12 : decode cX8_startingUpOrStopping 12 = .ok (.lor, 1) := by decide +kernel
theorem dX8_startingUpOrStopping_13 : decode cX8_startingUpOrStopping 13 = .ok (.aload_n 0, 1) := by decide +kernel
theorem dX8_startingUpOrStopping_14 : decode cX8_startingUpOrStopping 14 = .ok (.getfield 53, 3) := by decide +kernel
theorem dX8_startingUpOrStopping_17 : decode cX8_startingUpOrStopping 17 = .ok (.iconst 3, 1) := by decide +kernel
theorem dX8_startingUpOrStopping_18 : decode cX8_startingUpOrStopping 18 = .ok (.laload, 1) := by decide +kernel
theorem dX8_startingUpOrStopping_19 : decode cX8_startingUpOrStopping 19 = .ok (.lor, 1) := by decide +kernel
theorem dX8_startingUpOrStopping_20 : decode cX8_startingUpOrStopping 20 = .ok (.lreturn, 1) := by decide +kernel
theorem dX8_leastLacking_0 : decode cX8_leastLacking 0 = .ok (.aload_n 0, 1) := by decide +kernel
theorem dX8_leastLacking_1 : decode cX8_leastLacking 1 = .ok (.getfield 53, 3) := by decide +kernel
theorem dX8_leastLacking_4 : decode cX8_leastLacking 4 = .ok (.iconst 1, 1) := by decide +kernel
theorem dX8_leastLacking_5 : decode cX8_leastLacking 5 = .ok (.laload, 1) := by decide +kernel
theorem dX8_leastLacking_6 : decode cX8_leastLacking 6 = .ok (.aload_n 0, 1) := by decide +kernel
theorem dX8_leastLacking_7 : decode cX8_leastLacking 7 = .ok (.getfield 53, 3) := by decide +kernel
theorem dX8_leastLacking_10 : decode cX8_leastLacking 10 = .ok (.iconst 2, 1) := by decide +kernel
theorem dX8_leastLacking_11 : decode cX8_leastLacking 11 = .ok (.laload, 1) := by decide +kernel
theorem dX8_leastLacking_12 : decode cX8_leastLacking 12 = .ok (.lor, 1) := by decide +kernel
theorem dX8_leastLacking_13 : decode cX8_leastLacking 13 = .ok (.lstore_n 1, 1) := by decide +kernel
theorem dX8_leastLacking_14 : decode cX8_leastLacking 14 = .ok (.iconst 0, 1) := by decide +kernel
theorem dX8_leastLacking_15 : decode cX8_leastLacking 15 = .ok (.istore_n 3, 1) := by decide +kernel
theorem dX8_leastLacking_16 : decode cX8_leastLacking 16 = .ok (.iload_n 3, 1) := by decide +kernel
theorem dX8_leastLacking_17 : decode cX8_leastLacking 17 = .ok (.aload_n 0, 1) := by decide +kernel
theorem dX8_leastLacking_18 : decode cX8_leastLacking 18 = .ok (.getfield 10, 3) := by decide +kernel
theorem dX8_leastLacking_21 : decode cX8_leastLacking 21 = .ok (.invokevirtual 61, 3) := by decide +kernel
theorem dX8_leastLacking_24 : decode cX8_leastLacking 24 = .ok (.if_icmp .ge 27, 3) := by decide +kernel
theorem dX8_leastLacking_27 : decode cX8_leastLacking 27 = .ok (.lload_n 1, 1) := by decide +kernel
theorem dX8_leastLacking_28 : decode cX8_leastLacking 28 = .ok (.iload_n 3, 1) := by decide +kernel
theorem dX8_leastLacking_29 : decode cX8_leastLacking 29 = .ok (.invokestatic 114, 3) := by decide +kernel
theorem dX8_leastLacking_32 : decode cX8_leastLacking 32 = .ok (.ifCond .eq 13, 3) := by decide +kernel
theorem dX8_leastLacking_35 : decode cX8_leastLacking 35 = .ok (.aload_n 0, 1) := by decide +kernel
theorem dX8_leastLacking_36 : decode cX8_leastLacking 36 = .ok (.iload_n 3, 1) := by decide +kernel
theorem dX8_leastLacking_37 : decode cX8_leastLacking 37 = .ok (.invokevirtual 231, 3) := by decide +kernel
theorem dX8_leastLacking_40 : decode cX8_leastLacking 40 = .ok (.ifCond .ne 5, 3) := by decide +kernel
theorem dX8_leastLacking_43 : decode cX8_leastLacking 43 = .ok (.iload_n 3, 1) := by decide +kernel
theorem dX8_leastLacking_44 : decode cX8_leastLacking 44 = .ok (.ireturn, 1) := by decide +kernel
theorem dX8_leastLacking_45 : decode cX8_leastLacking 45 = .ok (.iinc 3 1, 3) := by decide +kernel
theorem dX8_leastLacking_48 : decode cX8_leastLacking 48 = .ok (.goto (-32), 3) := by decide +kernel
theorem dX8_leastLacking_51 : decode cX8_leastLacking 51 = .ok (.iconst (-1), 1) := by decide +kernel
theorem dX8_leastLacking_52 : decode cX8_leastLacking 52 = .ok (.ireturn, 1) := by decide +kernel
theorem dX8_hasItsNeeds_0 : decode cX8_hasItsNeeds 0 = .ok (.aload_n 0, 1) := by decide +kernel
theorem dX8_hasItsNeeds_1 : decode cX8_hasItsNeeds 1 = .ok (.getfield 19, 3) := by decide +kernel
theorem dX8_hasItsNeeds_4 : decode cX8_hasItsNeeds 4 = .ok (.iconst 0, 1) := by decide +kernel
theorem dX8_hasItsNeeds_5 : decode cX8_hasItsNeeds 5 = .ok (.iload_n 1, 1) := by decide +kernel
theorem dX8_hasItsNeeds_6 : decode cX8_hasItsNeeds 6 = .ok (.invokevirtual 234, 3) := by decide +kernel
theorem dX8_hasItsNeeds_9 : decode cX8_hasItsNeeds 9 = .ok (.aload_n 0, 1) := by decide +kernel
theorem dX8_hasItsNeeds_10 : decode cX8_hasItsNeeds 10 = .ok (.getfield 53, 3) := by decide +kernel
theorem dX8_hasItsNeeds_13 : decode cX8_hasItsNeeds 13 = .ok (.iconst 2, 1) := by decide +kernel
theorem dX8_hasItsNeeds_14 : decode cX8_hasItsNeeds 14 = .ok (.laload, 1) := by decide +kernel
theorem dX8_hasItsNeeds_15 : decode cX8_hasItsNeeds 15 = .ok (.ldc2_w 238, 3) := by decide +kernel
theorem dX8_hasItsNeeds_18 : decode cX8_hasItsNeeds 18 = .ok (.lxor, 1) := by decide +kernel
theorem dX8_hasItsNeeds_19 : decode cX8_hasItsNeeds 19 = .ok (.land, 1) := by decide +kernel
theorem dX8_hasItsNeeds_20 : decode cX8_hasItsNeeds 20 = .ok (.lconst 0, 1) := by decide +kernel
theorem dX8_hasItsNeeds_21 : decode cX8_hasItsNeeds 21 = .ok (.lcmp, 1) := by decide +kernel
theorem dX8_hasItsNeeds_22 : decode cX8_hasItsNeeds 22 = .ok (.ifCond .ne 7, 3) := by decide +kernel
theorem dX8_hasItsNeeds_25 : decode cX8_hasItsNeeds 25 = .ok (.iconst 1, 1) := by decide +kernel
theorem dX8_hasItsNeeds_26 : decode cX8_hasItsNeeds 26 = .ok (.goto 4, 3) := by decide +kernel
theorem dX8_hasItsNeeds_29 : decode cX8_hasItsNeeds 29 = .ok (.iconst 0, 1) := by decide +kernel
theorem dX8_hasItsNeeds_30 : decode cX8_hasItsNeeds 30 = .ok (.ireturn, 1) := by decide +kernel
theorem dX8_draftOrder_0 : decode cX8_draftOrder 0 = .ok (.iload_n 1, 1) := by decide +kernel
theorem dX8_draftOrder_1 : decode cX8_draftOrder 1 = .ok (.iconst 0, 1) := by decide +kernel
theorem dX8_draftOrder_2 : decode cX8_draftOrder 2 = .ok (.iconst 2, 1) := by decide +kernel
theorem dX8_draftOrder_3 : decode cX8_draftOrder 3 = .ok (.invokestatic 57, 3) := by decide +kernel
theorem dX8_draftOrder_6 : decode cX8_draftOrder 6 = .ok (.ifCond .eq 11, 3) := by decide +kernel
theorem dX8_draftOrder_9 : decode cX8_draftOrder 9 = .ok (.aload_n 0, 1) := by decide +kernel
theorem dX8_draftOrder_10 : decode cX8_draftOrder 10 = .ok (.iload_n 2, 1) := by decide +kernel
theorem dX8_draftOrder_11 : decode cX8_draftOrder 11 = .ok (.invokevirtual 82, 3) := by decide +kernel
theorem dX8_draftOrder_14 : decode cX8_draftOrder 14 = .ok (.ifCond .ne 5, 3) := by decide +kernel
theorem dX8_draftOrder_17 : decode cX8_draftOrder 17 = .ok (.iconst (-1), 1) := by decide +kernel
theorem dX8_draftOrder_18 : decode cX8_draftOrder 18 = .ok (.ireturn, 1) := by decide +kernel
theorem dX8_draftOrder_19 : decode cX8_draftOrder 19 = .ok (.aload_n 0, 1) := by decide +kernel
theorem dX8_draftOrder_20 : decode cX8_draftOrder 20 = .ok (.getfield 35, 3) := by decide +kernel
theorem dX8_draftOrder_23 : decode cX8_draftOrder 23 = .ok (.invokevirtual 110, 3) := by decide +kernel
theorem dX8_draftOrder_26 : decode cX8_draftOrder 26 = .ok (.lconst 0, 1) := by decide +kernel
theorem dX8_draftOrder_27 : decode cX8_draftOrder 27 = .ok (.lcmp, 1) := by decide +kernel
theorem dX8_draftOrder_28 : decode cX8_draftOrder 28 = .ok (.ifCond .ne 21, 3) := by decide +kernel
theorem dX8_draftOrder_31 : decode cX8_draftOrder 31 = .ok (.aload_n 0, 1) := by decide +kernel
theorem dX8_draftOrder_32 : decode cX8_draftOrder 32 = .ok (.getfield 53, 3) := by decide +kernel
theorem dX8_draftOrder_35 : decode cX8_draftOrder 35 = .ok (.iconst 1, 1) := by decide +kernel
theorem dX8_draftOrder_36 : decode cX8_draftOrder 36 = .ok (.laload, 1) := by decide +kernel
theorem dX8_draftOrder_37 : decode cX8_draftOrder 37 = .ok (.aload_n 0, 1) := by decide +kernel
theorem dX8_draftOrder_38 : decode cX8_draftOrder 38 = .ok (.getfield 53, 3) := by decide +kernel
theorem dX8_draftOrder_41 : decode cX8_draftOrder 41 = .ok (.iconst 3, 1) := by decide +kernel
theorem dX8_draftOrder_42 : decode cX8_draftOrder 42 = .ok (.laload, 1) := by decide +kernel
theorem dX8_draftOrder_43 : decode cX8_draftOrder 43 = .ok (.lor, 1) := by decide +kernel
theorem dX8_draftOrder_44 : decode cX8_draftOrder 44 = .ok (.lconst 0, 1) := by decide +kernel
theorem dX8_draftOrder_45 : decode cX8_draftOrder 45 = .ok (.lcmp, 1) := by decide +kernel
theorem dX8_draftOrder_46 : decode cX8_draftOrder 46 = .ok (.ifCond .eq 6, 3) := by decide +kernel
theorem dX8_draftOrder_49 : decode cX8_draftOrder 49 = .ok (.bipush (-3), 2) := by decide +kernel
theorem dX8_draftOrder_51 : decode cX8_draftOrder 51 = .ok (.ireturn, 1) := by decide +kernel
theorem dX8_draftOrder_52 : decode cX8_draftOrder 52 = .ok (.aload_n 0, 1) := by decide +kernel
theorem dX8_draftOrder_53 : decode cX8_draftOrder 53 = .ok (.getfield 28, 3) := by decide +kernel
theorem dX8_draftOrder_56 : decode cX8_draftOrder 56 = .ok (.iload_n 1, 1) := by decide +kernel
theorem dX8_draftOrder_57 : decode cX8_draftOrder 57 = .ok (.iload_n 2, 1) := by decide +kernel
theorem dX8_draftOrder_58 : decode cX8_draftOrder 58 = .ok (.aload_n 0, 1) := by decide +kernel
theorem dX8_draftOrder_59 : decode cX8_draftOrder 59 = .ok (.getfield 53, 3) := by decide +kernel
theorem dX8_draftOrder_62 : decode cX8_draftOrder 62 = .ok (.iconst 2, 1) := by decide +kernel
theorem dX8_draftOrder_63 : decode cX8_draftOrder 63 = .ok (.laload, 1) := by decide +kernel
theorem dX8_draftOrder_64 : decode cX8_draftOrder 64 = .ok (.aload_n 0, 1) := by decide +kernel
theorem dX8_draftOrder_65 : decode cX8_draftOrder 65 = .ok (.getfield 53, 3) := by decide +kernel
theorem dX8_draftOrder_68 : decode cX8_draftOrder 68 = .ok (.iconst 5, 1) := by decide +kernel
theorem dX8_draftOrder_69 : decode cX8_draftOrder 69 = .ok (.laload, 1) := by decide +kernel
theorem dX8_draftOrder_70 : decode cX8_draftOrder 70 = .ok (.invokevirtual 240, 3) := by decide +kernel
theorem dX8_draftOrder_73 : decode cX8_draftOrder 73 = .ok (.ireturn, 1) := by decide +kernel
theorem dX8_keepRing_0 : decode cX8_keepRing 0 = .ok (.iload_n 1, 1) := by decide +kernel
theorem dX8_keepRing_1 : decode cX8_keepRing 1 = .ok (.bipush (-5), 2) := by decide +kernel
theorem dX8_keepRing_3 : decode cX8_keepRing 3 = .ok (.if_icmp .ne 14, 3) := by decide +kernel
theorem dX8_keepRing_6 : decode cX8_keepRing 6 = .ok (.aload_n 0, 1) := by decide +kernel
theorem dX8_keepRing_7 : decode cX8_keepRing 7 = .ok (.aload_n 0, 1) := by decide +kernel
theorem dX8_keepRing_8 : decode cX8_keepRing 8 = .ok (.getfield 28, 3) := by decide +kernel
theorem dX8_keepRing_11 : decode cX8_keepRing 11 = .ok (.getfield 244, 3) := by decide +kernel
theorem dX8_keepRing_14 : decode cX8_keepRing 14 = .ok (.putfield 216, 3) := by decide +kernel
theorem dX8_keepRing_17 : decode cX8_keepRing 17 = .ok (.return_, 1) := by decide +kernel
theorem dX8_carryOutDraft_0 : decode cX8_carryOutDraft 0 = .ok (.aload_n 0, 1) := by decide +kernel
theorem dX8_carryOutDraft_1 : decode cX8_carryOutDraft 1 = .ok (.getfield 28, 3) := by decide +kernel
theorem dX8_carryOutDraft_4 : decode cX8_carryOutDraft 4 = .ok (.getfield 247, 3) := by decide +kernel
theorem dX8_carryOutDraft_7 : decode cX8_carryOutDraft 7 = .ok (.aload_n 0, 1) := by decide +kernel
theorem dX8_carryOutDraft_8 : decode cX8_carryOutDraft 8 = .ok (.getfield 53, 3) := by decide +kernel
theorem dX8_carryOutDraft_11 : decode cX8_carryOutDraft 11 = .ok (.iconst 5, 1) := by decide +kernel
theorem dX8_carryOutDraft_12 : decode cX8_carryOutDraft 12 = .ok (.laload, 1) := by decide +kernel
theorem dX8_carryOutDraft_13 : decode cX8_carryOutDraft 13 = .ok (.land, 1) := by decide +kernel
theorem dX8_carryOutDraft_14 : decode cX8_carryOutDraft 14 = .ok (.lstore_n 1, 1) := by decide +kernel
theorem dX8_carryOutDraft_15 : decode cX8_carryOutDraft 15 = .ok (.iconst 0, 1) := by decide +kernel
theorem dX8_carryOutDraft_16 : decode cX8_carryOutDraft 16 = .ok (.istore_n 3, 1) := by decide +kernel
theorem dX8_carryOutDraft_17 : decode cX8_carryOutDraft 17 = .ok (.iload_n 3, 1) := by decide +kernel
theorem dX8_carryOutDraft_18 : decode cX8_carryOutDraft 18 = .ok (.aload_n 0, 1) := by decide +kernel
theorem dX8_carryOutDraft_19 : decode cX8_carryOutDraft 19 = .ok (.getfield 10, 3) := by decide +kernel
theorem dX8_carryOutDraft_22 : decode cX8_carryOutDraft 22 = .ok (.invokevirtual 61, 3) := by decide +kernel
theorem dX8_carryOutDraft_25 : decode cX8_carryOutDraft 25 = .ok (.if_icmp .ge 23, 3) := by decide +kernel
theorem dX8_carryOutDraft_28 : decode cX8_carryOutDraft 28 = .ok (.lload_n 1, 1) := by decide +kernel
theorem dX8_carryOutDraft_29 : decode cX8_carryOutDraft 29 = .ok (.iload_n 3, 1) := by decide +kernel
theorem dX8_carryOutDraft_30 : decode cX8_carryOutDraft 30 = .ok (.invokestatic 114, 3) := by decide +kernel
theorem dX8_carryOutDraft_33 : decode cX8_carryOutDraft 33 = .ok (.ifCond .eq 9, 3) := by decide +kernel
theorem dX8_carryOutDraft_36 : decode cX8_carryOutDraft 36 = .ok (.aload_n 0, 1) := by decide +kernel
theorem dX8_carryOutDraft_37 : decode cX8_carryOutDraft 37 = .ok (.iload_n 3, 1) := by decide +kernel
theorem dX8_carryOutDraft_38 : decode cX8_carryOutDraft 38 = .ok (.iconst 0, 1) := by decide +kernel
theorem dX8_carryOutDraft_39 : decode cX8_carryOutDraft 39 = .ok (.invokevirtual 249, 3) := by decide +kernel
theorem dX8_carryOutDraft_42 : decode cX8_carryOutDraft 42 = .ok (.iinc 3 1, 3) := by decide +kernel
theorem dX8_carryOutDraft_45 : decode cX8_carryOutDraft 45 = .ok (.goto (-28), 3) := by decide +kernel
theorem dX8_carryOutDraft_48 : decode cX8_carryOutDraft 48 = .ok (.aload_n 0, 1) := by decide +kernel
theorem dX8_carryOutDraft_49 : decode cX8_carryOutDraft 49 = .ok (.getfield 35, 3) := by decide +kernel
theorem dX8_carryOutDraft_52 : decode cX8_carryOutDraft 52 = .ok (.aload_n 0, 1) := by decide +kernel
theorem dX8_carryOutDraft_53 : decode cX8_carryOutDraft 53 = .ok (.getfield 28, 3) := by decide +kernel
theorem dX8_carryOutDraft_56 : decode cX8_carryOutDraft 56 = .ok (.getfield 247, 3) := by decide +kernel
theorem dX8_carryOutDraft_59 : decode cX8_carryOutDraft 59 = .ok (.aload_n 0, 1) := by decide +kernel
theorem dX8_carryOutDraft_60 : decode cX8_carryOutDraft 60 = .ok (.getfield 28, 3) := by decide +kernel
theorem dX8_carryOutDraft_63 : decode cX8_carryOutDraft 63 = .ok (.getfield 253, 3) := by decide +kernel
theorem dX8_carryOutDraft_66 : decode cX8_carryOutDraft 66 = .ok (.invokevirtual 256, 3) := by decide +kernel
theorem dX8_carryOutDraft_69 : decode cX8_carryOutDraft 69 = .ok (.aload_n 0, 1) := by decide +kernel
theorem dX8_carryOutDraft_70 : decode cX8_carryOutDraft 70 = .ok (.invokevirtual 260, 3) := by decide +kernel
theorem dX8_carryOutDraft_73 : decode cX8_carryOutDraft 73 = .ok (.return_, 1) := by decide +kernel
theorem dX8_beginJobs_0 : decode cX8_beginJobs 0 = .ok (.aload_n 0, 1) := by decide +kernel
theorem dX8_beginJobs_1 : decode cX8_beginJobs 1 = .ok (.getfield 35, 3) := by decide +kernel
theorem dX8_beginJobs_4 : decode cX8_beginJobs 4 = .ok (.invokevirtual 110, 3) := by decide +kernel
theorem dX8_beginJobs_7 : decode cX8_beginJobs 7 = .ok (.lconst 0, 1) := by decide +kernel
theorem dX8_beginJobs_8 : decode cX8_beginJobs 8 = .ok (.lcmp, 1) := by decide +kernel
theorem dX8_beginJobs_9 : decode cX8_beginJobs 9 = .ok (.ifCond .ne 4, 3) := by decide +kernel
theorem dX8_beginJobs_12 : decode cX8_beginJobs 12 = .ok (.return_, 1) := by decide +kernel
theorem dX8_beginJobs_13 : decode cX8_beginJobs 13 = .ok (.iconst 0, 1) := by decide +kernel
theorem dX8_beginJobs_14 : decode cX8_beginJobs 14 = .ok (.istore_n 1, 1) := by decide +kernel
theorem dX8_beginJobs_15 : decode cX8_beginJobs 15 = .ok (.iload_n 1, 1) := by decide +kernel
theorem dX8_beginJobs_16 : decode cX8_beginJobs 16 = .ok (.bipush 40, 2) := by decide +kernel
theorem dX8_beginJobs_18 : decode cX8_beginJobs 18 = .ok (.if_icmp .ge 53, 3) := by decide +kernel
theorem dX8_beginJobs_21 : decode cX8_beginJobs 21 = .ok (.aload_n 0, 1) := by decide +kernel
theorem dX8_beginJobs_22 : decode cX8_beginJobs 22 = .ok (.getfield 35, 3) := by decide +kernel
theorem dX8_beginJobs_25 : decode cX8_beginJobs 25 = .ok (.invokevirtual 289, 3) := by decide +kernel
theorem dX8_beginJobs_28 : decode cX8_beginJobs 28 = .ok (.istore_n 2, 1) := by decide +kernel
theorem dX8_beginJobs_29 : decode cX8_beginJobs 29 = .ok (.aload_n 0, 1) := by decide +kernel
theorem dX8_beginJobs_30 : decode cX8_beginJobs 30 = .ok (.iload_n 2, 1) := by decide +kernel
theorem dX8_beginJobs_31 : decode cX8_beginJobs 31 = .ok (.invokevirtual 82, 3) := by decide +kernel
theorem dX8_beginJobs_34 : decode cX8_beginJobs 34 = .ok (.ifCond .ne 4, 3) := by decide +kernel
theorem dX8_beginJobs_37 : decode cX8_beginJobs 37 = .ok (.return_, 1) := by decide +kernel
theorem dX8_beginJobs_38 : decode cX8_beginJobs 38 = .ok (.aload_n 0, 1) := by decide +kernel
theorem dX8_beginJobs_39 : decode cX8_beginJobs 39 = .ok (.getfield 35, 3) := by decide +kernel
theorem dX8_beginJobs_42 : decode cX8_beginJobs 42 = .ok (.getfield 292, 3) := by decide +kernel
theorem dX8_beginJobs_45 : decode cX8_beginJobs 45 = .ok (.iload_n 2, 1) := by decide +kernel
theorem dX8_beginJobs_46 : decode cX8_beginJobs 46 = .ok (.invokestatic 114, 3) := by decide +kernel
theorem dX8_beginJobs_49 : decode cX8_beginJobs 49 = .ok (.ifCond .eq 11, 3) := by decide +kernel
theorem dX8_beginJobs_52 : decode cX8_beginJobs 52 = .ok (.aload_n 0, 1) := by decide +kernel
theorem dX8_beginJobs_53 : decode cX8_beginJobs 53 = .ok (.iload_n 2, 1) := by decide +kernel
theorem dX8_beginJobs_54 : decode cX8_beginJobs 54 = .ok (.invokevirtual 293, 3) := by decide +kernel
theorem dX8_beginJobs_57 : decode cX8_beginJobs 57 = .ok (.goto 8, 3) := by decide +kernel
theorem dX8_beginJobs_60 : decode cX8_beginJobs 60 = .ok (.aload_n 0, 1) := by decide +kernel
theorem dX8_beginJobs_61 : decode cX8_beginJobs 61 = .ok (.iload_n 2, 1) := by decide +kernel
theorem dX8_beginJobs_62 : decode cX8_beginJobs 62 = .ok (.invokevirtual 296, 3) := by decide +kernel
theorem dX8_beginJobs_65 : decode cX8_beginJobs 65 = .ok (.iinc 1 1, 3) := by decide +kernel
theorem dX8_beginJobs_68 : decode cX8_beginJobs 68 = .ok (.goto (-53), 3) := by decide +kernel
theorem dX8_beginJobs_71 : decode cX8_beginJobs 71 = .ok (.return_, 1) := by decide +kernel
theorem dX8_beginStart_0 : decode cX8_beginStart 0 = .ok (.aload_n 0, 1) := by decide +kernel
theorem dX8_beginStart_1 : decode cX8_beginStart 1 = .ok (.iload_n 1, 1) := by decide +kernel
theorem dX8_beginStart_2 : decode cX8_beginStart 2 = .ok (.invokevirtual 231, 3) := by decide +kernel
theorem dX8_beginStart_5 : decode cX8_beginStart 5 = .ok (.ifCond .ne 12, 3) := by decide +kernel
theorem dX8_beginStart_8 : decode cX8_beginStart 8 = .ok (.aload_n 0, 1) := by decide +kernel
theorem dX8_beginStart_9 : decode cX8_beginStart 9 = .ok (.getfield 35, 3) := by decide +kernel
theorem dX8_beginStart_12 : decode cX8_beginStart 12 = .ok (.iload_n 1, 1) := by decide +kernel
theorem dX8_beginStart_13 : decode cX8_beginStart 13 = .ok (.invokevirtual 299, 3) := by decide +kernel
theorem dX8_beginStart_16 : decode cX8_beginStart 16 = .ok (.return_, 1) := by decide +kernel
theorem dX8_beginStart_17 : decode cX8_beginStart 17 = .ok (.aload_n 0, 1) := by decide +kernel
theorem dX8_beginStart_18 : decode cX8_beginStart 18 = .ok (.getfield 35, 3) := by decide +kernel
theorem dX8_beginStart_21 : decode cX8_beginStart 21 = .ok (.iload_n 1, 1) := by decide +kernel
theorem dX8_beginStart_22 : decode cX8_beginStart 22 = .ok (.invokevirtual 302, 3) := by decide +kernel
theorem dX8_beginStart_25 : decode cX8_beginStart 25 = .ok (.aload_n 0, 1) := by decide +kernel
theorem dX8_beginStart_26 : decode cX8_beginStart 26 = .ok (.iload_n 1, 1) := by decide +kernel
theorem dX8_beginStart_27 : decode cX8_beginStart 27 = .ok (.aload_n 0, 1) := by decide +kernel
theorem dX8_beginStart_28 : decode cX8_beginStart 28 = .ok (.getfield 10, 3) := by decide +kernel
theorem dX8_beginStart_31 : decode cX8_beginStart 31 = .ok (.iload_n 1, 1) := by decide +kernel
theorem dX8_beginStart_32 : decode cX8_beginStart 32 = .ok (.invokevirtual 86, 3) := by decide +kernel
theorem dX8_beginStart_35 : decode cX8_beginStart 35 = .ok (.checkcast 65, 3) := by decide +kernel
theorem dX8_beginStart_38 : decode cX8_beginStart 38 = .ok (.invokevirtual 305, 3) := by decide +kernel
theorem dX8_beginStart_41 : decode cX8_beginStart 41 = .ok (.invokevirtual 249, 3) := by decide +kernel
theorem dX8_beginStart_44 : decode cX8_beginStart 44 = .ok (.return_, 1) := by decide +kernel
theorem dX8_beginStop_0 : decode cX8_beginStop 0 = .ok (.aload_n 0, 1) := by decide +kernel
theorem dX8_beginStop_1 : decode cX8_beginStop 1 = .ok (.getfield 10, 3) := by decide +kernel
theorem dX8_beginStop_4 : decode cX8_beginStop 4 = .ok (.iload_n 1, 1) := by decide +kernel
theorem dX8_beginStop_5 : decode cX8_beginStop 5 = .ok (.invokevirtual 86, 3) := by decide +kernel
theorem dX8_beginStop_8 : decode cX8_beginStop 8 = .ok (.checkcast 65, 3) := by decide +kernel
theorem dX8_beginStop_11 : decode cX8_beginStop 11 = .ok (.astore_n 2, 1) := by decide +kernel
theorem dX8_beginStop_12 : decode cX8_beginStop 12 = .ok (.aload_n 2, 1) := by decide +kernel
theorem dX8_beginStop_13 : decode cX8_beginStop 13 = .ok (.getfield 162, 3) := by decide +kernel
theorem dX8_beginStop_16 : decode cX8_beginStop 16 = .ok (.ifCond .eq 11, 3) := by decide +kernel
theorem dX8_beginStop_19 : decode cX8_beginStop 19 = .ok (.aload_n 2, 1) := by decide +kernel
theorem dX8_beginStop_20 : decode cX8_beginStop 20 = .ok (.getfield 162, 3) := by decide +kernel
theorem dX8_beginStop_23 : decode cX8_beginStop 23 = .ok (.iconst 4, 1) := by decide +kernel
theorem dX8_beginStop_24 : decode cX8_beginStop 24 = .ok (.if_icmp .ne 12, 3) := by decide +kernel
theorem dX8_beginStop_27 : decode cX8_beginStop 27 = .ok (.aload_n 0, 1) := by decide +kernel
theorem dX8_beginStop_28 : decode cX8_beginStop 28 = .ok (.getfield 35, 3) := by decide +kernel
theorem dX8_beginStop_31 : decode cX8_beginStop 31 = .ok (.iload_n 1, 1) := by decide +kernel
theorem dX8_beginStop_32 : decode cX8_beginStop 32 = .ok (.invokevirtual 299, 3) := by decide +kernel
theorem dX8_beginStop_35 : decode cX8_beginStop 35 = .ok (.return_, 1) := by decide +kernel
theorem dX8_beginStop_36 : decode cX8_beginStop 36 = .ok (.aload_n 0, 1) := by decide +kernel
theorem dX8_beginStop_37 : decode cX8_beginStop 37 = .ok (.getfield 35, 3) := by decide +kernel
theorem dX8_beginStop_40 : decode cX8_beginStop 40 = .ok (.iload_n 1, 1) := by decide +kernel
theorem dX8_beginStop_41 : decode cX8_beginStop 41 = .ok (.invokevirtual 302, 3) := by decide +kernel
theorem dX8_beginStop_44 : decode cX8_beginStop 44 = .ok (.aload_n 2, 1) := by decide +kernel
theorem dX8_beginStop_45 : decode cX8_beginStop 45 = .ok (.getfield 162, 3) := by decide +kernel
theorem dX8_beginStop_48 : decode cX8_beginStop 48 = .ok (.iconst 3, 1) := by decide +kernel
theorem dX8_beginStop_49 : decode cX8_beginStop 49 = .ok (.if_icmp .ne 4, 3) := by decide +kernel
theorem dX8_beginStop_52 : decode cX8_beginStop 52 = .ok (.return_, 1) := by decide +kernel
theorem dX8_beginStop_53 : decode cX8_beginStop 53 = .ok (.aload_n 0, 1) := by decide +kernel
theorem dX8_beginStop_54 : decode cX8_beginStop 54 = .ok (.iload_n 1, 1) := by decide +kernel
theorem dX8_beginStop_55 : decode cX8_beginStop 55 = .ok (.aload_n 2, 1) := by decide +kernel
theorem dX8_beginStop_56 : decode cX8_beginStop 56 = .ok (.getfield 162, 3) := by decide +kernel
theorem dX8_beginStop_59 : decode cX8_beginStop 59 = .ok (.iconst 5, 1) := by decide +kernel
theorem dX8_beginStop_60 : decode cX8_beginStop 60 = .ok (.if_icmp .ne 7, 3) := by decide +kernel
theorem dX8_beginStop_63 : decode cX8_beginStop 63 = .ok (.iconst 0, 1) := by decide +kernel
theorem dX8_beginStop_64 : decode cX8_beginStop 64 = .ok (.goto 7, 3) := by decide +kernel
theorem dX8_beginStop_67 : decode cX8_beginStop 67 = .ok (.aload_n 2, 1) := by decide +kernel
theorem dX8_beginStop_68 : decode cX8_beginStop 68 = .ok (.invokevirtual 308, 3) := by decide +kernel
theorem dX8_beginStop_71 : decode cX8_beginStop 71 = .ok (.invokevirtual 249, 3) := by decide +kernel
theorem dX8_beginStop_74 : decode cX8_beginStop 74 = .ok (.return_, 1) := by decide +kernel
theorem dX8_enter_0 : decode cX8_enter 0 = .ok (.aload_n 0, 1) := by decide +kernel
theorem dX8_enter_1 : decode cX8_enter 1 = .ok (.getfield 10, 3) := by decide +kernel
theorem dX8_enter_4 : decode cX8_enter 4 = .ok (.iload_n 1, 1) := by decide +kernel
theorem dX8_enter_5 : decode cX8_enter 5 = .ok (.invokevirtual 86, 3) := by decide +kernel
theorem dX8_enter_8 : decode cX8_enter 8 = .ok (.checkcast 65, 3) := by decide +kernel
theorem dX8_enter_11 : decode cX8_enter 11 = .ok (.astore_n 3, 1) := by decide +kernel
theorem dX8_enter_12 : decode cX8_enter 12 = .ok (.iload_n 1, 1) := by decide +kernel
theorem dX8_enter_13 : decode cX8_enter 13 = .ok (.invokestatic 78, 3) := by decide +kernel
theorem dX8_enter_16 : decode cX8_enter 16 = .ok (.lstore 4, 2) := by decide +kernel
theorem dX8_enter_18 : decode cX8_enter 18 = .ok (.aload_n 0, 1) := by decide +kernel
theorem dX8_enter_19 : decode cX8_enter 19 = .ok (.getfield 53, 3) := by decide +kernel
theorem dX8_enter_22 : decode cX8_enter 22 = .ok (.aload_n 3, 1) := by decide +kernel
theorem dX8_enter_23 : decode cX8_enter 23 = .ok (.getfield 162, 3) := by decide +kernel
theorem dX8_enter_26 : decode cX8_enter 26 = .ok (.dup2, 1) := by decide +kernel
theorem dX8_enter_27 : decode cX8_enter 27 = .ok (.laload, 1) := by decide +kernel
theorem dX8_enter_28 : decode cX8_enter 28 = .ok (.lload 4, 2) := by decide +kernel
theorem dX8_enter_30 : decode cX8_enter 30 = .ok (.ldc2_w 238, 3) := by decide +kernel
theorem dX8_enter_33 : decode cX8_enter 33 = .ok (.lxor, 1) := by decide +kernel
theorem dX8_enter_34 : decode cX8_enter 34 = .ok (.land, 1) := by decide +kernel
theorem dX8_enter_35 : decode cX8_enter 35 = .ok (.lastore, 1) := by decide +kernel
theorem dX8_enter_36 : decode cX8_enter 36 = .ok (.aload_n 0, 1) := by decide +kernel
theorem dX8_enter_37 : decode cX8_enter 37 = .ok (.getfield 53, 3) := by decide +kernel
theorem dX8_enter_40 : decode cX8_enter 40 = .ok (.iload_n 2, 1) := by decide +kernel
theorem dX8_enter_41 : decode cX8_enter 41 = .ok (.dup2, 1) := by decide +kernel
theorem dX8_enter_42 : decode cX8_enter 42 = .ok (.laload, 1) := by decide +kernel
theorem dX8_enter_43 : decode cX8_enter 43 = .ok (.lload 4, 2) := by decide +kernel
theorem dX8_enter_45 : decode cX8_enter 45 = .ok (.lor, 1) := by decide +kernel
theorem dX8_enter_46 : decode cX8_enter 46 = .ok (.lastore, 1) := by decide +kernel
theorem dX8_enter_47 : decode cX8_enter 47 = .ok (.aload_n 3, 1) := by decide +kernel
theorem dX8_enter_48 : decode cX8_enter 48 = .ok (.iload_n 2, 1) := by decide +kernel
theorem dX8_enter_49 : decode cX8_enter 49 = .ok (.aload_n 0, 1) := by decide +kernel
theorem dX8_enter_50 : decode cX8_enter 50 = .ok (.getfield 67, 3) := by decide +kernel
theorem dX8_enter_53 : decode cX8_enter 53 = .ok (.invokevirtual 341, 3) := by decide +kernel
theorem dX8_enter_56 : decode cX8_enter 56 = .ok (.aload_n 3, 1) := by decide +kernel
theorem dX8_enter_57 : decode cX8_enter 57 = .ok (.getfield 342, 3) := by decide +kernel
theorem dX8_enter_60 : decode cX8_enter 60 = .ok (.ifCond .le 17, 3) := by decide +kernel
theorem dX8_enter_63 : decode cX8_enter 63 = .ok (.aload_n 0, 1) := by decide +kernel
theorem dX8_enter_64 : decode cX8_enter 64 = .ok (.dup, 1) := by decide +kernel
theorem dX8_enter_65 : decode cX8_enter 65 = .ok (.getfield 311, 3) := by decide +kernel
theorem dX8_enter_68 : decode cX8_enter 68 = .ok (.lload 4, 2) := by decide +kernel
theorem dX8_enter_70 : decode cX8_enter 70 = .ok (.lor, 1) := by decide +kernel
theorem dX8_enter_71 : decode cX8_enter 71 = .ok (.putfield 311, 3) := by decide +kernel
theorem dX8_enter_74 : decode cX8_enter 74 = .ok (.goto 18, 3) := by decide +kernel
theorem dX8_enter_77 : decode cX8_enter 77 = .ok (.aload_n 0, 1) := by decide +kernel
theorem dX8_enter_78 : decode cX8_enter 78 = .ok (.dup, 1) := by decide +kernel
theorem dX8_enter_79 : decode cX8_enter 79 = .ok (.getfield 311, 3) := by decide +kernel
theorem dX8_enter_82 : decode cX8_enter 82 = .ok (.lload 4, 2) := by decide +kernel
theorem dX8_enter_84 : decode cX8_enter 84 = .ok (.ldc2_w 238, 3) := by decide +kernel
theorem dX8_enter_87 : decode cX8_enter 87 = .ok (.lxor, 1) := by decide +kernel
theorem dX8_enter_88 : decode cX8_enter 88 = .ok (.land, 1) := by decide +kernel
theorem dX8_enter_89 : decode cX8_enter 89 = .ok (.putfield 311, 3) := by decide +kernel
theorem dX8_enter_92 : decode cX8_enter 92 = .ok (.aload_n 0, 1) := by decide +kernel
theorem dX8_enter_93 : decode cX8_enter 93 = .ok (.getfield 49, 3) := by decide +kernel
theorem dX8_enter_96 : decode cX8_enter 96 = .ok (.aload_n 0, 1) := by decide +kernel
theorem dX8_enter_97 : decode cX8_enter 97 = .ok (.getfield 67, 3) := by decide +kernel
theorem dX8_enter_100 : decode cX8_enter 100 = .ok (.iload_n 1, 1) := by decide +kernel
theorem dX8_enter_101 : decode cX8_enter 101 = .ok (.iload_n 2, 1) := by decide +kernel
theorem dX8_enter_102 : decode cX8_enter 102 = .ok (.invokevirtual 345, 3) := by decide +kernel
theorem dX8_enter_105 : decode cX8_enter 105 = .ok (.aload_n 0, 1) := by decide +kernel
theorem dX8_enter_106 : decode cX8_enter 106 = .ok (.getfield 35, 3) := by decide +kernel
theorem dX8_enter_109 : decode cX8_enter 109 = .ok (.iload_n 1, 1) := by decide +kernel
theorem dX8_enter_110 : decode cX8_enter 110 = .ok (.iload_n 2, 1) := by decide +kernel
theorem dX8_enter_111 : decode cX8_enter 111 = .ok (.invokevirtual 346, 3) := by decide +kernel
theorem dX8_enter_114 : decode cX8_enter 114 = .ok (.return_, 1) := by decide +kernel
theorem dX8_layOutDraft_0 : decode cX8_layOutDraft 0 = .ok (.aload_n 0, 1) := by decide +kernel
theorem dX8_layOutDraft_1 : decode cX8_layOutDraft 1 = .ok (.getfield 28, 3) := by decide +kernel
theorem dX8_layOutDraft_4 : decode cX8_layOutDraft 4 = .ok (.getfield 247, 3) := by decide +kernel
theorem dX8_layOutDraft_7 : decode cX8_layOutDraft 7 = .ok (.lstore_n 1, 1) := by decide +kernel
theorem dX8_layOutDraft_8 : decode cX8_layOutDraft 8 = .ok (.aload_n 0, 1) := by decide +kernel
theorem dX8_layOutDraft_9 : decode cX8_layOutDraft 9 = .ok (.getfield 28, 3) := by decide +kernel
theorem dX8_layOutDraft_12 : decode cX8_layOutDraft 12 = .ok (.getfield 253, 3) := by decide +kernel
theorem dX8_layOutDraft_15 : decode cX8_layOutDraft 15 = .ok (.lstore_n 3, 1) := by decide +kernel
theorem dX8_layOutDraft_16 : decode cX8_layOutDraft 16 = .ok (.lload_n 1, 1) := by decide +kernel
theorem dX8_layOutDraft_17 : decode cX8_layOutDraft 17 = .ok (.lload_n 3, 1) := by decide +kernel
theorem dX8_layOutDraft_18 : decode cX8_layOutDraft 18 = .ok (.lor, 1) := by decide +kernel
theorem dX8_layOutDraft_19 : decode cX8_layOutDraft 19 = .ok (.lstore 5, 2) := by decide +kernel
theorem dX8_layOutDraft_21 : decode cX8_layOutDraft 21 = .ok (.aload_n 0, 1) := by decide +kernel
theorem dX8_layOutDraft_22 : decode cX8_layOutDraft 22 = .ok (.getfield 42, 3) := by decide +kernel
theorem dX8_layOutDraft_25 : decode cX8_layOutDraft 25 = .ok (.lload_n 1, 1) := by decide +kernel
theorem dX8_layOutDraft_26 : decode cX8_layOutDraft 26 = .ok (.invokevirtual 263, 3) := by decide +kernel
theorem dX8_layOutDraft_29 : decode cX8_layOutDraft 29 = .ok (.iconst 0, 1) := by decide +kernel
theorem dX8_layOutDraft_30 : decode cX8_layOutDraft 30 = .ok (.istore 7, 2) := by decide +kernel
theorem dX8_layOutDraft_32 : decode cX8_layOutDraft 32 = .ok (.iload 7, 2) := by decide +kernel
theorem dX8_layOutDraft_34 : decode cX8_layOutDraft 34 = .ok (.bipush 40, 2) := by decide +kernel
theorem dX8_layOutDraft_36 : decode cX8_layOutDraft 36 = .ok (.if_icmp .ge 140, 3) := by decide +kernel
theorem dX8_layOutDraft_39 : decode cX8_layOutDraft 39 = .ok (.lload 5, 2) := by decide +kernel
theorem dX8_layOutDraft_41 : decode cX8_layOutDraft 41 = .ok (.lconst 0, 1) := by decide +kernel
theorem dX8_layOutDraft_42 : decode cX8_layOutDraft 42 = .ok (.lcmp, 1) := by decide +kernel
theorem dX8_layOutDraft_43 : decode cX8_layOutDraft 43 = .ok (.ifCond .eq 133, 3) := by decide +kernel
theorem dX8_layOutDraft_46 : decode cX8_layOutDraft 46 = .ok (.iconst 0, 1) := by decide +kernel
theorem dX8_layOutDraft_47 : decode cX8_layOutDraft 47 = .ok (.istore 8, 2) := by decide +kernel
theorem dX8_layOutDraft_49 : decode cX8_layOutDraft 49 = .ok (.iload 8, 2) := by decide +kernel
theorem dX8_layOutDraft_51 : decode cX8_layOutDraft 51 = .ok (.aload_n 0, 1) := by decide +kernel
theorem dX8_layOutDraft_52 : decode cX8_layOutDraft 52 = .ok (.getfield 10, 3) := by decide +kernel
theorem dX8_layOutDraft_55 : decode cX8_layOutDraft 55 = .ok (.invokevirtual 61, 3) := by decide +kernel
theorem dX8_layOutDraft_58 : decode cX8_layOutDraft 58 = .ok (.if_icmp .ge 112, 3) := by decide +kernel
theorem dX8_layOutDraft_61 : decode cX8_layOutDraft 61 = .ok (.lload 5, 2) := by decide +kernel
theorem dX8_layOutDraft_63 : decode cX8_layOutDraft 63 = .ok (.iload 8, 2) := by decide +kernel
theorem dX8_layOutDraft_65 : decode cX8_layOutDraft 65 = .ok (.invokestatic 114, 3) := by decide +kernel
theorem dX8_layOutDraft_68 : decode cX8_layOutDraft 68 = .ok (.ifCond .eq 96, 3) := by decide +kernel
theorem dX8_layOutDraft_71 : decode cX8_layOutDraft 71 = .ok (.aload_n 0, 1) := by decide +kernel
theorem dX8_layOutDraft_72 : decode cX8_layOutDraft 72 = .ok (.getfield 19, 3) := by decide +kernel
theorem dX8_layOutDraft_75 : decode cX8_layOutDraft 75 = .ok (.iload 8, 2) := by decide +kernel
theorem dX8_layOutDraft_77 : decode cX8_layOutDraft 77 = .ok (.lload_n 1, 1) := by decide +kernel
theorem dX8_layOutDraft_78 : decode cX8_layOutDraft 78 = .ok (.lload_n 3, 1) := by decide +kernel
theorem dX8_layOutDraft_79 : decode cX8_layOutDraft 79 = .ok (.invokevirtual 267, 3) := by decide +kernel
theorem dX8_layOutDraft_82 : decode cX8_layOutDraft 82 = .ok (.lload 5, 2) := by decide +kernel
theorem dX8_layOutDraft_84 : decode cX8_layOutDraft 84 = .ok (.land, 1) := by decide +kernel
theorem dX8_layOutDraft_85 : decode cX8_layOutDraft 85 = .ok (.lconst 0, 1) := by decide +kernel
theorem dX8_layOutDraft_86 : decode cX8_layOutDraft 86 = .ok (.lcmp, 1) := by decide +kernel
theorem dX8_layOutDraft_87 : decode cX8_layOutDraft 87 = .ok (.ifCond .ne 77, 3) := by decide +kernel
theorem dX8_layOutDraft_90 : decode cX8_layOutDraft 90 = .ok (.aload_n 0, 1) := by decide +kernel
theorem dX8_layOutDraft_91 : decode cX8_layOutDraft 91 = .ok (.getfield 42, 3) := by decide +kernel
theorem dX8_layOutDraft_94 : decode cX8_layOutDraft 94 = .ok (.aload_n 0, 1) := by decide +kernel
theorem dX8_layOutDraft_95 : decode cX8_layOutDraft 95 = .ok (.getfield 19, 3) := by decide +kernel
theorem dX8_layOutDraft_98 : decode cX8_layOutDraft 98 = .ok (.iload 8, 2) := by decide +kernel
theorem dX8_layOutDraft_100 : decode cX8_layOutDraft 100 = .ok (.lload_n 1, 1) := by decide +kernel
theorem dX8_layOutDraft_101 : decode cX8_layOutDraft 101 = .ok (.lload_n 3, 1) := by decide +kernel
theorem dX8_layOutDraft_102 : decode cX8_layOutDraft 102 = .ok (.invokevirtual 267, 3) := by decide +kernel
theorem dX8_layOutDraft_105 : decode cX8_layOutDraft 105 = .ok (.invokevirtual 270, 3) := by decide +kernel
theorem dX8_layOutDraft_108 : decode cX8_layOutDraft 108 = .ok (.istore 9, 2) := by decide +kernel
theorem dX8_layOutDraft_110 : decode cX8_layOutDraft 110 = .ok (.aload_n 0, 1) := by decide +kernel
theorem dX8_layOutDraft_111 : decode cX8_layOutDraft 111 = .ok (.getfield 42, 3) := by decide +kernel
theorem dX8_layOutDraft_114 : decode cX8_layOutDraft 114 = .ok (.iload 8, 2) := by decide +kernel
theorem dX8_layOutDraft_116 : decode cX8_layOutDraft 116 = .ok (.iload 9, 2) := by decide +kernel
theorem dX8_layOutDraft_118 : decode cX8_layOutDraft 118 = .ok (.iload 9, 2) := by decide +kernel
theorem dX8_layOutDraft_120 : decode cX8_layOutDraft 120 = .ok (.lload_n 1, 1) := by decide +kernel
theorem dX8_layOutDraft_121 : decode cX8_layOutDraft 121 = .ok (.iload 8, 2) := by decide +kernel
theorem dX8_layOutDraft_123 : decode cX8_layOutDraft 123 = .ok (.invokestatic 114, 3) := by decide +kernel
theorem dX8_layOutDraft_126 : decode cX8_layOutDraft 126 = .ok (.ifCond .eq 12, 3) := by decide +kernel
theorem dX8_layOutDraft_129 : decode cX8_layOutDraft 129 = .ok (.aload_n 0, 1) := by decide +kernel
theorem dX8_layOutDraft_130 : decode cX8_layOutDraft 130 = .ok (.iload 8, 2) := by decide +kernel
theorem dX8_layOutDraft_132 : decode cX8_layOutDraft 132 = .ok (.invokevirtual 273, 3) := by decide +kernel
theorem dX8_layOutDraft_135 : decode cX8_layOutDraft 135 = .ok (.goto 11, 3) := by decide +kernel
theorem dX8_layOutDraft_138 : decode cX8_layOutDraft 138 = .ok (.aload_n 0, 1) := by decide +kernel
theorem dX8_layOutDraft_139 : decode cX8_layOutDraft 139 = .ok (.iload 8, 2) := by decide +kernel
theorem dX8_layOutDraft_141 : decode cX8_layOutDraft 141 = .ok (.iload 9, 2) := by decide +kernel
theorem dX8_layOutDraft_143 : decode cX8_layOutDraft 143 = .ok (.invokevirtual 276, 3) := by decide +kernel
theorem dX8_layOutDraft_146 : decode cX8_layOutDraft 146 = .ok (.iadd, 1) := by decide +kernel
theorem dX8_layOutDraft_147 : decode cX8_layOutDraft 147 = .ok (.invokevirtual 279, 3) := by decide +kernel
theorem dX8_layOutDraft_150 : decode cX8_layOutDraft 150 = .ok (.lload 5, 2) := by decide +kernel
theorem dX8_layOutDraft_152 : decode cX8_layOutDraft 152 = .ok (.iload 8, 2) := by decide +kernel
theorem dX8_layOutDraft_154 : decode cX8_layOutDraft 154 = .ok (.invokestatic 78, 3) := by decide +kernel
theorem dX8_layOutDraft_157 : decode cX8_layOutDraft 157 = .ok (.ldc2_w 238, 3) := by decide +kernel
theorem dX8_layOutDraft_160 : decode cX8_layOutDraft 160 = .ok (.lxor, 1) := by decide +kernel
theorem dX8_layOutDraft_161 : decode cX8_layOutDraft 161 = .ok (.land, 1) := by decide +kernel
theorem dX8_layOutDraft_162 : decode cX8_layOutDraft 162 = .ok (.lstore 5, 2) := by decide +kernel
theorem dX8_layOutDraft_164 : decode cX8_layOutDraft 164 = .ok (.iinc 8 1, 3) := by decide +kernel
theorem dX8_layOutDraft_167 : decode cX8_layOutDraft 167 = .ok (.goto (-118), 3) := by decide +kernel
theorem dX8_layOutDraft_170 : decode cX8_layOutDraft 170 = .ok (.iinc 7 1, 3) := by decide +kernel
theorem dX8_layOutDraft_173 : decode cX8_layOutDraft 173 = .ok (.goto (-141), 3) := by decide +kernel
theorem dX8_layOutDraft_176 : decode cX8_layOutDraft 176 = .ok (.return_, 1) := by decide +kernel
theorem dX8_ticksToStart_0 : decode cX8_ticksToStart 0 = .ok (.aload_n 0, 1) := by decide +kernel
theorem dX8_ticksToStart_1 : decode cX8_ticksToStart 1 = .ok (.getfield 10, 3) := by decide +kernel
theorem dX8_ticksToStart_4 : decode cX8_ticksToStart 4 = .ok (.iload_n 1, 1) := by decide +kernel
theorem dX8_ticksToStart_5 : decode cX8_ticksToStart 5 = .ok (.invokevirtual 86, 3) := by decide +kernel
theorem dX8_ticksToStart_8 : decode cX8_ticksToStart 8 = .ok (.checkcast 65, 3) := by decide +kernel
theorem dX8_ticksToStart_11 : decode cX8_ticksToStart 11 = .ok (.getfield 280, 3) := by decide +kernel
theorem dX8_ticksToStart_14 : decode cX8_ticksToStart 14 = .ok (.ireturn, 1) := by decide +kernel
theorem dX8_ticksToStop_0 : decode cX8_ticksToStop 0 = .ok (.aload_n 0, 1) := by decide +kernel
theorem dX8_ticksToStop_1 : decode cX8_ticksToStop 1 = .ok (.getfield 10, 3) := by decide +kernel
theorem dX8_ticksToStop_4 : decode cX8_ticksToStop 4 = .ok (.iload_n 1, 1) := by decide +kernel
theorem dX8_ticksToStop_5 : decode cX8_ticksToStop 5 = .ok (.invokevirtual 86, 3) := by decide +kernel
theorem dX8_ticksToStop_8 : decode cX8_ticksToStop 8 = .ok (.checkcast 65, 3) := by decide +kernel
theorem dX8_ticksToStop_11 : decode cX8_ticksToStop 11 = .ok (.astore_n 3, 1) := by decide +kernel
theorem dX8_ticksToStop_12 : decode cX8_ticksToStop 12 = .ok (.aload_n 3, 1) := by decide +kernel
theorem dX8_ticksToStop_13 : decode cX8_ticksToStop 13 = .ok (.getfield 162, 3) := by decide +kernel
theorem dX8_ticksToStop_16 : decode cX8_ticksToStop 16 = .ok (.iconst 5, 1) := by decide +kernel
theorem dX8_ticksToStop_17 : decode cX8_ticksToStop 17 = .ok (.if_icmp .ne 24, 3) := by decide +kernel
theorem dX8_ticksToStop_20 : decode cX8_ticksToStop 20 = .ok (.iload_n 2, 1) := by decide +kernel
theorem dX8_ticksToStop_21 : decode cX8_ticksToStop 21 = .ok (.ifCond .eq 16, 3) := by decide +kernel
theorem dX8_ticksToStop_24 : decode cX8_ticksToStop 24 = .ok (.aload_n 3, 1) := by decide +kernel
theorem dX8_ticksToStop_25 : decode cX8_ticksToStop 25 = .ok (.aload_n 0, 1) := by decide +kernel
theorem dX8_ticksToStop_26 : decode cX8_ticksToStop 26 = .ok (.getfield 67, 3) := by decide +kernel
theorem dX8_ticksToStop_29 : decode cX8_ticksToStop 29 = .ok (.iload_n 2, 1) := by decide +kernel
theorem dX8_ticksToStop_30 : decode cX8_ticksToStop 30 = .ok (.iadd, 1) := by decide +kernel
theorem dX8_ticksToStop_31 : decode cX8_ticksToStop 31 = .ok (.invokevirtual 283, 3) := by decide +kernel
theorem dX8_ticksToStop_34 : decode cX8_ticksToStop 34 = .ok (.ifCond .ne 7, 3) := by decide +kernel
theorem dX8_ticksToStop_37 : decode cX8_ticksToStop 37 = .ok (.iconst 1, 1) := by decide +kernel
theorem dX8_ticksToStop_38 : decode cX8_ticksToStop 38 = .ok (.goto 4, 3) := by decide +kernel
theorem dX8_ticksToStop_41 : decode cX8_ticksToStop 41 = .ok (.iconst 0, 1) := by decide +kernel
theorem dX8_ticksToStop_42 : decode cX8_ticksToStop 42 = .ok (.istore 4, 2) := by decide +kernel
theorem dX8_ticksToStop_44 : decode cX8_ticksToStop 44 = .ok (.iload 4, 2) := by decide +kernel
theorem dX8_ticksToStop_46 : decode cX8_ticksToStop 46 = .ok (.ifCond .eq 7, 3) := by decide +kernel
theorem dX8_ticksToStop_49 : decode cX8_ticksToStop 49 = .ok (.iconst 0, 1) := by decide +kernel
theorem dX8_ticksToStop_50 : decode cX8_ticksToStop 50 = .ok (.goto 7, 3) := by decide +kernel
theorem dX8_ticksToStop_53 : decode cX8_ticksToStop 53 = .ok (.aload_n 3, 1) := by decide +kernel
theorem dX8_ticksToStop_54 : decode cX8_ticksToStop 54 = .ok (.getfield 286, 3) := by decide +kernel
theorem dX8_ticksToStop_57 : decode cX8_ticksToStop 57 = .ok (.ireturn, 1) := by decide +kernel
theorem dX8_passDueTime_0 : decode cX8_passDueTime 0 = .ok (.aload_n 0, 1) := by decide +kernel
theorem dX8_passDueTime_1 : decode cX8_passDueTime 1 = .ok (.getfield 10, 3) := by decide +kernel
theorem dX8_passDueTime_4 : decode cX8_passDueTime 4 = .ok (.iload_n 1, 1) := by decide +kernel
theorem dX8_passDueTime_5 : decode cX8_passDueTime 5 = .ok (.invokevirtual 86, 3) := by decide +kernel
theorem dX8_passDueTime_8 : decode cX8_passDueTime 8 = .ok (.checkcast 65, 3) := by decide +kernel
theorem dX8_passDueTime_11 : decode cX8_passDueTime 11 = .ok (.astore_n 2, 1) := by decide +kernel
theorem dX8_passDueTime_12 : decode cX8_passDueTime 12 = .ok (.aload_n 2, 1) := by decide +kernel
theorem dX8_passDueTime_13 : decode cX8_passDueTime 13 = .ok (.getfield 162, 3) := by decide +kernel
theorem dX8_passDueTime_16 : decode cX8_passDueTime 16 = .ok (.tableswitch 86 1 5 #[36, 54, 45, 86, 62], 36) := by decide +kernel
theorem dX8_passDueTime_52 : decode cX8_passDueTime 52 = .ok (.aload_n 0, 1) := by decide +kernel
theorem dX8_passDueTime_53 : decode cX8_passDueTime 53 = .ok (.iload_n 1, 1) := by decide +kernel
theorem dX8_passDueTime_54 : decode cX8_passDueTime 54 = .ok (.iconst 2, 1) := by decide +kernel
theorem dX8_passDueTime_55 : decode cX8_passDueTime 55 = .ok (.invokevirtual 249, 3) := by decide +kernel
theorem dX8_passDueTime_58 : decode cX8_passDueTime 58 = .ok (.goto 44, 3) := by decide +kernel
theorem dX8_passDueTime_61 : decode cX8_passDueTime 61 = .ok (.aload_n 0, 1) := by decide +kernel
theorem dX8_passDueTime_62 : decode cX8_passDueTime 62 = .ok (.iload_n 1, 1) := by decide +kernel
theorem dX8_passDueTime_63 : decode cX8_passDueTime 63 = .ok (.iconst 0, 1) := by decide +kernel
theorem dX8_passDueTime_64 : decode cX8_passDueTime 64 = .ok (.invokevirtual 249, 3) := by decide +kernel
theorem dX8_passDueTime_67 : decode cX8_passDueTime 67 = .ok (.goto 35, 3) := by decide +kernel
theorem dX8_passDueTime_70 : decode cX8_passDueTime 70 = .ok (.aload_n 0, 1) := by decide +kernel
theorem dX8_passDueTime_71 : decode cX8_passDueTime 71 = .ok (.iload_n 1, 1) := by decide +kernel
theorem dX8_passDueTime_72 : decode cX8_passDueTime 72 = .ok (.invokevirtual 323, 3) := by decide +kernel
theorem dX8_passDueTime_75 : decode cX8_passDueTime 75 = .ok (.goto 27, 3) := by decide +kernel
theorem dX8_passDueTime_78 : decode cX8_passDueTime 78 = .ok (.aload_n 0, 1) := by decide +kernel
theorem dX8_passDueTime_79 : decode cX8_passDueTime 79 = .ok (.iload_n 1, 1) := by decide +kernel
theorem dX8_passDueTime_80 : decode cX8_passDueTime 80 = .ok (.aload_n 0, 1) := by decide +kernel
theorem dX8_passDueTime_81 : decode cX8_passDueTime 81 = .ok (.iload_n 1, 1) := by decide +kernel
theorem dX8_passDueTime_82 : decode cX8_passDueTime 82 = .ok (.invokevirtual 326, 3) := by decide +kernel
theorem dX8_passDueTime_85 : decode cX8_passDueTime 85 = .ok (.ifCond .eq 10, 3) := by decide +kernel
theorem dX8_passDueTime_88 : decode cX8_passDueTime 88 = .ok (.aload_n 2, 1) := by decide +kernel
theorem dX8_passDueTime_89 : decode cX8_passDueTime 89 = .ok (.invokevirtual 305, 3) := by decide +kernel
theorem dX8_passDueTime_92 : decode cX8_passDueTime 92 = .ok (.goto 4, 3) := by decide +kernel
theorem dX8_passDueTime_95 : decode cX8_passDueTime 95 = .ok (.iconst 4, 1) := by decide +kernel
theorem dX8_passDueTime_96 : decode cX8_passDueTime 96 = .ok (.invokevirtual 249, 3) := by decide +kernel
theorem dX8_passDueTime_99 : decode cX8_passDueTime 99 = .ok (.goto 3, 3) := by decide +kernel
theorem dX8_passDueTime_102 : decode cX8_passDueTime 102 = .ok (.return_, 1) := by decide +kernel
theorem dX8_endLife_0 : decode cX8_endLife 0 = .ok (.aload_n 0, 1) := by decide +kernel
theorem dX8_endLife_1 : decode cX8_endLife 1 = .ok (.getfield 10, 3) := by decide +kernel
theorem dX8_endLife_4 : decode cX8_endLife 4 = .ok (.iload_n 1, 1) := by decide +kernel
theorem dX8_endLife_5 : decode cX8_endLife 5 = .ok (.invokevirtual 86, 3) := by decide +kernel
theorem dX8_endLife_8 : decode cX8_endLife 8 = .ok (.checkcast 65, 3) := by decide +kernel
theorem dX8_endLife_11 : decode cX8_endLife 11 = .ok (.astore_n 2, 1) := by decide +kernel
theorem dX8_endLife_12 : decode cX8_endLife 12 = .ok (.aload_n 2, 1) := by decide +kernel
theorem dX8_endLife_13 : decode cX8_endLife 13 = .ok (.getfield 90, 3) := by decide +kernel
theorem dX8_endLife_16 : decode cX8_endLife 16 = .ok (.iconst 1, 1) := by decide +kernel
theorem dX8_endLife_17 : decode cX8_endLife 17 = .ok (.if_icmp .ne 25, 3) := by decide +kernel
theorem dX8_endLife_20 : decode cX8_endLife 20 = .ok (.aload_n 2, 1) := by decide +kernel
theorem dX8_endLife_21 : decode cX8_endLife 21 = .ok (.invokevirtual 329, 3) := by decide +kernel
theorem dX8_endLife_24 : decode cX8_endLife 24 = .ok (.aload_n 0, 1) := by decide +kernel
theorem dX8_endLife_25 : decode cX8_endLife 25 = .ok (.dup, 1) := by decide +kernel
theorem dX8_endLife_26 : decode cX8_endLife 26 = .ok (.getfield 311, 3) := by decide +kernel
theorem dX8_endLife_29 : decode cX8_endLife 29 = .ok (.iload_n 1, 1) := by decide +kernel
theorem dX8_endLife_30 : decode cX8_endLife 30 = .ok (.invokestatic 78, 3) := by decide +kernel
theorem dX8_endLife_33 : decode cX8_endLife 33 = .ok (.ldc2_w 238, 3) := by decide +kernel
theorem dX8_endLife_36 : decode cX8_endLife 36 = .ok (.lxor, 1) := by decide +kernel
theorem dX8_endLife_37 : decode cX8_endLife 37 = .ok (.land, 1) := by decide +kernel
theorem dX8_endLife_38 : decode cX8_endLife 38 = .ok (.putfield 311, 3) := by decide +kernel
theorem dX8_endLife_41 : decode cX8_endLife 41 = .ok (.return_, 1) := by decide +kernel
theorem dX8_endLife_42 : decode cX8_endLife 42 = .ok (.aload_n 0, 1) := by decide +kernel
theorem dX8_endLife_43 : decode cX8_endLife 43 = .ok (.iload_n 1, 1) := by decide +kernel
theorem dX8_endLife_44 : decode cX8_endLife 44 = .ok (.aload_n 2, 1) := by decide +kernel
theorem dX8_endLife_45 : decode cX8_endLife 45 = .ok (.getfield 97, 3) := by decide +kernel
theorem dX8_endLife_48 : decode cX8_endLife 48 = .ok (.aload_n 0, 1) := by decide +kernel
theorem dX8_endLife_49 : decode cX8_endLife 49 = .ok (.getfield 67, 3) := by decide +kernel
theorem dX8_endLife_52 : decode cX8_endLife 52 = .ok (.invokevirtual 332, 3) := by decide +kernel
theorem dX8_endLife_55 : decode cX8_endLife 55 = .ok (.ifCond .eq 7, 3) := by decide +kernel
theorem dX8_endLife_58 : decode cX8_endLife 58 = .ok (.iconst 5, 1) := by decide +kernel
theorem dX8_endLife_59 : decode cX8_endLife 59 = .ok (.goto 4, 3) := by decide +kernel
theorem dX8_endLife_62 : decode cX8_endLife 62 = .ok (.iconst 4, 1) := by decide +kernel
theorem dX8_endLife_63 : decode cX8_endLife 63 = .ok (.invokevirtual 249, 3) := by decide +kernel
theorem dX8_endLife_66 : decode cX8_endLife 66 = .ok (.return_, 1) := by decide +kernel
theorem dX8_canWake_0 : decode cX8_canWake 0 = .ok (.aload_n 0, 1) := by decide +kernel
theorem dX8_canWake_1 : decode cX8_canWake 1 = .ok (.iload_n 1, 1) := by decide +kernel
theorem dX8_canWake_2 : decode cX8_canWake 2 = .ok (.invokevirtual 231, 3) := by decide +kernel
theorem dX8_canWake_5 : decode cX8_canWake 5 = .ok (.ifCond .eq 26, 3) := by decide +kernel
theorem dX8_canWake_8 : decode cX8_canWake 8 = .ok (.aload_n 0, 1) := by decide +kernel
theorem dX8_canWake_9 : decode cX8_canWake 9 = .ok (.getfield 19, 3) := by decide +kernel
theorem dX8_canWake_12 : decode cX8_canWake 12 = .ok (.iconst 3, 1) := by decide +kernel
theorem dX8_canWake_13 : decode cX8_canWake 13 = .ok (.iload_n 1, 1) := by decide +kernel
theorem dX8_canWake_14 : decode cX8_canWake 14 = .ok (.invokevirtual 234, 3) := by decide +kernel
theorem dX8_canWake_17 : decode cX8_canWake 17 = .ok (.aload_n 0, 1) := by decide +kernel
theorem dX8_canWake_18 : decode cX8_canWake 18 = .ok (.invokevirtual 224, 3) := by decide +kernel
theorem dX8_canWake_21 : decode cX8_canWake 21 = .ok (.land, 1) := by decide +kernel
theorem dX8_canWake_22 : decode cX8_canWake 22 = .ok (.lconst 0, 1) := by decide +kernel
theorem dX8_canWake_23 : decode cX8_canWake 23 = .ok (.lcmp, 1) := by decide +kernel
theorem dX8_canWake_24 : decode cX8_canWake 24 = .ok (.ifCond .ne 7, 3) := by decide +kernel
theorem dX8_canWake_27 : decode cX8_canWake 27 = .ok (.iconst 1, 1) := by decide +kernel
theorem dX8_canWake_28 : decode cX8_canWake 28 = .ok (.goto 4, 3) := by decide +kernel
theorem dX8_canWake_31 : decode cX8_canWake 31 = .ok (.iconst 0, 1) := by decide +kernel
theorem dX8_canWake_32 : decode cX8_canWake 32 = .ok (.ireturn, 1) := by decide +kernel
theorem dX8_passTick_0 : decode cX8_passTick 0 = .ok (.aload_n 0, 1) := by decide +kernel
theorem dX8_passTick_1 : decode cX8_passTick 1 = .ok (.dup, 1) := by decide +kernel
theorem dX8_passTick_2 : decode cX8_passTick 2 = .ok (.getfield 67, 3) := by decide +kernel
theorem dX8_passTick_5 : decode cX8_passTick 5 = .ok (.iconst 1, 1) := by decide +kernel
theorem dX8_passTick_6 : decode cX8_passTick 6 = .ok (.iadd, 1) := by decide +kernel
theorem dX8_passTick_7 : decode cX8_passTick 7 = .ok (.putfield 67, 3) := by decide +kernel
theorem dX8_passTick_10 : decode cX8_passTick 10 = .ok (.aload_n 0, 1) := by decide +kernel
theorem dX8_passTick_11 : decode cX8_passTick 11 = .ok (.getfield 53, 3) := by decide +kernel
theorem dX8_passTick_14 : decode cX8_passTick 14 = .ok (.iconst 1, 1) := by decide +kernel
theorem dX8_passTick_15 : decode cX8_passTick 15 = .ok (.laload, 1) := by decide +kernel
theorem dX8_passTick_16 : decode cX8_passTick 16 = .ok (.aload_n 0, 1) := by decide +kernel
theorem dX8_passTick_17 : decode cX8_passTick 17 = .ok (.getfield 53, 3) := by decide +kernel
theorem dX8_passTick_20 : decode cX8_passTick 20 = .ok (.iconst 3, 1) := by decide +kernel
theorem dX8_passTick_21 : decode cX8_passTick 21 = .ok (.laload, 1) := by decide +kernel
theorem dX8_passTick_22 : decode cX8_passTick 22 = .ok (.lor, 1) := by decide +kernel
theorem dX8_passTick_23 : decode cX8_passTick 23 = .ok (.aload_n 0, 1) := by decide +kernel
theorem dX8_passTick_24 : decode cX8_passTick 24 = .ok (.getfield 53, 3) := by decide +kernel
theorem dX8_passTick_27 : decode cX8_passTick 27 = .ok (.iconst 5, 1) := by decide +kernel
theorem dX8_passTick_28 : decode cX8_passTick 28 = .ok (.laload, 1) := by decide +kernel
theorem dX8_passTick_29 : decode cX8_passTick 29 = .ok (.lor, 1) := by decide +kernel
theorem dX8_passTick_30 : decode cX8_passTick 30 = .ok (.aload_n 0, 1) := by decide +kernel
theorem dX8_passTick_31 : decode cX8_passTick 31 = .ok (.getfield 311, 3) := by decide +kernel
theorem dX8_passTick_34 : decode cX8_passTick 34 = .ok (.lor, 1) := by decide +kernel
theorem dX8_passTick_35 : decode cX8_passTick 35 = .ok (.lstore_n 1, 1) := by decide +kernel
theorem dX8_passTick_36 : decode cX8_passTick 36 = .ok (.lload_n 1, 1) := by decide +kernel
theorem dX8_passTick_37 : decode cX8_passTick 37 = .ok (.lconst 0, 1) := by decide +kernel
theorem dX8_passTick_38 : decode cX8_passTick 38 = .ok (.lcmp, 1) := by decide +kernel
theorem dX8_passTick_39 : decode cX8_passTick 39 = .ok (.ifCond .eq 56, 3) := by decide +kernel
theorem dX8_passTick_42 : decode cX8_passTick 42 = .ok (.iconst 0, 1) := by decide +kernel
theorem dX8_passTick_43 : decode cX8_passTick 43 = .ok (.istore_n 3, 1) := by decide +kernel
theorem dX8_passTick_44 : decode cX8_passTick 44 = .ok (.iload_n 3, 1) := by decide +kernel
theorem dX8_passTick_45 : decode cX8_passTick 45 = .ok (.aload_n 0, 1) := by decide +kernel
theorem dX8_passTick_46 : decode cX8_passTick 46 = .ok (.getfield 10, 3) := by decide +kernel
theorem dX8_passTick_49 : decode cX8_passTick 49 = .ok (.invokevirtual 61, 3) := by decide +kernel
theorem dX8_passTick_52 : decode cX8_passTick 52 = .ok (.if_icmp .ge 43, 3) := by decide +kernel
theorem dX8_passTick_55 : decode cX8_passTick 55 = .ok (.lload_n 1, 1) := by decide +kernel
theorem dX8_passTick_56 : decode cX8_passTick 56 = .ok (.iload_n 3, 1) := by decide +kernel
theorem dX8_passTick_57 : decode cX8_passTick 57 = .ok (.invokestatic 114, 3) := by decide +kernel
theorem dX8_passTick_60 : decode cX8_passTick 60 = .ok (.ifCond .eq 29, 3) := by decide +kernel
theorem dX8_passTick_63 : decode cX8_passTick 63 = .ok (.aload_n 0, 1) := by decide +kernel
theorem dX8_passTick_64 : decode cX8_passTick 64 = .ok (.getfield 10, 3) := by decide +kernel
theorem dX8_passTick_67 : decode cX8_passTick 67 = .ok (.iload_n 3, 1) := by decide +kernel
theorem dX8_passTick_68 : decode cX8_passTick 68 = .ok (.invokevirtual 86, 3) := by decide +kernel
theorem dX8_passTick_71 : decode cX8_passTick 71 = .ok (.checkcast 65, 3) := by decide +kernel
theorem dX8_passTick_74 : decode cX8_passTick 74 = .ok (.aload_n 0, 1) := by decide +kernel
theorem dX8_passTick_75 : decode cX8_passTick 75 = .ok (.getfield 67, 3) := by decide +kernel
theorem dX8_passTick_78 : decode cX8_passTick 78 = .ok (.invokevirtual 283, 3) := by decide +kernel
theorem dX8_passTick_81 : decode cX8_passTick 81 = .ok (.ifCond .eq 8, 3) := by decide +kernel
theorem dX8_passTick_84 : decode cX8_passTick 84 = .ok (.aload_n 0, 1) := by decide +kernel
theorem dX8_passTick_85 : decode cX8_passTick 85 = .ok (.iload_n 3, 1) := by decide +kernel
theorem dX8_passTick_86 : decode cX8_passTick 86 = .ok (.invokevirtual 314, 3) := by decide +kernel
theorem dX8_passTick_89 : decode cX8_passTick 89 = .ok (.iinc 3 1, 3) := by decide +kernel
theorem dX8_passTick_92 : decode cX8_passTick 92 = .ok (.goto (-48), 3) := by decide +kernel
theorem dX8_passTick_95 : decode cX8_passTick 95 = .ok (.aload_n 0, 1) := by decide +kernel
theorem dX8_passTick_96 : decode cX8_passTick 96 = .ok (.invokevirtual 317, 3) := by decide +kernel
theorem dX8_passTick_99 : decode cX8_passTick 99 = .ok (.aload_n 0, 1) := by decide +kernel
theorem dX8_passTick_100 : decode cX8_passTick 100 = .ok (.invokevirtual 320, 3) := by decide +kernel
theorem dX8_passTick_103 : decode cX8_passTick 103 = .ok (.aload_n 0, 1) := by decide +kernel
theorem dX8_passTick_104 : decode cX8_passTick 104 = .ok (.invokevirtual 260, 3) := by decide +kernel
theorem dX8_passTick_107 : decode cX8_passTick 107 = .ok (.return_, 1) := by decide +kernel
theorem dX8_stopTheLacking_0 : decode cX8_stopTheLacking 0 = .ok (.aload_n 0, 1) := by decide +kernel
theorem dX8_stopTheLacking_1 : decode cX8_stopTheLacking 1 = .ok (.getfield 49, 3) := by decide +kernel
theorem dX8_stopTheLacking_4 : decode cX8_stopTheLacking 4 = .ok (.getfield 219, 3) := by decide +kernel
theorem dX8_stopTheLacking_7 : decode cX8_stopTheLacking 7 = .ok (.aload_n 0, 1) := by decide +kernel
theorem dX8_stopTheLacking_8 : decode cX8_stopTheLacking 8 = .ok (.getfield 335, 3) := by decide +kernel
theorem dX8_stopTheLacking_11 : decode cX8_stopTheLacking 11 = .ok (.if_icmp .ne 4, 3) := by decide +kernel
theorem dX8_stopTheLacking_14 : decode cX8_stopTheLacking 14 = .ok (.return_, 1) := by decide +kernel
theorem dX8_stopTheLacking_15 : decode cX8_stopTheLacking 15 = .ok (.iconst 0, 1) := by decide +kernel
theorem dX8_stopTheLacking_16 : decode cX8_stopTheLacking 16 = .ok (.istore_n 1, 1) := by decide +kernel
theorem dX8_stopTheLacking_17 : decode cX8_stopTheLacking 17 = .ok (.iload_n 1, 1) := by decide +kernel
theorem dX8_stopTheLacking_18 : decode cX8_stopTheLacking 18 = .ok (.bipush 40, 2) := by decide +kernel
theorem dX8_stopTheLacking_20 : decode cX8_stopTheLacking 20 = .ok (.if_icmp .ge 44, 3) := by decide +kernel
theorem dX8_stopTheLacking_23 : decode cX8_stopTheLacking 23 = .ok (.aload_n 0, 1) := by decide +kernel
theorem dX8_stopTheLacking_24 : decode cX8_stopTheLacking 24 = .ok (.invokevirtual 221, 3) := by decide +kernel
theorem dX8_stopTheLacking_27 : decode cX8_stopTheLacking 27 = .ok (.istore_n 2, 1) := by decide +kernel
theorem dX8_stopTheLacking_28 : decode cX8_stopTheLacking 28 = .ok (.aload_n 0, 1) := by decide +kernel
theorem dX8_stopTheLacking_29 : decode cX8_stopTheLacking 29 = .ok (.iload_n 2, 1) := by decide +kernel
theorem dX8_stopTheLacking_30 : decode cX8_stopTheLacking 30 = .ok (.invokevirtual 82, 3) := by decide +kernel
theorem dX8_stopTheLacking_33 : decode cX8_stopTheLacking 33 = .ok (.ifCond .ne 6, 3) := by decide +kernel
theorem dX8_stopTheLacking_36 : decode cX8_stopTheLacking 36 = .ok (.goto 28, 3) := by decide +kernel
theorem dX8_stopTheLacking_39 : decode cX8_stopTheLacking 39 = .ok (.aload_n 0, 1) := by decide +kernel
theorem dX8_stopTheLacking_40 : decode cX8_stopTheLacking 40 = .ok (.iload_n 2, 1) := by decide +kernel
theorem dX8_stopTheLacking_41 : decode cX8_stopTheLacking 41 = .ok (.aload_n 0, 1) := by decide +kernel
theorem dX8_stopTheLacking_42 : decode cX8_stopTheLacking 42 = .ok (.getfield 10, 3) := by decide +kernel
theorem dX8_stopTheLacking_45 : decode cX8_stopTheLacking 45 = .ok (.iload_n 2, 1) := by decide +kernel
theorem dX8_stopTheLacking_46 : decode cX8_stopTheLacking 46 = .ok (.invokevirtual 86, 3) := by decide +kernel
theorem dX8_stopTheLacking_49 : decode cX8_stopTheLacking 49 = .ok (.checkcast 65, 3) := by decide +kernel
theorem dX8_stopTheLacking_52 : decode cX8_stopTheLacking 52 = .ok (.invokevirtual 308, 3) := by decide +kernel
theorem dX8_stopTheLacking_55 : decode cX8_stopTheLacking 55 = .ok (.invokevirtual 249, 3) := by decide +kernel
theorem dX8_stopTheLacking_58 : decode cX8_stopTheLacking 58 = .ok (.iinc 1 1, 3) := by decide +kernel
theorem dX8_stopTheLacking_61 : decode cX8_stopTheLacking 61 = .ok (.goto (-44), 3) := by decide +kernel
theorem dX8_stopTheLacking_64 : decode cX8_stopTheLacking 64 = .ok (.aload_n 0, 1) := by decide +kernel
theorem dX8_stopTheLacking_65 : decode cX8_stopTheLacking 65 = .ok (.aload_n 0, 1) := by decide +kernel
theorem dX8_stopTheLacking_66 : decode cX8_stopTheLacking 66 = .ok (.getfield 49, 3) := by decide +kernel
theorem dX8_stopTheLacking_69 : decode cX8_stopTheLacking 69 = .ok (.getfield 219, 3) := by decide +kernel
theorem dX8_stopTheLacking_72 : decode cX8_stopTheLacking 72 = .ok (.putfield 335, 3) := by decide +kernel
theorem dX8_stopTheLacking_75 : decode cX8_stopTheLacking 75 = .ok (.return_, 1) := by decide +kernel
theorem dX8_readLetters_0 : decode cX8_readLetters 0 = .ok (.aload_n 0, 1) := by decide +kernel
theorem dX8_readLetters_1 : decode cX8_readLetters 1 = .ok (.getfield 158, 3) := by decide +kernel
theorem dX8_readLetters_4 : decode cX8_readLetters 4 = .ok (.aload_n 0, 1) := by decide +kernel
theorem dX8_readLetters_5 : decode cX8_readLetters 5 = .ok (.getfield 53, 3) := by decide +kernel
theorem dX8_readLetters_8 : decode cX8_readLetters 8 = .ok (.iconst 2, 1) := by decide +kernel
theorem dX8_readLetters_9 : decode cX8_readLetters 9 = .ok (.laload, 1) := by decide +kernel
theorem dX8_readLetters_10 : decode cX8_readLetters 10 = .ok (.land, 1) := by decide +kernel
theorem dX8_readLetters_11 : decode cX8_readLetters 11 = .ok (.lstore_n 1, 1) := by decide +kernel
theorem dX8_readLetters_12 : decode cX8_readLetters 12 = .ok (.lload_n 1, 1) := by decide +kernel
theorem dX8_readLetters_13 : decode cX8_readLetters 13 = .ok (.lconst 0, 1) := by decide +kernel
theorem dX8_readLetters_14 : decode cX8_readLetters 14 = .ok (.lcmp, 1) := by decide +kernel
theorem dX8_readLetters_15 : decode cX8_readLetters 15 = .ok (.ifCond .ne 4, 3) := by decide +kernel
theorem dX8_readLetters_18 : decode cX8_readLetters 18 = .ok (.return_, 1) := by decide +kernel
theorem dX8_readLetters_19 : decode cX8_readLetters 19 = .ok (.iconst 0, 1) := by decide +kernel
theorem dX8_readLetters_20 : decode cX8_readLetters 20 = .ok (.istore_n 3, 1) := by decide +kernel
theorem dX8_readLetters_21 : decode cX8_readLetters 21 = .ok (.iload_n 3, 1) := by decide +kernel
theorem dX8_readLetters_22 : decode cX8_readLetters 22 = .ok (.aload_n 0, 1) := by decide +kernel
theorem dX8_readLetters_23 : decode cX8_readLetters 23 = .ok (.getfield 10, 3) := by decide +kernel
theorem dX8_readLetters_26 : decode cX8_readLetters 26 = .ok (.invokevirtual 61, 3) := by decide +kernel
theorem dX8_readLetters_29 : decode cX8_readLetters 29 = .ok (.if_icmp .ge 73, 3) := by decide +kernel
theorem dX8_readLetters_32 : decode cX8_readLetters 32 = .ok (.lload_n 1, 1) := by decide +kernel
theorem dX8_readLetters_33 : decode cX8_readLetters 33 = .ok (.iload_n 3, 1) := by decide +kernel
theorem dX8_readLetters_34 : decode cX8_readLetters 34 = .ok (.invokestatic 114, 3) := by decide +kernel
theorem dX8_readLetters_37 : decode cX8_readLetters 37 = .ok (.ifCond .eq 59, 3) := by decide +kernel
theorem dX8_readLetters_40 : decode cX8_readLetters 40 = .ok (.aload_n 0, 1) := by decide +kernel
theorem dX8_readLetters_41 : decode cX8_readLetters 41 = .ok (.getfield 10, 3) := by decide +kernel
theorem dX8_readLetters_44 : decode cX8_readLetters 44 = .ok (.iload_n 3, 1) := by decide +kernel
theorem dX8_readLetters_45 : decode cX8_readLetters 45 = .ok (.invokevirtual 86, 3) := by decide +kernel
theorem dX8_readLetters_48 : decode cX8_readLetters 48 = .ok (.checkcast 65, 3) := by decide +kernel
theorem dX8_readLetters_51 : decode cX8_readLetters 51 = .ok (.getfield 142, 3) := by decide +kernel
theorem dX8_readLetters_54 : decode cX8_readLetters 54 = .ok (.astore 4, 2) := by decide +kernel
theorem dX8_readLetters_56 : decode cX8_readLetters 56 = .ok (.aload 4, 2) := by decide +kernel
theorem dX8_readLetters_58 : decode cX8_readLetters 58 = .ok (.invokevirtual 338, 3) := by decide +kernel
theorem dX8_readLetters_61 : decode cX8_readLetters 61 = .ok (.aload_n 0, 1) := by decide +kernel
theorem dX8_readLetters_62 : decode cX8_readLetters 62 = .ok (.dup, 1) := by decide +kernel
theorem dX8_readLetters_63 : decode cX8_readLetters 63 = .ok (.getfield 195, 3) := by decide +kernel
theorem dX8_readLetters_66 : decode cX8_readLetters 66 = .ok (.iconst 1, 1) := by decide +kernel
theorem dX8_readLetters_67 : decode cX8_readLetters 67 = .ok (.iadd, 1) := by decide +kernel
theorem dX8_readLetters_68 : decode cX8_readLetters 68 = .ok (.putfield 195, 3) := by decide +kernel
theorem dX8_readLetters_71 : decode cX8_readLetters 71 = .ok (.aload 4, 2) := by decide +kernel
theorem dX8_readLetters_73 : decode cX8_readLetters 73 = .ok (.getfield 182, 3) := by decide +kernel
theorem dX8_readLetters_76 : decode cX8_readLetters 76 = .ok (.ifCond .ne 20, 3) := by decide +kernel
theorem dX8_readLetters_79 : decode cX8_readLetters 79 = .ok (.aload_n 0, 1) := by decide +kernel
theorem dX8_readLetters_80 : decode cX8_readLetters 80 = .ok (.dup, 1) := by decide +kernel
theorem dX8_readLetters_81 : decode cX8_readLetters 81 = .ok (.getfield 158, 3) := by decide +kernel
theorem dX8_readLetters_84 : decode cX8_readLetters 84 = .ok (.iload_n 3, 1) := by decide +kernel
theorem dX8_readLetters_85 : decode cX8_readLetters 85 = .ok (.invokestatic 78, 3) := by decide +kernel
theorem dX8_readLetters_88 : decode cX8_readLetters 88 = .ok (.ldc2_w 238, 3) := by decide +kernel
theorem dX8_readLetters_91 : decode cX8_readLetters 91 = .ok (.lxor, 1) := by decide +kernel
theorem dX8_readLetters_92 : decode cX8_readLetters 92 = .ok (.land, 1) := by decide +kernel
theorem dX8_readLetters_93 : decode cX8_readLetters 93 = .ok (.putfield 158, 3) := by decide +kernel
theorem dX8_readLetters_96 : decode cX8_readLetters 96 = .ok (.iinc 3 1, 3) := by decide +kernel
theorem dX8_readLetters_99 : decode cX8_readLetters 99 = .ok (.goto (-78), 3) := by decide +kernel
theorem dX8_readLetters_102 : decode cX8_readLetters 102 = .ok (.return_, 1) := by decide +kernel
theorem dX8_order_0 : decode cX8_order 0 = .ok (.aload_n 0, 1) := by decide +kernel
theorem dX8_order_1 : decode cX8_order 1 = .ok (.iload_n 1, 1) := by decide +kernel
theorem dX8_order_2 : decode cX8_order 2 = .ok (.iload_n 2, 1) := by decide +kernel
theorem dX8_order_3 : decode cX8_order 3 = .ok (.invokevirtual 128, 3) := by decide +kernel
theorem dX8_order_6 : decode cX8_order 6 = .ok (.istore_n 3, 1) := by decide +kernel
theorem dX8_order_7 : decode cX8_order 7 = .ok (.aload_n 0, 1) := by decide +kernel
theorem dX8_order_8 : decode cX8_order 8 = .ok (.iload_n 3, 1) := by decide +kernel
theorem dX8_order_9 : decode cX8_order 9 = .ok (.invokevirtual 132, 3) := by decide +kernel
theorem dX8_order_12 : decode cX8_order 12 = .ok (.iload_n 3, 1) := by decide +kernel
theorem dX8_order_13 : decode cX8_order 13 = .ok (.ifCond .lt 7, 3) := by decide +kernel
theorem dX8_order_16 : decode cX8_order 16 = .ok (.aload_n 0, 1) := by decide +kernel
theorem dX8_order_17 : decode cX8_order 17 = .ok (.invokevirtual 136, 3) := by decide +kernel
theorem dX8_order_20 : decode cX8_order 20 = .ok (.iload_n 3, 1) := by decide +kernel
theorem dX8_order_21 : decode cX8_order 21 = .ok (.ireturn, 1) := by decide +kernel
theorem dX8_tick_0 : decode cX8_tick 0 = .ok (.iload_n 1, 1) := by decide +kernel
theorem dX8_tick_1 : decode cX8_tick 1 = .ok (.iconst 1, 1) := by decide +kernel
theorem dX8_tick_2 : decode cX8_tick 2 = .ok (.sipush 1000, 3) := by decide +kernel
theorem dX8_tick_5 : decode cX8_tick 5 = .ok (.invokestatic 57, 3) := by decide +kernel
theorem dX8_tick_8 : decode cX8_tick 8 = .ok (.ifCond .ne 5, 3) := by decide +kernel
theorem dX8_tick_11 : decode cX8_tick 11 = .ok (.iconst (-1), 1) := by decide +kernel
theorem dX8_tick_12 : decode cX8_tick 12 = .ok (.ireturn, 1) := by decide +kernel
theorem dX8_tick_13 : decode cX8_tick 13 = .ok (.iconst 0, 1) := by decide +kernel
theorem dX8_tick_14 : decode cX8_tick 14 = .ok (.istore_n 2, 1) := by decide +kernel
theorem dX8_tick_15 : decode cX8_tick 15 = .ok (.iload_n 2, 1) := by decide +kernel
theorem dX8_tick_16 : decode cX8_tick 16 = .ok (.iload_n 1, 1) := by decide +kernel
theorem dX8_tick_17 : decode cX8_tick 17 = .ok (.if_icmp .ge 13, 3) := by decide +kernel
theorem dX8_tick_20 : decode cX8_tick 20 = .ok (.aload_n 0, 1) := by decide +kernel
theorem dX8_tick_21 : decode cX8_tick 21 = .ok (.invokevirtual 139, 3) := by decide +kernel
theorem dX8_tick_24 : decode cX8_tick 24 = .ok (.iinc 2 1, 3) := by decide +kernel
theorem dX8_tick_27 : decode cX8_tick 27 = .ok (.goto (-12), 3) := by decide +kernel
theorem dX8_tick_30 : decode cX8_tick 30 = .ok (.aload_n 0, 1) := by decide +kernel
theorem dX8_tick_31 : decode cX8_tick 31 = .ok (.getfield 67, 3) := by decide +kernel
theorem dX8_tick_34 : decode cX8_tick 34 = .ok (.ireturn, 1) := by decide +kernel
theorem dX8_letter_0 : decode cX8_letter 0 = .ok (.aload_n 0, 1) := by decide +kernel
theorem dX8_letter_1 : decode cX8_letter 1 = .ok (.iload_n 1, 1) := by decide +kernel
theorem dX8_letter_2 : decode cX8_letter 2 = .ok (.invokevirtual 82, 3) := by decide +kernel
theorem dX8_letter_5 : decode cX8_letter 5 = .ok (.ifCond .ne 5, 3) := by decide +kernel
theorem dX8_letter_8 : decode cX8_letter 8 = .ok (.iconst (-1), 1) := by decide +kernel
theorem dX8_letter_9 : decode cX8_letter 9 = .ok (.ireturn, 1) := by decide +kernel
theorem dX8_letter_10 : decode cX8_letter 10 = .ok (.aload_n 0, 1) := by decide +kernel
theorem dX8_letter_11 : decode cX8_letter 11 = .ok (.getfield 10, 3) := by decide +kernel
theorem dX8_letter_14 : decode cX8_letter 14 = .ok (.iload_n 1, 1) := by decide +kernel
theorem dX8_letter_15 : decode cX8_letter 15 = .ok (.invokevirtual 86, 3) := by decide +kernel
theorem dX8_letter_18 : decode cX8_letter 18 = .ok (.checkcast 65, 3) := by decide +kernel
theorem dX8_letter_21 : decode cX8_letter 21 = .ok (.astore_n 2, 1) := by decide +kernel
theorem dX8_letter_22 : decode cX8_letter 22 = .ok (.aload_n 2, 1) := by decide +kernel
theorem dX8_letter_23 : decode cX8_letter 23 = .ok (.getfield 90, 3) := by decide +kernel
theorem dX8_letter_26 : decode cX8_letter 26 = .ok (.iconst 2, 1) := by decide +kernel
theorem dX8_letter_27 : decode cX8_letter 27 = .ok (.if_icmp .eq 6, 3) := by decide +kernel
theorem dX8_letter_30 : decode cX8_letter 30 = .ok (.bipush (-2), 2) := by decide +kernel
theorem dX8_letter_32 : decode cX8_letter 32 = .ok (.ireturn, 1) := by decide +kernel
theorem dX8_letter_33 : decode cX8_letter 33 = .ok (.aload_n 2, 1) := by decide +kernel
theorem dX8_letter_34 : decode cX8_letter 34 = .ok (.getfield 142, 3) := by decide +kernel
theorem dX8_letter_37 : decode cX8_letter 37 = .ok (.invokevirtual 146, 3) := by decide +kernel
theorem dX8_letter_40 : decode cX8_letter 40 = .ok (.ifCond .eq 6, 3) := by decide +kernel
theorem dX8_letter_43 : decode cX8_letter 43 = .ok (.bipush (-6), 2) := by decide +kernel
theorem dX8_letter_45 : decode cX8_letter 45 = .ok (.ireturn, 1) := by decide +kernel
theorem dX8_letter_46 : decode cX8_letter 46 = .ok (.aload_n 0, 1) := by decide +kernel
theorem dX8_letter_47 : decode cX8_letter 47 = .ok (.getfield 152, 3) := by decide +kernel
theorem dX8_letter_50 : decode cX8_letter 50 = .ok (.istore_n 3, 1) := by decide +kernel
theorem dX8_letter_51 : decode cX8_letter 51 = .ok (.aload_n 0, 1) := by decide +kernel
theorem dX8_letter_52 : decode cX8_letter 52 = .ok (.dup, 1) := by decide +kernel
theorem dX8_letter_53 : decode cX8_letter 53 = .ok (.getfield 152, 3) := by decide +kernel
theorem dX8_letter_56 : decode cX8_letter 56 = .ok (.iconst 1, 1) := by decide +kernel
theorem dX8_letter_57 : decode cX8_letter 57 = .ok (.iadd, 1) := by decide +kernel
theorem dX8_letter_58 : decode cX8_letter 58 = .ok (.putfield 152, 3) := by decide +kernel
theorem dX8_letter_61 : decode cX8_letter 61 = .ok (.aload_n 2, 1) := by decide +kernel
theorem dX8_letter_62 : decode cX8_letter 62 = .ok (.getfield 142, 3) := by decide +kernel
theorem dX8_letter_65 : decode cX8_letter 65 = .ok (.iload_n 3, 1) := by decide +kernel
theorem dX8_letter_66 : decode cX8_letter 66 = .ok (.invokevirtual 155, 3) := by decide +kernel
theorem dX8_letter_69 : decode cX8_letter 69 = .ok (.aload_n 0, 1) := by decide +kernel
theorem dX8_letter_70 : decode cX8_letter 70 = .ok (.dup, 1) := by decide +kernel
theorem dX8_letter_71 : decode cX8_letter 71 = .ok (.getfield 158, 3) := by decide +kernel
theorem dX8_letter_74 : decode cX8_letter 74 = .ok (.iload_n 1, 1) := by decide +kernel
theorem dX8_letter_75 : decode cX8_letter 75 = .ok (.invokestatic 78, 3) := by decide +kernel
theorem dX8_letter_78 : decode cX8_letter 78 = .ok (.lor, 1) := by decide +kernel
theorem dX8_letter_79 : decode cX8_letter 79 = .ok (.putfield 158, 3) := by decide +kernel
theorem dX8_letter_82 : decode cX8_letter 82 = .ok (.aload_n 2, 1) := by decide +kernel
theorem dX8_letter_83 : decode cX8_letter 83 = .ok (.getfield 162, 3) := by decide +kernel
theorem dX8_letter_86 : decode cX8_letter 86 = .ok (.ifCond .ne 16, 3) := by decide +kernel
theorem dX8_letter_89 : decode cX8_letter 89 = .ok (.aload_n 0, 1) := by decide +kernel
theorem dX8_letter_90 : decode cX8_letter 90 = .ok (.iconst 0, 1) := by decide +kernel
theorem dX8_letter_91 : decode cX8_letter 91 = .ok (.iload_n 1, 1) := by decide +kernel
theorem dX8_letter_92 : decode cX8_letter 92 = .ok (.invokevirtual 128, 3) := by decide +kernel
theorem dX8_letter_95 : decode cX8_letter 95 = .ok (.ifCond .lt 7, 3) := by decide +kernel
theorem dX8_letter_98 : decode cX8_letter 98 = .ok (.aload_n 0, 1) := by decide +kernel
theorem dX8_letter_99 : decode cX8_letter 99 = .ok (.invokevirtual 136, 3) := by decide +kernel
theorem dX8_letter_102 : decode cX8_letter 102 = .ok (.iload_n 3, 1) := by decide +kernel
theorem dX8_letter_103 : decode cX8_letter 103 = .ok (.ireturn, 1) := by decide +kernel
theorem dX8_plan_0 : decode cX8_plan 0 = .ok (.aload_n 0, 1) := by decide +kernel
theorem dX8_plan_1 : decode cX8_plan 1 = .ok (.iload_n 1, 1) := by decide +kernel
theorem dX8_plan_2 : decode cX8_plan 2 = .ok (.iload_n 2, 1) := by decide +kernel
theorem dX8_plan_3 : decode cX8_plan 3 = .ok (.invokevirtual 128, 3) := by decide +kernel
theorem dX8_plan_6 : decode cX8_plan 6 = .ok (.istore_n 3, 1) := by decide +kernel
theorem dX8_plan_7 : decode cX8_plan 7 = .ok (.aload_n 0, 1) := by decide +kernel
theorem dX8_plan_8 : decode cX8_plan 8 = .ok (.iload_n 3, 1) := by decide +kernel
theorem dX8_plan_9 : decode cX8_plan 9 = .ok (.invokevirtual 132, 3) := by decide +kernel
theorem dX8_plan_12 : decode cX8_plan 12 = .ok (.iload_n 3, 1) := by decide +kernel
theorem dX8_plan_13 : decode cX8_plan 13 = .ok (.ifCond .lt 7, 3) := by decide +kernel
theorem dX8_plan_16 : decode cX8_plan 16 = .ok (.aload_n 0, 1) := by decide +kernel
theorem dX8_plan_17 : decode cX8_plan 17 = .ok (.invokevirtual 204, 3) := by decide +kernel
theorem dX8_plan_20 : decode cX8_plan 20 = .ok (.iload_n 3, 1) := by decide +kernel
theorem dX8_plan_21 : decode cX8_plan 21 = .ok (.ireturn, 1) := by decide +kernel
theorem dX8_about_0 : decode cX8_about 0 = .ok (.aload_n 0, 1) := by decide +kernel
theorem dX8_about_1 : decode cX8_about 1 = .ok (.iload_n 1, 1) := by decide +kernel
theorem dX8_about_2 : decode cX8_about 2 = .ok (.invokevirtual 82, 3) := by decide +kernel
theorem dX8_about_5 : decode cX8_about 5 = .ok (.ifCond .ne 5, 3) := by decide +kernel
theorem dX8_about_8 : decode cX8_about 8 = .ok (.iconst (-1), 1) := by decide +kernel
theorem dX8_about_9 : decode cX8_about 9 = .ok (.ireturn, 1) := by decide +kernel
theorem dX8_about_10 : decode cX8_about 10 = .ok (.aload_n 0, 1) := by decide +kernel
theorem dX8_about_11 : decode cX8_about 11 = .ok (.getfield 10, 3) := by decide +kernel
theorem dX8_about_14 : decode cX8_about 14 = .ok (.iload_n 1, 1) := by decide +kernel
theorem dX8_about_15 : decode cX8_about 15 = .ok (.invokevirtual 86, 3) := by decide +kernel
theorem dX8_about_18 : decode cX8_about 18 = .ok (.checkcast 65, 3) := by decide +kernel
theorem dX8_about_21 : decode cX8_about 21 = .ok (.astore_n 3, 1) := by decide +kernel
theorem dX8_about_22 : decode cX8_about 22 = .ok (.iload_n 2, 1) := by decide +kernel
theorem dX8_about_23 : decode cX8_about 23 = .ok (.tableswitch 124 0 9 #[53, 58, 63, 68, 73, 86, 95, 103, 111, 119], 53) := by decide +kernel
theorem dX8_about_76 : decode cX8_about 76 = .ok (.aload_n 3, 1) := by decide +kernel
theorem dX8_about_77 : decode cX8_about 77 = .ok (.getfield 162, 3) := by decide +kernel
theorem dX8_about_80 : decode cX8_about 80 = .ok (.ireturn, 1) := by decide +kernel
theorem dX8_about_81 : decode cX8_about 81 = .ok (.aload_n 3, 1) := by decide +kernel
theorem dX8_about_82 : decode cX8_about 82 = .ok (.getfield 165, 3) := by decide +kernel
theorem dX8_about_85 : decode cX8_about 85 = .ok (.ireturn, 1) := by decide +kernel
theorem dX8_about_86 : decode cX8_about 86 = .ok (.aload_n 3, 1) := by decide +kernel
theorem dX8_about_87 : decode cX8_about 87 = .ok (.getfield 168, 3) := by decide +kernel
theorem dX8_about_90 : decode cX8_about 90 = .ok (.ireturn, 1) := by decide +kernel
theorem dX8_about_91 : decode cX8_about 91 = .ok (.aload_n 3, 1) := by decide +kernel
theorem dX8_about_92 : decode cX8_about 92 = .ok (.getfield 171, 3) := by decide +kernel
theorem dX8_about_95 : decode cX8_about 95 = .ok (.ireturn, 1) := by decide +kernel
theorem dX8_about_96 : decode cX8_about 96 = .ok (.aload_n 3, 1) := by decide +kernel
theorem dX8_about_97 : decode cX8_about 97 = .ok (.getfield 174, 3) := by decide +kernel
theorem dX8_about_100 : decode cX8_about 100 = .ok (.ifCond .eq 7, 3) := by decide +kernel
theorem dX8_about_103 : decode cX8_about 103 = .ok (.iconst 1, 1) := by decide +kernel
theorem dX8_about_104 : decode cX8_about 104 = .ok (.goto 4, 3) := by decide +kernel
theorem dX8_about_107 : decode cX8_about 107 = .ok (.iconst 0, 1) := by decide +kernel
theorem dX8_about_108 : decode cX8_about 108 = .ok (.ireturn, 1) := by decide +kernel
theorem dX8_about_109 : decode cX8_about 109 = .ok (.aload_n 0, 1) := by decide +kernel
theorem dX8_about_110 : decode cX8_about 110 = .ok (.getfield 35, 3) := by decide +kernel
theorem dX8_about_113 : decode cX8_about 113 = .ok (.iload_n 1, 1) := by decide +kernel
theorem dX8_about_114 : decode cX8_about 114 = .ok (.invokevirtual 178, 3) := by decide +kernel
theorem dX8_about_117 : decode cX8_about 117 = .ok (.ireturn, 1) := by decide +kernel
theorem dX8_about_118 : decode cX8_about 118 = .ok (.aload_n 3, 1) := by decide +kernel
theorem dX8_about_119 : decode cX8_about 119 = .ok (.getfield 142, 3) := by decide +kernel
theorem dX8_about_122 : decode cX8_about 122 = .ok (.getfield 182, 3) := by decide +kernel
theorem dX8_about_125 : decode cX8_about 125 = .ok (.ireturn, 1) := by decide +kernel
theorem dX8_about_126 : decode cX8_about 126 = .ok (.aload_n 3, 1) := by decide +kernel
theorem dX8_about_127 : decode cX8_about 127 = .ok (.getfield 142, 3) := by decide +kernel
theorem dX8_about_130 : decode cX8_about 130 = .ok (.getfield 183, 3) := by decide +kernel
theorem dX8_about_133 : decode cX8_about 133 = .ok (.ireturn, 1) := by decide +kernel
theorem dX8_about_134 : decode cX8_about 134 = .ok (.aload_n 3, 1) := by decide +kernel
theorem dX8_about_135 : decode cX8_about 135 = .ok (.getfield 142, 3) := by decide +kernel
theorem dX8_about_138 : decode cX8_about 138 = .ok (.getfield 186, 3) := by decide +kernel
theorem dX8_about_141 : decode cX8_about 141 = .ok (.ireturn, 1) := by decide +kernel
theorem dX8_about_142 : decode cX8_about 142 = .ok (.aload_n 3, 1) := by decide +kernel
theorem dX8_about_143 : decode cX8_about 143 = .ok (.getfield 90, 3) := by decide +kernel
theorem dX8_about_146 : decode cX8_about 146 = .ok (.ireturn, 1) := by decide +kernel
theorem dX8_about_147 : decode cX8_about 147 = .ok (.iconst (-1), 1) := by decide +kernel
theorem dX8_about_148 : decode cX8_about 148 = .ok (.ireturn, 1) := by decide +kernel
theorem dX8_in_0 : decode cX8_in 0 = .ok (.iload_n 1, 1) := by decide +kernel
theorem dX8_in_1 : decode cX8_in 1 = .ok (.iconst 0, 1) := by decide +kernel
theorem dX8_in_2 : decode cX8_in 2 = .ok (.iconst 5, 1) := by decide +kernel
theorem dX8_in_3 : decode cX8_in 3 = .ok (.invokestatic 57, 3) := by decide +kernel
theorem dX8_in_6 : decode cX8_in 6 = .ok (.ifCond .ne 5, 3) := by decide +kernel
theorem dX8_in_9 : decode cX8_in 9 = .ok (.iconst (-1), 1) := by decide +kernel
theorem dX8_in_10 : decode cX8_in 10 = .ok (.ireturn, 1) := by decide +kernel
theorem dX8_in_11 : decode cX8_in 11 = .ok (.aload_n 0, 1) := by decide +kernel
theorem dX8_in_12 : decode cX8_in 12 = .ok (.getfield 53, 3) := by decide +kernel
theorem dX8_in_15 : decode cX8_in 15 = .ok (.iload_n 1, 1) := by decide +kernel
theorem dX8_in_16 : decode cX8_in 16 = .ok (.laload, 1) := by decide +kernel
theorem dX8_in_17 : decode cX8_in 17 = .ok (.invokestatic 189, 3) := by decide +kernel
theorem dX8_in_20 : decode cX8_in 20 = .ok (.ireturn, 1) := by decide +kernel
theorem dX8_count_0 : decode cX8_count 0 = .ok (.iload_n 1, 1) := by decide +kernel
theorem dX8_count_1 : decode cX8_count 1 = .ok (.tableswitch 81 0 5 #[39, 47, 55, 66, 71, 76], 39) := by decide +kernel
theorem dX8_count_40 : decode cX8_count 40 = .ok (.aload_n 0, 1) := by decide +kernel
theorem dX8_count_41 : decode cX8_count 41 = .ok (.getfield 10, 3) := by decide +kernel
theorem dX8_count_44 : decode cX8_count 44 = .ok (.invokevirtual 61, 3) := by decide +kernel
theorem dX8_count_47 : decode cX8_count 47 = .ok (.ireturn, 1) := by decide +kernel
theorem dX8_count_48 : decode cX8_count 48 = .ok (.aload_n 0, 1) := by decide +kernel
theorem dX8_count_49 : decode cX8_count 49 = .ok (.getfield 19, 3) := by decide +kernel
theorem dX8_count_52 : decode cX8_count 52 = .ok (.getfield 121, 3) := by decide +kernel
theorem dX8_count_55 : decode cX8_count 55 = .ok (.ireturn, 1) := by decide +kernel
theorem dX8_count_56 : decode cX8_count 56 = .ok (.aload_n 0, 1) := by decide +kernel
theorem dX8_count_57 : decode cX8_count 57 = .ok (.getfield 35, 3) := by decide +kernel
theorem dX8_count_60 : decode cX8_count 60 = .ok (.invokevirtual 110, 3) := by decide +kernel
theorem dX8_count_63 : decode cX8_count 63 = .ok (.invokestatic 189, 3) := by decide +kernel
theorem dX8_count_66 : decode cX8_count 66 = .ok (.ireturn, 1) := by decide +kernel
theorem dX8_count_67 : decode cX8_count 67 = .ok (.aload_n 0, 1) := by decide +kernel
theorem dX8_count_68 : decode cX8_count 68 = .ok (.getfield 67, 3) := by decide +kernel
theorem dX8_count_71 : decode cX8_count 71 = .ok (.ireturn, 1) := by decide +kernel
theorem dX8_count_72 : decode cX8_count 72 = .ok (.aload_n 0, 1) := by decide +kernel
theorem dX8_count_73 : decode cX8_count 73 = .ok (.getfield 152, 3) := by decide +kernel
theorem dX8_count_76 : decode cX8_count 76 = .ok (.ireturn, 1) := by decide +kernel
theorem dX8_count_77 : decode cX8_count 77 = .ok (.aload_n 0, 1) := by decide +kernel
theorem dX8_count_78 : decode cX8_count 78 = .ok (.getfield 195, 3) := by decide +kernel
theorem dX8_count_81 : decode cX8_count 81 = .ok (.ireturn, 1) := by decide +kernel
theorem dX8_count_82 : decode cX8_count 82 = .ok (.iconst (-1), 1) := by decide +kernel
theorem dX8_count_83 : decode cX8_count 83 = .ok (.ireturn, 1) := by decide +kernel
theorem dX8_related_0 : decode cX8_related 0 = .ok (.aload_n 0, 1) := by decide +kernel
theorem dX8_related_1 : decode cX8_related 1 = .ok (.iload_n 1, 1) := by decide +kernel
theorem dX8_related_2 : decode cX8_related 2 = .ok (.iload_n 2, 1) := by decide +kernel
theorem dX8_related_3 : decode cX8_related 3 = .ok (.iload_n 3, 1) := by decide +kernel
theorem dX8_related_4 : decode cX8_related 4 = .ok (.invokevirtual 107, 3) := by decide +kernel
theorem dX8_related_7 : decode cX8_related 7 = .ok (.ifCond .ne 5, 3) := by decide +kernel
theorem dX8_related_10 : decode cX8_related 10 = .ok (.iconst (-1), 1) := by decide +kernel
theorem dX8_related_11 : decode cX8_related 11 = .ok (.ireturn, 1) := by decide +kernel
theorem dX8_related_12 : decode cX8_related 12 = .ok (.aload_n 0, 1) := by decide +kernel
theorem dX8_related_13 : decode cX8_related 13 = .ok (.getfield 19, 3) := by decide +kernel
theorem dX8_related_16 : decode cX8_related 16 = .ok (.iload_n 1, 1) := by decide +kernel
theorem dX8_related_17 : decode cX8_related 17 = .ok (.iload_n 2, 1) := by decide +kernel
theorem dX8_related_18 : decode cX8_related 18 = .ok (.iload_n 3, 1) := by decide +kernel
theorem dX8_related_19 : decode cX8_related 19 = .ok (.invokevirtual 118, 3) := by decide +kernel
theorem dX8_related_22 : decode cX8_related 22 = .ok (.ifCond .eq 7, 3) := by decide +kernel
theorem dX8_related_25 : decode cX8_related 25 = .ok (.iconst 1, 1) := by decide +kernel
theorem dX8_related_26 : decode cX8_related 26 = .ok (.goto 4, 3) := by decide +kernel
theorem dX8_related_29 : decode cX8_related 29 = .ok (.iconst 0, 1) := by decide +kernel
theorem dX8_related_30 : decode cX8_related 30 = .ok (.ireturn, 1) := by decide +kernel
theorem dX8_waits_0 : decode cX8_waits 0 = .ok (.aload_n 0, 1) := by decide +kernel
theorem dX8_waits_1 : decode cX8_waits 1 = .ok (.iload_n 1, 1) := by decide +kernel
theorem dX8_waits_2 : decode cX8_waits 2 = .ok (.invokevirtual 82, 3) := by decide +kernel
theorem dX8_waits_5 : decode cX8_waits 5 = .ok (.ifCond .eq 12, 3) := by decide +kernel
theorem dX8_waits_8 : decode cX8_waits 8 = .ok (.iload_n 2, 1) := by decide +kernel
theorem dX8_waits_9 : decode cX8_waits 9 = .ok (.iconst 0, 1) := by decide +kernel
theorem dX8_waits_10 : decode cX8_waits 10 = .ok (.iconst 1, 1) := by decide +kernel
theorem dX8_waits_11 : decode cX8_waits 11 = .ok (.invokestatic 57, 3) := by decide +kernel
theorem dX8_waits_14 : decode cX8_waits 14 = .ok (.ifCond .ne 5, 3) := by decide +kernel
theorem dX8_waits_17 : decode cX8_waits 17 = .ok (.iconst (-1), 1) := by decide +kernel
theorem dX8_waits_18 : decode cX8_waits 18 = .ok (.ireturn, 1) := by decide +kernel
theorem dX8_waits_19 : decode cX8_waits 19 = .ok (.iload_n 2, 1) := by decide +kernel
theorem dX8_waits_20 : decode cX8_waits 20 = .ok (.ifCond .ne 14, 3) := by decide +kernel
theorem dX8_waits_23 : decode cX8_waits 23 = .ok (.aload_n 0, 1) := by decide +kernel
theorem dX8_waits_24 : decode cX8_waits 24 = .ok (.getfield 35, 3) := by decide +kernel
theorem dX8_waits_27 : decode cX8_waits 27 = .ok (.iload_n 1, 1) := by decide +kernel
theorem dX8_waits_28 : decode cX8_waits 28 = .ok (.invokevirtual 198, 3) := by decide +kernel
theorem dX8_waits_31 : decode cX8_waits 31 = .ok (.goto 11, 3) := by decide +kernel
theorem dX8_waits_34 : decode cX8_waits 34 = .ok (.aload_n 0, 1) := by decide +kernel
theorem dX8_waits_35 : decode cX8_waits 35 = .ok (.getfield 35, 3) := by decide +kernel
theorem dX8_waits_38 : decode cX8_waits 38 = .ok (.iload_n 1, 1) := by decide +kernel
theorem dX8_waits_39 : decode cX8_waits 39 = .ok (.invokevirtual 201, 3) := by decide +kernel
theorem dX8_waits_42 : decode cX8_waits 42 = .ok (.invokestatic 189, 3) := by decide +kernel
theorem dX8_waits_45 : decode cX8_waits 45 = .ok (.ireturn, 1) := by decide +kernel
theorem dX8_planned_0 : decode cX8_planned 0 = .ok (.aload_n 0, 1) := by decide +kernel
theorem dX8_planned_1 : decode cX8_planned 1 = .ok (.getfield 42, 3) := by decide +kernel
theorem dX8_planned_4 : decode cX8_planned 4 = .ok (.iload_n 1, 1) := by decide +kernel
theorem dX8_planned_5 : decode cX8_planned 5 = .ok (.iload_n 2, 1) := by decide +kernel
theorem dX8_planned_6 : decode cX8_planned 6 = .ok (.invokevirtual 207, 3) := by decide +kernel
theorem dX8_planned_9 : decode cX8_planned 9 = .ok (.ireturn, 1) := by decide +kernel
theorem dX8_quick_0 : decode cX8_quick 0 = .ok (.aload_n 0, 1) := by decide +kernel
theorem dX8_quick_1 : decode cX8_quick 1 = .ok (.getfield 42, 3) := by decide +kernel
theorem dX8_quick_4 : decode cX8_quick 4 = .ok (.getfield 210, 3) := by decide +kernel
theorem dX8_quick_7 : decode cX8_quick 7 = .ok (.ifCond .eq 13, 3) := by decide +kernel
theorem dX8_quick_10 : decode cX8_quick 10 = .ok (.aload_n 0, 1) := by decide +kernel
theorem dX8_quick_11 : decode cX8_quick 11 = .ok (.getfield 42, 3) := by decide +kernel
theorem dX8_quick_14 : decode cX8_quick 14 = .ok (.getfield 213, 3) := by decide +kernel
theorem dX8_quick_17 : decode cX8_quick 17 = .ok (.goto 4, 3) := by decide +kernel
theorem dX8_quick_20 : decode cX8_quick 20 = .ok (.iconst (-1), 1) := by decide +kernel
theorem dX8_quick_21 : decode cX8_quick 21 = .ok (.ireturn, 1) := by decide +kernel
theorem dX8_ring_0 : decode cX8_ring 0 = .ok (.aload_n 0, 1) := by decide +kernel
theorem dX8_ring_1 : decode cX8_ring 1 = .ok (.getfield 216, 3) := by decide +kernel
theorem dX8_ring_4 : decode cX8_ring 4 = .ok (.ireturn, 1) := by decide +kernel
theorem dX8_changes_0 : decode cX8_changes 0 = .ok (.aload_n 0, 1) := by decide +kernel
theorem dX8_changes_1 : decode cX8_changes 1 = .ok (.getfield 49, 3) := by decide +kernel
theorem dX8_changes_4 : decode cX8_changes 4 = .ok (.getfield 219, 3) := by decide +kernel
theorem dX8_changes_7 : decode cX8_changes 7 = .ok (.ireturn, 1) := by decide +kernel
theorem dX8_change_0 : decode cX8_change 0 = .ok (.aload_n 0, 1) := by decide +kernel
theorem dX8_change_1 : decode cX8_change 1 = .ok (.getfield 49, 3) := by decide +kernel
theorem dX8_change_4 : decode cX8_change 4 = .ok (.iload_n 1, 1) := by decide +kernel
theorem dX8_change_5 : decode cX8_change 5 = .ok (.iload_n 2, 1) := by decide +kernel
theorem dX8_change_6 : decode cX8_change 6 = .ok (.invokevirtual 220, 3) := by decide +kernel
theorem dX8_change_9 : decode cX8_change 9 = .ok (.ireturn, 1) := by decide +kernel
theorem dX8_check_0 : decode cX8_check 0 = .ok (.iconst 0, 1) := by decide +kernel
theorem dX8_check_1 : decode cX8_check 1 = .ok (.istore_n 1, 1) := by decide +kernel
theorem dX8_check_2 : decode cX8_check 2 = .ok (.aload_n 0, 1) := by decide +kernel
theorem dX8_check_3 : decode cX8_check 3 = .ok (.invokevirtual 221, 3) := by decide +kernel
theorem dX8_check_6 : decode cX8_check 6 = .ok (.ifCond .lt 6, 3) := by decide +kernel
theorem dX8_check_9 : decode cX8_check 9 = .ok (.iinc 1 1, 3) := by decide +kernel
theorem dX8_check_12 : decode cX8_check 12 = .ok (.aload_n 0, 1) := by decide +kernel
theorem dX8_check_13 : decode cX8_check 13 = .ok (.getfield 19, 3) := by decide +kernel
theorem dX8_check_16 : decode cX8_check 16 = .ok (.aload_n 0, 1) := by decide +kernel
theorem dX8_check_17 : decode cX8_check 17 = .ok (.invokevirtual 224, 3) := by decide +kernel
theorem dX8_check_20 : decode cX8_check 20 = .ok (.invokevirtual 227, 3) := by decide +kernel
theorem dX8_check_23 : decode cX8_check 23 = .ok (.ifCond .eq 6, 3) := by decide +kernel
theorem dX8_check_26 : decode cX8_check 26 = .ok (.iinc 1 1, 3) := by decide +kernel
theorem dX8_check_29 : decode cX8_check 29 = .ok (.iload_n 1, 1) := by decide +kernel
theorem dX8_check_30 : decode cX8_check 30 = .ok (.ireturn, 1) := by decide +kernel
theorem dX8_make_0 : decode cX8_make 0 = .ok (.iload_n 1, 1) := by decide +kernel
theorem dX8_make_1 : decode cX8_make 1 = .ok (.iconst 0, 1) := by decide +kernel
theorem dX8_make_2 : decode cX8_make 2 = .ok (.iconst 3, 1) := by decide +kernel
theorem dX8_make_3 : decode cX8_make 3 = .ok (.invokestatic 57, 3) := by decide +kernel
theorem dX8_make_6 : decode cX8_make 6 = .ok (.ifCond .ne 5, 3) := by decide +kernel
theorem dX8_make_9 : decode cX8_make 9 = .ok (.iconst (-1), 1) := by decide +kernel
theorem dX8_make_10 : decode cX8_make 10 = .ok (.ireturn, 1) := by decide +kernel
theorem dX8_make_11 : decode cX8_make 11 = .ok (.iload_n 1, 1) := by decide +kernel
theorem dX8_make_12 : decode cX8_make 12 = .ok (.iconst 3, 1) := by decide +kernel
theorem dX8_make_13 : decode cX8_make 13 = .ok (.if_icmp .ne 7, 3) := by decide +kernel
theorem dX8_make_16 : decode cX8_make 16 = .ok (.iconst 0, 1) := by decide +kernel
theorem dX8_make_17 : decode cX8_make 17 = .ok (.goto 5, 3) := by decide +kernel
theorem dX8_make_20 : decode cX8_make 20 = .ok (.bipush 50, 2) := by decide +kernel
theorem dX8_make_22 : decode cX8_make 22 = .ok (.istore 4, 2) := by decide +kernel
theorem dX8_make_24 : decode cX8_make 24 = .ok (.iload_n 2, 1) := by decide +kernel
theorem dX8_make_25 : decode cX8_make 25 = .ok (.iconst 0, 1) := by decide +kernel
theorem dX8_make_26 : decode cX8_make 26 = .ok (.iload 4, 2) := by decide +kernel
theorem dX8_make_28 : decode cX8_make 28 = .ok (.invokestatic 57, 3) := by decide +kernel
theorem dX8_make_31 : decode cX8_make 31 = .ok (.ifCond .eq 13, 3) := by decide +kernel
theorem dX8_make_34 : decode cX8_make 34 = .ok (.iload_n 3, 1) := by decide +kernel
theorem dX8_make_35 : decode cX8_make 35 = .ok (.iconst 0, 1) := by decide +kernel
theorem dX8_make_36 : decode cX8_make 36 = .ok (.iload 4, 2) := by decide +kernel
theorem dX8_make_38 : decode cX8_make 38 = .ok (.invokestatic 57, 3) := by decide +kernel
theorem dX8_make_41 : decode cX8_make 41 = .ok (.ifCond .ne 5, 3) := by decide +kernel
theorem dX8_make_44 : decode cX8_make 44 = .ok (.iconst (-1), 1) := by decide +kernel
theorem dX8_make_45 : decode cX8_make 45 = .ok (.ireturn, 1) := by decide +kernel
theorem dX8_make_46 : decode cX8_make 46 = .ok (.aload_n 0, 1) := by decide +kernel
theorem dX8_make_47 : decode cX8_make 47 = .ok (.getfield 10, 3) := by decide +kernel
theorem dX8_make_50 : decode cX8_make 50 = .ok (.invokevirtual 61, 3) := by decide +kernel
theorem dX8_make_53 : decode cX8_make 53 = .ok (.istore 5, 2) := by decide +kernel
theorem dX8_make_55 : decode cX8_make 55 = .ok (.iload 5, 2) := by decide +kernel
theorem dX8_make_57 : decode cX8_make 57 = .ok (.bipush 40, 2) := by decide +kernel
theorem dX8_make_59 : decode cX8_make 59 = .ok (.if_icmp .lt 6, 3) := by decide +kernel
theorem dX8_make_62 : decode cX8_make 62 = .ok (.bipush (-6), 2) := by decide +kernel
theorem dX8_make_64 : decode cX8_make 64 = .ok (.ireturn, 1) := by decide +kernel
theorem dX8_make_65 : decode cX8_make 65 = .ok (.aload_n 0, 1) := by decide +kernel
theorem dX8_make_66 : decode cX8_make 66 = .ok (.getfield 10, 3) := by decide +kernel
theorem dX8_make_69 : decode cX8_make 69 = .ok (.new 65, 3) := by decide +kernel
theorem dX8_make_72 : decode cX8_make 72 = .ok (.dup, 1) := by decide +kernel
theorem dX8_make_73 : decode cX8_make 73 = .ok (.iload_n 1, 1) := by decide +kernel
theorem dX8_make_74 : decode cX8_make 74 = .ok (.iload_n 2, 1) := by decide +kernel
theorem dX8_make_75 : decode cX8_make 75 = .ok (.iload_n 3, 1) := by decide +kernel
theorem dX8_make_76 : decode cX8_make 76 = .ok (.aload_n 0, 1) := by decide +kernel
theorem dX8_make_77 : decode cX8_make 77 = .ok (.getfield 67, 3) := by decide +kernel
theorem dX8_make_80 : decode cX8_make 80 = .ok (.invokespecial 71, 3) := by decide +kernel
theorem dX8_make_83 : decode cX8_make 83 = .ok (.invokevirtual 74, 3) := by decide +kernel
theorem dX8_make_86 : decode cX8_make 86 = .ok (.pop, 1) := by decide +kernel
theorem dX8_make_87 : decode cX8_make 87 = .ok (.aload_n 0, 1) := by decide +kernel
theorem dX8_make_88 : decode cX8_make 88 = .ok (.getfield 53, 3) := by decide +kernel
theorem dX8_make_91 : decode cX8_make 91 = .ok (.iconst 0, 1) := by decide +kernel
theorem dX8_make_92 : decode cX8_make 92 = .ok (.dup2, 1) := by decide +kernel
theorem dX8_make_93 : decode cX8_make 93 = .ok (.laload, 1) := by decide +kernel
theorem dX8_make_94 : decode cX8_make 94 = .ok (.iload 5, 2) := by decide +kernel
theorem dX8_make_96 : decode cX8_make 96 = .ok (.invokestatic 78, 3) := by decide +kernel
theorem dX8_make_99 : decode cX8_make 99 = .ok (.lor, 1) := by decide +kernel
theorem dX8_make_100 : decode cX8_make 100 = .ok (.lastore, 1) := by decide +kernel
theorem dX8_make_101 : decode cX8_make 101 = .ok (.iload 5, 2) := by decide +kernel
theorem dX8_make_103 : decode cX8_make 103 = .ok (.ireturn, 1) := by decide +kernel
end
section
def f_y_isBefore (n : Nat) (dl : Nat → Nat) (av : Nat) (bv : Nat) (J : Nat → Nat → Int32) : Int32 := bnd (J 1 (nI av).toNatClampNeg) (fun (x1 : Int32) => bnd (J 1 (nI bv).toNatClampNeg) (fun (x2 : Int32) => if x1 = x2 then (if bv ≤ av then (((0 : Int32))) else (((1 : Int32)))) else (if x2 ≤ x1 then (((0 : Int32))) else (((1 : Int32))))))
def wq_y_isBefore : List Cond := ([.code yX4_isBefore cX4_isBefore 3 (some .boolean), .fieldLink RX4 15 "ServiceTree$Plan" "begins" "[I"] : List Cond) ++ (wsX40)
theorem in_y_isBefore_X4 : ∀ w ∈ wsX40, w ∈ wq_y_isBefore := fun _ h => List.mem_append_right _ (h)
set_option maxRecDepth 20000 in
theorem wi_y_isBefore : ∀ w ∈ wq_y_isBefore, w ∈ lw_tbl := List.forall_mem_append.mpr ⟨(wix [810, 186] rfl), inKX4⟩
set_option maxRecDepth 20000 in
theorem wg_y_isBefore : GoodIn wq_y_isBefore wq_y_isBefore := goodIn_sub (fun _ h => h) (by decide +kernel)
def rm_y_isBefore : Room := { frames := 0, cells := 0, slots := 0, locals := 0 }
set_option maxHeartbeats 4000000 in
set_option maxRecDepth 100000 in
theorem c_y_isBefore (l : Launch) (dC : Nat → ClassId) (dI : Nat → Nat → Nat) (h : Nat) (a : Nat → Nat) (e : Nat) (cI cJ cO cE : ClassId) (L : Nat → Int64) (I : Nat → Int32) (M : Nat → Nat → Int64) (J : Nat → Nat → Int32) (n cap : Nat) (fE : Nat → Option Nat) (sd : Nat → Nat → Nat) (si : Nat → Nat → Int32) (sa : Nat → Nat → Nat → Int32) (dl : Nat → Nat) (b : Nat) (av : Nat) (bv : Nat) (sz : Nat) (hX0 : InvX n cap fE sd dl b I J si) (hb0 : b + 0 < 2147483648) (hp0 : av < 40) (hp1 : bv < 40) : Met l yX4_isBefore wq_y_isBefore rm_y_isBefore (va_Pc [.ref (a 4), .int (nI av), .int (nI bv)] (fun U => U.heap.size = sz ∧ va_P (dC, dI) vwCl (xW h a e cI cJ cO cE L I M J n cap fE sd si sa dl) U.heap ∧ va_K (dC, dI) vwCl (xT cI cJ cO cE) U ∧ va_D (fun _ => True) (xW h a e cI cJ cO cE L I M J n cap fE sd si sa dl) ∧ pw_N U)) (va_Qi (fun (r : Int32) (u : Unit) => ((r = f_y_isBefore n dl av bv J) ∧ (r = 0 ∨ r = 1))) (fun (u : Unit) (t : State) => va_P (dC, dI) vwCl (xW h a e cI cJ cO cE L I M J n cap fE sd si sa dl) t.heap ∧ va_D (va_A (xW h a e cI cJ cO cE L I M J n cap fE sd si sa dl) sz) (xW h a e cI cJ cO cE L I M J n cap fE sd si sa dl)) (va_A (xW h a e cI cJ cO cE L I M J n cap fE sd si sa dl) sz)) 0 0 (va_A (xW h a e cI cJ cO cE L I M J n cap fE sd si sa dl) sz) := by
  have hn : n ≤ 40 := hX0.1.1
  have hX := hX0
  refine Met.ofW (cc := cX4_isBefore) (maxL := 3) (ret := (some .boolean)) (by decide) rfl ?_
  intro p e9 s m args below meth c s₁ B hml hv
  obtain ⟨rfl, hsz, hP, hK, hD0, hN⟩ := hv
  have hx := B.exec
  have hb := B.bytes
  have hr := B.returns
  have hts := atoms_spec (ws := wq_y_isBefore) B.pre
  have hown : s.vm.findClass RX4 = some m.cls := findClass_of_methodNamed B.named
  have hlocks := B.notSynchronized
  subst hsz
  have hD := hD0.self (sz := s.heap.size)
  generalize hAe : va_A (xW h a e cI cJ cO cE L I M J n cap fE sd si sa dl) s.heap.size = A at hD ⊢
  have hA : ∀ q : Nat, s.heap.size ≤ q → A q := fun q h => by rw [← hAe]; exact Or.inr h
  have hS : va_S A s.heap s.heap [] := va_S.rf
  have hl := lv_entry ([.ref (a 4), .int (nI av), .int (nI bv)]) (n := 3) (Nat.le_of_ble_eq_true rfl)
  rw [lg_entry_eq]
  generalize (lg_sl ([.ref (a 4), .int (nI av), .int (nI bv)]) ++ List.replicate (3 - (lg_sl ([.ref (a 4), .int (nI av), .int (nI bv)])).length) Slot.unset).toArray = ls at hl ⊢
  have hl : lv_has ls 3 [(0, .ref (a 4)), (1, .int (nI av)), (2, .int (nI bv))] := hl
  obtain ⟨RES, hR0⟩ : ∃ R9, R9 = f_y_isBefore n dl av bv J := ⟨_, rfl⟩
  have hZ9 := hR0
  unfold f_y_isBefore at hZ9
  refine lv_aload_n hx hb dX4_isBefore_0 rfl (lv_at hl 0 rfl) ?_
  refine va_get (D := (dC, dI)) (ci := 5) (v := .ref (a 13)) (C := RX4) (T := TX4) (N := 7) hx hb hts in_y_isBefore_X4 hown hK hP 15 rfl rfl 1 (by decide) (hts (.fieldLink RX4 15 "ServiceTree$Plan" "begins" "[I") (by decide +kernel)) (fun _ h9 => h9) rfl dX4_isBefore_1 ?_
  refine lv_iload_n hx hb dX4_isBefore_4 rfl (lv_at hl 1 rfl) ?_
  refine va_iald (n := 40) (f := J 1) hx hb hK hP 17 0 rfl rfl (vp_in_nI (n := av) (by omega) (by omega)) dX4_isBefore_5 ?_
  refine lv_topi (fun x1 ex1 => ?_)
  replace hZ9 := bnd_s hZ9 ex1
  refine lv_aload_n hx hb dX4_isBefore_6 rfl (lv_at hl 0 rfl) ?_
  refine va_get (D := (dC, dI)) (ci := 5) (v := .ref (a 13)) (C := RX4) (T := TX4) (N := 7) hx hb hts in_y_isBefore_X4 hown hK hP 15 rfl rfl 1 (by decide) (hts (.fieldLink RX4 15 "ServiceTree$Plan" "begins" "[I") (by decide +kernel)) (fun _ h9 => h9) rfl dX4_isBefore_7 ?_
  refine lv_iload_n hx hb dX4_isBefore_10 rfl (lv_at hl 2 rfl) ?_
  refine va_iald (n := 40) (f := J 1) hx hb hK hP 17 0 rfl rfl (vp_in_nI (n := bv) (by omega) (by omega)) dX4_isBefore_11 ?_
  refine lv_topi (fun x2 ex2 => ?_)
  replace hZ9 := bnd_s hZ9 ex2
  refine lv_icmp_eq (tgt := 38) hx hb dX4_isBefore_12 (by decide) (fun c3 => ?_) (fun c3 => ?_)
  · replace hZ9 := ite_t hZ9 c3
    refine lv_iload_n hx hb dX4_isBefore_38 rfl (lv_at hl 1 rfl) ?_
    refine lv_iload_n hx hb dX4_isBefore_39 rfl (lv_at hl 2 rfl) ?_
    refine lv_icmp_ge (tgt := 47) hx hb dX4_isBefore_40 (by decide) (fun c4 => ?_) (fun c4 => ?_)
    · replace c4 : bv ≤ av := (nI_leI (a := bv) (b := av) (by omega) (by omega)).mp c4
      replace hZ9 := ite_t hZ9 c4
      refine lv_iconst (v := 0) hx hb dX4_isBefore_47 (by decide) ?_
      exact W.zret (v := 0) hx hb hr (by decide) (fun t ht hW => ⟨⟨0, (), rfl, ⟨hZ9.symm.trans hR0, Or.inl rfl⟩, by rw [ht]; exact hP, hD⟩, hS.F ht⟩) hS.2.2 dX4_isBefore_48
    · replace c4 : ¬ (bv ≤ av) := fun q9 => c4 ((nI_leI (a := bv) (b := av) (by omega) (by omega)).mpr q9)
      replace hZ9 := ite_f hZ9 c4
      refine lv_iconst (v := 1) hx hb dX4_isBefore_43 (by decide) ?_
      refine lv_goto (tgt := 48) hx hb dX4_isBefore_44 (by decide) ?_
      exact W.zret (v := 1) hx hb hr (by decide) (fun t ht hW => ⟨⟨1, (), rfl, ⟨hZ9.symm.trans hR0, Or.inr rfl⟩, by rw [ht]; exact hP, hD⟩, hS.F ht⟩) hS.2.2 dX4_isBefore_48
  · replace hZ9 := ite_f hZ9 c3
    refine lv_aload_n hx hb dX4_isBefore_15 rfl (lv_at hl 0 rfl) ?_
    refine va_get (D := (dC, dI)) (ci := 5) (v := .ref (a 13)) (C := RX4) (T := TX4) (N := 7) hx hb hts in_y_isBefore_X4 hown hK hP 15 rfl rfl 1 (by decide) (hts (.fieldLink RX4 15 "ServiceTree$Plan" "begins" "[I") (by decide +kernel)) (fun _ h9 => h9) rfl dX4_isBefore_16 ?_
    refine lv_iload_n hx hb dX4_isBefore_19 rfl (lv_at hl 1 rfl) ?_
    refine va_iald (n := 40) (f := J 1) hx hb hK hP 17 0 rfl rfl (vp_in_nI (n := av) (by omega) (by omega)) dX4_isBefore_20 ?_
    refine p1_topr (v := .int x1) (congrArg Value.int ex1.symm) ?_
    refine lv_aload_n hx hb dX4_isBefore_21 rfl (lv_at hl 0 rfl) ?_
    refine va_get (D := (dC, dI)) (ci := 5) (v := .ref (a 13)) (C := RX4) (T := TX4) (N := 7) hx hb hts in_y_isBefore_X4 hown hK hP 15 rfl rfl 1 (by decide) (hts (.fieldLink RX4 15 "ServiceTree$Plan" "begins" "[I") (by decide +kernel)) (fun _ h9 => h9) rfl dX4_isBefore_22 ?_
    refine lv_iload_n hx hb dX4_isBefore_25 rfl (lv_at hl 2 rfl) ?_
    refine va_iald (n := 40) (f := J 1) hx hb hK hP 17 0 rfl rfl (vp_in_nI (n := bv) (by omega) (by omega)) dX4_isBefore_26 ?_
    refine p1_topr (v := .int x2) (congrArg Value.int ex2.symm) ?_
    refine lv_icmp_ge (tgt := 34) hx hb dX4_isBefore_27 (by decide) (fun c5 => ?_) (fun c5 => ?_)
    · replace hZ9 := ite_t hZ9 c5
      refine lv_iconst (v := 0) hx hb dX4_isBefore_34 (by decide) ?_
      refine lv_goto (tgt := 48) hx hb dX4_isBefore_35 (by decide) ?_
      exact W.zret (v := 0) hx hb hr (by decide) (fun t ht hW => ⟨⟨0, (), rfl, ⟨hZ9.symm.trans hR0, Or.inl rfl⟩, by rw [ht]; exact hP, hD⟩, hS.F ht⟩) hS.2.2 dX4_isBefore_48
    · replace hZ9 := ite_f hZ9 c5
      refine lv_iconst (v := 1) hx hb dX4_isBefore_30 (by decide) ?_
      refine lv_goto (tgt := 48) hx hb dX4_isBefore_31 (by decide) ?_
      exact W.zret (v := 1) hx hb hr (by decide) (fun t ht hW => ⟨⟨1, (), rfl, ⟨hZ9.symm.trans hR0, Or.inr rfl⟩, by rw [ht]; exact hP, hD⟩, hS.F ht⟩) hS.2.2 dX4_isBefore_48
def f_y_planClear (n : Nat) (dl : Nat → Nat) (p0 : Int64) (L : Nat → Int64) (I : Nat → Int32) : (Nat → Int64) × (Nat → Int32) := bnd (va_up L 8 p0) (fun (L1 : Nat → Int64) => bnd (va_up I 9 0) (fun (I2 : Nat → Int32) => bnd (va_up I2 10 0) (fun (I3 : Nat → Int32) => bnd (va_up I3 11 1) (fun (I4 : Nat → Int32) => (L1, I4)))))
def wq_y_planClear : List Cond := ([.code yX4_clear cX4_clear 3 none, .fieldLink RX4 21 "ServiceTree$Plan" "starts" "J", .fieldLink RX4 25 "ServiceTree$Plan" "size" "I", .fieldLink RX4 29 "ServiceTree$Plan" "lastEnd" "I", .fieldLink RX4 32 "ServiceTree$Plan" "laidOut" "Z"] : List Cond) ++ (wsX40)
theorem in_y_planClear_X4 : ∀ w ∈ wsX40, w ∈ wq_y_planClear := fun _ h => List.mem_append_right _ (h)
set_option maxRecDepth 20000 in
theorem wi_y_planClear : ∀ w ∈ wq_y_planClear, w ∈ lw_tbl := List.forall_mem_append.mpr ⟨(wix [787, 188, 189, 190, 192] rfl), inKX4⟩
set_option maxRecDepth 20000 in
theorem wg_y_planClear : GoodIn wq_y_planClear wq_y_planClear := goodIn_sub (fun _ h => h) (by decide +kernel)
def rm_y_planClear : Room := { frames := 0, cells := 0, slots := 0, locals := 0 }
set_option maxHeartbeats 4000000 in
set_option maxRecDepth 100000 in
theorem c_y_planClear (l : Launch) (dC : Nat → ClassId) (dI : Nat → Nat → Nat) (h : Nat) (a : Nat → Nat) (e : Nat) (cI cJ cO cE : ClassId) (L : Nat → Int64) (I : Nat → Int32) (M : Nat → Nat → Int64) (J : Nat → Nat → Int32) (n cap : Nat) (fE : Nat → Option Nat) (sd : Nat → Nat → Nat) (si : Nat → Nat → Int32) (sa : Nat → Nat → Nat → Int32) (dl : Nat → Nat) (b : Nat) (p0 : Int64) (sz : Nat) (hX0 : InvX n cap fE sd dl b I J si) (hb0 : b + 0 < 2147483648)  : Met l yX4_clear wq_y_planClear rm_y_planClear (va_Pc [.ref (a 4), .long p0] (fun U => U.heap.size = sz ∧ va_P (dC, dI) vwCl (xW h a e cI cJ cO cE L I M J n cap fE sd si sa dl) U.heap ∧ va_K (dC, dI) vwCl (xT cI cJ cO cE) U ∧ va_D (fun _ => True) (xW h a e cI cJ cO cE L I M J n cap fE sd si sa dl) ∧ pw_N U)) (va_Qv (fun (u : (Nat → Int64) × (Nat → Int32)) => InvX n cap fE sd dl (b + 0) u.2 J si ∧ (∀ j9 : Nat, j9 ∉ ([8] : List Nat) → u.1 j9 = L j9) ∧ (∀ j9 : Nat, j9 ∉ ([9, 10, 11] : List Nat) → u.2 j9 = I j9) ∧ (u = f_y_planClear n dl p0 L I)) (fun (u : (Nat → Int64) × (Nat → Int32)) (t : State) => va_P (dC, dI) vwCl (xW h a e cI cJ cO cE u.1 u.2 M J n cap fE sd si sa dl) t.heap ∧ va_D (va_A (xW h a e cI cJ cO cE L I M J n cap fE sd si sa dl) sz) (xW h a e cI cJ cO cE u.1 u.2 M J n cap fE sd si sa dl)) (va_A (xW h a e cI cJ cO cE L I M J n cap fE sd si sa dl) sz)) 0 0 (va_A (xW h a e cI cJ cO cE L I M J n cap fE sd si sa dl) sz) := by
  have hn : n ≤ 40 := hX0.1.1
  have hX := hX0
  have hUL : ∀ j9 : Nat, j9 ∉ ([8] : List Nat) → L j9 = L j9 := fun _ _ => rfl
  have hUI : ∀ j9 : Nat, j9 ∉ ([9, 10, 11] : List Nat) → I j9 = I j9 := fun _ _ => rfl
  refine Met.ofW (cc := cX4_clear) (maxL := 3) (ret := none) (by decide) rfl ?_
  intro p e9 s m args below meth c s₁ B hml hv
  obtain ⟨rfl, hsz, hP, hK, hD0, hN⟩ := hv
  have hx := B.exec
  have hb := B.bytes
  have hr := B.returns
  have hts := atoms_spec (ws := wq_y_planClear) B.pre
  have hown : s.vm.findClass RX4 = some m.cls := findClass_of_methodNamed B.named
  have hlocks := B.notSynchronized
  subst hsz
  have hD := hD0.self (sz := s.heap.size)
  generalize hAe : va_A (xW h a e cI cJ cO cE L I M J n cap fE sd si sa dl) s.heap.size = A at hD ⊢
  have hA : ∀ q : Nat, s.heap.size ≤ q → A q := fun q h => by rw [← hAe]; exact Or.inr h
  have hS : va_S A s.heap s.heap [] := va_S.rf
  have hl := lv_entry ([.ref (a 4), .long p0]) (n := 3) (Nat.le_of_ble_eq_true rfl)
  rw [lg_entry_eq]
  generalize (lg_sl ([.ref (a 4), .long p0]) ++ List.replicate (3 - (lg_sl ([.ref (a 4), .long p0])).length) Slot.unset).toArray = ls at hl ⊢
  have hl : lv_has ls 3 [(0, .ref (a 4)), (1, .long p0)] := hl
  obtain ⟨RES, hR0⟩ : ∃ R9, R9 = f_y_planClear n dl p0 L I := ⟨_, rfl⟩
  have hZ9 := hR0
  unfold f_y_planClear at hZ9
  refine lv_aload_n hx hb dX4_clear_0 rfl (lv_at hl 0 rfl) ?_
  refine lv_lload_n hx hb dX4_clear_1 rfl (lv_at hl 1 rfl) ?_
  refine va_put (D := (dC, dI)) (ci := 5) (fs := [.ref (a 12), .ref (a 13), .ref (a 14), .long (L 8), .int (I 9), .int (I 10), .int (I 11)]) (v := .long p0) (ty := .long) (C := RX4) (T := TX4) (N := 7) hx hb hts in_y_planClear_X4 tyX4 tyX4_ok nmX4 hown hK hP hD hS 15 rfl rfl 3 (by decide) (hts (.fieldLink RX4 21 "ServiceTree$Plan" "starts" "J") (by decide +kernel)) (fun _ h9 => h9) rfl (by decide +kernel) rfl rfl (Nat.le_of_ble_eq_true rfl) dX4_clear_2 (fun H locs hP hD hS => ?_)
  replace hP : va_P (dC, dI) vwCl ((xW h a e cI cJ cO cE L I M J n cap fE sd si sa dl).set 15 (a 4, .inr (5, [.ref (a 12), .ref (a 13), .ref (a 14), .long p0, .int (I 9), .int (I 10), .int (I 11)]))) H := hP
  replace hD : va_D A ((xW h a e cI cJ cO cE L I M J n cap fE sd si sa dl).set 15 (a 4, .inr (5, [.ref (a 12), .ref (a 13), .ref (a 14), .long p0, .int (I 9), .int (I 10), .int (I 11)]))) := hD
  rw [xF_L8] at hP hD
  obtain ⟨L1, eL1⟩ : ∃ f9 : Nat → Int64, f9 = va_up L 8 p0 := ⟨_, rfl⟩
  rw [← eL1] at hP hD
  replace hZ9 := bnd_s hZ9 eL1
  replace hUL : ∀ j9 : Nat, j9 ∉ ([8] : List Nat) → L1 j9 = L j9 := by rw [eL1]; exact mw_up (by decide) hUL
  refine lv_aload_n hx hb dX4_clear_5 rfl (lv_at hl 0 rfl) ?_
  refine lv_iconst (v := 0) hx hb dX4_clear_6 (by decide) ?_
  refine va_put (D := (dC, dI)) (ci := 5) (fs := [.ref (a 12), .ref (a 13), .ref (a 14), .long (L1 8), .int (I 9), .int (I 10), .int (I 11)]) (v := .int 0) (ty := .int) (C := RX4) (T := TX4) (N := 7) hx hb hts in_y_planClear_X4 tyX4 tyX4_ok nmX4 hown hK hP hD hS 15 rfl rfl 4 (by decide) (hts (.fieldLink RX4 25 "ServiceTree$Plan" "size" "I") (by decide +kernel)) (fun _ h9 => h9) rfl (by decide +kernel) rfl rfl (Nat.le_of_ble_eq_true rfl) dX4_clear_7 (fun H locs hP hD hS => ?_)
  replace hP : va_P (dC, dI) vwCl ((xW h a e cI cJ cO cE L1 I M J n cap fE sd si sa dl).set 15 (a 4, .inr (5, [.ref (a 12), .ref (a 13), .ref (a 14), .long (L1 8), .int 0, .int (I 10), .int (I 11)]))) H := hP
  replace hD : va_D A ((xW h a e cI cJ cO cE L1 I M J n cap fE sd si sa dl).set 15 (a 4, .inr (5, [.ref (a 12), .ref (a 13), .ref (a 14), .long (L1 8), .int 0, .int (I 10), .int (I 11)]))) := hD
  rw [xF_I9] at hP hD
  obtain ⟨I2, eI2⟩ : ∃ f9 : Nat → Int32, f9 = va_up I 9 0 := ⟨_, rfl⟩
  rw [← eI2] at hP hD
  replace hZ9 := bnd_s hZ9 eI2
  replace hX : InvX n cap fE sd dl (b) I2 J si := by rw [eI2]; exact hX.set9 (x := 0) (by omega)
  replace hUI : ∀ j9 : Nat, j9 ∉ ([9, 10, 11] : List Nat) → I2 j9 = I j9 := by rw [eI2]; exact mw_up (by decide) hUI
  refine lv_aload_n hx hb dX4_clear_10 rfl (lv_at hl 0 rfl) ?_
  refine lv_iconst (v := 0) hx hb dX4_clear_11 (by decide) ?_
  refine va_put (D := (dC, dI)) (ci := 5) (fs := [.ref (a 12), .ref (a 13), .ref (a 14), .long (L1 8), .int (I2 9), .int (I2 10), .int (I2 11)]) (v := .int 0) (ty := .int) (C := RX4) (T := TX4) (N := 7) hx hb hts in_y_planClear_X4 tyX4 tyX4_ok nmX4 hown hK hP hD hS 15 rfl rfl 5 (by decide) (hts (.fieldLink RX4 29 "ServiceTree$Plan" "lastEnd" "I") (by decide +kernel)) (fun _ h9 => h9) rfl (by decide +kernel) rfl rfl (Nat.le_of_ble_eq_true rfl) dX4_clear_12 (fun H locs hP hD hS => ?_)
  replace hP : va_P (dC, dI) vwCl ((xW h a e cI cJ cO cE L1 I2 M J n cap fE sd si sa dl).set 15 (a 4, .inr (5, [.ref (a 12), .ref (a 13), .ref (a 14), .long (L1 8), .int (I2 9), .int 0, .int (I2 11)]))) H := hP
  replace hD : va_D A ((xW h a e cI cJ cO cE L1 I2 M J n cap fE sd si sa dl).set 15 (a 4, .inr (5, [.ref (a 12), .ref (a 13), .ref (a 14), .long (L1 8), .int (I2 9), .int 0, .int (I2 11)]))) := hD
  rw [xF_I10] at hP hD
  obtain ⟨I3, eI3⟩ : ∃ f9 : Nat → Int32, f9 = va_up I2 10 0 := ⟨_, rfl⟩
  rw [← eI3] at hP hD
  replace hZ9 := bnd_s hZ9 eI3
  replace hX : InvX n cap fE sd dl (b) I3 J si := by rw [eI3]; exact hX.setI (by decide)
  replace hUI : ∀ j9 : Nat, j9 ∉ ([9, 10, 11] : List Nat) → I3 j9 = I j9 := by rw [eI3]; exact mw_up (by decide) hUI
  refine lv_aload_n hx hb dX4_clear_15 rfl (lv_at hl 0 rfl) ?_
  refine lv_iconst (v := 1) hx hb dX4_clear_16 (by decide) ?_
  refine va_put (D := (dC, dI)) (ci := 5) (fs := [.ref (a 12), .ref (a 13), .ref (a 14), .long (L1 8), .int (I3 9), .int (I3 10), .int (I3 11)]) (v := .int 1) (ty := .boolean) (C := RX4) (T := TX4) (N := 7) hx hb hts in_y_planClear_X4 tyX4 tyX4_ok nmX4 hown hK hP hD hS 15 rfl rfl 6 (by decide) (hts (.fieldLink RX4 32 "ServiceTree$Plan" "laidOut" "Z") (by decide +kernel)) (fun _ h9 => h9) rfl (by decide +kernel) rfl rfl (Nat.le_of_ble_eq_true rfl) dX4_clear_17 (fun H locs hP hD hS => ?_)
  replace hP : va_P (dC, dI) vwCl ((xW h a e cI cJ cO cE L1 I3 M J n cap fE sd si sa dl).set 15 (a 4, .inr (5, [.ref (a 12), .ref (a 13), .ref (a 14), .long (L1 8), .int (I3 9), .int (I3 10), .int 1]))) H := hP
  replace hD : va_D A ((xW h a e cI cJ cO cE L1 I3 M J n cap fE sd si sa dl).set 15 (a 4, .inr (5, [.ref (a 12), .ref (a 13), .ref (a 14), .long (L1 8), .int (I3 9), .int (I3 10), .int 1]))) := hD
  rw [xF_I11] at hP hD
  obtain ⟨I4, eI4⟩ : ∃ f9 : Nat → Int32, f9 = va_up I3 11 1 := ⟨_, rfl⟩
  rw [← eI4] at hP hD
  replace hZ9 := bnd_s hZ9 eI4
  replace hX : InvX n cap fE sd dl (b) I4 J si := by rw [eI4]; exact hX.setI (by decide)
  replace hUI : ∀ j9 : Nat, j9 ∉ ([9, 10, 11] : List Nat) → I4 j9 = I j9 := by rw [eI4]; exact mw_up (by decide) hUI
  exact W.vret hx hb hr (fun t ht hW => ⟨⟨(L1, I4), rfl, ⟨hX.mono (by omega), hUL, hUI, hZ9.symm.trans hR0⟩, by rw [ht]; exact hP, hD⟩, hS.F ht⟩) hS.2.2 dX4_clear_20
def f_y_padd_42 (n : Nat) (dl : Nat → Nat) (av : Nat) : Nat → Nat → (Nat → Nat → Int32) → (Nat → (Nat → Nat → Int32) → (Nat → Int32) × (Nat → Nat → Int32)) → (Nat → Int32) × (Nat → Nat → Int32)
  | 0, i8, J12, K9_42 => K9_42 i8  J12
  | fu9 + 1, i8, J12, K9_42 => if i8 ≤ 0 then (K9_42 i8 J12) else (bnd ((J12 0 (nI (i8 - 1)).toNatClampNeg).toNatClampNeg) (fun (z16 : Nat) => bnd (f_y_isBefore n dl av z16 J12) (fun (r17 : Int32) => if r17 = (0 : Int32) then (K9_42 i8 J12) else (bnd ((J12 0 (nI (i8 - 1)).toNatClampNeg).toNatClampNeg) (fun (z21 : Nat) => bnd (va_up J12 0 (upd (J12 0) (nI i8).toNatClampNeg (nI z21))) (fun (J22 : Nat → Nat → Int32) => f_y_padd_42 n dl av fu9 (i8 - 1)  J22 K9_42))))))
def f_y_padd (n : Nat) (dl : Nat → Nat) (av : Nat) (p1 : Int32) (p2 : Int32) (I : Nat → Int32) (J : Nat → Nat → Int32) : (Nat → Int32) × (Nat → Nat → Int32) := bnd ((I 9).toNatClampNeg) (fun (z1 : Nat) => if z1 < 40 then (bnd (va_up J 1 (upd (J 1) (nI av).toNatClampNeg p1)) (fun (J3 : Nat → Nat → Int32) => bnd (va_up J3 2 (upd (J3 2) (nI av).toNatClampNeg p2)) (fun (J4 : Nat → Nat → Int32) => bnd (I 10) (fun (x5 : Int32) => bnd (if x5 < p2 then p2 else x5) (fun (x6 : Int32) => bnd (va_up I 10 x6) (fun (I7 : Nat → Int32) => f_y_padd_42 n dl av (z1 + 1) z1  J4 (fun (i8 : Nat) (J12 : Nat → Nat → Int32) => bnd (va_up J12 0 (upd (J12 0) (nI i8).toNatClampNeg (nI av))) (fun (J14 : Nat → Nat → Int32) => bnd (va_up I7 9 (nI (z1 + 1))) (fun (I15 : Nat → Int32) => (I15, J14)))))))))) else ((I, J)))
def wq_y_padd : List Cond := ([.code yX4_add cX4_add 5 none, .fieldLink RX4 25 "ServiceTree$Plan" "size" "I", .fieldLink RX4 15 "ServiceTree$Plan" "begins" "[I", .fieldLink RX4 18 "ServiceTree$Plan" "ends" "[I", .fieldLink RX4 29 "ServiceTree$Plan" "lastEnd" "I", .methodLink RX4 36 Lib.Math.max.name, .static Lib.Math.max.name, .initialized "java/lang/Math", .code Lib.Math.max.name Lib.Math.max.code 2 (some .int), .fieldLink RX4 9 "ServiceTree$Plan" "sorted" "[I", .methodLink RX4 42 yX4_isBefore, .instanceMethod yX4_isBefore, .selects RX4 yX4_isBefore yX4_isBefore, .initialized RX4] : List Cond) ++ (wsX40 ++ (wq_y_isBefore))
theorem in_y_padd_X4 : ∀ w ∈ wsX40, w ∈ wq_y_padd := fun _ h => List.mem_append_right _ (List.mem_append_left _ (h))
set_option maxRecDepth 20000 in
theorem wi_y_padd : ∀ w ∈ wq_y_padd, w ∈ lw_tbl := List.forall_mem_append.mpr ⟨(wix [806, 189, 186, 187, 190, 794, 404, 74, 405, 185, 807, 809, 31, 67] rfl), List.forall_mem_append.mpr ⟨inKX4, wi_y_isBefore⟩⟩
set_option maxRecDepth 20000 in
theorem wg_y_padd : GoodIn wq_y_padd wq_y_padd := goodIn_sub (fun _ h => h) (by decide +kernel)
set_option maxRecDepth 20000 in
theorem wc_y_padd_y_isBefore_42 : GoodIn wq_y_padd (wsV RX4 42 RX4 yX4_isBefore wq_y_isBefore) := goodIn_app (goodIn_of _ (by decide +kernel)) (fun w h => ⟨List.mem_append_right _ (List.mem_append_right _ (h)), (wg_y_isBefore w h).2⟩)
def rm_y_padd : Room := { frames := 1, cells := 0, slots := 0, locals := 24 }
set_option maxHeartbeats 4000000 in
set_option maxRecDepth 100000 in
theorem c_y_padd (l : Launch) (dC : Nat → ClassId) (dI : Nat → Nat → Nat) (h : Nat) (a : Nat → Nat) (e : Nat) (cI cJ cO cE : ClassId) (L : Nat → Int64) (I : Nat → Int32) (M : Nat → Nat → Int64) (J : Nat → Nat → Int32) (n cap : Nat) (fE : Nat → Option Nat) (sd : Nat → Nat → Nat) (si : Nat → Nat → Int32) (sa : Nat → Nat → Nat → Int32) (dl : Nat → Nat) (b : Nat) (av : Nat) (p1 : Int32) (p2 : Int32) (sz : Nat) (hX0 : InvX n cap fE sd dl b I J si) (hb0 : b + 0 < 2147483648) (hp0 : av < 40) : Met l yX4_add wq_y_padd rm_y_padd (va_Pc [.ref (a 4), .int (nI av), .int p1, .int p2] (fun U => U.heap.size = sz ∧ va_P (dC, dI) vwCl (xW h a e cI cJ cO cE L I M J n cap fE sd si sa dl) U.heap ∧ va_K (dC, dI) vwCl (xT cI cJ cO cE) U ∧ va_D (fun _ => True) (xW h a e cI cJ cO cE L I M J n cap fE sd si sa dl) ∧ pw_N U)) (va_Qv (fun (u : (Nat → Int32) × (Nat → Nat → Int32)) => InvX n cap fE sd dl (b + 0) u.1 u.2 si ∧ (∀ j9 : Nat, j9 ∉ ([9, 10] : List Nat) → u.1 j9 = I j9) ∧ (∀ j9 : Nat, j9 ∉ ([0, 1, 2] : List Nat) → u.2 j9 = J j9) ∧ (u = f_y_padd n dl av p1 p2 I J)) (fun (u : (Nat → Int32) × (Nat → Nat → Int32)) (t : State) => va_P (dC, dI) vwCl (xW h a e cI cJ cO cE L u.1 M u.2 n cap fE sd si sa dl) t.heap ∧ va_D (va_A (xW h a e cI cJ cO cE L I M J n cap fE sd si sa dl) sz) (xW h a e cI cJ cO cE L u.1 M u.2 n cap fE sd si sa dl)) (va_A (xW h a e cI cJ cO cE L I M J n cap fE sd si sa dl) sz)) 0 0 (va_A (xW h a e cI cJ cO cE L I M J n cap fE sd si sa dl) sz) := by
  have hn : n ≤ 40 := hX0.1.1
  have hX := hX0
  have hUI : ∀ j9 : Nat, j9 ∉ ([9, 10] : List Nat) → I j9 = I j9 := fun _ _ => rfl
  have hUJ : ∀ j9 : Nat, j9 ∉ ([0, 1, 2] : List Nat) → J j9 = J j9 := fun _ _ => rfl
  refine Met.ofW (cc := cX4_add) (maxL := 5) (ret := none) (by decide) rfl ?_
  intro p e9 s m args below meth c s₁ B hml hv
  obtain ⟨rfl, hsz, hP, hK, hD0, hN⟩ := hv
  have hx := B.exec
  have hb := B.bytes
  have hr := B.returns
  have hts := atoms_spec (ws := wq_y_padd) B.pre
  have hown : s.vm.findClass RX4 = some m.cls := findClass_of_methodNamed B.named
  have hlocks := B.notSynchronized
  subst hsz
  have hD := hD0.self (sz := s.heap.size)
  generalize hAe : va_A (xW h a e cI cJ cO cE L I M J n cap fE sd si sa dl) s.heap.size = A at hD ⊢
  have hA : ∀ q : Nat, s.heap.size ≤ q → A q := fun q h => by rw [← hAe]; exact Or.inr h
  have hS : va_S A s.heap s.heap [] := va_S.rf
  have hl := lv_entry ([.ref (a 4), .int (nI av), .int p1, .int p2]) (n := 5) (Nat.le_of_ble_eq_true rfl)
  rw [lg_entry_eq]
  generalize (lg_sl ([.ref (a 4), .int (nI av), .int p1, .int p2]) ++ List.replicate (5 - (lg_sl ([.ref (a 4), .int (nI av), .int p1, .int p2])).length) Slot.unset).toArray = ls at hl ⊢
  have hl : lv_has ls 5 [(0, .ref (a 4)), (1, .int (nI av)), (2, .int p1), (3, .int p2)] := hl
  refine mw_Q (fun Q0 hQ => ?_)
  obtain ⟨RES, hR0⟩ : ∃ R9, R9 = f_y_padd n dl av p1 p2 I J := ⟨_, rfl⟩
  have hZ9 := hR0
  unfold f_y_padd at hZ9
  refine lv_aload_n hx hb dX4_add_0 rfl (lv_at hl 0 rfl) ?_
  refine va_get (D := (dC, dI)) (ci := 5) (v := .int (I 9)) (C := RX4) (T := TX4) (N := 7) hx hb hts in_y_padd_X4 hown hK hP 15 rfl rfl 4 (by decide) (hts (.fieldLink RX4 25 "ServiceTree$Plan" "size" "I") (by decide +kernel)) (fun _ h9 => h9) rfl dX4_add_1 ?_
  obtain ⟨z1, hz1, ez1⟩ := hX.2.1.1
  refine p1_topr (v := .int (nI z1)) (congrArg Value.int ez1) ?_
  replace hZ9 := bnd_s hZ9 (show z1 = (I 9).toNatClampNeg by rw [ez1, nI_clamp (by omega)])
  refine lv_bipush (v := 40) hx hb dX4_add_4 (by decide) ?_
  refine lv_icmp_lt (tgt := 10) hx hb dX4_add_6 (by decide) (fun c2 => ?_) (fun c2 => ?_)
  · replace c2 : z1 < 40 := (nI_ltI (a := z1) (b := 40) (by omega) (by omega)).mp c2
    replace hZ9 := ite_t hZ9 c2
    refine lv_aload_n hx hb dX4_add_10 rfl (lv_at hl 0 rfl) ?_
    refine va_get (D := (dC, dI)) (ci := 5) (v := .ref (a 13)) (C := RX4) (T := TX4) (N := 7) hx hb hts in_y_padd_X4 hown hK hP 15 rfl rfl 1 (by decide) (hts (.fieldLink RX4 15 "ServiceTree$Plan" "begins" "[I") (by decide +kernel)) (fun _ h9 => h9) rfl dX4_add_11 ?_
    refine lv_iload_n hx hb dX4_add_14 rfl (lv_at hl 1 rfl) ?_
    refine lv_iload_n hx hb dX4_add_15 rfl (lv_at hl 2 rfl) ?_
    refine va_iast (n := 40) (f := J 1) hx hb hK hP hD hS 17 0 rfl rfl (vp_in_nI (n := av) (by omega) (by omega)) dX4_add_16 (fun H locs hP hD hS => ?_)
    rw [xJ_1] at hP hD
    obtain ⟨J3, eJ3⟩ : ∃ f9 : Nat → Nat → Int32, f9 = va_up J 1 (upd (J 1) (nI av).toNatClampNeg p1) := ⟨_, rfl⟩
    rw [← eJ3] at hP hD
    replace hZ9 := bnd_s hZ9 eJ3
    replace hX : InvX n cap fE sd dl (b) I J3 si := by rw [eJ3]; exact hX.setJ (by decide)
    replace hUJ : ∀ j9 : Nat, j9 ∉ ([0, 1, 2] : List Nat) → J3 j9 = J j9 := by rw [eJ3]; exact mw_up (by decide) hUJ
    refine lv_aload_n hx hb dX4_add_17 rfl (lv_at hl 0 rfl) ?_
    refine va_get (D := (dC, dI)) (ci := 5) (v := .ref (a 14)) (C := RX4) (T := TX4) (N := 7) hx hb hts in_y_padd_X4 hown hK hP 15 rfl rfl 2 (by decide) (hts (.fieldLink RX4 18 "ServiceTree$Plan" "ends" "[I") (by decide +kernel)) (fun _ h9 => h9) rfl dX4_add_18 ?_
    refine lv_iload_n hx hb dX4_add_21 rfl (lv_at hl 1 rfl) ?_
    refine lv_iload_n hx hb dX4_add_22 rfl (lv_at hl 3 rfl) ?_
    refine va_iast (n := 40) (f := J3 2) hx hb hK hP hD hS 18 0 rfl rfl (vp_in_nI (n := av) (by omega) (by omega)) dX4_add_23 (fun H locs hP hD hS => ?_)
    rw [xJ_2] at hP hD
    obtain ⟨J4, eJ4⟩ : ∃ f9 : Nat → Nat → Int32, f9 = va_up J3 2 (upd (J3 2) (nI av).toNatClampNeg p2) := ⟨_, rfl⟩
    rw [← eJ4] at hP hD
    replace hZ9 := bnd_s hZ9 eJ4
    replace hX : InvX n cap fE sd dl (b) I J4 si := by rw [eJ4]; exact hX.setJ (by decide)
    replace hUJ : ∀ j9 : Nat, j9 ∉ ([0, 1, 2] : List Nat) → J4 j9 = J j9 := by rw [eJ4]; exact mw_up (by decide) hUJ
    refine lv_aload_n hx hb dX4_add_24 rfl (lv_at hl 0 rfl) ?_
    refine lv_aload_n hx hb dX4_add_25 rfl (lv_at hl 0 rfl) ?_
    refine va_get (D := (dC, dI)) (ci := 5) (v := .int (I 10)) (C := RX4) (T := TX4) (N := 7) hx hb hts in_y_padd_X4 hown hK hP 15 rfl rfl 5 (by decide) (hts (.fieldLink RX4 29 "ServiceTree$Plan" "lastEnd" "I") (by decide +kernel)) (fun _ h9 => h9) rfl dX4_add_26 ?_
    refine lv_topi (fun x5 ex5 => ?_)
    replace hZ9 := bnd_s hZ9 ex5
    refine lv_iload_n hx hb dX4_add_29 rfl (lv_at hl 3 rfl) ?_
    refine va_mmax hx hb (by rw [hml]; exact hl.1.symm) hown (hts (.methodLink RX4 36 Lib.Math.max.name) (by decide +kernel)) (hts (.static Lib.Math.max.name) (by decide +kernel)) (hts (.initialized "java/lang/Math") (by decide +kernel)) (hts (.code Lib.Math.max.name Lib.Math.max.code 2 (some .int)) (by decide +kernel)) (Nat.le_of_ble_eq_true rfl) (Nat.le_of_ble_eq_true rfl) (Nat.le_of_ble_eq_true rfl) (Nat.le_of_ble_eq_true rfl) dX4_add_30 ?_
    refine lv_topi (fun x6 ex6 => ?_)
    replace hZ9 := bnd_s hZ9 ex6
    refine va_put (D := (dC, dI)) (ci := 5) (fs := [.ref (a 12), .ref (a 13), .ref (a 14), .long (L 8), .int (I 9), .int (I 10), .int (I 11)]) (v := .int x6) (ty := .int) (C := RX4) (T := TX4) (N := 7) hx hb hts in_y_padd_X4 tyX4 tyX4_ok nmX4 hown hK hP hD hS 15 rfl rfl 5 (by decide) (hts (.fieldLink RX4 29 "ServiceTree$Plan" "lastEnd" "I") (by decide +kernel)) (fun _ h9 => h9) rfl (by decide +kernel) rfl rfl (Nat.le_of_ble_eq_true rfl) dX4_add_33 (fun H locs hP hD hS => ?_)
    replace hP : va_P (dC, dI) vwCl ((xW h a e cI cJ cO cE L I M J4 n cap fE sd si sa dl).set 15 (a 4, .inr (5, [.ref (a 12), .ref (a 13), .ref (a 14), .long (L 8), .int (I 9), .int x6, .int (I 11)]))) H := hP
    replace hD : va_D A ((xW h a e cI cJ cO cE L I M J4 n cap fE sd si sa dl).set 15 (a 4, .inr (5, [.ref (a 12), .ref (a 13), .ref (a 14), .long (L 8), .int (I 9), .int x6, .int (I 11)]))) := hD
    rw [xF_I10] at hP hD
    obtain ⟨I7, eI7⟩ : ∃ f9 : Nat → Int32, f9 = va_up I 10 x6 := ⟨_, rfl⟩
    rw [← eI7] at hP hD
    replace hZ9 := bnd_s hZ9 eI7
    replace hX : InvX n cap fE sd dl (b) I7 J4 si := by rw [eI7]; exact hX.setI (by decide)
    replace hUI : ∀ j9 : Nat, j9 ∉ ([9, 10] : List Nat) → I7 j9 = I j9 := by rw [eI7]; exact mw_up (by decide) hUI
    refine lv_aload_n hx hb dX4_add_36 rfl (lv_at hl 0 rfl) ?_
    refine va_get (D := (dC, dI)) (ci := 5) (v := .int (I7 9)) (C := RX4) (T := TX4) (N := 7) hx hb hts in_y_padd_X4 hown hK hP 15 rfl rfl 4 (by decide) (hts (.fieldLink RX4 25 "ServiceTree$Plan" "size" "I") (by decide +kernel)) (fun _ h9 => h9) rfl dX4_add_37 ?_
    refine p1_topr (v := .int (nI z1)) (congrArg Value.int (by rw [eI7, va_up_ne _ _ (by decide)]; exact ez1)) ?_
    refine lv_istore (lv' := [(4, .int (nI z1)), (0, .ref (a 4)), (1, .int (nI av)), (2, .int p1), (3, .int p2)]) hx hb dX4_add_40 hl (by decide) rfl (fun ls hl => ?_)
    obtain ⟨K9_42, hK9_42, hZ9⟩ := lp_gen hZ9
    have lp11 : ∀ (fu9 i8 : Nat)  (J12 : Nat → Nat → Int32) (H : Heap) (locs : List Loc) (ls : Array Slot), i8 < fu9 → i8 ≤ 39 → InvX n cap fE sd dl (b) I7 J12 si → (∀ j9 : Nat, j9 ∉ ([0, 1, 2] : List Nat) → J12 j9 = J j9) → RES = f_y_padd_42 n dl av fu9 i8  J12 K9_42 → va_P (dC, dI) vwCl (xW h a e cI cJ cO cE L I7 M J12 n cap fE sd si sa dl) H → va_D A (xW h a e cI cJ cO cE L I7 M J12 n cap fE sd si sa dl) → va_S A s.heap H locs → lv_has ls 5 [(4, .int (nI i8)), (0, .ref (a 4)), (1, .int (nI av)), (2, .int p1), (3, .int p2)] → W p l e9 (headSpec wq_y_padd rm_y_padd).room s m ([.ref (a 4), .int (nI av), .int p1, .int p2] : List Value).toArray below meth c H locs 0 0 Q0 (F0 m 42 ls []) := by
      intro fu9
      induction fu9 with
      | zero =>
        intro i8  J12 H locs ls hf hi
        exact absurd hf (by omega)
      | succ fu9 ih10 =>
        intro i8  J12 H locs ls hfi8 hii8 hX hUJ hZ9 hP hD hS hl
        rw [f_y_padd_42] at hZ9
        refine lv_iload hx hb dX4_add_42 (lv_at hl 0 rfl) ?_
        refine lv_if_le (tgt := 86) hx hb dX4_add_44 (by decide) (fun c13 => ?_) (fun c13 => ?_)
        · replace c13 : i8 ≤ 0 := (nI_leI (a := i8) (b := 0) (by omega) (by omega)).mp c13
          replace hZ9 := ite_t hZ9 c13
          replace hZ9 := lp_app2 hK9_42 hZ9
          refine lv_aload_n hx hb dX4_add_86 rfl (lv_at hl 1 rfl) ?_
          refine va_get (D := (dC, dI)) (ci := 5) (v := .ref (a 12)) (C := RX4) (T := TX4) (N := 7) hx hb hts in_y_padd_X4 hown hK hP 15 rfl rfl 0 (by decide) (hts (.fieldLink RX4 9 "ServiceTree$Plan" "sorted" "[I") (by decide +kernel)) (fun _ h9 => h9) rfl dX4_add_87 ?_
          refine lv_iload hx hb dX4_add_90 (lv_at hl 0 rfl) ?_
          refine lv_iload_n hx hb dX4_add_92 rfl (lv_at hl 2 rfl) ?_
          refine va_iast (n := 40) (f := J12 0) hx hb hK hP hD hS 16 0 rfl rfl (vp_in_nI (n := i8) (by omega) (by omega)) dX4_add_93 (fun H locs hP hD hS => ?_)
          rw [xJ_0] at hP hD
          obtain ⟨J14, eJ14⟩ : ∃ f9 : Nat → Nat → Int32, f9 = va_up J12 0 (upd (J12 0) (nI i8).toNatClampNeg (nI av)) := ⟨_, rfl⟩
          rw [← eJ14] at hP hD
          replace hZ9 := bnd_s hZ9 eJ14
          replace hX : InvX n cap fE sd dl (b) I7 J14 si := by rw [eJ14]; exact hX.setJ0 (i := (nI i8).toNatClampNeg) (x := av) (by omega)
          replace hUJ : ∀ j9 : Nat, j9 ∉ ([0, 1, 2] : List Nat) → J14 j9 = J j9 := by rw [eJ14]; exact mw_up (by decide) hUJ
          refine lv_aload_n hx hb dX4_add_94 rfl (lv_at hl 1 rfl) ?_
          refine lv_dup hx hb dX4_add_95 rfl ?_
          refine va_get (D := (dC, dI)) (ci := 5) (v := .int (I7 9)) (C := RX4) (T := TX4) (N := 7) hx hb hts in_y_padd_X4 hown hK hP 15 rfl rfl 4 (by decide) (hts (.fieldLink RX4 25 "ServiceTree$Plan" "size" "I") (by decide +kernel)) (fun _ h9 => h9) rfl dX4_add_96 ?_
          refine p1_topr (v := .int (nI z1)) (congrArg Value.int (by rw [eI7, va_up_ne _ _ (by decide)]; exact ez1)) ?_
          refine lv_iconst (v := 1) hx hb dX4_add_99 (by decide) ?_
          refine lv_iadd hx hb dX4_add_100 ?_
          refine p1_topr (v := .int (nI (z1 + 1))) (congrArg Value.int (nI_add z1 1)) ?_
          refine va_put (D := (dC, dI)) (ci := 5) (fs := [.ref (a 12), .ref (a 13), .ref (a 14), .long (L 8), .int (I7 9), .int (I7 10), .int (I7 11)]) (v := .int (nI (z1 + 1))) (ty := .int) (C := RX4) (T := TX4) (N := 7) hx hb hts in_y_padd_X4 tyX4 tyX4_ok nmX4 hown hK hP hD hS 15 rfl rfl 4 (by decide) (hts (.fieldLink RX4 25 "ServiceTree$Plan" "size" "I") (by decide +kernel)) (fun _ h9 => h9) rfl (by decide +kernel) rfl rfl (Nat.le_of_ble_eq_true rfl) dX4_add_101 (fun H locs hP hD hS => ?_)
          replace hP : va_P (dC, dI) vwCl ((xW h a e cI cJ cO cE L I7 M J14 n cap fE sd si sa dl).set 15 (a 4, .inr (5, [.ref (a 12), .ref (a 13), .ref (a 14), .long (L 8), .int (nI (z1 + 1)), .int (I7 10), .int (I7 11)]))) H := hP
          replace hD : va_D A ((xW h a e cI cJ cO cE L I7 M J14 n cap fE sd si sa dl).set 15 (a 4, .inr (5, [.ref (a 12), .ref (a 13), .ref (a 14), .long (L 8), .int (nI (z1 + 1)), .int (I7 10), .int (I7 11)]))) := hD
          rw [xF_I9] at hP hD
          obtain ⟨I15, eI15⟩ : ∃ f9 : Nat → Int32, f9 = va_up I7 9 (nI (z1 + 1)) := ⟨_, rfl⟩
          rw [← eI15] at hP hD
          replace hZ9 := bnd_s hZ9 eI15
          replace hX : InvX n cap fE sd dl (b) I15 J14 si := by rw [eI15]; exact hX.set9 (x := z1 + 1) (by omega)
          replace hUI : ∀ j9 : Nat, j9 ∉ ([9, 10] : List Nat) → I15 j9 = I j9 := by rw [eI15]; exact mw_up (by decide) hUI
          rw [hQ]
          exact W.vret hx hb hr (fun t ht hW => ⟨⟨(I15, J14), rfl, ⟨hX.mono (by omega), hUI, hUJ, hZ9.symm.trans hR0⟩, by rw [ht]; exact hP, hD⟩, hS.F ht⟩) hS.2.2 dX4_add_104
        · replace c13 : ¬ (i8 ≤ 0) := fun q9 => c13 ((nI_leI (a := i8) (b := 0) (by omega) (by omega)).mpr q9)
          replace hZ9 := ite_f hZ9 c13
          refine lv_aload_n hx hb dX4_add_47 rfl (lv_at hl 1 rfl) ?_
          refine lv_iload_n hx hb dX4_add_48 rfl (lv_at hl 2 rfl) ?_
          refine lv_aload_n hx hb dX4_add_49 rfl (lv_at hl 1 rfl) ?_
          refine va_get (D := (dC, dI)) (ci := 5) (v := .ref (a 12)) (C := RX4) (T := TX4) (N := 7) hx hb hts in_y_padd_X4 hown hK hP 15 rfl rfl 0 (by decide) (hts (.fieldLink RX4 9 "ServiceTree$Plan" "sorted" "[I") (by decide +kernel)) (fun _ h9 => h9) rfl dX4_add_50 ?_
          refine lv_iload hx hb dX4_add_53 (lv_at hl 0 rfl) ?_
          refine lv_iconst (v := 1) hx hb dX4_add_55 (by decide) ?_
          refine lv_isub hx hb dX4_add_56 ?_
          refine p1_topr (v := .int (nI (i8 - 1))) (congrArg Value.int (pk_sub (a := i8) (b := 1) (by omega))) ?_
          refine va_iald (n := 40) (f := J12 0) hx hb hK hP 16 0 rfl rfl (vp_in_nI (n := i8 - 1) (by omega) (by omega)) dX4_add_57 ?_
          obtain ⟨z16, hz16, ez16⟩ := hX.2.2.1 (nI (i8 - 1)).toNatClampNeg
          refine p1_topr (v := .int (nI z16)) (congrArg Value.int ez16) ?_
          replace hZ9 := bnd_s hZ9 (show z16 = (J12 0 (nI (i8 - 1)).toNatClampNeg).toNatClampNeg by rw [ez16, nI_clamp (by omega)])
          have hFc := mw_free hD hS hA
          refine va_calli (va_runV (As := [.int (nI av), .int (nI z16)]) (rest := []) ⟨hx, hb, hml, hown, hts⟩ (c_y_isBefore l dC dI h a e cI cJ cO cE L I7 M J12 n cap fE sd si sa dl (b) av z16 H.size hX (by omega) (by omega) (by omega)) (cwV 2 hts wc_y_padd_y_isBefore_42 rfl rfl rfl (by decide +kernel) ⟨Nat.le_of_ble_eq_true rfl, Nat.le_of_ble_eq_true rfl⟩) ⟨fun a9 U g mk q => by obtain ⟨q0, q1, qP, qK, qD, qN⟩ := q; exact ⟨q0, q1, qP, va_K.moved (u := U) (U := U.calling g mk a9) (Vm.Alike.refl U.vm) qK, qD, pw_N.same (u := U) (U := U.calling g mk a9) rfl qN⟩, va_recv hK hP (ci := 5) (q0 := 15) rfl rfl, fun U hU hW => ⟨rfl, by rw [hU], by rw [hU]; exact hP, va_K.moved hW.alike hK, hD.weaken (fun _ _ _ _ => trivial), pw_N.warm hW hN⟩⟩ rfl rfl hl.1 rfl (lv_room (Nat.le_of_ble_eq_true rfl)) dX4_add_58 ⟨Nat.le_of_ble_eq_true rfl, Nat.le_of_ble_eq_true rfl⟩) hS (fun q _ h => hFc q h) hFc (fun r17 u t H1 locs ht hvm hw hB hz1 hk1 hS => ?_)
          replace hP := hB.1
          rw [ht] at hP
          replace hD : va_D A (xW h a e cI cJ cO cE L I7 M J12 n cap fE sd si sa dl) := hB.2.weaken (fun _ q _ h9 => hFc q.1 h9)
          clear hB
          generalize H1 = H at hP hS ⊢
          replace hP : va_P (dC, dI) vwCl (xW h a e cI cJ cO cE L I7 M J12 n cap fE sd si sa dl) H := hP
          obtain ⟨hw, hwe⟩ := hw
          replace hw : r17 = f_y_isBefore n dl av z16 J12 := hw
          replace hZ9 := bnd_s hZ9 hw
          have br17 := hwe
          refine lv_if_eq (tgt := 86) hx hb dX4_add_61 (by decide) (fun c18 => ?_) (fun c18 => ?_)
          · replace hZ9 := ite_t hZ9 c18
            replace hZ9 := lp_app2 hK9_42 hZ9
            refine lv_aload_n hx hb dX4_add_86 rfl (lv_at hl 1 rfl) ?_
            refine va_get (D := (dC, dI)) (ci := 5) (v := .ref (a 12)) (C := RX4) (T := TX4) (N := 7) hx hb hts in_y_padd_X4 hown hK hP 15 rfl rfl 0 (by decide) (hts (.fieldLink RX4 9 "ServiceTree$Plan" "sorted" "[I") (by decide +kernel)) (fun _ h9 => h9) rfl dX4_add_87 ?_
            refine lv_iload hx hb dX4_add_90 (lv_at hl 0 rfl) ?_
            refine lv_iload_n hx hb dX4_add_92 rfl (lv_at hl 2 rfl) ?_
            refine va_iast (n := 40) (f := J12 0) hx hb hK hP hD hS 16 0 rfl rfl (vp_in_nI (n := i8) (by omega) (by omega)) dX4_add_93 (fun H locs hP hD hS => ?_)
            rw [xJ_0] at hP hD
            obtain ⟨J19, eJ19⟩ : ∃ f9 : Nat → Nat → Int32, f9 = va_up J12 0 (upd (J12 0) (nI i8).toNatClampNeg (nI av)) := ⟨_, rfl⟩
            rw [← eJ19] at hP hD
            replace hZ9 := bnd_s hZ9 eJ19
            replace hX : InvX n cap fE sd dl (b) I7 J19 si := by rw [eJ19]; exact hX.setJ0 (i := (nI i8).toNatClampNeg) (x := av) (by omega)
            replace hUJ : ∀ j9 : Nat, j9 ∉ ([0, 1, 2] : List Nat) → J19 j9 = J j9 := by rw [eJ19]; exact mw_up (by decide) hUJ
            refine lv_aload_n hx hb dX4_add_94 rfl (lv_at hl 1 rfl) ?_
            refine lv_dup hx hb dX4_add_95 rfl ?_
            refine va_get (D := (dC, dI)) (ci := 5) (v := .int (I7 9)) (C := RX4) (T := TX4) (N := 7) hx hb hts in_y_padd_X4 hown hK hP 15 rfl rfl 4 (by decide) (hts (.fieldLink RX4 25 "ServiceTree$Plan" "size" "I") (by decide +kernel)) (fun _ h9 => h9) rfl dX4_add_96 ?_
            refine p1_topr (v := .int (nI z1)) (congrArg Value.int (by rw [eI7, va_up_ne _ _ (by decide)]; exact ez1)) ?_
            refine lv_iconst (v := 1) hx hb dX4_add_99 (by decide) ?_
            refine lv_iadd hx hb dX4_add_100 ?_
            refine p1_topr (v := .int (nI (z1 + 1))) (congrArg Value.int (nI_add z1 1)) ?_
            refine va_put (D := (dC, dI)) (ci := 5) (fs := [.ref (a 12), .ref (a 13), .ref (a 14), .long (L 8), .int (I7 9), .int (I7 10), .int (I7 11)]) (v := .int (nI (z1 + 1))) (ty := .int) (C := RX4) (T := TX4) (N := 7) hx hb hts in_y_padd_X4 tyX4 tyX4_ok nmX4 hown hK hP hD hS 15 rfl rfl 4 (by decide) (hts (.fieldLink RX4 25 "ServiceTree$Plan" "size" "I") (by decide +kernel)) (fun _ h9 => h9) rfl (by decide +kernel) rfl rfl (Nat.le_of_ble_eq_true rfl) dX4_add_101 (fun H locs hP hD hS => ?_)
            replace hP : va_P (dC, dI) vwCl ((xW h a e cI cJ cO cE L I7 M J19 n cap fE sd si sa dl).set 15 (a 4, .inr (5, [.ref (a 12), .ref (a 13), .ref (a 14), .long (L 8), .int (nI (z1 + 1)), .int (I7 10), .int (I7 11)]))) H := hP
            replace hD : va_D A ((xW h a e cI cJ cO cE L I7 M J19 n cap fE sd si sa dl).set 15 (a 4, .inr (5, [.ref (a 12), .ref (a 13), .ref (a 14), .long (L 8), .int (nI (z1 + 1)), .int (I7 10), .int (I7 11)]))) := hD
            rw [xF_I9] at hP hD
            obtain ⟨I20, eI20⟩ : ∃ f9 : Nat → Int32, f9 = va_up I7 9 (nI (z1 + 1)) := ⟨_, rfl⟩
            rw [← eI20] at hP hD
            replace hZ9 := bnd_s hZ9 eI20
            replace hX : InvX n cap fE sd dl (b) I20 J19 si := by rw [eI20]; exact hX.set9 (x := z1 + 1) (by omega)
            replace hUI : ∀ j9 : Nat, j9 ∉ ([9, 10] : List Nat) → I20 j9 = I j9 := by rw [eI20]; exact mw_up (by decide) hUI
            rw [hQ]
            exact W.vret hx hb hr (fun t ht hW => ⟨⟨(I20, J19), rfl, ⟨hX.mono (by omega), hUI, hUJ, hZ9.symm.trans hR0⟩, by rw [ht]; exact hP, hD⟩, hS.F ht⟩) hS.2.2 dX4_add_104
          · replace hZ9 := ite_f hZ9 c18
            refine lv_aload_n hx hb dX4_add_64 rfl (lv_at hl 1 rfl) ?_
            refine va_get (D := (dC, dI)) (ci := 5) (v := .ref (a 12)) (C := RX4) (T := TX4) (N := 7) hx hb hts in_y_padd_X4 hown hK hP 15 rfl rfl 0 (by decide) (hts (.fieldLink RX4 9 "ServiceTree$Plan" "sorted" "[I") (by decide +kernel)) (fun _ h9 => h9) rfl dX4_add_65 ?_
            refine lv_iload hx hb dX4_add_68 (lv_at hl 0 rfl) ?_
            refine lv_aload_n hx hb dX4_add_70 rfl (lv_at hl 1 rfl) ?_
            refine va_get (D := (dC, dI)) (ci := 5) (v := .ref (a 12)) (C := RX4) (T := TX4) (N := 7) hx hb hts in_y_padd_X4 hown hK hP 15 rfl rfl 0 (by decide) (hts (.fieldLink RX4 9 "ServiceTree$Plan" "sorted" "[I") (by decide +kernel)) (fun _ h9 => h9) rfl dX4_add_71 ?_
            refine lv_iload hx hb dX4_add_74 (lv_at hl 0 rfl) ?_
            refine lv_iconst (v := 1) hx hb dX4_add_76 (by decide) ?_
            refine lv_isub hx hb dX4_add_77 ?_
            refine p1_topr (v := .int (nI (i8 - 1))) (congrArg Value.int (pk_sub (a := i8) (b := 1) (by omega))) ?_
            refine va_iald (n := 40) (f := J12 0) hx hb hK hP 16 0 rfl rfl (vp_in_nI (n := i8 - 1) (by omega) (by omega)) dX4_add_78 ?_
            obtain ⟨z21, hz21, ez21⟩ := hX.2.2.1 (nI (i8 - 1)).toNatClampNeg
            refine p1_topr (v := .int (nI z21)) (congrArg Value.int ez21) ?_
            replace hZ9 := bnd_s hZ9 (show z21 = (J12 0 (nI (i8 - 1)).toNatClampNeg).toNatClampNeg by rw [ez21, nI_clamp (by omega)])
            refine va_iast (n := 40) (f := J12 0) hx hb hK hP hD hS 16 0 rfl rfl (vp_in_nI (n := i8) (by omega) (by omega)) dX4_add_79 (fun H locs hP hD hS => ?_)
            rw [xJ_0] at hP hD
            obtain ⟨J22, eJ22⟩ : ∃ f9 : Nat → Nat → Int32, f9 = va_up J12 0 (upd (J12 0) (nI i8).toNatClampNeg (nI z21)) := ⟨_, rfl⟩
            rw [← eJ22] at hP hD
            replace hZ9 := bnd_s hZ9 eJ22
            replace hX : InvX n cap fE sd dl (b) I7 J22 si := by rw [eJ22]; exact hX.setJ0 (i := (nI i8).toNatClampNeg) (x := z21) (by omega)
            replace hUJ : ∀ j9 : Nat, j9 ∉ ([0, 1, 2] : List Nat) → J22 j9 = J j9 := by rw [eJ22]; exact mw_up (by decide) hUJ
            refine lv_iinc (v := (nI (i8 - 1))) (lv' := [(4, .int (nI (i8 - 1))), (0, .ref (a 4)), (1, .int (nI av)), (2, .int p1), (3, .int p2)]) hx hb dX4_add_80 hl (k := 0) rfl (sb_m1 (by omega)) (by decide) rfl (fun ls hl => ?_)
            refine lv_goto (tgt := 42) hx hb dX4_add_83 (by decide) ?_
            exact ih10 (i8 - 1)  J22 _ _ _ (by omega) (by omega) (hX.mono (by omega)) hUJ  hZ9 hP hD hS (lv_sub hl [0, 1, 2, 3, 4] rfl)
    exact lp11 (z1 + 1) z1  J4 _ _ _ (by omega) (by omega) (hX.mono (by omega)) hUJ  hZ9 hP hD hS hl
  · replace c2 : ¬ (z1 < 40) := fun q9 => c2 ((nI_ltI (a := z1) (b := 40) (by omega) (by omega)).mpr q9)
    replace hZ9 := ite_f hZ9 c2
    rw [hQ]
    exact W.vret hx hb hr (fun t ht hW => ⟨⟨(I, J), rfl, ⟨hX.mono (by omega), hUI, hUJ, hZ9.symm.trans hR0⟩, by rw [ht]; exact hP, hD⟩, hS.F ht⟩) hS.2.2 dX4_add_9
def f_y_endOf_5 (n : Nat) (dl : Nat → Nat) (p0 : Int64) (J : Nat → Nat → Int32) : Nat → Nat → Int32 → (Nat → Int32 → Int32) → Int32
  | 0, i1, y5, K9_5 => K9_5 i1 y5 
  | fu2 + 1, i1, y5, K9_5 => if 40 ≤ i1 then (K9_5 i1 y5) else (bnd (f_y_holds n dl p0 i1 ) (fun (r7 : Int32) => if r7 = (0 : Int32) then (f_y_endOf_5 n dl p0 J fu2 (i1 + 1) y5  K9_5) else (bnd (J 2 (nI i1).toNatClampNeg) (fun (x9 : Int32) => bnd (if y5 < x9 then x9 else y5) (fun (x10 : Int32) => f_y_endOf_5 n dl p0 J fu2 (i1 + 1) x10  K9_5)))))
def f_y_endOf (n : Nat) (dl : Nat → Nat) (p0 : Int64) (J : Nat → Nat → Int32) : Int32 := f_y_endOf_5 n dl p0 J (40 + 1) 0 (0 : Int32)  (fun (i1 : Nat) (y5 : Int32) => (y5))
def wq_y_endOf : List Cond := ([.code yX4_endOf cX4_endOf 5 (some .int), .initialized RX8, .static yX8_holds, .fieldLink RX4 18 "ServiceTree$Plan" "ends" "[I", .methodLink RX4 36 Lib.Math.max.name, .static Lib.Math.max.name, .initialized "java/lang/Math", .code Lib.Math.max.name Lib.Math.max.code 2 (some .int)] : List Cond) ++ (wsX40 ++ (wq_y_holds))
theorem in_y_endOf_X4 : ∀ w ∈ wsX40, w ∈ wq_y_endOf := fun _ h => List.mem_append_right _ (List.mem_append_left _ (h))
set_option maxRecDepth 20000 in
theorem wi_y_endOf : ∀ w ∈ wq_y_endOf, w ∈ lw_tbl := List.forall_mem_append.mpr ⟨(wix [792, 60, 488, 187, 794, 404, 74, 405] rfl), List.forall_mem_append.mpr ⟨inKX4, wi_y_holds⟩⟩
set_option maxRecDepth 20000 in
theorem wg_y_endOf : GoodIn wq_y_endOf wq_y_endOf := goodIn_sub (fun _ h => h) (by decide +kernel)
theorem wc_y_endOf_y_holds_46 : GoodIn wq_y_endOf wq_y_holds := (fun w h => ⟨List.mem_append_right _ (List.mem_append_right _ (h)), (wg_y_holds w h).2⟩)
def rm_y_endOf : Room := { frames := 1, cells := 0, slots := 0, locals := 24 }
set_option maxHeartbeats 4000000 in
set_option maxRecDepth 100000 in
theorem c_y_endOf (l : Launch) (dC : Nat → ClassId) (dI : Nat → Nat → Nat) (h : Nat) (a : Nat → Nat) (e : Nat) (cI cJ cO cE : ClassId) (L : Nat → Int64) (I : Nat → Int32) (M : Nat → Nat → Int64) (J : Nat → Nat → Int32) (n cap : Nat) (fE : Nat → Option Nat) (sd : Nat → Nat → Nat) (si : Nat → Nat → Int32) (sa : Nat → Nat → Nat → Int32) (dl : Nat → Nat) (b : Nat) (p0 : Int64) (sz : Nat) (hX0 : InvX n cap fE sd dl b I J si) (hb0 : b + 0 < 2147483648)  : Met l yX4_endOf wq_y_endOf rm_y_endOf (va_Pc [.ref (a 4), .long p0] (fun U => U.heap.size = sz ∧ va_P (dC, dI) vwCl (xW h a e cI cJ cO cE L I M J n cap fE sd si sa dl) U.heap ∧ va_K (dC, dI) vwCl (xT cI cJ cO cE) U ∧ va_D (fun _ => True) (xW h a e cI cJ cO cE L I M J n cap fE sd si sa dl) ∧ pw_N U)) (va_Qi (fun (r : Int32) (u : Unit) => (r = f_y_endOf n dl p0 J)) (fun (u : Unit) (t : State) => va_P (dC, dI) vwCl (xW h a e cI cJ cO cE L I M J n cap fE sd si sa dl) t.heap ∧ va_D (va_A (xW h a e cI cJ cO cE L I M J n cap fE sd si sa dl) sz) (xW h a e cI cJ cO cE L I M J n cap fE sd si sa dl)) (va_A (xW h a e cI cJ cO cE L I M J n cap fE sd si sa dl) sz)) 0 0 (va_A (xW h a e cI cJ cO cE L I M J n cap fE sd si sa dl) sz) := by
  have hn : n ≤ 40 := hX0.1.1
  have hX := hX0
  refine Met.ofW (cc := cX4_endOf) (maxL := 5) (ret := (some .int)) (by decide) rfl ?_
  intro p e9 s m args below meth c s₁ B hml hv
  obtain ⟨rfl, hsz, hP, hK, hD0, hN⟩ := hv
  have hx := B.exec
  have hb := B.bytes
  have hr := B.returns
  have hts := atoms_spec (ws := wq_y_endOf) B.pre
  have hown : s.vm.findClass RX4 = some m.cls := findClass_of_methodNamed B.named
  have hlocks := B.notSynchronized
  subst hsz
  have hD := hD0.self (sz := s.heap.size)
  generalize hAe : va_A (xW h a e cI cJ cO cE L I M J n cap fE sd si sa dl) s.heap.size = A at hD ⊢
  have hA : ∀ q : Nat, s.heap.size ≤ q → A q := fun q h => by rw [← hAe]; exact Or.inr h
  have hS : va_S A s.heap s.heap [] := va_S.rf
  have hl := lv_entry ([.ref (a 4), .long p0]) (n := 5) (Nat.le_of_ble_eq_true rfl)
  rw [lg_entry_eq]
  generalize (lg_sl ([.ref (a 4), .long p0]) ++ List.replicate (5 - (lg_sl ([.ref (a 4), .long p0])).length) Slot.unset).toArray = ls at hl ⊢
  have hl : lv_has ls 5 [(0, .ref (a 4)), (1, .long p0)] := hl
  refine mw_Q (fun Q0 hQ => ?_)
  obtain ⟨RES, hR0⟩ : ∃ R9, R9 = f_y_endOf n dl p0 J := ⟨_, rfl⟩
  have hZ9 := hR0
  unfold f_y_endOf at hZ9
  refine lv_iconst (v := 0) hx hb dX4_endOf_0 (by decide) ?_
  refine lv_istore_n (lv' := [(3, .int 0), (0, .ref (a 4)), (1, .long p0)]) hx hb dX4_endOf_1 rfl hl (by decide) rfl (fun ls hl => ?_)
  refine lv_iconst (v := 0) hx hb dX4_endOf_2 (by decide) ?_
  refine lv_istore (lv' := [(4, .int 0), (3, .int 0), (0, .ref (a 4)), (1, .long p0)]) hx hb dX4_endOf_3 hl (by decide) rfl (fun ls hl => ?_)
  obtain ⟨K9_5, hK9_5, hZ9⟩ := lp_gen hZ9
  have lp4 : ∀ (fu2 i1 : Nat) (y5 : Int32)  (H : Heap) (locs : List Loc) (ls : Array Slot), 40 < i1 + fu2 → i1 ≤ 40 → RES = f_y_endOf_5 n dl p0 J fu2 i1 y5  K9_5 → va_P (dC, dI) vwCl (xW h a e cI cJ cO cE L I M J n cap fE sd si sa dl) H → va_D A (xW h a e cI cJ cO cE L I M J n cap fE sd si sa dl) → va_S A s.heap H locs → lv_has ls 5 [(4, .int (nI i1)), (3, .int y5), (0, .ref (a 4)), (1, .long p0)] → W p l e9 (headSpec wq_y_endOf rm_y_endOf).room s m ([.ref (a 4), .long p0] : List Value).toArray below meth c H locs 0 0 Q0 (F0 m 5 ls []) := by
    intro fu2
    induction fu2 with
    | zero =>
      intro i1 y5  H locs ls hf hi
      exact absurd hf (by omega)
    | succ fu2 ih3 =>
      intro i1 y5  H locs ls hfi1 hii1 hZ9 hP hD hS hl
      rw [f_y_endOf_5] at hZ9
      refine lv_iload hx hb dX4_endOf_5 (lv_at hl 0 rfl) ?_
      refine lv_bipush (v := 40) hx hb dX4_endOf_7 (by decide) ?_
      refine lv_icmp_ge (tgt := 39) hx hb dX4_endOf_9 (by decide) (fun c6 => ?_) (fun c6 => ?_)
      · replace c6 : 40 ≤ i1 := (nI_leI (a := 40) (b := i1) (by omega) (by omega)).mp c6
        replace hZ9 := ite_t hZ9 c6
        replace hZ9 := lp_app2 hK9_5 hZ9
        refine lv_iload_n hx hb dX4_endOf_39 rfl (lv_at hl 1 rfl) ?_
        rw [hQ]
        exact W.iret (v := y5) hx hb hr (fun t ht hW => ⟨⟨y5, (), rfl, hZ9.symm.trans hR0, by rw [ht]; exact hP, hD⟩, hS.F ht⟩) hS.2.2 dX4_endOf_40
      · replace c6 : ¬ (40 ≤ i1) := fun q9 => c6 ((nI_leI (a := 40) (b := i1) (by omega) (by omega)).mpr q9)
        replace hZ9 := ite_f hZ9 c6
        refine lv_lload_n hx hb dX4_endOf_12 rfl (lv_at hl 3 rfl) ?_
        refine lv_iload hx hb dX4_endOf_13 (lv_at hl 0 rfl) ?_
        have hFc := mw_free hD hS hA
        refine va_calli (va_runSN (As := [.long p0, .int (nI i1)]) (rest := []) ⟨hx, hb, hml, hown, hts⟩ (c_y_holds l dC dI h a e cI cJ cO cE L I M J n cap fE sd si sa dl (b) p0 i1 H.size hX (by omega) ) ⟨va_cnB 2 hts wc_y_endOf_y_holds_46 rfl rfl rfl (hN (.methodLinkNest RX4 46 yX8_holds "ServiceTree") (by decide +kernel)) (hts (.initialized RX8) (by decide +kernel)) (by decide +kernel) ⟨Nat.le_of_ble_eq_true rfl, Nat.le_of_ble_eq_true rfl⟩, hts (.static yX8_holds) (by decide +kernel), trivial⟩ ⟨fun a9 U g mk q => by obtain ⟨q0, q1, qP, qK, qD, qN⟩ := q; exact ⟨q0, q1, qP, va_K.moved (u := U) (U := U.calling g mk a9) (Vm.Alike.refl U.vm) qK, qD, pw_N.same (u := U) (U := U.calling g mk a9) rfl qN⟩, fun U hU hW => ⟨rfl, by rw [hU], by rw [hU]; exact hP, va_K.moved hW.alike hK, hD.weaken (fun _ _ _ _ => trivial), pw_N.warm hW hN⟩⟩ rfl rfl hl.1 rfl (lv_room (Nat.le_of_ble_eq_true rfl)) dX4_endOf_15 ⟨Nat.le_of_ble_eq_true rfl, Nat.le_of_ble_eq_true rfl⟩) hS (fun q _ h => hFc q h) hFc (fun r7 u t H1 locs ht hvm hw hB hz1 hk1 hS => ?_)
        replace hP := hB.1
        rw [ht] at hP
        replace hD : va_D A (xW h a e cI cJ cO cE L I M J n cap fE sd si sa dl) := hB.2.weaken (fun _ q _ h9 => hFc q.1 h9)
        clear hB
        generalize H1 = H at hP hS ⊢
        replace hP : va_P (dC, dI) vwCl (xW h a e cI cJ cO cE L I M J n cap fE sd si sa dl) H := hP
        obtain ⟨hw, hwe⟩ := hw
        replace hw : r7 = f_y_holds n dl p0 i1  := hw
        replace hZ9 := bnd_s hZ9 hw
        have br7 := hwe
        refine lv_if_eq (tgt := 33) hx hb dX4_endOf_18 (by decide) (fun c8 => ?_) (fun c8 => ?_)
        · replace hZ9 := ite_t hZ9 c8
          refine lv_iinc (v := (nI (i1 + 1))) (lv' := [(4, .int (nI (i1 + 1))), (3, .int y5), (0, .ref (a 4)), (1, .long p0)]) hx hb dX4_endOf_33 hl (k := 0) rfl (nI_add i1 1) (by decide) rfl (fun ls hl => ?_)
          refine lv_goto (tgt := 5) hx hb dX4_endOf_36 (by decide) ?_
          exact ih3 (i1 + 1) y5  _ _ _ (by omega) (by omega)  hZ9 hP hD hS (lv_sub hl [0, 1, 2, 3] rfl)
        · replace hZ9 := ite_f hZ9 c8
          refine lv_iload_n hx hb dX4_endOf_21 rfl (lv_at hl 1 rfl) ?_
          refine lv_aload_n hx hb dX4_endOf_22 rfl (lv_at hl 2 rfl) ?_
          refine va_get (D := (dC, dI)) (ci := 5) (v := .ref (a 14)) (C := RX4) (T := TX4) (N := 7) hx hb hts in_y_endOf_X4 hown hK hP 15 rfl rfl 2 (by decide) (hts (.fieldLink RX4 18 "ServiceTree$Plan" "ends" "[I") (by decide +kernel)) (fun _ h9 => h9) rfl dX4_endOf_23 ?_
          refine lv_iload hx hb dX4_endOf_26 (lv_at hl 0 rfl) ?_
          refine va_iald (n := 40) (f := J 2) hx hb hK hP 18 0 rfl rfl (vp_in_nI (n := i1) (by omega) (by omega)) dX4_endOf_28 ?_
          refine lv_topi (fun x9 ex9 => ?_)
          replace hZ9 := bnd_s hZ9 ex9
          refine va_mmax hx hb (by rw [hml]; exact hl.1.symm) hown (hts (.methodLink RX4 36 Lib.Math.max.name) (by decide +kernel)) (hts (.static Lib.Math.max.name) (by decide +kernel)) (hts (.initialized "java/lang/Math") (by decide +kernel)) (hts (.code Lib.Math.max.name Lib.Math.max.code 2 (some .int)) (by decide +kernel)) (Nat.le_of_ble_eq_true rfl) (Nat.le_of_ble_eq_true rfl) (Nat.le_of_ble_eq_true rfl) (Nat.le_of_ble_eq_true rfl) dX4_endOf_29 ?_
          refine lv_topi (fun x10 ex10 => ?_)
          replace hZ9 := bnd_s hZ9 ex10
          refine lv_istore_n (lv' := [(3, .int x10), (4, .int (nI i1)), (0, .ref (a 4)), (1, .long p0)]) hx hb dX4_endOf_32 rfl hl (by decide) rfl (fun ls hl => ?_)
          refine lv_iinc (v := (nI (i1 + 1))) (lv' := [(4, .int (nI (i1 + 1))), (3, .int x10), (0, .ref (a 4)), (1, .long p0)]) hx hb dX4_endOf_33 hl (k := 1) rfl (nI_add i1 1) (by decide) rfl (fun ls hl => ?_)
          refine lv_goto (tgt := 5) hx hb dX4_endOf_36 (by decide) ?_
          exact ih3 (i1 + 1) x10  _ _ _ (by omega) (by omega)  hZ9 hP hD hS (lv_sub hl [0, 1, 2, 3] rfl)
  exact lp4 (40 + 1) 0 0  _ _ _ (by omega) (by omega)  hZ9 hP hD hS hl
def f_y_ptell (n : Nat) (dl : Nat → Nat) (p0 : Int32) (p1 : Int32) (L : Nat → Int64) (I : Nat → Int32) (J : Nat → Nat → Int32) : Int32 := bnd ((I 9).toNatClampNeg) (fun (z1 : Nat) => bnd ((nI z1) - (1 : Int32)) (fun (x2 : Int32) => if (0 : Int32) ≤ p0 ∧ p0 ≤ x2 then (bnd (p0.toNatClampNeg) (fun (j4 : Nat) => bnd ((J 0 (nI j4).toNatClampNeg).toNatClampNeg) (fun (z5 : Nat) => if p1 = 0 then (((nI z5))) else (if p1 = 1 then (bnd (L 8) (fun (x8 : Int64) => bnd (f_y_holds n dl x8 z5 ) (fun (r9 : Int32) => if r9 = (0 : Int32) then (((2 : Int32))) else (((1 : Int32)))))) else (if p1 = 2 then (bnd (J 1 (nI z5).toNatClampNeg) (fun (x12 : Int32) => (x12))) else (if p1 = 3 then (bnd (J 2 (nI z5).toNatClampNeg) (fun (x14 : Int32) => (x14))) else (((-1 : Int32))))))))) else (((-1 : Int32)))))
def wq_y_ptell : List Cond := ([.code yX4_tell cX4_tell 4 (some .int), .fieldLink RX4 25 "ServiceTree$Plan" "size" "I", .initialized RX8, .static yX8_within, .fieldLink RX4 9 "ServiceTree$Plan" "sorted" "[I", .fieldLink RX4 21 "ServiceTree$Plan" "starts" "J", .static yX8_holds, .fieldLink RX4 15 "ServiceTree$Plan" "begins" "[I", .fieldLink RX4 18 "ServiceTree$Plan" "ends" "[I"] : List Cond) ++ (wsX40 ++ (wq_y_within ++ (wq_y_holds)))
theorem in_y_ptell_X4 : ∀ w ∈ wsX40, w ∈ wq_y_ptell := fun _ h => List.mem_append_right _ (List.mem_append_left _ (h))
set_option maxRecDepth 20000 in
theorem wi_y_ptell : ∀ w ∈ wq_y_ptell, w ∈ lw_tbl := List.forall_mem_append.mpr ⟨(wix [818, 189, 60, 272, 185, 188, 488, 186, 187] rfl), List.forall_mem_append.mpr ⟨inKX4, List.forall_mem_append.mpr ⟨wi_y_within, wi_y_holds⟩⟩⟩
set_option maxRecDepth 20000 in
theorem wg_y_ptell : GoodIn wq_y_ptell wq_y_ptell := goodIn_sub (fun _ h => h) (by decide +kernel)
theorem wc_y_ptell_y_within_50 : GoodIn wq_y_ptell wq_y_within := (fun w h => ⟨List.mem_append_right _ (List.mem_append_right _ (List.mem_append_left _ (h))), (wg_y_within w h).2⟩)
theorem wc_y_ptell_y_holds_46 : GoodIn wq_y_ptell wq_y_holds := (fun w h => ⟨List.mem_append_right _ (List.mem_append_right _ (List.mem_append_right _ (h))), (wg_y_holds w h).2⟩)
def rm_y_ptell : Room := { frames := 1, cells := 0, slots := 0, locals := 22 }
set_option maxHeartbeats 4000000 in
set_option maxRecDepth 100000 in
theorem c_y_ptell (l : Launch) (dC : Nat → ClassId) (dI : Nat → Nat → Nat) (h : Nat) (a : Nat → Nat) (e : Nat) (cI cJ cO cE : ClassId) (L : Nat → Int64) (I : Nat → Int32) (M : Nat → Nat → Int64) (J : Nat → Nat → Int32) (n cap : Nat) (fE : Nat → Option Nat) (sd : Nat → Nat → Nat) (si : Nat → Nat → Int32) (sa : Nat → Nat → Nat → Int32) (dl : Nat → Nat) (b : Nat) (p0 : Int32) (p1 : Int32) (sz : Nat) (hX0 : InvX n cap fE sd dl b I J si) (hb0 : b + 0 < 2147483648)  : Met l yX4_tell wq_y_ptell rm_y_ptell (va_Pc [.ref (a 4), .int p0, .int p1] (fun U => U.heap.size = sz ∧ va_P (dC, dI) vwCl (xW h a e cI cJ cO cE L I M J n cap fE sd si sa dl) U.heap ∧ va_K (dC, dI) vwCl (xT cI cJ cO cE) U ∧ va_D (fun _ => True) (xW h a e cI cJ cO cE L I M J n cap fE sd si sa dl) ∧ pw_N U)) (va_Qi (fun (r : Int32) (u : Unit) => (r = f_y_ptell n dl p0 p1 L I J)) (fun (u : Unit) (t : State) => va_P (dC, dI) vwCl (xW h a e cI cJ cO cE L I M J n cap fE sd si sa dl) t.heap ∧ va_D (va_A (xW h a e cI cJ cO cE L I M J n cap fE sd si sa dl) sz) (xW h a e cI cJ cO cE L I M J n cap fE sd si sa dl)) (va_A (xW h a e cI cJ cO cE L I M J n cap fE sd si sa dl) sz)) 0 0 (va_A (xW h a e cI cJ cO cE L I M J n cap fE sd si sa dl) sz) := by
  have hn : n ≤ 40 := hX0.1.1
  have hX := hX0
  refine Met.ofW (cc := cX4_tell) (maxL := 4) (ret := (some .int)) (by decide) rfl ?_
  intro p e9 s m args below meth c s₁ B hml hv
  obtain ⟨rfl, hsz, hP, hK, hD0, hN⟩ := hv
  have hx := B.exec
  have hb := B.bytes
  have hr := B.returns
  have hts := atoms_spec (ws := wq_y_ptell) B.pre
  have hown : s.vm.findClass RX4 = some m.cls := findClass_of_methodNamed B.named
  have hlocks := B.notSynchronized
  subst hsz
  have hD := hD0.self (sz := s.heap.size)
  generalize hAe : va_A (xW h a e cI cJ cO cE L I M J n cap fE sd si sa dl) s.heap.size = A at hD ⊢
  have hA : ∀ q : Nat, s.heap.size ≤ q → A q := fun q h => by rw [← hAe]; exact Or.inr h
  have hS : va_S A s.heap s.heap [] := va_S.rf
  have hl := lv_entry ([.ref (a 4), .int p0, .int p1]) (n := 4) (Nat.le_of_ble_eq_true rfl)
  rw [lg_entry_eq]
  generalize (lg_sl ([.ref (a 4), .int p0, .int p1]) ++ List.replicate (4 - (lg_sl ([.ref (a 4), .int p0, .int p1])).length) Slot.unset).toArray = ls at hl ⊢
  have hl : lv_has ls 4 [(0, .ref (a 4)), (1, .int p0), (2, .int p1)] := hl
  obtain ⟨RES, hR0⟩ : ∃ R9, R9 = f_y_ptell n dl p0 p1 L I J := ⟨_, rfl⟩
  have hZ9 := hR0
  unfold f_y_ptell at hZ9
  refine lv_iload_n hx hb dX4_tell_0 rfl (lv_at hl 1 rfl) ?_
  refine lv_iconst (v := 0) hx hb dX4_tell_1 (by decide) ?_
  refine lv_aload_n hx hb dX4_tell_2 rfl (lv_at hl 0 rfl) ?_
  refine va_get (D := (dC, dI)) (ci := 5) (v := .int (I 9)) (C := RX4) (T := TX4) (N := 7) hx hb hts in_y_ptell_X4 hown hK hP 15 rfl rfl 4 (by decide) (hts (.fieldLink RX4 25 "ServiceTree$Plan" "size" "I") (by decide +kernel)) (fun _ h9 => h9) rfl dX4_tell_3 ?_
  obtain ⟨z1, hz1, ez1⟩ := hX.2.1.1
  refine p1_topr (v := .int (nI z1)) (congrArg Value.int ez1) ?_
  replace hZ9 := bnd_s hZ9 (show z1 = (I 9).toNatClampNeg by rw [ez1, nI_clamp (by omega)])
  refine lv_iconst (v := 1) hx hb dX4_tell_6 (by decide) ?_
  refine lv_isub hx hb dX4_tell_7 ?_
  refine lv_topi (fun x2 ex2 => ?_)
  replace hZ9 := bnd_s hZ9 ex2
  have hFc := mw_free hD hS hA
  refine va_calli (va_runSN (As := [.int p0, .int 0, .int x2]) (rest := []) ⟨hx, hb, hml, hown, hts⟩ (c_y_within l dC dI h a e cI cJ cO cE L I M J n cap fE sd si sa dl (b) p0 0 x2 s.heap.size hX (by omega) ) ⟨va_cnB 3 hts wc_y_ptell_y_within_50 rfl rfl rfl (hN (.methodLinkNest RX4 50 yX8_within "ServiceTree") (by decide +kernel)) (hts (.initialized RX8) (by decide +kernel)) (by decide +kernel) ⟨Nat.le_of_ble_eq_true rfl, Nat.le_of_ble_eq_true rfl⟩, hts (.static yX8_within) (by decide +kernel), trivial⟩ ⟨fun a9 U g mk q => by obtain ⟨q0, q1, qP, qK, qD, qN⟩ := q; exact ⟨q0, q1, qP, va_K.moved (u := U) (U := U.calling g mk a9) (Vm.Alike.refl U.vm) qK, qD, pw_N.same (u := U) (U := U.calling g mk a9) rfl qN⟩, fun U hU hW => ⟨rfl, by rw [hU], by rw [hU]; exact hP, va_K.moved hW.alike hK, hD.weaken (fun _ _ _ _ => trivial), pw_N.warm hW hN⟩⟩ rfl rfl hl.1 rfl (lv_room (Nat.le_of_ble_eq_true rfl)) dX4_tell_8 ⟨Nat.le_of_ble_eq_true rfl, Nat.le_of_ble_eq_true rfl⟩) hS (fun q _ h => hFc q h) hFc (fun r3 u t H1 locs ht hvm hw hB hz1 hk1 hS => ?_)
  replace hP := hB.1
  rw [ht] at hP
  replace hD : va_D A (xW h a e cI cJ cO cE L I M J n cap fE sd si sa dl) := hB.2.weaken (fun _ q _ h9 => hFc q.1 h9)
  clear hB
  generalize H1 = H at hP hS ⊢
  replace hP : va_P (dC, dI) vwCl (xW h a e cI cJ cO cE L I M J n cap fE sd si sa dl) H := hP
  rcases hw with ⟨rfl, haj4, hbj4⟩ | ⟨rfl, noj4⟩
  · replace hZ9 := ite_t hZ9 ⟨haj4, hbj4⟩
    obtain ⟨j4, hj4, ej4⟩ := xw_within (z := z1) (by omega) haj4 hbj4 ex2
    replace hZ9 := bnd_s hZ9 (show j4 = p0.toNatClampNeg by rw [ej4, nI_clamp (by omega)])
    subst ej4
    refine lv_if_ne (tgt := 16) hx hb dX4_tell_11 (by decide) (fun _ => ?_) (fun c9 => absurd c9 (by decide))
    refine lv_aload_n hx hb dX4_tell_16 rfl (lv_at hl 0 rfl) ?_
    refine va_get (D := (dC, dI)) (ci := 5) (v := .ref (a 12)) (C := RX4) (T := TX4) (N := 7) hx hb hts in_y_ptell_X4 hown hK hP 15 rfl rfl 0 (by decide) (hts (.fieldLink RX4 9 "ServiceTree$Plan" "sorted" "[I") (by decide +kernel)) (fun _ h9 => h9) rfl dX4_tell_17 ?_
    refine lv_iload_n hx hb dX4_tell_20 rfl (lv_at hl 1 rfl) ?_
    refine va_iald (n := 40) (f := J 0) hx hb hK hP 16 0 rfl rfl (vp_in_nI (n := j4) (by omega) (by omega)) dX4_tell_21 ?_
    obtain ⟨z5, hz5, ez5⟩ := hX.2.2.1 (nI j4).toNatClampNeg
    refine p1_topr (v := .int (nI z5)) (congrArg Value.int ez5) ?_
    replace hZ9 := bnd_s hZ9 (show z5 = (J 0 (nI j4).toNatClampNeg).toNatClampNeg by rw [ez5, nI_clamp (by omega)])
    refine lv_istore_n (lv' := [(3, .int (nI z5)), (0, .ref (a 4)), (1, .int (nI j4)), (2, .int p1)]) hx hb dX4_tell_22 rfl hl (by decide) rfl (fun ls hl => ?_)
    refine lv_iload_n hx hb dX4_tell_23 rfl (lv_at hl 3 rfl) ?_
    rcases Classical.em (p1 = 0) with c6 | c6
    · replace hZ9 := ite_t hZ9 c6
      refine lv_tableIn (tgt := 56) (off := 32) hx hb dX4_tell_24 (by rw [c6]; decide) (by rw [c6]; decide) (by rw [c6]; rfl) (by decide) ?_
      refine lv_iload_n hx hb dX4_tell_56 rfl (lv_at hl 0 rfl) ?_
      exact W.iret (v := (nI z5)) hx hb hr (fun t ht hW => ⟨⟨(nI z5), (), rfl, hZ9.symm.trans hR0, by rw [ht]; exact hP, hD⟩, hS.F ht⟩) hS.2.2 dX4_tell_57
    replace hZ9 := ite_f hZ9 c6
    rcases Classical.em (p1 = 1) with c7 | c7
    · replace hZ9 := ite_t hZ9 c7
      refine lv_tableIn (tgt := 58) (off := 34) hx hb dX4_tell_24 (by rw [c7]; decide) (by rw [c7]; decide) (by rw [c7]; rfl) (by decide) ?_
      refine lv_aload_n hx hb dX4_tell_58 rfl (lv_at hl 1 rfl) ?_
      refine va_get (D := (dC, dI)) (ci := 5) (v := .long (L 8)) (C := RX4) (T := TX4) (N := 7) hx hb hts in_y_ptell_X4 hown hK hP 15 rfl rfl 3 (by decide) (hts (.fieldLink RX4 21 "ServiceTree$Plan" "starts" "J") (by decide +kernel)) (fun _ h9 => h9) rfl dX4_tell_59 ?_
      refine lv_topl (fun x8 ex8 => ?_)
      replace hZ9 := bnd_s hZ9 ex8
      refine lv_iload_n hx hb dX4_tell_62 rfl (lv_at hl 0 rfl) ?_
      have hFc := mw_free hD hS hA
      refine va_calli (va_runSN (As := [.long x8, .int (nI z5)]) (rest := []) ⟨hx, hb, hml, hown, hts⟩ (c_y_holds l dC dI h a e cI cJ cO cE L I M J n cap fE sd si sa dl (b) x8 z5 H.size hX (by omega) ) ⟨va_cnB 2 hts wc_y_ptell_y_holds_46 rfl rfl rfl (hN (.methodLinkNest RX4 46 yX8_holds "ServiceTree") (by decide +kernel)) (hts (.initialized RX8) (by decide +kernel)) (by decide +kernel) ⟨Nat.le_of_ble_eq_true rfl, Nat.le_of_ble_eq_true rfl⟩, hts (.static yX8_holds) (by decide +kernel), trivial⟩ ⟨fun a9 U g mk q => by obtain ⟨q0, q1, qP, qK, qD, qN⟩ := q; exact ⟨q0, q1, qP, va_K.moved (u := U) (U := U.calling g mk a9) (Vm.Alike.refl U.vm) qK, qD, pw_N.same (u := U) (U := U.calling g mk a9) rfl qN⟩, fun U hU hW => ⟨rfl, by rw [hU], by rw [hU]; exact hP, va_K.moved hW.alike hK, hD.weaken (fun _ _ _ _ => trivial), pw_N.warm hW hN⟩⟩ rfl rfl hl.1 rfl (lv_room (Nat.le_of_ble_eq_true rfl)) dX4_tell_63 ⟨Nat.le_of_ble_eq_true rfl, Nat.le_of_ble_eq_true rfl⟩) hS (fun q _ h => hFc q h) hFc (fun r9 u t H1 locs ht hvm hw hB hz1 hk1 hS => ?_)
      replace hP := hB.1
      rw [ht] at hP
      replace hD : va_D A (xW h a e cI cJ cO cE L I M J n cap fE sd si sa dl) := hB.2.weaken (fun _ q _ h9 => hFc q.1 h9)
      clear hB
      generalize H1 = H at hP hS ⊢
      replace hP : va_P (dC, dI) vwCl (xW h a e cI cJ cO cE L I M J n cap fE sd si sa dl) H := hP
      obtain ⟨hw, hwe⟩ := hw
      replace hw : r9 = f_y_holds n dl x8 z5  := hw
      replace hZ9 := bnd_s hZ9 hw
      have br9 := hwe
      refine lv_if_eq (tgt := 73) hx hb dX4_tell_66 (by decide) (fun c10 => ?_) (fun c10 => ?_)
      · replace hZ9 := ite_t hZ9 c10
        refine lv_iconst (v := 2) hx hb dX4_tell_73 (by decide) ?_
        exact W.iret (v := 2) hx hb hr (fun t ht hW => ⟨⟨2, (), rfl, hZ9.symm.trans hR0, by rw [ht]; exact hP, hD⟩, hS.F ht⟩) hS.2.2 dX4_tell_74
      · replace hZ9 := ite_f hZ9 c10
        refine lv_iconst (v := 1) hx hb dX4_tell_69 (by decide) ?_
        refine lv_goto (tgt := 74) hx hb dX4_tell_70 (by decide) ?_
        exact W.iret (v := 1) hx hb hr (fun t ht hW => ⟨⟨1, (), rfl, hZ9.symm.trans hR0, by rw [ht]; exact hP, hD⟩, hS.F ht⟩) hS.2.2 dX4_tell_74
    replace hZ9 := ite_f hZ9 c7
    rcases Classical.em (p1 = 2) with c11 | c11
    · replace hZ9 := ite_t hZ9 c11
      refine lv_tableIn (tgt := 75) (off := 51) hx hb dX4_tell_24 (by rw [c11]; decide) (by rw [c11]; decide) (by rw [c11]; rfl) (by decide) ?_
      refine lv_aload_n hx hb dX4_tell_75 rfl (lv_at hl 1 rfl) ?_
      refine va_get (D := (dC, dI)) (ci := 5) (v := .ref (a 13)) (C := RX4) (T := TX4) (N := 7) hx hb hts in_y_ptell_X4 hown hK hP 15 rfl rfl 1 (by decide) (hts (.fieldLink RX4 15 "ServiceTree$Plan" "begins" "[I") (by decide +kernel)) (fun _ h9 => h9) rfl dX4_tell_76 ?_
      refine lv_iload_n hx hb dX4_tell_79 rfl (lv_at hl 0 rfl) ?_
      refine va_iald (n := 40) (f := J 1) hx hb hK hP 17 0 rfl rfl (vp_in_nI (n := z5) (by omega) (by omega)) dX4_tell_80 ?_
      refine lv_topi (fun x12 ex12 => ?_)
      replace hZ9 := bnd_s hZ9 ex12
      exact W.iret (v := x12) hx hb hr (fun t ht hW => ⟨⟨x12, (), rfl, hZ9.symm.trans hR0, by rw [ht]; exact hP, hD⟩, hS.F ht⟩) hS.2.2 dX4_tell_81
    replace hZ9 := ite_f hZ9 c11
    rcases Classical.em (p1 = 3) with c13 | c13
    · replace hZ9 := ite_t hZ9 c13
      refine lv_tableIn (tgt := 82) (off := 58) hx hb dX4_tell_24 (by rw [c13]; decide) (by rw [c13]; decide) (by rw [c13]; rfl) (by decide) ?_
      refine lv_aload_n hx hb dX4_tell_82 rfl (lv_at hl 1 rfl) ?_
      refine va_get (D := (dC, dI)) (ci := 5) (v := .ref (a 14)) (C := RX4) (T := TX4) (N := 7) hx hb hts in_y_ptell_X4 hown hK hP 15 rfl rfl 2 (by decide) (hts (.fieldLink RX4 18 "ServiceTree$Plan" "ends" "[I") (by decide +kernel)) (fun _ h9 => h9) rfl dX4_tell_83 ?_
      refine lv_iload_n hx hb dX4_tell_86 rfl (lv_at hl 0 rfl) ?_
      refine va_iald (n := 40) (f := J 2) hx hb hK hP 18 0 rfl rfl (vp_in_nI (n := z5) (by omega) (by omega)) dX4_tell_87 ?_
      refine lv_topi (fun x14 ex14 => ?_)
      replace hZ9 := bnd_s hZ9 ex14
      exact W.iret (v := x14) hx hb hr (fun t ht hW => ⟨⟨x14, (), rfl, hZ9.symm.trans hR0, by rw [ht]; exact hP, hD⟩, hS.F ht⟩) hS.2.2 dX4_tell_88
    replace hZ9 := ite_f hZ9 c13
    refine lv_tableOut (tgt := 89) hx hb dX4_tell_24 (by have k0 := c6; have k1 := c7; have k2 := c11; have k3 := c13; simp only [p1_le, p1_lt, p1_eq, p1_m6, p1_m1, p1_0, p1_1, p1_2, p1_3, p1_4, p1_5, p1_6, p1_7, p1_8, p1_9, p1_10, p1_11, p1_12, p1_13, p1_14, p1_15, p1_16, p1_17, p1_18, p1_19, p1_20, p1_40, p1_50, p1_200, p1_1000] at k0 k1 k2 k3 ⊢; omega) (by decide) ?_
    refine lv_iconst (v := (-1)) hx hb dX4_tell_89 (by decide) ?_
    exact W.iret (v := (-1)) hx hb hr (fun t ht hW => ⟨⟨(-1), (), rfl, hZ9.symm.trans hR0, by rw [ht]; exact hP, hD⟩, hS.F ht⟩) hS.2.2 dX4_tell_90
  · replace hZ9 := ite_f hZ9 noj4
    refine lv_if_ne (tgt := 16) hx hb dX4_tell_11 (by decide) (fun c9 => absurd (by decide) c9) (fun _ => ?_)
    refine lv_iconst (v := (-1)) hx hb dX4_tell_14 (by decide) ?_
    exact W.iret (v := (-1)) hx hb hr (fun t ht hW => ⟨⟨(-1), (), rfl, hZ9.symm.trans hR0, by rw [ht]; exact hP, hD⟩, hS.F ht⟩) hS.2.2 dX4_tell_15
def wq_y_exists : List Cond := ([.code yX8_exists cX8_exists 2 (some .boolean), .fieldLink RX8 10 "ServiceTree" "services" "Ljava/util/ArrayList;", .methodLink RX8 61 yJx4a65c_size_8abf5, .instanceMethod yJx4a65c_size_8abf5, .selects RJx4a65c yJx4a65c_size_8abf5 yJx4a65c_size_8abf5, .initialized RJx4a65c, .methodLink RX8 57 yX8_within, .static yX8_within, .initialized RX8] : List Cond) ++ (wsX80 ++ (wq_y_size ++ (wq_y_within)))
theorem in_y_exists_X8 : ∀ w ∈ wsX80, w ∈ wq_y_exists := fun _ h => List.mem_append_right _ (List.mem_append_left _ (h))
set_option maxRecDepth 20000 in
theorem wi_y_exists : ∀ w ∈ wq_y_exists, w ∈ lw_tbl := List.forall_mem_append.mpr ⟨(wix [452, 224, 274, 275, 276, 63, 271, 272, 60] rfl), List.forall_mem_append.mpr ⟨inKX8, List.forall_mem_append.mpr ⟨wi_y_size, wi_y_within⟩⟩⟩
set_option maxRecDepth 20000 in
theorem wg_y_exists : GoodIn wq_y_exists wq_y_exists := goodIn_sub (fun _ h => h) (by decide +kernel)
set_option maxRecDepth 20000 in
theorem wc_y_exists_y_size_61 : GoodIn wq_y_exists (wsV RX8 61 RJx4a65c yJx4a65c_size_8abf5 wq_y_size) := goodIn_app (goodIn_of _ (by decide +kernel)) (fun w h => ⟨List.mem_append_right _ (List.mem_append_right _ (List.mem_append_left _ (h))), (wg_y_size w h).2⟩)
set_option maxRecDepth 20000 in
theorem wc_y_exists_y_within_57 : GoodIn wq_y_exists (va_wsS RX8 57 yX8_within wq_y_within) := goodIn_app (goodIn_of _ (by decide +kernel)) (fun w h => ⟨List.mem_append_right _ (List.mem_append_right _ (List.mem_append_right _ (h))), (wg_y_within w h).2⟩)
def rm_y_exists : Room := { frames := 1, cells := 0, slots := 0, locals := 22 }
set_option maxHeartbeats 4000000 in
set_option maxRecDepth 100000 in
theorem c_y_exists (l : Launch) (dC : Nat → ClassId) (dI : Nat → Nat → Nat) (h : Nat) (a : Nat → Nat) (e : Nat) (cI cJ cO cE : ClassId) (L : Nat → Int64) (I : Nat → Int32) (M : Nat → Nat → Int64) (J : Nat → Nat → Int32) (n cap : Nat) (fE : Nat → Option Nat) (sd : Nat → Nat → Nat) (si : Nat → Nat → Int32) (sa : Nat → Nat → Nat → Int32) (dl : Nat → Nat) (b : Nat) (p0 : Int32) (sz : Nat) (hX0 : InvX n cap fE sd dl b I J si) (hb0 : b + 0 < 2147483648)  : Met l yX8_exists wq_y_exists rm_y_exists (va_Pc [.ref h, .int p0] (fun U => U.heap.size = sz ∧ va_P (dC, dI) vwCl (xW h a e cI cJ cO cE L I M J n cap fE sd si sa dl) U.heap ∧ va_K (dC, dI) vwCl (xT cI cJ cO cE) U ∧ va_D (fun _ => True) (xW h a e cI cJ cO cE L I M J n cap fE sd si sa dl) ∧ pw_N U)) (va_Qi (fun (r : Int32) (u : Unit) => ((r = 1 ∧ ∃ j : Nat, j < n ∧ p0 = nI j) ∨ (r = 0 ∧ ¬ (0 ≤ p0 ∧ p0 < nI n)))) (fun (u : Unit) (t : State) => va_P (dC, dI) vwCl (xW h a e cI cJ cO cE L I M J n cap fE sd si sa dl) t.heap ∧ va_D (va_A (xW h a e cI cJ cO cE L I M J n cap fE sd si sa dl) sz) (xW h a e cI cJ cO cE L I M J n cap fE sd si sa dl)) (va_A (xW h a e cI cJ cO cE L I M J n cap fE sd si sa dl) sz)) 0 0 (va_A (xW h a e cI cJ cO cE L I M J n cap fE sd si sa dl) sz) := by
  have hn : n ≤ 40 := hX0.1.1
  have hX := hX0
  refine Met.ofW (cc := cX8_exists) (maxL := 2) (ret := (some .boolean)) (by decide) rfl ?_
  intro p e9 s m args below meth c s₁ B hml hv
  obtain ⟨rfl, hsz, hP, hK, hD0, hN⟩ := hv
  have hx := B.exec
  have hb := B.bytes
  have hr := B.returns
  have hts := atoms_spec (ws := wq_y_exists) B.pre
  have hown : s.vm.findClass RX8 = some m.cls := findClass_of_methodNamed B.named
  have hlocks := B.notSynchronized
  subst hsz
  have hD := hD0.self (sz := s.heap.size)
  generalize hAe : va_A (xW h a e cI cJ cO cE L I M J n cap fE sd si sa dl) s.heap.size = A at hD ⊢
  have hA : ∀ q : Nat, s.heap.size ≤ q → A q := fun q h => by rw [← hAe]; exact Or.inr h
  have hS : va_S A s.heap s.heap [] := va_S.rf
  have hl := lv_entry ([.ref h, .int p0]) (n := 2) (Nat.le_of_ble_eq_true rfl)
  rw [lg_entry_eq]
  generalize (lg_sl ([.ref h, .int p0]) ++ List.replicate (2 - (lg_sl ([.ref h, .int p0])).length) Slot.unset).toArray = ls at hl ⊢
  have hl : lv_has ls 2 [(0, .ref h), (1, .int p0)] := hl
  obtain ⟨RES, hZ9⟩ : ∃ R9 : Unit, R9 = R9 := ⟨(), rfl⟩
  refine lv_iload_n hx hb dX8_exists_0 rfl (lv_at hl 1 rfl) ?_
  refine lv_iconst (v := 0) hx hb dX8_exists_1 (by decide) ?_
  refine lv_aload_n hx hb dX8_exists_2 rfl (lv_at hl 0 rfl) ?_
  refine va_get (D := (dC, dI)) (ci := 9) (v := .ref (a 0)) (C := RX8) (T := TX8) (N := 14) hx hb hts in_y_exists_X8 hown hK hP 0 rfl rfl 0 (by decide) (hts (.fieldLink RX8 10 "ServiceTree" "services" "Ljava/util/ArrayList;") (by decide +kernel)) (fun _ h9 => h9) rfl dX8_exists_3 ?_
  have hFc := mw_free hD hS hA
  refine va_calli (va_runV (As := []) (rest := [.int 0, .int p0]) ⟨hx, hb, hml, hown, hts⟩ (c_y_size l dC dI h a e cI cJ cO cE L I M J n cap fE sd si sa dl (b)  s.heap.size hX (by omega) ) (cwV 0 hts wc_y_exists_y_size_61 rfl rfl rfl (by decide +kernel) ⟨Nat.le_of_ble_eq_true rfl, Nat.le_of_ble_eq_true rfl⟩) ⟨fun a9 U g mk q => by obtain ⟨q0, q1, qP, qK, qD, qN⟩ := q; exact ⟨q0, q1, qP, va_K.moved (u := U) (U := U.calling g mk a9) (Vm.Alike.refl U.vm) qK, qD, pw_N.same (u := U) (U := U.calling g mk a9) rfl qN⟩, va_recv hK hP (ci := 0) (q0 := 1) rfl rfl, fun U hU hW => ⟨rfl, by rw [hU], by rw [hU]; exact hP, va_K.moved hW.alike hK, hD.weaken (fun _ _ _ _ => trivial), pw_N.warm hW hN⟩⟩ rfl rfl hl.1 rfl (lv_room (Nat.le_of_ble_eq_true rfl)) dX8_exists_6 ⟨Nat.le_of_ble_eq_true rfl, Nat.le_of_ble_eq_true rfl⟩) hS (fun q _ h => hFc q h) hFc (fun r1 u t H1 locs ht hvm hw hB hz1 hk1 hS => ?_)
  replace hP := hB.1
  rw [ht] at hP
  replace hD : va_D A (xW h a e cI cJ cO cE L I M J n cap fE sd si sa dl) := hB.2.weaken (fun _ q _ h9 => hFc q.1 h9)
  clear hB
  generalize H1 = H at hP hS ⊢
  replace hP : va_P (dC, dI) vwCl (xW h a e cI cJ cO cE L I M J n cap fE sd si sa dl) H := hP
  obtain rfl : r1 = nI n := hw
  refine lv_iconst (v := 1) hx hb dX8_exists_9 (by decide) ?_
  refine lv_isub hx hb dX8_exists_10 ?_
  refine lv_topi (fun x2 ex2 => ?_)
  skip
  have hFc := mw_free hD hS hA
  refine va_calli (va_runS (As := [.int p0, .int 0, .int x2]) (rest := []) ⟨hx, hb, hml, hown, hts⟩ (c_y_within l dC dI h a e cI cJ cO cE L I M J n cap fE sd si sa dl (b) p0 0 x2 H.size hX (by omega) ) (va_cwS 3 hts wc_y_exists_y_within_57 rfl rfl rfl (by decide +kernel) ⟨Nat.le_of_ble_eq_true rfl, Nat.le_of_ble_eq_true rfl⟩) ⟨fun a9 U g mk q => by obtain ⟨q0, q1, qP, qK, qD, qN⟩ := q; exact ⟨q0, q1, qP, va_K.moved (u := U) (U := U.calling g mk a9) (Vm.Alike.refl U.vm) qK, qD, pw_N.same (u := U) (U := U.calling g mk a9) rfl qN⟩, fun U hU hW => ⟨rfl, by rw [hU], by rw [hU]; exact hP, va_K.moved hW.alike hK, hD.weaken (fun _ _ _ _ => trivial), pw_N.warm hW hN⟩⟩ rfl rfl hl.1 rfl (lv_room (Nat.le_of_ble_eq_true rfl)) dX8_exists_11 ⟨Nat.le_of_ble_eq_true rfl, Nat.le_of_ble_eq_true rfl⟩) hS (fun q _ h => hFc q h) hFc (fun r3 u t H1 locs ht hvm hw hB hz1 hk1 hS => ?_)
  replace hP := hB.1
  rw [ht] at hP
  replace hD : va_D A (xW h a e cI cJ cO cE L I M J n cap fE sd si sa dl) := hB.2.weaken (fun _ q _ h9 => hFc q.1 h9)
  clear hB
  generalize H1 = H at hP hS ⊢
  replace hP : va_P (dC, dI) vwCl (xW h a e cI cJ cO cE L I M J n cap fE sd si sa dl) H := hP
  rcases hw with ⟨rfl, haj4, hbj4⟩ | ⟨rfl, noj4⟩
  · skip
    obtain ⟨j4, hj4, ej4⟩ := xw_within (z := n) (by omega) haj4 hbj4 ex2
    skip
    subst ej4
    exact W.zret (v := 1) hx hb hr (by decide) (fun t ht hW => ⟨⟨1, (), rfl, Or.inl ⟨rfl, j4, hj4, rfl⟩, by rw [ht]; exact hP, hD⟩, hS.F ht⟩) hS.2.2 dX8_exists_14
  · skip
    exact W.zret (v := 0) hx hb hr (by decide) (fun t ht hW => ⟨⟨0, (), rfl, Or.inr ⟨rfl, fun q9 => noj4 ⟨q9.1, by rw [ex2]; exact xw_pred (by omega) q9.2⟩⟩, by rw [ht]; exact hP, hD⟩, hS.F ht⟩) hS.2.2 dX8_exists_14
def wq_y_floorMod : List Cond := [.code yJ9_floorMod_7cf53 cJ9_floorMod_7cf53 3 (some .int)]
set_option maxRecDepth 20000 in
theorem wi_y_floorMod : ∀ w ∈ wq_y_floorMod, w ∈ lw_tbl := (wix [614] rfl)
set_option maxRecDepth 20000 in
theorem wg_y_floorMod : GoodIn wq_y_floorMod wq_y_floorMod := goodIn_sub (fun _ h => h) (by decide +kernel)
def rm_y_floorMod : Room := { frames := 0, cells := 0, slots := 0, locals := 0 }
set_option maxHeartbeats 4000000 in
set_option maxRecDepth 100000 in
theorem c_y_floorMod (l : Launch) (dC : Nat → ClassId) (dI : Nat → Nat → Nat) (h : Nat) (a : Nat → Nat) (e : Nat) (cI cJ cO cE : ClassId) (L : Nat → Int64) (I : Nat → Int32) (M : Nat → Nat → Int64) (J : Nat → Nat → Int32) (n cap : Nat) (fE : Nat → Option Nat) (sd : Nat → Nat → Nat) (si : Nat → Nat → Int32) (sa : Nat → Nat → Nat → Int32) (dl : Nat → Nat) (b : Nat) (xv : Nat) (sz : Nat) (hX0 : InvX n cap fE sd dl b I J si) (hb0 : b + 0 < 2147483648) (hp0 : xv < 2147483648) : Met l yJ9_floorMod_7cf53 wq_y_floorMod rm_y_floorMod (va_Pc [.int (nI xv), .int 2000] (fun U => U.heap.size = sz ∧ va_P (dC, dI) vwCl (xW h a e cI cJ cO cE L I M J n cap fE sd si sa dl) U.heap ∧ va_K (dC, dI) vwCl (xT cI cJ cO cE) U ∧ va_D (fun _ => True) (xW h a e cI cJ cO cE L I M J n cap fE sd si sa dl) ∧ pw_N U)) (va_Qi (fun (r : Int32) (u : Unit) => (r = nI (xv % 2000))) (fun (u : Unit) (t : State) => va_P (dC, dI) vwCl (xW h a e cI cJ cO cE L I M J n cap fE sd si sa dl) t.heap ∧ va_D (va_A (xW h a e cI cJ cO cE L I M J n cap fE sd si sa dl) sz) (xW h a e cI cJ cO cE L I M J n cap fE sd si sa dl)) (va_A (xW h a e cI cJ cO cE L I M J n cap fE sd si sa dl) sz)) 0 0 (va_A (xW h a e cI cJ cO cE L I M J n cap fE sd si sa dl) sz) := by
  have hn : n ≤ 40 := hX0.1.1
  have hX := hX0
  refine xw_ofWF (cc := cJ9_floorMod_7cf53) (maxL := 3) (ret := (some .int)) (by decide +kernel) rfl ?_
  intro p e9 s m args below meth c s₁ B hml hv
  obtain ⟨rfl, hsz, hP, hK, hD0, hN⟩ := hv
  have hx := B.exec
  have hb := B.bytes
  have hr := B.returns
  have hts := atoms_spec (ws := wq_y_floorMod) B.pre
  have hown : s.vm.findClass RJ9 = some m.cls := findClass_of_methodNamed B.named
  have hlocks := B.notSynchronized
  subst hsz
  have hD := hD0.self (sz := s.heap.size)
  generalize hAe : va_A (xW h a e cI cJ cO cE L I M J n cap fE sd si sa dl) s.heap.size = A at hD ⊢
  have hA : ∀ q : Nat, s.heap.size ≤ q → A q := fun q h => by rw [← hAe]; exact Or.inr h
  have hS : va_S A s.heap s.heap [] := va_S.rf
  have hl := lv_entry ([.int (nI xv), .int 2000]) (n := 3) (Nat.le_of_ble_eq_true rfl)
  rw [lg_entry_eq]
  generalize (lg_sl ([.int (nI xv), .int 2000]) ++ List.replicate (3 - (lg_sl ([.int (nI xv), .int 2000])).length) Slot.unset).toArray = ls at hl ⊢
  have hl : lv_has ls 3 [(0, .int (nI xv)), (1, .int 2000)] := hl
  obtain ⟨RES, hZ9⟩ : ∃ R9 : Unit, R9 = R9 := ⟨(), rfl⟩
  refine lv_iload_n hx hb dJ9_floorMod_7cf53_0 rfl (lv_at hl 0 rfl) ?_
  refine lv_iload_n hx hb dJ9_floorMod_7cf53_1 rfl (lv_at hl 1 rfl) ?_
  refine lv_irem hx hb dJ9_floorMod_7cf53_2 (by decide) ?_
  obtain ⟨m1, hm1, em1⟩ : ∃ z9 : Nat, z9 < 2000 ∧ z9 = xv % 2000 := ⟨_, Nat.mod_lt _ (by omega), rfl⟩
  refine p1_topr (v := .int (nI m1)) (congrArg Value.int (by rw [em1]; exact pk_rem (a := xv) (d := 2000) (by omega) (by omega) (by omega))) ?_
  skip
  refine lv_istore_n (lv' := [(2, .int (nI m1)), (0, .int (nI xv)), (1, .int 2000)]) hx hb dJ9_floorMod_7cf53_3 rfl hl (by decide) rfl (fun ls hl => ?_)
  refine lv_iload_n hx hb dJ9_floorMod_7cf53_4 rfl (lv_at hl 1 rfl) ?_
  refine lv_iload_n hx hb dJ9_floorMod_7cf53_5 rfl (lv_at hl 2 rfl) ?_
  refine lv_ixor hx hb dJ9_floorMod_7cf53_6 ?_
  refine lv_topi (fun x2 ex2 => ?_)
  skip
  refine lv_if_ge (tgt := 18) hx hb dJ9_floorMod_7cf53_7 (by decide) (fun c3 => ?_) (fun c3 => ?_)
  · refine lv_iload_n hx hb dJ9_floorMod_7cf53_18 rfl (lv_at hl 0 rfl) ?_
    exact W.iret (v := (nI m1)) hx hb hr (fun t ht hW => ⟨⟨(nI m1), (), rfl, by rw [← em1], by rw [ht]; exact hP, hD⟩, hS.F ht⟩) hS.2.2 dJ9_floorMod_7cf53_19
  · exact absurd (xw_xor (by omega) ex2) c3
def f_y_bitCount (n : Nat) (dl : Nat → Nat) (p0 : Int64)  : Int32 := bnd ((p0.toUInt64 >>> ((1 : Int32).toInt64.toUInt64 &&& Int64.toUInt64 63)).toInt64) (fun (x1 : Int64) => bnd (x1 &&& (6148914691236517205 : Int64)) (fun (x2 : Int64) => bnd (p0 - x2) (fun (x3 : Int64) => bnd (x3 &&& (3689348814741910323 : Int64)) (fun (x4 : Int64) => bnd ((x3.toUInt64 >>> ((2 : Int32).toInt64.toUInt64 &&& Int64.toUInt64 63)).toInt64) (fun (x5 : Int64) => bnd (x5 &&& (3689348814741910323 : Int64)) (fun (x6 : Int64) => bnd (x4 + x6) (fun (x7 : Int64) => bnd ((x7.toUInt64 >>> ((4 : Int32).toInt64.toUInt64 &&& Int64.toUInt64 63)).toInt64) (fun (x8 : Int64) => bnd (x7 + x8) (fun (x9 : Int64) => bnd (x9 &&& (1085102592571150095 : Int64)) (fun (x10 : Int64) => bnd ((x10.toUInt64 >>> ((8 : Int32).toInt64.toUInt64 &&& Int64.toUInt64 63)).toInt64) (fun (x11 : Int64) => bnd (x10 + x11) (fun (x12 : Int64) => bnd ((x12.toUInt64 >>> ((16 : Int32).toInt64.toUInt64 &&& Int64.toUInt64 63)).toInt64) (fun (x13 : Int64) => bnd (x12 + x13) (fun (x14 : Int64) => bnd ((x14.toUInt64 >>> ((32 : Int32).toInt64.toUInt64 &&& Int64.toUInt64 63)).toInt64) (fun (x15 : Int64) => bnd (x14 + x15) (fun (x16 : Int64) => bnd (x16.toInt32) (fun (x17 : Int32) => bnd (x17 &&& (127 : Int32)) (fun (x18 : Int32) => (x18)))))))))))))))))))
def wq_y_bitCount : List Cond := [.code yJ13_bitCount_95d88 cJ13_bitCount_95d88 2 (some .int), .constantLong RJ13 314 (6148914691236517205), .constantLong RJ13 316 (3689348814741910323), .constantLong RJ13 318 (1085102592571150095)]
set_option maxRecDepth 20000 in
theorem wi_y_bitCount : ∀ w ∈ wq_y_bitCount, w ∈ lw_tbl := (wix [581, 582, 583, 584] rfl)
set_option maxRecDepth 20000 in
theorem wg_y_bitCount : GoodIn wq_y_bitCount wq_y_bitCount := goodIn_sub (fun _ h => h) (by decide +kernel)
def rm_y_bitCount : Room := { frames := 0, cells := 0, slots := 0, locals := 0 }
set_option maxHeartbeats 4000000 in
set_option maxRecDepth 100000 in
theorem c_y_bitCount (l : Launch) (dC : Nat → ClassId) (dI : Nat → Nat → Nat) (h : Nat) (a : Nat → Nat) (e : Nat) (cI cJ cO cE : ClassId) (L : Nat → Int64) (I : Nat → Int32) (M : Nat → Nat → Int64) (J : Nat → Nat → Int32) (n cap : Nat) (fE : Nat → Option Nat) (sd : Nat → Nat → Nat) (si : Nat → Nat → Int32) (sa : Nat → Nat → Nat → Int32) (dl : Nat → Nat) (b : Nat) (p0 : Int64) (sz : Nat) (hX0 : InvX n cap fE sd dl b I J si) (hb0 : b + 0 < 2147483648)  : Met l yJ13_bitCount_95d88 wq_y_bitCount rm_y_bitCount (va_Pc [.long p0] (fun U => U.heap.size = sz ∧ va_P (dC, dI) vwCl (xW h a e cI cJ cO cE L I M J n cap fE sd si sa dl) U.heap ∧ va_K (dC, dI) vwCl (xT cI cJ cO cE) U ∧ va_D (fun _ => True) (xW h a e cI cJ cO cE L I M J n cap fE sd si sa dl) ∧ pw_N U)) (va_Qi (fun (r : Int32) (u : Unit) => (r = f_y_bitCount n dl p0 )) (fun (u : Unit) (t : State) => va_P (dC, dI) vwCl (xW h a e cI cJ cO cE L I M J n cap fE sd si sa dl) t.heap ∧ va_D (va_A (xW h a e cI cJ cO cE L I M J n cap fE sd si sa dl) sz) (xW h a e cI cJ cO cE L I M J n cap fE sd si sa dl)) (va_A (xW h a e cI cJ cO cE L I M J n cap fE sd si sa dl) sz)) 0 0 (va_A (xW h a e cI cJ cO cE L I M J n cap fE sd si sa dl) sz) := by
  have hn : n ≤ 40 := hX0.1.1
  have hX := hX0
  refine Met.ofW (cc := cJ13_bitCount_95d88) (maxL := 2) (ret := (some .int)) (by decide) rfl ?_
  intro p e9 s m args below meth c s₁ B hml hv
  obtain ⟨rfl, hsz, hP, hK, hD0, hN⟩ := hv
  have hx := B.exec
  have hb := B.bytes
  have hr := B.returns
  have hts := atoms_spec (ws := wq_y_bitCount) B.pre
  have hown : s.vm.findClass RJ13 = some m.cls := findClass_of_methodNamed B.named
  have hlocks := B.notSynchronized
  subst hsz
  have hD := hD0.self (sz := s.heap.size)
  generalize hAe : va_A (xW h a e cI cJ cO cE L I M J n cap fE sd si sa dl) s.heap.size = A at hD ⊢
  have hA : ∀ q : Nat, s.heap.size ≤ q → A q := fun q h => by rw [← hAe]; exact Or.inr h
  have hS : va_S A s.heap s.heap [] := va_S.rf
  have hl := lv_entry ([.long p0]) (n := 2) (Nat.le_of_ble_eq_true rfl)
  rw [lg_entry_eq]
  generalize (lg_sl ([.long p0]) ++ List.replicate (2 - (lg_sl ([.long p0])).length) Slot.unset).toArray = ls at hl ⊢
  have hl : lv_has ls 2 [(0, .long p0)] := hl
  obtain ⟨RES, hR0⟩ : ∃ R9, R9 = f_y_bitCount n dl p0  := ⟨_, rfl⟩
  have hZ9 := hR0
  unfold f_y_bitCount at hZ9
  refine lv_lload_n hx hb dJ13_bitCount_95d88_0 rfl (lv_at hl 0 rfl) ?_
  refine lv_lload_n hx hb dJ13_bitCount_95d88_1 rfl (lv_at hl 0 rfl) ?_
  refine lv_iconst (v := 1) hx hb dJ13_bitCount_95d88_2 (by decide) ?_
  refine lv_lushr hx hb dJ13_bitCount_95d88_3 rfl ?_
  refine lv_topl (fun x1 ex1 => ?_)
  replace hZ9 := bnd_s hZ9 ex1
  refine lv_ldc2 (v := 6148914691236517205) hx hb hown (hts (.constantLong RJ13 314 (6148914691236517205)) (by decide +kernel)) dJ13_bitCount_95d88_4 ?_
  refine lv_land hx hb dJ13_bitCount_95d88_7 ?_
  refine lv_topl (fun x2 ex2 => ?_)
  replace hZ9 := bnd_s hZ9 ex2
  refine lv_lsub hx hb dJ13_bitCount_95d88_8 ?_
  refine lv_topl (fun x3 ex3 => ?_)
  replace hZ9 := bnd_s hZ9 ex3
  refine lv_lstore_n (lv' := [(0, .long x3)]) hx hb dJ13_bitCount_95d88_9 rfl hl (by decide) rfl (fun ls hl => ?_)
  refine lv_lload_n hx hb dJ13_bitCount_95d88_10 rfl (lv_at hl 0 rfl) ?_
  refine lv_ldc2 (v := 3689348814741910323) hx hb hown (hts (.constantLong RJ13 316 (3689348814741910323)) (by decide +kernel)) dJ13_bitCount_95d88_11 ?_
  refine lv_land hx hb dJ13_bitCount_95d88_14 ?_
  refine lv_topl (fun x4 ex4 => ?_)
  replace hZ9 := bnd_s hZ9 ex4
  refine lv_lload_n hx hb dJ13_bitCount_95d88_15 rfl (lv_at hl 0 rfl) ?_
  refine lv_iconst (v := 2) hx hb dJ13_bitCount_95d88_16 (by decide) ?_
  refine lv_lushr hx hb dJ13_bitCount_95d88_17 rfl ?_
  refine lv_topl (fun x5 ex5 => ?_)
  replace hZ9 := bnd_s hZ9 ex5
  refine lv_ldc2 (v := 3689348814741910323) hx hb hown (hts (.constantLong RJ13 316 (3689348814741910323)) (by decide +kernel)) dJ13_bitCount_95d88_18 ?_
  refine lv_land hx hb dJ13_bitCount_95d88_21 ?_
  refine lv_topl (fun x6 ex6 => ?_)
  replace hZ9 := bnd_s hZ9 ex6
  refine lv_ladd hx hb dJ13_bitCount_95d88_22 ?_
  refine lv_topl (fun x7 ex7 => ?_)
  replace hZ9 := bnd_s hZ9 ex7
  refine lv_lstore_n (lv' := [(0, .long x7)]) hx hb dJ13_bitCount_95d88_23 rfl hl (by decide) rfl (fun ls hl => ?_)
  refine lv_lload_n hx hb dJ13_bitCount_95d88_24 rfl (lv_at hl 0 rfl) ?_
  refine lv_lload_n hx hb dJ13_bitCount_95d88_25 rfl (lv_at hl 0 rfl) ?_
  refine lv_iconst (v := 4) hx hb dJ13_bitCount_95d88_26 (by decide) ?_
  refine lv_lushr hx hb dJ13_bitCount_95d88_27 rfl ?_
  refine lv_topl (fun x8 ex8 => ?_)
  replace hZ9 := bnd_s hZ9 ex8
  refine lv_ladd hx hb dJ13_bitCount_95d88_28 ?_
  refine lv_topl (fun x9 ex9 => ?_)
  replace hZ9 := bnd_s hZ9 ex9
  refine lv_ldc2 (v := 1085102592571150095) hx hb hown (hts (.constantLong RJ13 318 (1085102592571150095)) (by decide +kernel)) dJ13_bitCount_95d88_29 ?_
  refine lv_land hx hb dJ13_bitCount_95d88_32 ?_
  refine lv_topl (fun x10 ex10 => ?_)
  replace hZ9 := bnd_s hZ9 ex10
  refine lv_lstore_n (lv' := [(0, .long x10)]) hx hb dJ13_bitCount_95d88_33 rfl hl (by decide) rfl (fun ls hl => ?_)
  refine lv_lload_n hx hb dJ13_bitCount_95d88_34 rfl (lv_at hl 0 rfl) ?_
  refine lv_lload_n hx hb dJ13_bitCount_95d88_35 rfl (lv_at hl 0 rfl) ?_
  refine lv_bipush (v := 8) hx hb dJ13_bitCount_95d88_36 (by decide) ?_
  refine lv_lushr hx hb dJ13_bitCount_95d88_38 rfl ?_
  refine lv_topl (fun x11 ex11 => ?_)
  replace hZ9 := bnd_s hZ9 ex11
  refine lv_ladd hx hb dJ13_bitCount_95d88_39 ?_
  refine lv_topl (fun x12 ex12 => ?_)
  replace hZ9 := bnd_s hZ9 ex12
  refine lv_lstore_n (lv' := [(0, .long x12)]) hx hb dJ13_bitCount_95d88_40 rfl hl (by decide) rfl (fun ls hl => ?_)
  refine lv_lload_n hx hb dJ13_bitCount_95d88_41 rfl (lv_at hl 0 rfl) ?_
  refine lv_lload_n hx hb dJ13_bitCount_95d88_42 rfl (lv_at hl 0 rfl) ?_
  refine lv_bipush (v := 16) hx hb dJ13_bitCount_95d88_43 (by decide) ?_
  refine lv_lushr hx hb dJ13_bitCount_95d88_45 rfl ?_
  refine lv_topl (fun x13 ex13 => ?_)
  replace hZ9 := bnd_s hZ9 ex13
  refine lv_ladd hx hb dJ13_bitCount_95d88_46 ?_
  refine lv_topl (fun x14 ex14 => ?_)
  replace hZ9 := bnd_s hZ9 ex14
  refine lv_lstore_n (lv' := [(0, .long x14)]) hx hb dJ13_bitCount_95d88_47 rfl hl (by decide) rfl (fun ls hl => ?_)
  refine lv_lload_n hx hb dJ13_bitCount_95d88_48 rfl (lv_at hl 0 rfl) ?_
  refine lv_lload_n hx hb dJ13_bitCount_95d88_49 rfl (lv_at hl 0 rfl) ?_
  refine lv_bipush (v := 32) hx hb dJ13_bitCount_95d88_50 (by decide) ?_
  refine lv_lushr hx hb dJ13_bitCount_95d88_52 rfl ?_
  refine lv_topl (fun x15 ex15 => ?_)
  replace hZ9 := bnd_s hZ9 ex15
  refine lv_ladd hx hb dJ13_bitCount_95d88_53 ?_
  refine lv_topl (fun x16 ex16 => ?_)
  replace hZ9 := bnd_s hZ9 ex16
  refine lv_lstore_n (lv' := [(0, .long x16)]) hx hb dJ13_bitCount_95d88_54 rfl hl (by decide) rfl (fun ls hl => ?_)
  refine lv_lload_n hx hb dJ13_bitCount_95d88_55 rfl (lv_at hl 0 rfl) ?_
  refine lv_l2i hx hb dJ13_bitCount_95d88_56 rfl ?_
  refine lv_topi (fun x17 ex17 => ?_)
  replace hZ9 := bnd_s hZ9 ex17
  refine lv_bipush (v := 127) hx hb dJ13_bitCount_95d88_57 (by decide) ?_
  refine lv_iand hx hb dJ13_bitCount_95d88_59 ?_
  refine lv_topi (fun x18 ex18 => ?_)
  replace hZ9 := bnd_s hZ9 ex18
  exact W.iret (v := x18) hx hb hr (fun t ht hW => ⟨⟨x18, (), rfl, hZ9.symm.trans hR0, by rw [ht]; exact hP, hD⟩, hS.F ht⟩) hS.2.2 dJ13_bitCount_95d88_60
def f_y_hadd (n : Nat) (dl : Nat → Nat) (p0 : Int32) (sv : Nat) (tv : Nat) (I : Nat → Int32) (M : Nat → Nat → Int64) : (Nat → Int32) × (Nat → Nat → Int64) := bnd ((I 12).toNatClampNeg) (fun (z1 : Nat) => bnd (z1 % 2000) (fun (j3 : Nat) => bnd (p0.toInt64) (fun (x4 : Int64) => bnd (x4 * (512 : Int64)) (fun (x5 : Int64) => bnd ((nI (sv * 8)).toInt64) (fun (x6 : Int64) => bnd (x5 + x6) (fun (x7 : Int64) => bnd ((nI tv).toInt64) (fun (x8 : Int64) => bnd (x7 + x8) (fun (x9 : Int64) => bnd (va_up M 8 (vp_updL (M 8) (nI j3).toNatClampNeg x9)) (fun (M10 : Nat → Nat → Int64) => bnd (va_up I 12 (nI (z1 + 1))) (fun (I11 : Nat → Int32) => (I11, M10)))))))))))
def wq_y_hadd : List Cond := ([.code yX2_add cX2_add 4 none, .fieldLink RX2 9 "ServiceTree$History" "kept" "[J", .fieldLink RX2 15 "ServiceTree$History" "size" "I", .constantLong RX2 25 (512), .methodLink RX2 19 yJ9_floorMod_7cf53, .static yJ9_floorMod_7cf53, .initialized RJ9] : List Cond) ++ (wsX20 ++ (wq_y_floorMod))
theorem in_y_hadd_X2 : ∀ w ∈ wsX20, w ∈ wq_y_hadd := fun _ h => List.mem_append_right _ (List.mem_append_left _ (h))
set_option maxRecDepth 20000 in
theorem wi_y_hadd : ∀ w ∈ wq_y_hadd, w ∈ lw_tbl := List.forall_mem_append.mpr ⟨(wix [611, 216, 217, 615, 612, 613, 74] rfl), List.forall_mem_append.mpr ⟨inKX2, wi_y_floorMod⟩⟩
set_option maxRecDepth 20000 in
theorem wg_y_hadd : GoodIn wq_y_hadd wq_y_hadd := goodIn_sub (fun _ h => h) (by decide +kernel)
set_option maxRecDepth 20000 in
theorem wc_y_hadd_y_floorMod_19 : GoodIn wq_y_hadd (va_wsS RX2 19 yJ9_floorMod_7cf53 wq_y_floorMod) := goodIn_app (goodIn_of _ (by decide +kernel)) (fun w h => ⟨List.mem_append_right _ (List.mem_append_right _ (h)), (wg_y_floorMod w h).2⟩)
def rm_y_hadd : Room := { frames := 1, cells := 0, slots := 0, locals := 22 }
set_option maxHeartbeats 4000000 in
set_option maxRecDepth 100000 in
theorem c_y_hadd (l : Launch) (dC : Nat → ClassId) (dI : Nat → Nat → Nat) (h : Nat) (a : Nat → Nat) (e : Nat) (cI cJ cO cE : ClassId) (L : Nat → Int64) (I : Nat → Int32) (M : Nat → Nat → Int64) (J : Nat → Nat → Int32) (n cap : Nat) (fE : Nat → Option Nat) (sd : Nat → Nat → Nat) (si : Nat → Nat → Int32) (sa : Nat → Nat → Nat → Int32) (dl : Nat → Nat) (b : Nat) (p0 : Int32) (sv : Nat) (tv : Nat) (sz : Nat) (hX0 : InvX n cap fE sd dl b I J si) (hb0 : b + 1 < 2147483648)  : Met l yX2_add wq_y_hadd rm_y_hadd (va_Pc [.ref (a 5), .int p0, .int (nI sv), .int (nI tv)] (fun U => U.heap.size = sz ∧ va_P (dC, dI) vwCl (xW h a e cI cJ cO cE L I M J n cap fE sd si sa dl) U.heap ∧ va_K (dC, dI) vwCl (xT cI cJ cO cE) U ∧ va_D (fun _ => True) (xW h a e cI cJ cO cE L I M J n cap fE sd si sa dl) ∧ pw_N U)) (va_Qv (fun (u : (Nat → Int32) × (Nat → Nat → Int64)) => InvX n cap fE sd dl (b + 1) u.1 J si ∧ (∀ j9 : Nat, j9 ∉ ([12] : List Nat) → u.1 j9 = I j9) ∧ (∀ j9 : Nat, j9 ∉ ([8] : List Nat) → u.2 j9 = M j9) ∧ (u = f_y_hadd n dl p0 sv tv I M)) (fun (u : (Nat → Int32) × (Nat → Nat → Int64)) (t : State) => va_P (dC, dI) vwCl (xW h a e cI cJ cO cE L u.1 u.2 J n cap fE sd si sa dl) t.heap ∧ va_D (va_A (xW h a e cI cJ cO cE L I M J n cap fE sd si sa dl) sz) (xW h a e cI cJ cO cE L u.1 u.2 J n cap fE sd si sa dl)) (va_A (xW h a e cI cJ cO cE L I M J n cap fE sd si sa dl) sz)) 0 0 (va_A (xW h a e cI cJ cO cE L I M J n cap fE sd si sa dl) sz) := by
  have hn : n ≤ 40 := hX0.1.1
  have hX := hX0
  have hUI : ∀ j9 : Nat, j9 ∉ ([12] : List Nat) → I j9 = I j9 := fun _ _ => rfl
  have hUM : ∀ j9 : Nat, j9 ∉ ([8] : List Nat) → M j9 = M j9 := fun _ _ => rfl
  refine Met.ofW (cc := cX2_add) (maxL := 4) (ret := none) (by decide) rfl ?_
  intro p e9 s m args below meth c s₁ B hml hv
  obtain ⟨rfl, hsz, hP, hK, hD0, hN⟩ := hv
  have hx := B.exec
  have hb := B.bytes
  have hr := B.returns
  have hts := atoms_spec (ws := wq_y_hadd) B.pre
  have hown : s.vm.findClass RX2 = some m.cls := findClass_of_methodNamed B.named
  have hlocks := B.notSynchronized
  subst hsz
  have hD := hD0.self (sz := s.heap.size)
  generalize hAe : va_A (xW h a e cI cJ cO cE L I M J n cap fE sd si sa dl) s.heap.size = A at hD ⊢
  have hA : ∀ q : Nat, s.heap.size ≤ q → A q := fun q h => by rw [← hAe]; exact Or.inr h
  have hS : va_S A s.heap s.heap [] := va_S.rf
  have hl := lv_entry ([.ref (a 5), .int p0, .int (nI sv), .int (nI tv)]) (n := 4) (Nat.le_of_ble_eq_true rfl)
  rw [lg_entry_eq]
  generalize (lg_sl ([.ref (a 5), .int p0, .int (nI sv), .int (nI tv)]) ++ List.replicate (4 - (lg_sl ([.ref (a 5), .int p0, .int (nI sv), .int (nI tv)])).length) Slot.unset).toArray = ls at hl ⊢
  have hl : lv_has ls 4 [(0, .ref (a 5)), (1, .int p0), (2, .int (nI sv)), (3, .int (nI tv))] := hl
  obtain ⟨RES, hR0⟩ : ∃ R9, R9 = f_y_hadd n dl p0 sv tv I M := ⟨_, rfl⟩
  have hZ9 := hR0
  unfold f_y_hadd at hZ9
  refine lv_aload_n hx hb dX2_add_0 rfl (lv_at hl 0 rfl) ?_
  refine va_get (D := (dC, dI)) (ci := 3) (v := .ref (a 15)) (C := RX2) (T := TX2) (N := 2) hx hb hts in_y_hadd_X2 hown hK hP 19 rfl rfl 0 (by decide) (hts (.fieldLink RX2 9 "ServiceTree$History" "kept" "[J") (by decide +kernel)) (fun _ h9 => h9) rfl dX2_add_1 ?_
  refine lv_aload_n hx hb dX2_add_4 rfl (lv_at hl 0 rfl) ?_
  refine va_get (D := (dC, dI)) (ci := 3) (v := .int (I 12)) (C := RX2) (T := TX2) (N := 2) hx hb hts in_y_hadd_X2 hown hK hP 19 rfl rfl 1 (by decide) (hts (.fieldLink RX2 15 "ServiceTree$History" "size" "I") (by decide +kernel)) (fun _ h9 => h9) rfl dX2_add_5 ?_
  obtain ⟨z1, hz1, ez1⟩ := hX.2.1.2
  refine p1_topr (v := .int (nI z1)) (congrArg Value.int ez1) ?_
  replace hZ9 := bnd_s hZ9 (show z1 = (I 12).toNatClampNeg by rw [ez1, nI_clamp (by omega)])
  refine lv_sipush (v := 2000) hx hb dX2_add_8 (by decide) ?_
  have hFc := mw_free hD hS hA
  refine va_calli (va_runS (As := [.int (nI z1), .int 2000]) (rest := [.ref (a 15)]) ⟨hx, hb, hml, hown, hts⟩ (c_y_floorMod l dC dI h a e cI cJ cO cE L I M J n cap fE sd si sa dl (b) z1 s.heap.size hX (by omega) (by omega)) (va_cwS 2 hts wc_y_hadd_y_floorMod_19 rfl rfl rfl (by decide +kernel) ⟨Nat.le_of_ble_eq_true rfl, Nat.le_of_ble_eq_true rfl⟩) ⟨fun a9 U g mk q => by obtain ⟨q0, q1, qP, qK, qD, qN⟩ := q; exact ⟨q0, q1, qP, va_K.moved (u := U) (U := U.calling g mk a9) (Vm.Alike.refl U.vm) qK, qD, pw_N.same (u := U) (U := U.calling g mk a9) rfl qN⟩, fun U hU hW => ⟨rfl, by rw [hU], by rw [hU]; exact hP, va_K.moved hW.alike hK, hD.weaken (fun _ _ _ _ => trivial), pw_N.warm hW hN⟩⟩ rfl rfl hl.1 rfl (lv_room (Nat.le_of_ble_eq_true rfl)) dX2_add_11 ⟨Nat.le_of_ble_eq_true rfl, Nat.le_of_ble_eq_true rfl⟩) hS (fun q _ h => hFc q h) hFc (fun r2 u t H1 locs ht hvm hw hB hz1 hk1 hS => ?_)
  replace hP := hB.1
  rw [ht] at hP
  replace hD : va_D A (xW h a e cI cJ cO cE L I M J n cap fE sd si sa dl) := hB.2.weaken (fun _ q _ h9 => hFc q.1 h9)
  clear hB
  generalize H1 = H at hP hS ⊢
  replace hP : va_P (dC, dI) vwCl (xW h a e cI cJ cO cE L I M J n cap fE sd si sa dl) H := hP
  obtain ⟨j3, hj3, ej3⟩ : ∃ j9 : Nat, j9 < 2000 ∧ j9 = z1 % 2000 := ⟨_, Nat.mod_lt _ (by omega), rfl⟩
  rw [← ej3] at hw
  replace hZ9 := bnd_s hZ9 ej3
  subst hw
  refine lv_iload_n hx hb dX2_add_14 rfl (lv_at hl 1 rfl) ?_
  refine lv_i2l hx hb dX2_add_15 rfl ?_
  refine lv_topl (fun x4 ex4 => ?_)
  replace hZ9 := bnd_s hZ9 ex4
  refine lv_ldc2 (v := 512) hx hb hown (hts (.constantLong RX2 25 (512)) (by decide +kernel)) dX2_add_16 ?_
  refine lv_lmul hx hb dX2_add_19 ?_
  refine lv_topl (fun x5 ex5 => ?_)
  replace hZ9 := bnd_s hZ9 ex5
  refine lv_iload_n hx hb dX2_add_20 rfl (lv_at hl 2 rfl) ?_
  refine lv_bipush (v := 8) hx hb dX2_add_21 (by decide) ?_
  refine lv_imul hx hb dX2_add_23 ?_
  refine p1_topr (v := .int (nI (sv * 8))) (congrArg Value.int (pk_mul sv 8)) ?_
  refine lv_i2l hx hb dX2_add_24 rfl ?_
  refine lv_topl (fun x6 ex6 => ?_)
  replace hZ9 := bnd_s hZ9 ex6
  refine lv_ladd hx hb dX2_add_25 ?_
  refine lv_topl (fun x7 ex7 => ?_)
  replace hZ9 := bnd_s hZ9 ex7
  refine lv_iload_n hx hb dX2_add_26 rfl (lv_at hl 3 rfl) ?_
  refine lv_i2l hx hb dX2_add_27 rfl ?_
  refine lv_topl (fun x8 ex8 => ?_)
  replace hZ9 := bnd_s hZ9 ex8
  refine lv_ladd hx hb dX2_add_28 ?_
  refine lv_topl (fun x9 ex9 => ?_)
  replace hZ9 := bnd_s hZ9 ex9
  refine va_last (n := 2000) (f := M 8) hx hb hK hP hD hS 20 1 rfl rfl (vp_in_nI (n := j3) (by omega) (by omega)) dX2_add_29 (fun H locs hP hD hS => ?_)
  rw [xM_8] at hP hD
  obtain ⟨M10, eM10⟩ : ∃ f9 : Nat → Nat → Int64, f9 = va_up M 8 (vp_updL (M 8) (nI j3).toNatClampNeg x9) := ⟨_, rfl⟩
  rw [← eM10] at hP hD
  replace hZ9 := bnd_s hZ9 eM10
  replace hUM : ∀ j9 : Nat, j9 ∉ ([8] : List Nat) → M10 j9 = M j9 := by rw [eM10]; exact mw_up (by decide) hUM
  refine lv_aload_n hx hb dX2_add_30 rfl (lv_at hl 0 rfl) ?_
  refine lv_dup hx hb dX2_add_31 rfl ?_
  refine va_get (D := (dC, dI)) (ci := 3) (v := .int (I 12)) (C := RX2) (T := TX2) (N := 2) hx hb hts in_y_hadd_X2 hown hK hP 19 rfl rfl 1 (by decide) (hts (.fieldLink RX2 15 "ServiceTree$History" "size" "I") (by decide +kernel)) (fun _ h9 => h9) rfl dX2_add_32 ?_
  refine p1_topr (v := .int (nI z1)) (congrArg Value.int ez1) ?_
  refine lv_iconst (v := 1) hx hb dX2_add_35 (by decide) ?_
  refine lv_iadd hx hb dX2_add_36 ?_
  refine p1_topr (v := .int (nI (z1 + 1))) (congrArg Value.int (nI_add z1 1)) ?_
  refine va_put (D := (dC, dI)) (ci := 3) (fs := [.ref (a 15), .int (I 12)]) (v := .int (nI (z1 + 1))) (ty := .int) (C := RX2) (T := TX2) (N := 2) hx hb hts in_y_hadd_X2 tyX2 tyX2_ok nmX2 hown hK hP hD hS 19 rfl rfl 1 (by decide) (hts (.fieldLink RX2 15 "ServiceTree$History" "size" "I") (by decide +kernel)) (fun _ h9 => h9) rfl (by decide +kernel) rfl rfl (Nat.le_of_ble_eq_true rfl) dX2_add_37 (fun H locs hP hD hS => ?_)
  replace hP : va_P (dC, dI) vwCl ((xW h a e cI cJ cO cE L I M10 J n cap fE sd si sa dl).set 19 (a 5, .inr (3, [.ref (a 15), .int (nI (z1 + 1))]))) H := hP
  replace hD : va_D A ((xW h a e cI cJ cO cE L I M10 J n cap fE sd si sa dl).set 19 (a 5, .inr (3, [.ref (a 15), .int (nI (z1 + 1))]))) := hD
  rw [xF_I12] at hP hD
  obtain ⟨I11, eI11⟩ : ∃ f9 : Nat → Int32, f9 = va_up I 12 (nI (z1 + 1)) := ⟨_, rfl⟩
  rw [← eI11] at hP hD
  replace hZ9 := bnd_s hZ9 eI11
  replace hX := hX.mono (show b ≤ b + 1 by omega)
  replace hX : InvX n cap fE sd dl (b + 1) I11 J si := by rw [eI11]; exact hX.set12 (x := z1 + 1) (by omega)
  replace hUI : ∀ j9 : Nat, j9 ∉ ([12] : List Nat) → I11 j9 = I j9 := by rw [eI11]; exact mw_up (by decide) hUI
  exact W.vret hx hb hr (fun t ht hW => ⟨⟨(I11, M10), rfl, ⟨hX.mono (by omega), hUI, hUM, hZ9.symm.trans hR0⟩, by rw [ht]; exact hP, hD⟩, hS.F ht⟩) hS.2.2 dX2_add_40
def f_y_htell (n : Nat) (dl : Nat → Nat) (p0 : Int32) (p1 : Int32) (I : Nat → Int32) (M : Nat → Nat → Int64) : Int32 := if p0 < (0 : Int32) then (((-1 : Int32))) else (bnd (p0.toNatClampNeg) (fun (j2 : Nat) => bnd ((I 12).toNatClampNeg) (fun (z3 : Nat) => if z3 ≤ j2 then (((-1 : Int32))) else (bnd ((nI z3) - (2000 : Int32)) (fun (x5 : Int32) => if x5 ≤ (nI j2) then (bnd (j2 % 2000) (fun (m7 : Nat) => bnd (M 8 (nI m7).toNatClampNeg) (fun (x8 : Int64) => if p1 = 0 then (bnd (x8 / (512 : Int64)) (fun (x10 : Int64) => bnd (x10.toInt32) (fun (x11 : Int32) => (x11)))) else (if p1 = 1 then (bnd (x8 - x8 / (512 : Int64) * (512 : Int64)) (fun (x13 : Int64) => bnd (x13 / (8 : Int64)) (fun (x14 : Int64) => bnd (x14.toInt32) (fun (x15 : Int32) => (x15))))) else (if p1 = 2 then (bnd (x8 - x8 / (8 : Int64) * (8 : Int64)) (fun (x17 : Int64) => bnd (x17.toInt32) (fun (x18 : Int32) => (x18)))) else (((-1 : Int32)))))))) else (((-1 : Int32))))))))
def wq_y_htell : List Cond := ([.code yX2_tell cX2_tell 5 (some .int), .fieldLink RX2 15 "ServiceTree$History" "size" "I", .fieldLink RX2 9 "ServiceTree$History" "kept" "[J", .constantLong RX2 25 (512), .constantLong RX2 27 (8)] : List Cond) ++ (wsX20)
theorem in_y_htell_X2 : ∀ w ∈ wsX20, w ∈ wq_y_htell := fun _ h => List.mem_append_right _ (h)
set_option maxRecDepth 20000 in
theorem wi_y_htell : ∀ w ∈ wq_y_htell, w ∈ lw_tbl := List.forall_mem_append.mpr ⟨(wix [839, 217, 216, 615, 840] rfl), inKX2⟩
set_option maxRecDepth 20000 in
theorem wg_y_htell : GoodIn wq_y_htell wq_y_htell := goodIn_sub (fun _ h => h) (by decide +kernel)
def rm_y_htell : Room := { frames := 0, cells := 0, slots := 0, locals := 0 }
set_option maxHeartbeats 4000000 in
set_option maxRecDepth 100000 in
theorem c_y_htell (l : Launch) (dC : Nat → ClassId) (dI : Nat → Nat → Nat) (h : Nat) (a : Nat → Nat) (e : Nat) (cI cJ cO cE : ClassId) (L : Nat → Int64) (I : Nat → Int32) (M : Nat → Nat → Int64) (J : Nat → Nat → Int32) (n cap : Nat) (fE : Nat → Option Nat) (sd : Nat → Nat → Nat) (si : Nat → Nat → Int32) (sa : Nat → Nat → Nat → Int32) (dl : Nat → Nat) (b : Nat) (p0 : Int32) (p1 : Int32) (sz : Nat) (hX0 : InvX n cap fE sd dl b I J si) (hb0 : b + 0 < 2147483648)  : Met l yX2_tell wq_y_htell rm_y_htell (va_Pc [.ref (a 5), .int p0, .int p1] (fun U => U.heap.size = sz ∧ va_P (dC, dI) vwCl (xW h a e cI cJ cO cE L I M J n cap fE sd si sa dl) U.heap ∧ va_K (dC, dI) vwCl (xT cI cJ cO cE) U ∧ va_D (fun _ => True) (xW h a e cI cJ cO cE L I M J n cap fE sd si sa dl) ∧ pw_N U)) (va_Qi (fun (r : Int32) (u : Unit) => (r = f_y_htell n dl p0 p1 I M)) (fun (u : Unit) (t : State) => va_P (dC, dI) vwCl (xW h a e cI cJ cO cE L I M J n cap fE sd si sa dl) t.heap ∧ va_D (va_A (xW h a e cI cJ cO cE L I M J n cap fE sd si sa dl) sz) (xW h a e cI cJ cO cE L I M J n cap fE sd si sa dl)) (va_A (xW h a e cI cJ cO cE L I M J n cap fE sd si sa dl) sz)) 0 0 (va_A (xW h a e cI cJ cO cE L I M J n cap fE sd si sa dl) sz) := by
  have hn : n ≤ 40 := hX0.1.1
  have hX := hX0
  refine Met.ofW (cc := cX2_tell) (maxL := 5) (ret := (some .int)) (by decide) rfl ?_
  intro p e9 s m args below meth c s₁ B hml hv
  obtain ⟨rfl, hsz, hP, hK, hD0, hN⟩ := hv
  have hx := B.exec
  have hb := B.bytes
  have hr := B.returns
  have hts := atoms_spec (ws := wq_y_htell) B.pre
  have hown : s.vm.findClass RX2 = some m.cls := findClass_of_methodNamed B.named
  have hlocks := B.notSynchronized
  subst hsz
  have hD := hD0.self (sz := s.heap.size)
  generalize hAe : va_A (xW h a e cI cJ cO cE L I M J n cap fE sd si sa dl) s.heap.size = A at hD ⊢
  have hA : ∀ q : Nat, s.heap.size ≤ q → A q := fun q h => by rw [← hAe]; exact Or.inr h
  have hS : va_S A s.heap s.heap [] := va_S.rf
  have hl := lv_entry ([.ref (a 5), .int p0, .int p1]) (n := 5) (Nat.le_of_ble_eq_true rfl)
  rw [lg_entry_eq]
  generalize (lg_sl ([.ref (a 5), .int p0, .int p1]) ++ List.replicate (5 - (lg_sl ([.ref (a 5), .int p0, .int p1])).length) Slot.unset).toArray = ls at hl ⊢
  have hl : lv_has ls 5 [(0, .ref (a 5)), (1, .int p0), (2, .int p1)] := hl
  obtain ⟨RES, hR0⟩ : ∃ R9, R9 = f_y_htell n dl p0 p1 I M := ⟨_, rfl⟩
  have hZ9 := hR0
  unfold f_y_htell at hZ9
  refine lv_iload_n hx hb dX2_tell_0 rfl (lv_at hl 1 rfl) ?_
  refine lv_if_lt (tgt := 24) hx hb dX2_tell_1 (by decide) (fun c1 => ?_) (fun c1 => ?_)
  · replace hZ9 := ite_t hZ9 c1
    refine lv_iconst (v := (-1)) hx hb dX2_tell_24 (by decide) ?_
    exact W.iret (v := (-1)) hx hb hr (fun t ht hW => ⟨⟨(-1), (), rfl, hZ9.symm.trans hR0, by rw [ht]; exact hP, hD⟩, hS.F ht⟩) hS.2.2 dX2_tell_25
  · replace hZ9 := ite_f hZ9 c1
    obtain ⟨j2, hj2, ej2⟩ := nI_of c1
    replace hZ9 := bnd_s hZ9 (show j2 = p0.toNatClampNeg by rw [ej2, nI_clamp (by omega)])
    subst ej2
    refine lv_iload_n hx hb dX2_tell_4 rfl (lv_at hl 1 rfl) ?_
    refine lv_aload_n hx hb dX2_tell_5 rfl (lv_at hl 0 rfl) ?_
    refine va_get (D := (dC, dI)) (ci := 3) (v := .int (I 12)) (C := RX2) (T := TX2) (N := 2) hx hb hts in_y_htell_X2 hown hK hP 19 rfl rfl 1 (by decide) (hts (.fieldLink RX2 15 "ServiceTree$History" "size" "I") (by decide +kernel)) (fun _ h9 => h9) rfl dX2_tell_6 ?_
    obtain ⟨z3, hz3, ez3⟩ := hX.2.1.2
    refine p1_topr (v := .int (nI z3)) (congrArg Value.int ez3) ?_
    replace hZ9 := bnd_s hZ9 (show z3 = (I 12).toNatClampNeg by rw [ez3, nI_clamp (by omega)])
    refine lv_icmp_ge (tgt := 24) hx hb dX2_tell_9 (by decide) (fun c4 => ?_) (fun c4 => ?_)
    · replace c4 : z3 ≤ j2 := (nI_leI (a := z3) (b := j2) (by omega) (by omega)).mp c4
      replace hZ9 := ite_t hZ9 c4
      refine lv_iconst (v := (-1)) hx hb dX2_tell_24 (by decide) ?_
      exact W.iret (v := (-1)) hx hb hr (fun t ht hW => ⟨⟨(-1), (), rfl, hZ9.symm.trans hR0, by rw [ht]; exact hP, hD⟩, hS.F ht⟩) hS.2.2 dX2_tell_25
    · replace c4 : ¬ (z3 ≤ j2) := fun q9 => c4 ((nI_leI (a := z3) (b := j2) (by omega) (by omega)).mpr q9)
      replace hZ9 := ite_f hZ9 c4
      refine lv_iload_n hx hb dX2_tell_12 rfl (lv_at hl 1 rfl) ?_
      refine lv_aload_n hx hb dX2_tell_13 rfl (lv_at hl 0 rfl) ?_
      refine va_get (D := (dC, dI)) (ci := 3) (v := .int (I 12)) (C := RX2) (T := TX2) (N := 2) hx hb hts in_y_htell_X2 hown hK hP 19 rfl rfl 1 (by decide) (hts (.fieldLink RX2 15 "ServiceTree$History" "size" "I") (by decide +kernel)) (fun _ h9 => h9) rfl dX2_tell_14 ?_
      refine p1_topr (v := .int (nI z3)) (congrArg Value.int ez3) ?_
      refine lv_sipush (v := 2000) hx hb dX2_tell_17 (by decide) ?_
      refine lv_isub hx hb dX2_tell_20 ?_
      refine lv_topi (fun x5 ex5 => ?_)
      replace hZ9 := bnd_s hZ9 ex5
      refine lv_icmp_ge (tgt := 26) hx hb dX2_tell_21 (by decide) (fun c6 => ?_) (fun c6 => ?_)
      · replace hZ9 := ite_t hZ9 c6
        refine lv_aload_n hx hb dX2_tell_26 rfl (lv_at hl 0 rfl) ?_
        refine va_get (D := (dC, dI)) (ci := 3) (v := .ref (a 15)) (C := RX2) (T := TX2) (N := 2) hx hb hts in_y_htell_X2 hown hK hP 19 rfl rfl 0 (by decide) (hts (.fieldLink RX2 9 "ServiceTree$History" "kept" "[J") (by decide +kernel)) (fun _ h9 => h9) rfl dX2_tell_27 ?_
        refine lv_iload_n hx hb dX2_tell_30 rfl (lv_at hl 1 rfl) ?_
        refine lv_sipush (v := 2000) hx hb dX2_tell_31 (by decide) ?_
        refine lv_irem hx hb dX2_tell_34 (by decide) ?_
        obtain ⟨m7, hm7, em7⟩ : ∃ z9 : Nat, z9 < 2000 ∧ z9 = j2 % 2000 := ⟨_, Nat.mod_lt _ (by omega), rfl⟩
        refine p1_topr (v := .int (nI m7)) (congrArg Value.int (by rw [em7]; exact pk_rem (a := j2) (d := 2000) (by omega) (by omega) (by omega))) ?_
        replace hZ9 := bnd_s hZ9 em7
        refine va_lald (n := 2000) (f := M 8) hx hb hK hP 20 1 rfl rfl (vp_in_nI (n := m7) (by omega) (by omega)) dX2_tell_35 ?_
        refine lv_topl (fun x8 ex8 => ?_)
        replace hZ9 := bnd_s hZ9 ex8
        refine lv_lstore_n (lv' := [(3, .long x8), (0, .ref (a 5)), (1, .int (nI j2)), (2, .int p1)]) hx hb dX2_tell_36 rfl hl (by decide) rfl (fun ls hl => ?_)
        refine lv_iload_n hx hb dX2_tell_37 rfl (lv_at hl 3 rfl) ?_
        rcases Classical.em (p1 = 0) with c9 | c9
        · replace hZ9 := ite_t hZ9 c9
          refine lv_tableIn (tgt := 64) (off := 26) hx hb dX2_tell_38 (by rw [c9]; decide) (by rw [c9]; decide) (by rw [c9]; rfl) (by decide) ?_
          refine lv_lload_n hx hb dX2_tell_64 rfl (lv_at hl 0 rfl) ?_
          refine lv_ldc2 (v := 512) hx hb hown (hts (.constantLong RX2 25 (512)) (by decide +kernel)) dX2_tell_65 ?_
          refine lv_ldiv hx hb dX2_tell_68 (by decide) ?_
          refine lv_topl (fun x10 ex10 => ?_)
          replace hZ9 := bnd_s hZ9 ex10
          refine lv_l2i hx hb dX2_tell_69 rfl ?_
          refine lv_topi (fun x11 ex11 => ?_)
          replace hZ9 := bnd_s hZ9 ex11
          exact W.iret (v := x11) hx hb hr (fun t ht hW => ⟨⟨x11, (), rfl, hZ9.symm.trans hR0, by rw [ht]; exact hP, hD⟩, hS.F ht⟩) hS.2.2 dX2_tell_70
        replace hZ9 := ite_f hZ9 c9
        rcases Classical.em (p1 = 1) with c12 | c12
        · replace hZ9 := ite_t hZ9 c12
          refine lv_tableIn (tgt := 71) (off := 33) hx hb dX2_tell_38 (by rw [c12]; decide) (by rw [c12]; decide) (by rw [c12]; rfl) (by decide) ?_
          refine lv_lload_n hx hb dX2_tell_71 rfl (lv_at hl 0 rfl) ?_
          refine lv_ldc2 (v := 512) hx hb hown (hts (.constantLong RX2 25 (512)) (by decide +kernel)) dX2_tell_72 ?_
          refine lv_lrem hx hb dX2_tell_75 (by decide) ?_
          refine lv_topl (fun x13 ex13 => ?_)
          replace hZ9 := bnd_s hZ9 ex13
          refine lv_ldc2 (v := 8) hx hb hown (hts (.constantLong RX2 27 (8)) (by decide +kernel)) dX2_tell_76 ?_
          refine lv_ldiv hx hb dX2_tell_79 (by decide) ?_
          refine lv_topl (fun x14 ex14 => ?_)
          replace hZ9 := bnd_s hZ9 ex14
          refine lv_l2i hx hb dX2_tell_80 rfl ?_
          refine lv_topi (fun x15 ex15 => ?_)
          replace hZ9 := bnd_s hZ9 ex15
          exact W.iret (v := x15) hx hb hr (fun t ht hW => ⟨⟨x15, (), rfl, hZ9.symm.trans hR0, by rw [ht]; exact hP, hD⟩, hS.F ht⟩) hS.2.2 dX2_tell_81
        replace hZ9 := ite_f hZ9 c12
        rcases Classical.em (p1 = 2) with c16 | c16
        · replace hZ9 := ite_t hZ9 c16
          refine lv_tableIn (tgt := 82) (off := 44) hx hb dX2_tell_38 (by rw [c16]; decide) (by rw [c16]; decide) (by rw [c16]; rfl) (by decide) ?_
          refine lv_lload_n hx hb dX2_tell_82 rfl (lv_at hl 0 rfl) ?_
          refine lv_ldc2 (v := 8) hx hb hown (hts (.constantLong RX2 27 (8)) (by decide +kernel)) dX2_tell_83 ?_
          refine lv_lrem hx hb dX2_tell_86 (by decide) ?_
          refine lv_topl (fun x17 ex17 => ?_)
          replace hZ9 := bnd_s hZ9 ex17
          refine lv_l2i hx hb dX2_tell_87 rfl ?_
          refine lv_topi (fun x18 ex18 => ?_)
          replace hZ9 := bnd_s hZ9 ex18
          exact W.iret (v := x18) hx hb hr (fun t ht hW => ⟨⟨x18, (), rfl, hZ9.symm.trans hR0, by rw [ht]; exact hP, hD⟩, hS.F ht⟩) hS.2.2 dX2_tell_88
        replace hZ9 := ite_f hZ9 c16
        refine lv_tableOut (tgt := 89) hx hb dX2_tell_38 (by have k0 := c9; have k1 := c12; have k2 := c16; simp only [p1_le, p1_lt, p1_eq, p1_m6, p1_m1, p1_0, p1_1, p1_2, p1_3, p1_4, p1_5, p1_6, p1_7, p1_8, p1_9, p1_10, p1_11, p1_12, p1_13, p1_14, p1_15, p1_16, p1_17, p1_18, p1_19, p1_20, p1_40, p1_50, p1_200, p1_1000] at k0 k1 k2 ⊢; omega) (by decide) ?_
        refine lv_iconst (v := (-1)) hx hb dX2_tell_89 (by decide) ?_
        exact W.iret (v := (-1)) hx hb hr (fun t ht hW => ⟨⟨(-1), (), rfl, hZ9.symm.trans hR0, by rw [ht]; exact hP, hD⟩, hS.F ht⟩) hS.2.2 dX2_tell_90
      · replace hZ9 := ite_f hZ9 c6
        refine lv_iconst (v := (-1)) hx hb dX2_tell_24 (by decide) ?_
        exact W.iret (v := (-1)) hx hb hr (fun t ht hW => ⟨⟨(-1), (), rfl, hZ9.symm.trans hR0, by rw [ht]; exact hP, hD⟩, hS.F ht⟩) hS.2.2 dX2_tell_25
def f_y_least_2 (n : Nat) (dl : Nat → Nat) (p0 : Int64) : Nat → Nat → (Nat → Int32) → Int32
  | 0, i1, K9_2 => K9_2 i1  
  | fu2 + 1, i1, K9_2 => if 40 ≤ i1 then (K9_2 i1) else (bnd (f_y_holds n dl p0 i1 ) (fun (r6 : Int32) => if r6 = (0 : Int32) then (f_y_least_2 n dl p0 fu2 (i1 + 1)   K9_2) else (((nI i1)))))
def f_y_least (n : Nat) (dl : Nat → Nat) (p0 : Int64)  : Int32 := f_y_least_2 n dl p0 (40 + 1) 0   (fun (i1 : Nat) => ((-1 : Int32)))
def wq_y_least : List Cond := ([.code yX1_least cX1_least 3 (some .int), .initialized RX8, .static yX8_holds] : List Cond) ++ (wq_y_holds)
set_option maxRecDepth 20000 in
theorem wi_y_least : ∀ w ∈ wq_y_least, w ∈ lw_tbl := List.forall_mem_append.mpr ⟨(wix [576, 60, 488] rfl), wi_y_holds⟩
set_option maxRecDepth 20000 in
theorem wg_y_least : GoodIn wq_y_least wq_y_least := goodIn_sub (fun _ h => h) (by decide +kernel)
theorem wc_y_least_y_holds_76 : GoodIn wq_y_least wq_y_holds := (fun w h => ⟨List.mem_append_right _ (h), (wg_y_holds w h).2⟩)
def rm_y_least : Room := { frames := 1, cells := 0, slots := 0, locals := 22 }
set_option maxHeartbeats 4000000 in
set_option maxRecDepth 100000 in
theorem c_y_least (l : Launch) (dC : Nat → ClassId) (dI : Nat → Nat → Nat) (h : Nat) (a : Nat → Nat) (e : Nat) (cI cJ cO cE : ClassId) (L : Nat → Int64) (I : Nat → Int32) (M : Nat → Nat → Int64) (J : Nat → Nat → Int32) (n cap : Nat) (fE : Nat → Option Nat) (sd : Nat → Nat → Nat) (si : Nat → Nat → Int32) (sa : Nat → Nat → Nat → Int32) (dl : Nat → Nat) (b : Nat) (p0 : Int64) (sz : Nat) (hX0 : InvX n cap fE sd dl b I J si) (hb0 : b + 0 < 2147483648)  : Met l yX1_least wq_y_least rm_y_least (va_Pc [.long p0] (fun U => U.heap.size = sz ∧ va_P (dC, dI) vwCl (xW h a e cI cJ cO cE L I M J n cap fE sd si sa dl) U.heap ∧ va_K (dC, dI) vwCl (xT cI cJ cO cE) U ∧ va_D (fun _ => True) (xW h a e cI cJ cO cE L I M J n cap fE sd si sa dl) ∧ pw_N U)) (va_Qi (fun (r : Int32) (u : Unit) => ((r = f_y_least n dl p0 ) ∧ (r = -1 ∨ ∃ j : Nat, j < 40 ∧ r = nI j))) (fun (u : Unit) (t : State) => va_P (dC, dI) vwCl (xW h a e cI cJ cO cE L I M J n cap fE sd si sa dl) t.heap ∧ va_D (va_A (xW h a e cI cJ cO cE L I M J n cap fE sd si sa dl) sz) (xW h a e cI cJ cO cE L I M J n cap fE sd si sa dl)) (va_A (xW h a e cI cJ cO cE L I M J n cap fE sd si sa dl) sz)) 0 0 (va_A (xW h a e cI cJ cO cE L I M J n cap fE sd si sa dl) sz) := by
  have hn : n ≤ 40 := hX0.1.1
  have hX := hX0
  refine Met.ofW (cc := cX1_least) (maxL := 3) (ret := (some .int)) (by decide) rfl ?_
  intro p e9 s m args below meth c s₁ B hml hv
  obtain ⟨rfl, hsz, hP, hK, hD0, hN⟩ := hv
  have hx := B.exec
  have hb := B.bytes
  have hr := B.returns
  have hts := atoms_spec (ws := wq_y_least) B.pre
  have hown : s.vm.findClass RX1 = some m.cls := findClass_of_methodNamed B.named
  have hlocks := B.notSynchronized
  subst hsz
  have hD := hD0.self (sz := s.heap.size)
  generalize hAe : va_A (xW h a e cI cJ cO cE L I M J n cap fE sd si sa dl) s.heap.size = A at hD ⊢
  have hA : ∀ q : Nat, s.heap.size ≤ q → A q := fun q h => by rw [← hAe]; exact Or.inr h
  have hS : va_S A s.heap s.heap [] := va_S.rf
  have hl := lv_entry ([.long p0]) (n := 3) (Nat.le_of_ble_eq_true rfl)
  rw [lg_entry_eq]
  generalize (lg_sl ([.long p0]) ++ List.replicate (3 - (lg_sl ([.long p0])).length) Slot.unset).toArray = ls at hl ⊢
  have hl : lv_has ls 3 [(0, .long p0)] := hl
  refine mw_Q (fun Q0 hQ => ?_)
  obtain ⟨RES, hR0⟩ : ∃ R9, R9 = f_y_least n dl p0  := ⟨_, rfl⟩
  have hZ9 := hR0
  unfold f_y_least at hZ9
  refine lv_iconst (v := 0) hx hb dX1_least_0 (by decide) ?_
  refine lv_istore_n (lv' := [(2, .int 0), (0, .long p0)]) hx hb dX1_least_1 rfl hl (by decide) rfl (fun ls hl => ?_)
  obtain ⟨K9_2, hK9_2, hZ9⟩ := lp_gen hZ9
  have lp4 : ∀ (fu2 i1 : Nat)   (H : Heap) (locs : List Loc) (ls : Array Slot), 40 < i1 + fu2 → i1 ≤ 40 → RES = f_y_least_2 n dl p0 fu2 i1   K9_2 → va_P (dC, dI) vwCl (xW h a e cI cJ cO cE L I M J n cap fE sd si sa dl) H → va_D A (xW h a e cI cJ cO cE L I M J n cap fE sd si sa dl) → va_S A s.heap H locs → lv_has ls 3 [(2, .int (nI i1)), (0, .long p0)] → W p l e9 (headSpec wq_y_least rm_y_least).room s m ([.long p0] : List Value).toArray below meth c H locs 0 0 Q0 (F0 m 2 ls []) := by
    intro fu2
    induction fu2 with
    | zero =>
      intro i1   H locs ls hf hi
      exact absurd hf (by omega)
    | succ fu2 ih3 =>
      intro i1   H locs ls hfi1 hii1 hZ9 hP hD hS hl
      rw [f_y_least_2] at hZ9
      refine lv_iload_n hx hb dX1_least_2 rfl (lv_at hl 0 rfl) ?_
      refine lv_bipush (v := 40) hx hb dX1_least_3 (by decide) ?_
      refine lv_icmp_ge (tgt := 24) hx hb dX1_least_5 (by decide) (fun c5 => ?_) (fun c5 => ?_)
      · replace c5 : 40 ≤ i1 := (nI_leI (a := 40) (b := i1) (by omega) (by omega)).mp c5
        replace hZ9 := ite_t hZ9 c5
        replace hZ9 := lp_app1 hK9_2 hZ9
        refine lv_iconst (v := (-1)) hx hb dX1_least_24 (by decide) ?_
        rw [hQ]
        exact W.iret (v := (-1)) hx hb hr (fun t ht hW => ⟨⟨(-1), (), rfl, ⟨hZ9.symm.trans hR0, Or.inl rfl⟩, by rw [ht]; exact hP, hD⟩, hS.F ht⟩) hS.2.2 dX1_least_25
      · replace c5 : ¬ (40 ≤ i1) := fun q9 => c5 ((nI_leI (a := 40) (b := i1) (by omega) (by omega)).mpr q9)
        replace hZ9 := ite_f hZ9 c5
        refine lv_lload_n hx hb dX1_least_8 rfl (lv_at hl 1 rfl) ?_
        refine lv_iload_n hx hb dX1_least_9 rfl (lv_at hl 0 rfl) ?_
        have hFc := mw_free hD hS hA
        refine va_calli (va_runSN (As := [.long p0, .int (nI i1)]) (rest := []) ⟨hx, hb, hml, hown, hts⟩ (c_y_holds l dC dI h a e cI cJ cO cE L I M J n cap fE sd si sa dl (b) p0 i1 H.size hX (by omega) ) ⟨va_cnB 2 hts wc_y_least_y_holds_76 rfl rfl rfl (hN (.methodLinkNest RX1 76 yX8_holds "ServiceTree") (by decide +kernel)) (hts (.initialized RX8) (by decide +kernel)) (by decide +kernel) ⟨Nat.le_of_ble_eq_true rfl, Nat.le_of_ble_eq_true rfl⟩, hts (.static yX8_holds) (by decide +kernel), trivial⟩ ⟨fun a9 U g mk q => by obtain ⟨q0, q1, qP, qK, qD, qN⟩ := q; exact ⟨q0, q1, qP, va_K.moved (u := U) (U := U.calling g mk a9) (Vm.Alike.refl U.vm) qK, qD, pw_N.same (u := U) (U := U.calling g mk a9) rfl qN⟩, fun U hU hW => ⟨rfl, by rw [hU], by rw [hU]; exact hP, va_K.moved hW.alike hK, hD.weaken (fun _ _ _ _ => trivial), pw_N.warm hW hN⟩⟩ rfl rfl hl.1 rfl (lv_room (Nat.le_of_ble_eq_true rfl)) dX1_least_10 ⟨Nat.le_of_ble_eq_true rfl, Nat.le_of_ble_eq_true rfl⟩) hS (fun q _ h => hFc q h) hFc (fun r6 u t H1 locs ht hvm hw hB hz1 hk1 hS => ?_)
        replace hP := hB.1
        rw [ht] at hP
        replace hD : va_D A (xW h a e cI cJ cO cE L I M J n cap fE sd si sa dl) := hB.2.weaken (fun _ q _ h9 => hFc q.1 h9)
        clear hB
        generalize H1 = H at hP hS ⊢
        replace hP : va_P (dC, dI) vwCl (xW h a e cI cJ cO cE L I M J n cap fE sd si sa dl) H := hP
        obtain ⟨hw, hwe⟩ := hw
        replace hw : r6 = f_y_holds n dl p0 i1  := hw
        replace hZ9 := bnd_s hZ9 hw
        have br6 := hwe
        refine lv_if_eq (tgt := 18) hx hb dX1_least_13 (by decide) (fun c7 => ?_) (fun c7 => ?_)
        · replace hZ9 := ite_t hZ9 c7
          refine lv_iinc (v := (nI (i1 + 1))) (lv' := [(2, .int (nI (i1 + 1))), (0, .long p0)]) hx hb dX1_least_18 hl (k := 0) rfl (nI_add i1 1) (by decide) rfl (fun ls hl => ?_)
          refine lv_goto (tgt := 2) hx hb dX1_least_21 (by decide) ?_
          exact ih3 (i1 + 1)   _ _ _ (by omega) (by omega)  hZ9 hP hD hS (lv_sub hl [0, 1] rfl)
        · replace hZ9 := ite_f hZ9 c7
          refine lv_iload_n hx hb dX1_least_16 rfl (lv_at hl 0 rfl) ?_
          rw [hQ]
          exact W.iret (v := (nI i1)) hx hb hr (fun t ht hW => ⟨⟨(nI i1), (), rfl, ⟨hZ9.symm.trans hR0, Or.inr ⟨i1, by omega, rfl⟩⟩, by rw [ht]; exact hP, hD⟩, hS.F ht⟩) hS.2.2 dX1_least_17
  exact lp4 (40 + 1) 0   _ _ _ (by omega) (by omega)  hZ9 hP hD hS hl

end
