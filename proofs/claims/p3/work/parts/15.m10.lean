theorem dX9_about_0 : decode cX9_about 0 = .ok (.aload_n 0, 1) := by decide +kernel
theorem dX9_about_1 : decode cX9_about 1 = .ok (.iload_n 1, 1) := by decide +kernel
theorem dX9_about_2 : decode cX9_about 2 = .ok (.invokevirtual 135, 3) := by decide +kernel
theorem dX9_about_5 : decode cX9_about 5 = .ok (.ifCond .ne 5, 3) := by decide +kernel
theorem dX9_about_8 : decode cX9_about 8 = .ok (.iconst (-1), 1) := by decide +kernel
theorem dX9_about_9 : decode cX9_about 9 = .ok (.ireturn, 1) := by decide +kernel
theorem dX9_about_10 : decode cX9_about 10 = .ok (.iload_n 2, 1) := by decide +kernel
theorem dX9_about_11 : decode cX9_about 11 = .ok (.tableswitch 131 0 9 #[53, 60, 67, 74, 81, 96, 103, 110, 117, 124], 53) := by decide +kernel
theorem dX9_about_64 : decode cX9_about 64 = .ok (.aload_n 0, 1) := by decide +kernel
theorem dX9_about_65 : decode cX9_about 65 = .ok (.getfield 31, 3) := by decide +kernel
theorem dX9_about_68 : decode cX9_about 68 = .ok (.iload_n 1, 1) := by decide +kernel
theorem dX9_about_69 : decode cX9_about 69 = .ok (.iaload, 1) := by decide +kernel
theorem dX9_about_70 : decode cX9_about 70 = .ok (.ireturn, 1) := by decide +kernel
theorem dX9_about_71 : decode cX9_about 71 = .ok (.aload_n 0, 1) := by decide +kernel
theorem dX9_about_72 : decode cX9_about 72 = .ok (.getfield 34, 3) := by decide +kernel
theorem dX9_about_75 : decode cX9_about 75 = .ok (.iload_n 1, 1) := by decide +kernel
theorem dX9_about_76 : decode cX9_about 76 = .ok (.iaload, 1) := by decide +kernel
theorem dX9_about_77 : decode cX9_about 77 = .ok (.ireturn, 1) := by decide +kernel
theorem dX9_about_78 : decode cX9_about 78 = .ok (.aload_n 0, 1) := by decide +kernel
theorem dX9_about_79 : decode cX9_about 79 = .ok (.getfield 37, 3) := by decide +kernel
theorem dX9_about_82 : decode cX9_about 82 = .ok (.iload_n 1, 1) := by decide +kernel
theorem dX9_about_83 : decode cX9_about 83 = .ok (.iaload, 1) := by decide +kernel
theorem dX9_about_84 : decode cX9_about 84 = .ok (.ireturn, 1) := by decide +kernel
theorem dX9_about_85 : decode cX9_about 85 = .ok (.aload_n 0, 1) := by decide +kernel
theorem dX9_about_86 : decode cX9_about 86 = .ok (.getfield 40, 3) := by decide +kernel
theorem dX9_about_89 : decode cX9_about 89 = .ok (.iload_n 1, 1) := by decide +kernel
theorem dX9_about_90 : decode cX9_about 90 = .ok (.iaload, 1) := by decide +kernel
theorem dX9_about_91 : decode cX9_about 91 = .ok (.ireturn, 1) := by decide +kernel
theorem dX9_about_92 : decode cX9_about 92 = .ok (.aload_n 0, 1) := by decide +kernel
theorem dX9_about_93 : decode cX9_about 93 = .ok (.getfield 43, 3) := by decide +kernel
theorem dX9_about_96 : decode cX9_about 96 = .ok (.iload_n 1, 1) := by decide +kernel
theorem dX9_about_97 : decode cX9_about 97 = .ok (.baload, 1) := by decide +kernel
theorem dX9_about_98 : decode cX9_about 98 = .ok (.ifCond .eq 7, 3) := by decide +kernel
theorem dX9_about_101 : decode cX9_about 101 = .ok (.iconst 1, 1) := by decide +kernel
theorem dX9_about_102 : decode cX9_about 102 = .ok (.goto 4, 3) := by decide +kernel
theorem dX9_about_105 : decode cX9_about 105 = .ok (.iconst 0, 1) := by decide +kernel
theorem dX9_about_106 : decode cX9_about 106 = .ok (.ireturn, 1) := by decide +kernel
theorem dX9_about_107 : decode cX9_about 107 = .ok (.aload_n 0, 1) := by decide +kernel
theorem dX9_about_108 : decode cX9_about 108 = .ok (.getfield 71, 3) := by decide +kernel
theorem dX9_about_111 : decode cX9_about 111 = .ok (.iload_n 1, 1) := by decide +kernel
theorem dX9_about_112 : decode cX9_about 112 = .ok (.iaload, 1) := by decide +kernel
theorem dX9_about_113 : decode cX9_about 113 = .ok (.ireturn, 1) := by decide +kernel
theorem dX9_about_114 : decode cX9_about 114 = .ok (.aload_n 0, 1) := by decide +kernel
theorem dX9_about_115 : decode cX9_about 115 = .ok (.getfield 65, 3) := by decide +kernel
theorem dX9_about_118 : decode cX9_about 118 = .ok (.iload_n 1, 1) := by decide +kernel
theorem dX9_about_119 : decode cX9_about 119 = .ok (.iaload, 1) := by decide +kernel
theorem dX9_about_120 : decode cX9_about 120 = .ok (.ireturn, 1) := by decide +kernel
theorem dX9_about_121 : decode cX9_about 121 = .ok (.aload_n 0, 1) := by decide +kernel
theorem dX9_about_122 : decode cX9_about 122 = .ok (.getfield 56, 3) := by decide +kernel
theorem dX9_about_125 : decode cX9_about 125 = .ok (.iload_n 1, 1) := by decide +kernel
theorem dX9_about_126 : decode cX9_about 126 = .ok (.iaload, 1) := by decide +kernel
theorem dX9_about_127 : decode cX9_about 127 = .ok (.ireturn, 1) := by decide +kernel
theorem dX9_about_128 : decode cX9_about 128 = .ok (.aload_n 0, 1) := by decide +kernel
theorem dX9_about_129 : decode cX9_about 129 = .ok (.getfield 59, 3) := by decide +kernel
theorem dX9_about_132 : decode cX9_about 132 = .ok (.iload_n 1, 1) := by decide +kernel
theorem dX9_about_133 : decode cX9_about 133 = .ok (.iaload, 1) := by decide +kernel
theorem dX9_about_134 : decode cX9_about 134 = .ok (.ireturn, 1) := by decide +kernel
theorem dX9_about_135 : decode cX9_about 135 = .ok (.aload_n 0, 1) := by decide +kernel
theorem dX9_about_136 : decode cX9_about 136 = .ok (.getfield 9, 3) := by decide +kernel
theorem dX9_about_139 : decode cX9_about 139 = .ok (.iload_n 1, 1) := by decide +kernel
theorem dX9_about_140 : decode cX9_about 140 = .ok (.iaload, 1) := by decide +kernel
theorem dX9_about_141 : decode cX9_about 141 = .ok (.ireturn, 1) := by decide +kernel
theorem dX9_about_142 : decode cX9_about 142 = .ok (.iconst (-1), 1) := by decide +kernel
theorem dX9_about_143 : decode cX9_about 143 = .ok (.ireturn, 1) := by decide +kernel
theorem dX9_count_0 : decode cX9_count 0 = .ok (.iload_n 1, 1) := by decide +kernel
theorem dX9_count_1 : decode cX9_count 1 = .ok (.tableswitch 69 0 5 #[39, 44, 49, 54, 59, 64], 39) := by decide +kernel
theorem dX9_count_40 : decode cX9_count 40 = .ok (.aload_n 0, 1) := by decide +kernel
theorem dX9_count_41 : decode cX9_count 41 = .ok (.getfield 126, 3) := by decide +kernel
theorem dX9_count_44 : decode cX9_count 44 = .ok (.ireturn, 1) := by decide +kernel
theorem dX9_count_45 : decode cX9_count 45 = .ok (.aload_n 0, 1) := by decide +kernel
theorem dX9_count_46 : decode cX9_count 46 = .ok (.getfield 153, 3) := by decide +kernel
theorem dX9_count_49 : decode cX9_count 49 = .ok (.ireturn, 1) := by decide +kernel
theorem dX9_count_50 : decode cX9_count 50 = .ok (.aload_n 0, 1) := by decide +kernel
theorem dX9_count_51 : decode cX9_count 51 = .ok (.invokevirtual 143, 3) := by decide +kernel
theorem dX9_count_54 : decode cX9_count 54 = .ok (.ireturn, 1) := by decide +kernel
theorem dX9_count_55 : decode cX9_count 55 = .ok (.aload_n 0, 1) := by decide +kernel
theorem dX9_count_56 : decode cX9_count 56 = .ok (.getfield 129, 3) := by decide +kernel
theorem dX9_count_59 : decode cX9_count 59 = .ok (.ireturn, 1) := by decide +kernel
theorem dX9_count_60 : decode cX9_count 60 = .ok (.aload_n 0, 1) := by decide +kernel
theorem dX9_count_61 : decode cX9_count 61 = .ok (.getfield 249, 3) := by decide +kernel
theorem dX9_count_64 : decode cX9_count 64 = .ok (.ireturn, 1) := by decide +kernel
theorem dX9_count_65 : decode cX9_count 65 = .ok (.aload_n 0, 1) := by decide +kernel
theorem dX9_count_66 : decode cX9_count 66 = .ok (.getfield 243, 3) := by decide +kernel
theorem dX9_count_69 : decode cX9_count 69 = .ok (.ireturn, 1) := by decide +kernel
theorem dX9_count_70 : decode cX9_count 70 = .ok (.iconst (-1), 1) := by decide +kernel
theorem dX9_count_71 : decode cX9_count 71 = .ok (.ireturn, 1) := by decide +kernel
theorem dX9_related_0 : decode cX9_related 0 = .ok (.aload_n 0, 1) := by decide +kernel
theorem dX9_related_1 : decode cX9_related 1 = .ok (.iload_n 1, 1) := by decide +kernel
theorem dX9_related_2 : decode cX9_related 2 = .ok (.iload_n 2, 1) := by decide +kernel
theorem dX9_related_3 : decode cX9_related 3 = .ok (.iload_n 3, 1) := by decide +kernel
theorem dX9_related_4 : decode cX9_related 4 = .ok (.invokevirtual 139, 3) := by decide +kernel
theorem dX9_related_7 : decode cX9_related 7 = .ok (.ifCond .eq 21, 3) := by decide +kernel
theorem dX9_related_10 : decode cX9_related 10 = .ok (.aload_n 0, 1) := by decide +kernel
theorem dX9_related_11 : decode cX9_related 11 = .ok (.iload_n 1, 1) := by decide +kernel
theorem dX9_related_12 : decode cX9_related 12 = .ok (.iload_n 2, 1) := by decide +kernel
theorem dX9_related_13 : decode cX9_related 13 = .ok (.iload_n 3, 1) := by decide +kernel
theorem dX9_related_14 : decode cX9_related 14 = .ok (.invokevirtual 150, 3) := by decide +kernel
theorem dX9_related_17 : decode cX9_related 17 = .ok (.ifCond .eq 7, 3) := by decide +kernel
theorem dX9_related_20 : decode cX9_related 20 = .ok (.iconst 1, 1) := by decide +kernel
theorem dX9_related_21 : decode cX9_related 21 = .ok (.goto 8, 3) := by decide +kernel
theorem dX9_related_24 : decode cX9_related 24 = .ok (.iconst 0, 1) := by decide +kernel
theorem dX9_related_25 : decode cX9_related 25 = .ok (.goto 4, 3) := by decide +kernel
theorem dX9_related_28 : decode cX9_related 28 = .ok (.iconst (-1), 1) := by decide +kernel
theorem dX9_related_29 : decode cX9_related 29 = .ok (.ireturn, 1) := by decide +kernel
theorem dX9_waits_0 : decode cX9_waits 0 = .ok (.aload_n 0, 1) := by decide +kernel
theorem dX9_waits_1 : decode cX9_waits 1 = .ok (.iload_n 1, 1) := by decide +kernel
theorem dX9_waits_2 : decode cX9_waits 2 = .ok (.invokevirtual 135, 3) := by decide +kernel
theorem dX9_waits_5 : decode cX9_waits 5 = .ok (.ifCond .eq 12, 3) := by decide +kernel
theorem dX9_waits_8 : decode cX9_waits 8 = .ok (.iload_n 2, 1) := by decide +kernel
theorem dX9_waits_9 : decode cX9_waits 9 = .ok (.ifCond .lt 8, 3) := by decide +kernel
theorem dX9_waits_12 : decode cX9_waits 12 = .ok (.iload_n 2, 1) := by decide +kernel
theorem dX9_waits_13 : decode cX9_waits 13 = .ok (.iconst 1, 1) := by decide +kernel
theorem dX9_waits_14 : decode cX9_waits 14 = .ok (.if_icmp .le 5, 3) := by decide +kernel
theorem dX9_waits_17 : decode cX9_waits 17 = .ok (.iconst (-1), 1) := by decide +kernel
theorem dX9_waits_18 : decode cX9_waits 18 = .ok (.ireturn, 1) := by decide +kernel
theorem dX9_waits_19 : decode cX9_waits 19 = .ok (.iconst 0, 1) := by decide +kernel
theorem dX9_waits_20 : decode cX9_waits 20 = .ok (.istore_n 3, 1) := by decide +kernel
theorem dX9_waits_21 : decode cX9_waits 21 = .ok (.iconst 0, 1) := by decide +kernel
theorem dX9_waits_22 : decode cX9_waits 22 = .ok (.istore 4, 2) := by decide +kernel
theorem dX9_waits_24 : decode cX9_waits 24 = .ok (.iload 4, 2) := by decide +kernel
theorem dX9_waits_26 : decode cX9_waits 26 = .ok (.aload_n 0, 1) := by decide +kernel
theorem dX9_waits_27 : decode cX9_waits 27 = .ok (.getfield 126, 3) := by decide +kernel
theorem dX9_waits_30 : decode cX9_waits 30 = .ok (.if_icmp .ge 71, 3) := by decide +kernel
theorem dX9_waits_33 : decode cX9_waits 33 = .ok (.iload_n 3, 1) := by decide +kernel
theorem dX9_waits_34 : decode cX9_waits 34 = .ok (.iload_n 2, 1) := by decide +kernel
theorem dX9_waits_35 : decode cX9_waits 35 = .ok (.ifCond .ne 29, 3) := by decide +kernel
theorem dX9_waits_38 : decode cX9_waits 38 = .ok (.aload_n 0, 1) := by decide +kernel
theorem dX9_waits_39 : decode cX9_waits 39 = .ok (.aload_n 0, 1) := by decide +kernel
theorem dX9_waits_40 : decode cX9_waits 40 = .ok (.getfield 71, 3) := by decide +kernel
theorem dX9_waits_43 : decode cX9_waits 43 = .ok (.iload_n 1, 1) := by decide +kernel
theorem dX9_waits_44 : decode cX9_waits 44 = .ok (.iload 4, 2) := by decide +kernel
theorem dX9_waits_46 : decode cX9_waits 46 = .ok (.invokevirtual 167, 3) := by decide +kernel
theorem dX9_waits_49 : decode cX9_waits 49 = .ok (.ifCond .eq 43, 3) := by decide +kernel
theorem dX9_waits_52 : decode cX9_waits 52 = .ok (.aload_n 0, 1) := by decide +kernel
theorem dX9_waits_53 : decode cX9_waits 53 = .ok (.getfield 74, 3) := by decide +kernel
theorem dX9_waits_56 : decode cX9_waits 56 = .ok (.iload_n 1, 1) := by decide +kernel
theorem dX9_waits_57 : decode cX9_waits 57 = .ok (.baload, 1) := by decide +kernel
theorem dX9_waits_58 : decode cX9_waits 58 = .ok (.ifCond .ne 34, 3) := by decide +kernel
theorem dX9_waits_61 : decode cX9_waits 61 = .ok (.goto 27, 3) := by decide +kernel
theorem dX9_waits_64 : decode cX9_waits 64 = .ok (.aload_n 0, 1) := by decide +kernel
theorem dX9_waits_65 : decode cX9_waits 65 = .ok (.aload_n 0, 1) := by decide +kernel
theorem dX9_waits_66 : decode cX9_waits 66 = .ok (.getfield 71, 3) := by decide +kernel
theorem dX9_waits_69 : decode cX9_waits 69 = .ok (.iload 4, 2) := by decide +kernel
theorem dX9_waits_71 : decode cX9_waits 71 = .ok (.iload_n 1, 1) := by decide +kernel
theorem dX9_waits_72 : decode cX9_waits 72 = .ok (.invokevirtual 167, 3) := by decide +kernel
theorem dX9_waits_75 : decode cX9_waits 75 = .ok (.ifCond .eq 17, 3) := by decide +kernel
theorem dX9_waits_78 : decode cX9_waits 78 = .ok (.aload_n 0, 1) := by decide +kernel
theorem dX9_waits_79 : decode cX9_waits 79 = .ok (.getfield 74, 3) := by decide +kernel
theorem dX9_waits_82 : decode cX9_waits 82 = .ok (.iload 4, 2) := by decide +kernel
theorem dX9_waits_84 : decode cX9_waits 84 = .ok (.baload, 1) := by decide +kernel
theorem dX9_waits_85 : decode cX9_waits 85 = .ok (.ifCond .ne 7, 3) := by decide +kernel
theorem dX9_waits_88 : decode cX9_waits 88 = .ok (.iconst 1, 1) := by decide +kernel
theorem dX9_waits_89 : decode cX9_waits 89 = .ok (.goto 4, 3) := by decide +kernel
theorem dX9_waits_92 : decode cX9_waits 92 = .ok (.iconst 0, 1) := by decide +kernel
theorem dX9_waits_93 : decode cX9_waits 93 = .ok (.iadd, 1) := by decide +kernel
theorem dX9_waits_94 : decode cX9_waits 94 = .ok (.istore_n 3, 1) := by decide +kernel
theorem dX9_waits_95 : decode cX9_waits 95 = .ok (.iinc 4 1, 3) := by decide +kernel
theorem dX9_waits_98 : decode cX9_waits 98 = .ok (.goto (-74), 3) := by decide +kernel
theorem dX9_waits_101 : decode cX9_waits 101 = .ok (.iload_n 3, 1) := by decide +kernel
theorem dX9_waits_102 : decode cX9_waits 102 = .ok (.ireturn, 1) := by decide +kernel
theorem dX9_plan_0 : decode cX9_plan 0 = .ok (.iload_n 1, 1) := by decide +kernel
theorem dX9_plan_1 : decode cX9_plan 1 = .ok (.ifCond .lt 16, 3) := by decide +kernel
theorem dX9_plan_4 : decode cX9_plan 4 = .ok (.iload_n 1, 1) := by decide +kernel
theorem dX9_plan_5 : decode cX9_plan 5 = .ok (.iconst 2, 1) := by decide +kernel
theorem dX9_plan_6 : decode cX9_plan 6 = .ok (.if_icmp .gt 11, 3) := by decide +kernel
theorem dX9_plan_9 : decode cX9_plan 9 = .ok (.aload_n 0, 1) := by decide +kernel
theorem dX9_plan_10 : decode cX9_plan 10 = .ok (.iload_n 2, 1) := by decide +kernel
theorem dX9_plan_11 : decode cX9_plan 11 = .ok (.invokevirtual 135, 3) := by decide +kernel
theorem dX9_plan_14 : decode cX9_plan 14 = .ok (.ifCond .ne 5, 3) := by decide +kernel
theorem dX9_plan_17 : decode cX9_plan 17 = .ok (.iconst (-1), 1) := by decide +kernel
theorem dX9_plan_18 : decode cX9_plan 18 = .ok (.ireturn, 1) := by decide +kernel
theorem dX9_plan_19 : decode cX9_plan 19 = .ok (.aload_n 0, 1) := by decide +kernel
theorem dX9_plan_20 : decode cX9_plan 20 = .ok (.iload_n 1, 1) := by decide +kernel
theorem dX9_plan_21 : decode cX9_plan 21 = .ok (.iload_n 2, 1) := by decide +kernel
theorem dX9_plan_22 : decode cX9_plan 22 = .ok (.invokevirtual 207, 3) := by decide +kernel
theorem dX9_plan_25 : decode cX9_plan 25 = .ok (.istore_n 3, 1) := by decide +kernel
theorem dX9_plan_26 : decode cX9_plan 26 = .ok (.iload_n 3, 1) := by decide +kernel
theorem dX9_plan_27 : decode cX9_plan 27 = .ok (.ifCond .eq 5, 3) := by decide +kernel
theorem dX9_plan_30 : decode cX9_plan 30 = .ok (.iload_n 3, 1) := by decide +kernel
theorem dX9_plan_31 : decode cX9_plan 31 = .ok (.ireturn, 1) := by decide +kernel
theorem dX9_plan_32 : decode cX9_plan 32 = .ok (.iconst 0, 1) := by decide +kernel
theorem dX9_plan_33 : decode cX9_plan 33 = .ok (.istore 4, 2) := by decide +kernel
theorem dX9_plan_35 : decode cX9_plan 35 = .ok (.iload 4, 2) := by decide +kernel
theorem dX9_plan_37 : decode cX9_plan 37 = .ok (.aload_n 0, 1) := by decide +kernel
theorem dX9_plan_38 : decode cX9_plan 38 = .ok (.getfield 126, 3) := by decide +kernel
theorem dX9_plan_41 : decode cX9_plan 41 = .ok (.if_icmp .ge 17, 3) := by decide +kernel
theorem dX9_plan_44 : decode cX9_plan 44 = .ok (.aload_n 0, 1) := by decide +kernel
theorem dX9_plan_45 : decode cX9_plan 45 = .ok (.getfield 111, 3) := by decide +kernel
theorem dX9_plan_48 : decode cX9_plan 48 = .ok (.iload 4, 2) := by decide +kernel
theorem dX9_plan_50 : decode cX9_plan 50 = .ok (.iconst (-1), 1) := by decide +kernel
theorem dX9_plan_51 : decode cX9_plan 51 = .ok (.iastore, 1) := by decide +kernel
theorem dX9_plan_52 : decode cX9_plan 52 = .ok (.iinc 4 1, 3) := by decide +kernel
theorem dX9_plan_55 : decode cX9_plan 55 = .ok (.goto (-20), 3) := by decide +kernel
theorem dX9_plan_58 : decode cX9_plan 58 = .ok (.iconst 0, 1) := by decide +kernel
theorem dX9_plan_59 : decode cX9_plan 59 = .ok (.istore 4, 2) := by decide +kernel
theorem dX9_plan_61 : decode cX9_plan 61 = .ok (.iload 4, 2) := by decide +kernel
theorem dX9_plan_63 : decode cX9_plan 63 = .ok (.aload_n 0, 1) := by decide +kernel
theorem dX9_plan_64 : decode cX9_plan 64 = .ok (.getfield 126, 3) := by decide +kernel
theorem dX9_plan_67 : decode cX9_plan 67 = .ok (.if_icmp .ge 53, 3) := by decide +kernel
theorem dX9_plan_70 : decode cX9_plan 70 = .ok (.iconst 0, 1) := by decide +kernel
theorem dX9_plan_71 : decode cX9_plan 71 = .ok (.istore 5, 2) := by decide +kernel
theorem dX9_plan_73 : decode cX9_plan 73 = .ok (.iload 5, 2) := by decide +kernel
theorem dX9_plan_75 : decode cX9_plan 75 = .ok (.aload_n 0, 1) := by decide +kernel
theorem dX9_plan_76 : decode cX9_plan 76 = .ok (.getfield 126, 3) := by decide +kernel
theorem dX9_plan_79 : decode cX9_plan 79 = .ok (.if_icmp .ge 35, 3) := by decide +kernel
theorem dX9_plan_82 : decode cX9_plan 82 = .ok (.aload_n 0, 1) := by decide +kernel
theorem dX9_plan_83 : decode cX9_plan 83 = .ok (.getfield 86, 3) := by decide +kernel
theorem dX9_plan_86 : decode cX9_plan 86 = .ok (.iload 5, 2) := by decide +kernel
theorem dX9_plan_88 : decode cX9_plan 88 = .ok (.iaload, 1) := by decide +kernel
theorem dX9_plan_89 : decode cX9_plan 89 = .ok (.ifCond .eq 19, 3) := by decide +kernel
theorem dX9_plan_92 : decode cX9_plan 92 = .ok (.aload_n 0, 1) := by decide +kernel
theorem dX9_plan_93 : decode cX9_plan 93 = .ok (.getfield 111, 3) := by decide +kernel
theorem dX9_plan_96 : decode cX9_plan 96 = .ok (.iload 5, 2) := by decide +kernel
theorem dX9_plan_98 : decode cX9_plan 98 = .ok (.iaload, 1) := by decide +kernel
theorem dX9_plan_99 : decode cX9_plan 99 = .ok (.ifCond .ge 9, 3) := by decide +kernel
theorem dX9_plan_102 : decode cX9_plan 102 = .ok (.aload_n 0, 1) := by decide +kernel
theorem dX9_plan_103 : decode cX9_plan 103 = .ok (.iload 5, 2) := by decide +kernel
theorem dX9_plan_105 : decode cX9_plan 105 = .ok (.invokevirtual 255, 3) := by decide +kernel
theorem dX9_plan_108 : decode cX9_plan 108 = .ok (.iinc 5 1, 3) := by decide +kernel
theorem dX9_plan_111 : decode cX9_plan 111 = .ok (.goto (-38), 3) := by decide +kernel
theorem dX9_plan_114 : decode cX9_plan 114 = .ok (.iinc 4 1, 3) := by decide +kernel
theorem dX9_plan_117 : decode cX9_plan 117 = .ok (.goto (-56), 3) := by decide +kernel
theorem dX9_plan_120 : decode cX9_plan 120 = .ok (.aload_n 0, 1) := by decide +kernel
theorem dX9_plan_121 : decode cX9_plan 121 = .ok (.iconst 0, 1) := by decide +kernel
theorem dX9_plan_122 : decode cX9_plan 122 = .ok (.putfield 258, 3) := by decide +kernel
theorem dX9_plan_125 : decode cX9_plan 125 = .ok (.aload_n 0, 1) := by decide +kernel
theorem dX9_plan_126 : decode cX9_plan 126 = .ok (.iconst 0, 1) := by decide +kernel
theorem dX9_plan_127 : decode cX9_plan 127 = .ok (.putfield 107, 3) := by decide +kernel
theorem dX9_plan_130 : decode cX9_plan 130 = .ok (.iconst 0, 1) := by decide +kernel
theorem dX9_plan_131 : decode cX9_plan 131 = .ok (.istore 4, 2) := by decide +kernel
theorem dX9_plan_133 : decode cX9_plan 133 = .ok (.iload 4, 2) := by decide +kernel
theorem dX9_plan_135 : decode cX9_plan 135 = .ok (.aload_n 0, 1) := by decide +kernel
theorem dX9_plan_136 : decode cX9_plan 136 = .ok (.getfield 126, 3) := by decide +kernel
theorem dX9_plan_139 : decode cX9_plan 139 = .ok (.if_icmp .ge 212, 3) := by decide +kernel
theorem dX9_plan_142 : decode cX9_plan 142 = .ok (.aload_n 0, 1) := by decide +kernel
theorem dX9_plan_143 : decode cX9_plan 143 = .ok (.getfield 86, 3) := by decide +kernel
theorem dX9_plan_146 : decode cX9_plan 146 = .ok (.iload 4, 2) := by decide +kernel
theorem dX9_plan_148 : decode cX9_plan 148 = .ok (.iaload, 1) := by decide +kernel
theorem dX9_plan_149 : decode cX9_plan 149 = .ok (.ifCond .eq 196, 3) := by decide +kernel
theorem dX9_plan_152 : decode cX9_plan 152 = .ok (.aload_n 0, 1) := by decide +kernel
theorem dX9_plan_153 : decode cX9_plan 153 = .ok (.getfield 258, 3) := by decide +kernel
theorem dX9_plan_156 : decode cX9_plan 156 = .ok (.istore 5, 2) := by decide +kernel
theorem dX9_plan_158 : decode cX9_plan 158 = .ok (.iload 5, 2) := by decide +kernel
theorem dX9_plan_160 : decode cX9_plan 160 = .ok (.ifCond .le 92, 3) := by decide +kernel
theorem dX9_plan_163 : decode cX9_plan 163 = .ok (.aload_n 0, 1) := by decide +kernel
theorem dX9_plan_164 : decode cX9_plan 164 = .ok (.getfield 101, 3) := by decide +kernel
theorem dX9_plan_167 : decode cX9_plan 167 = .ok (.iload 5, 2) := by decide +kernel
theorem dX9_plan_169 : decode cX9_plan 169 = .ok (.iconst 1, 1) := by decide +kernel
theorem dX9_plan_170 : decode cX9_plan 170 = .ok (.isub, 1) := by decide +kernel
theorem dX9_plan_171 : decode cX9_plan 171 = .ok (.iaload, 1) := by decide +kernel
theorem dX9_plan_172 : decode cX9_plan 172 = .ok (.aload_n 0, 1) := by decide +kernel
theorem dX9_plan_173 : decode cX9_plan 173 = .ok (.getfield 114, 3) := by decide +kernel
theorem dX9_plan_176 : decode cX9_plan 176 = .ok (.iload 4, 2) := by decide +kernel
theorem dX9_plan_178 : decode cX9_plan 178 = .ok (.iaload, 1) := by decide +kernel
theorem dX9_plan_179 : decode cX9_plan 179 = .ok (.if_icmp .le 73, 3) := by decide +kernel
theorem dX9_plan_182 : decode cX9_plan 182 = .ok (.aload_n 0, 1) := by decide +kernel
theorem dX9_plan_183 : decode cX9_plan 183 = .ok (.getfield 95, 3) := by decide +kernel
theorem dX9_plan_186 : decode cX9_plan 186 = .ok (.iload 5, 2) := by decide +kernel
theorem dX9_plan_188 : decode cX9_plan 188 = .ok (.aload_n 0, 1) := by decide +kernel
theorem dX9_plan_189 : decode cX9_plan 189 = .ok (.getfield 95, 3) := by decide +kernel
theorem dX9_plan_192 : decode cX9_plan 192 = .ok (.iload 5, 2) := by decide +kernel
theorem dX9_plan_194 : decode cX9_plan 194 = .ok (.iconst 1, 1) := by decide +kernel
theorem dX9_plan_195 : decode cX9_plan 195 = .ok (.isub, 1) := by decide +kernel
theorem dX9_plan_196 : decode cX9_plan 196 = .ok (.iaload, 1) := by decide +kernel
theorem dX9_plan_197 : decode cX9_plan 197 = .ok (.iastore, 1) := by decide +kernel
theorem dX9_plan_198 : decode cX9_plan 198 = .ok (.aload_n 0, 1) := by decide +kernel
theorem dX9_plan_199 : decode cX9_plan 199 = .ok (.getfield 98, 3) := by decide +kernel
theorem dX9_plan_202 : decode cX9_plan 202 = .ok (.iload 5, 2) := by decide +kernel
theorem dX9_plan_204 : decode cX9_plan 204 = .ok (.aload_n 0, 1) := by decide +kernel
theorem dX9_plan_205 : decode cX9_plan 205 = .ok (.getfield 98, 3) := by decide +kernel
theorem dX9_plan_208 : decode cX9_plan 208 = .ok (.iload 5, 2) := by decide +kernel
theorem dX9_plan_210 : decode cX9_plan 210 = .ok (.iconst 1, 1) := by decide +kernel
theorem dX9_plan_211 : decode cX9_plan 211 = .ok (.isub, 1) := by decide +kernel
theorem dX9_plan_212 : decode cX9_plan 212 = .ok (.iaload, 1) := by decide +kernel
theorem dX9_plan_213 : decode cX9_plan 213 = .ok (.iastore, 1) := by decide +kernel
theorem dX9_plan_214 : decode cX9_plan 214 = .ok (.aload_n 0, 1) := by decide +kernel
theorem dX9_plan_215 : decode cX9_plan 215 = .ok (.getfield 101, 3) := by decide +kernel
theorem dX9_plan_218 : decode cX9_plan 218 = .ok (.iload 5, 2) := by decide +kernel
theorem dX9_plan_220 : decode cX9_plan 220 = .ok (.aload_n 0, 1) := by decide +kernel
theorem dX9_plan_221 : decode cX9_plan 221 = .ok (.getfield 101, 3) := by decide +kernel
theorem dX9_plan_224 : decode cX9_plan 224 = .ok (.iload 5, 2) := by decide +kernel
theorem dX9_plan_226 : decode cX9_plan 226 = .ok (.iconst 1, 1) := by decide +kernel
theorem dX9_plan_227 : decode cX9_plan 227 = .ok (.isub, 1) := by decide +kernel
theorem dX9_plan_228 : decode cX9_plan 228 = .ok (.iaload, 1) := by decide +kernel
theorem dX9_plan_229 : decode cX9_plan 229 = .ok (.iastore, 1) := by decide +kernel
theorem dX9_plan_230 : decode cX9_plan 230 = .ok (.aload_n 0, 1) := by decide +kernel
theorem dX9_plan_231 : decode cX9_plan 231 = .ok (.getfield 104, 3) := by decide +kernel
theorem dX9_plan_234 : decode cX9_plan 234 = .ok (.iload 5, 2) := by decide +kernel
theorem dX9_plan_236 : decode cX9_plan 236 = .ok (.aload_n 0, 1) := by decide +kernel
theorem dX9_plan_237 : decode cX9_plan 237 = .ok (.getfield 104, 3) := by decide +kernel
theorem dX9_plan_240 : decode cX9_plan 240 = .ok (.iload 5, 2) := by decide +kernel
theorem dX9_plan_242 : decode cX9_plan 242 = .ok (.iconst 1, 1) := by decide +kernel
theorem dX9_plan_243 : decode cX9_plan 243 = .ok (.isub, 1) := by decide +kernel
theorem dX9_plan_244 : decode cX9_plan 244 = .ok (.iaload, 1) := by decide +kernel
theorem dX9_plan_245 : decode cX9_plan 245 = .ok (.iastore, 1) := by decide +kernel
theorem dX9_plan_246 : decode cX9_plan 246 = .ok (.iinc 5 (-1), 3) := by decide +kernel
theorem dX9_plan_249 : decode cX9_plan 249 = .ok (.goto (-91), 3) := by decide +kernel
theorem dX9_plan_252 : decode cX9_plan 252 = .ok (.aload_n 0, 1) := by decide +kernel
theorem dX9_plan_253 : decode cX9_plan 253 = .ok (.getfield 95, 3) := by decide +kernel
theorem dX9_plan_256 : decode cX9_plan 256 = .ok (.iload 5, 2) := by decide +kernel
theorem dX9_plan_258 : decode cX9_plan 258 = .ok (.iload 4, 2) := by decide +kernel
theorem dX9_plan_260 : decode cX9_plan 260 = .ok (.iastore, 1) := by decide +kernel
theorem dX9_plan_261 : decode cX9_plan 261 = .ok (.aload_n 0, 1) := by decide +kernel
theorem dX9_plan_262 : decode cX9_plan 262 = .ok (.getfield 98, 3) := by decide +kernel
theorem dX9_plan_265 : decode cX9_plan 265 = .ok (.iload 5, 2) := by decide +kernel
theorem dX9_plan_267 : decode cX9_plan 267 = .ok (.aload_n 0, 1) := by decide +kernel
theorem dX9_plan_268 : decode cX9_plan 268 = .ok (.getfield 86, 3) := by decide +kernel
theorem dX9_plan_271 : decode cX9_plan 271 = .ok (.iload 4, 2) := by decide +kernel
theorem dX9_plan_273 : decode cX9_plan 273 = .ok (.iaload, 1) := by decide +kernel
theorem dX9_plan_274 : decode cX9_plan 274 = .ok (.iastore, 1) := by decide +kernel
theorem dX9_plan_275 : decode cX9_plan 275 = .ok (.aload_n 0, 1) := by decide +kernel
theorem dX9_plan_276 : decode cX9_plan 276 = .ok (.getfield 101, 3) := by decide +kernel
theorem dX9_plan_279 : decode cX9_plan 279 = .ok (.iload 5, 2) := by decide +kernel
theorem dX9_plan_281 : decode cX9_plan 281 = .ok (.aload_n 0, 1) := by decide +kernel
theorem dX9_plan_282 : decode cX9_plan 282 = .ok (.getfield 114, 3) := by decide +kernel
theorem dX9_plan_285 : decode cX9_plan 285 = .ok (.iload 4, 2) := by decide +kernel
theorem dX9_plan_287 : decode cX9_plan 287 = .ok (.iaload, 1) := by decide +kernel
theorem dX9_plan_288 : decode cX9_plan 288 = .ok (.iastore, 1) := by decide +kernel
theorem dX9_plan_289 : decode cX9_plan 289 = .ok (.aload_n 0, 1) := by decide +kernel
theorem dX9_plan_290 : decode cX9_plan 290 = .ok (.getfield 104, 3) := by decide +kernel
theorem dX9_plan_293 : decode cX9_plan 293 = .ok (.iload 5, 2) := by decide +kernel
theorem dX9_plan_295 : decode cX9_plan 295 = .ok (.aload_n 0, 1) := by decide +kernel
theorem dX9_plan_296 : decode cX9_plan 296 = .ok (.getfield 111, 3) := by decide +kernel
theorem dX9_plan_299 : decode cX9_plan 299 = .ok (.iload 4, 2) := by decide +kernel
theorem dX9_plan_301 : decode cX9_plan 301 = .ok (.iaload, 1) := by decide +kernel
theorem dX9_plan_302 : decode cX9_plan 302 = .ok (.iastore, 1) := by decide +kernel
theorem dX9_plan_303 : decode cX9_plan 303 = .ok (.aload_n 0, 1) := by decide +kernel
theorem dX9_plan_304 : decode cX9_plan 304 = .ok (.dup, 1) := by decide +kernel
theorem dX9_plan_305 : decode cX9_plan 305 = .ok (.getfield 258, 3) := by decide +kernel
theorem dX9_plan_308 : decode cX9_plan 308 = .ok (.iconst 1, 1) := by decide +kernel
theorem dX9_plan_309 : decode cX9_plan 309 = .ok (.iadd, 1) := by decide +kernel
theorem dX9_plan_310 : decode cX9_plan 310 = .ok (.putfield 258, 3) := by decide +kernel
theorem dX9_plan_313 : decode cX9_plan 313 = .ok (.aload_n 0, 1) := by decide +kernel
theorem dX9_plan_314 : decode cX9_plan 314 = .ok (.aload_n 0, 1) := by decide +kernel
theorem dX9_plan_315 : decode cX9_plan 315 = .ok (.getfield 111, 3) := by decide +kernel
theorem dX9_plan_318 : decode cX9_plan 318 = .ok (.iload 4, 2) := by decide +kernel
theorem dX9_plan_320 : decode cX9_plan 320 = .ok (.iaload, 1) := by decide +kernel
theorem dX9_plan_321 : decode cX9_plan 321 = .ok (.aload_n 0, 1) := by decide +kernel
theorem dX9_plan_322 : decode cX9_plan 322 = .ok (.getfield 107, 3) := by decide +kernel
theorem dX9_plan_325 : decode cX9_plan 325 = .ok (.if_icmp .le 13, 3) := by decide +kernel
theorem dX9_plan_328 : decode cX9_plan 328 = .ok (.aload_n 0, 1) := by decide +kernel
theorem dX9_plan_329 : decode cX9_plan 329 = .ok (.getfield 111, 3) := by decide +kernel
theorem dX9_plan_332 : decode cX9_plan 332 = .ok (.iload 4, 2) := by decide +kernel
theorem dX9_plan_334 : decode cX9_plan 334 = .ok (.iaload, 1) := by decide +kernel
theorem dX9_plan_335 : decode cX9_plan 335 = .ok (.goto 7, 3) := by decide +kernel
theorem dX9_plan_338 : decode cX9_plan 338 = .ok (.aload_n 0, 1) := by decide +kernel
theorem dX9_plan_339 : decode cX9_plan 339 = .ok (.getfield 107, 3) := by decide +kernel
theorem dX9_plan_342 : decode cX9_plan 342 = .ok (.putfield 107, 3) := by decide +kernel
theorem dX9_plan_345 : decode cX9_plan 345 = .ok (.iinc 4 1, 3) := by decide +kernel
theorem dX9_plan_348 : decode cX9_plan 348 = .ok (.goto (-215), 3) := by decide +kernel
theorem dX9_plan_351 : decode cX9_plan 351 = .ok (.aload_n 0, 1) := by decide +kernel
theorem dX9_plan_352 : decode cX9_plan 352 = .ok (.getfield 258, 3) := by decide +kernel
theorem dX9_plan_355 : decode cX9_plan 355 = .ok (.ireturn, 1) := by decide +kernel
theorem dX9_reckon_0 : decode cX9_reckon 0 = .ok (.iconst 0, 1) := by decide +kernel
theorem dX9_reckon_1 : decode cX9_reckon 1 = .ok (.istore_n 2, 1) := by decide +kernel
theorem dX9_reckon_2 : decode cX9_reckon 2 = .ok (.iconst 1, 1) := by decide +kernel
theorem dX9_reckon_3 : decode cX9_reckon 3 = .ok (.istore_n 3, 1) := by decide +kernel
theorem dX9_reckon_4 : decode cX9_reckon 4 = .ok (.iconst 0, 1) := by decide +kernel
theorem dX9_reckon_5 : decode cX9_reckon 5 = .ok (.istore 4, 2) := by decide +kernel
theorem dX9_reckon_7 : decode cX9_reckon 7 = .ok (.iload 4, 2) := by decide +kernel
theorem dX9_reckon_9 : decode cX9_reckon 9 = .ok (.aload_n 0, 1) := by decide +kernel
theorem dX9_reckon_10 : decode cX9_reckon 10 = .ok (.getfield 126, 3) := by decide +kernel
theorem dX9_reckon_13 : decode cX9_reckon 13 = .ok (.if_icmp .ge 66, 3) := by decide +kernel
theorem dX9_reckon_16 : decode cX9_reckon 16 = .ok (.aload_n 0, 1) := by decide +kernel
theorem dX9_reckon_17 : decode cX9_reckon 17 = .ok (.aload_n 0, 1) := by decide +kernel
theorem dX9_reckon_18 : decode cX9_reckon 18 = .ok (.getfield 86, 3) := by decide +kernel
theorem dX9_reckon_21 : decode cX9_reckon 21 = .ok (.iload_n 1, 1) := by decide +kernel
theorem dX9_reckon_22 : decode cX9_reckon 22 = .ok (.iload 4, 2) := by decide +kernel
theorem dX9_reckon_24 : decode cX9_reckon 24 = .ok (.invokevirtual 167, 3) := by decide +kernel
theorem dX9_reckon_27 : decode cX9_reckon 27 = .ok (.ifCond .eq 46, 3) := by decide +kernel
theorem dX9_reckon_30 : decode cX9_reckon 30 = .ok (.iload_n 3, 1) := by decide +kernel
theorem dX9_reckon_31 : decode cX9_reckon 31 = .ok (.ifCond .eq 17, 3) := by decide +kernel
theorem dX9_reckon_34 : decode cX9_reckon 34 = .ok (.aload_n 0, 1) := by decide +kernel
theorem dX9_reckon_35 : decode cX9_reckon 35 = .ok (.getfield 111, 3) := by decide +kernel
theorem dX9_reckon_38 : decode cX9_reckon 38 = .ok (.iload 4, 2) := by decide +kernel
theorem dX9_reckon_40 : decode cX9_reckon 40 = .ok (.iaload, 1) := by decide +kernel
theorem dX9_reckon_41 : decode cX9_reckon 41 = .ok (.ifCond .lt 7, 3) := by decide +kernel
theorem dX9_reckon_44 : decode cX9_reckon 44 = .ok (.iconst 1, 1) := by decide +kernel
theorem dX9_reckon_45 : decode cX9_reckon 45 = .ok (.goto 4, 3) := by decide +kernel
theorem dX9_reckon_48 : decode cX9_reckon 48 = .ok (.iconst 0, 1) := by decide +kernel
theorem dX9_reckon_49 : decode cX9_reckon 49 = .ok (.istore_n 3, 1) := by decide +kernel
theorem dX9_reckon_50 : decode cX9_reckon 50 = .ok (.aload_n 0, 1) := by decide +kernel
theorem dX9_reckon_51 : decode cX9_reckon 51 = .ok (.getfield 111, 3) := by decide +kernel
theorem dX9_reckon_54 : decode cX9_reckon 54 = .ok (.iload 4, 2) := by decide +kernel
theorem dX9_reckon_56 : decode cX9_reckon 56 = .ok (.iaload, 1) := by decide +kernel
theorem dX9_reckon_57 : decode cX9_reckon 57 = .ok (.iload_n 2, 1) := by decide +kernel
theorem dX9_reckon_58 : decode cX9_reckon 58 = .ok (.if_icmp .le 13, 3) := by decide +kernel
theorem dX9_reckon_61 : decode cX9_reckon 61 = .ok (.aload_n 0, 1) := by decide +kernel
theorem dX9_reckon_62 : decode cX9_reckon 62 = .ok (.getfield 111, 3) := by decide +kernel
theorem dX9_reckon_65 : decode cX9_reckon 65 = .ok (.iload 4, 2) := by decide +kernel
theorem dX9_reckon_67 : decode cX9_reckon 67 = .ok (.iaload, 1) := by decide +kernel
theorem dX9_reckon_68 : decode cX9_reckon 68 = .ok (.goto 4, 3) := by decide +kernel
theorem dX9_reckon_71 : decode cX9_reckon 71 = .ok (.iload_n 2, 1) := by decide +kernel
theorem dX9_reckon_72 : decode cX9_reckon 72 = .ok (.istore_n 2, 1) := by decide +kernel
theorem dX9_reckon_73 : decode cX9_reckon 73 = .ok (.iinc 4 1, 3) := by decide +kernel
theorem dX9_reckon_76 : decode cX9_reckon 76 = .ok (.goto (-69), 3) := by decide +kernel
theorem dX9_reckon_79 : decode cX9_reckon 79 = .ok (.iload_n 3, 1) := by decide +kernel
theorem dX9_reckon_80 : decode cX9_reckon 80 = .ok (.ifCond .eq 57, 3) := by decide +kernel
theorem dX9_reckon_83 : decode cX9_reckon 83 = .ok (.aload_n 0, 1) := by decide +kernel
theorem dX9_reckon_84 : decode cX9_reckon 84 = .ok (.getfield 114, 3) := by decide +kernel
theorem dX9_reckon_87 : decode cX9_reckon 87 = .ok (.iload_n 1, 1) := by decide +kernel
theorem dX9_reckon_88 : decode cX9_reckon 88 = .ok (.iload_n 2, 1) := by decide +kernel
theorem dX9_reckon_89 : decode cX9_reckon 89 = .ok (.iastore, 1) := by decide +kernel
theorem dX9_reckon_90 : decode cX9_reckon 90 = .ok (.aload_n 0, 1) := by decide +kernel
theorem dX9_reckon_91 : decode cX9_reckon 91 = .ok (.getfield 111, 3) := by decide +kernel
theorem dX9_reckon_94 : decode cX9_reckon 94 = .ok (.iload_n 1, 1) := by decide +kernel
theorem dX9_reckon_95 : decode cX9_reckon 95 = .ok (.iload_n 2, 1) := by decide +kernel
theorem dX9_reckon_96 : decode cX9_reckon 96 = .ok (.aload_n 0, 1) := by decide +kernel
theorem dX9_reckon_97 : decode cX9_reckon 97 = .ok (.getfield 86, 3) := by decide +kernel
theorem dX9_reckon_100 : decode cX9_reckon 100 = .ok (.iload_n 1, 1) := by decide +kernel
theorem dX9_reckon_101 : decode cX9_reckon 101 = .ok (.iaload, 1) := by decide +kernel
theorem dX9_reckon_102 : decode cX9_reckon 102 = .ok (.iconst 1, 1) := by decide +kernel
theorem dX9_reckon_103 : decode cX9_reckon 103 = .ok (.if_icmp .ne 12, 3) := by decide +kernel
theorem dX9_reckon_106 : decode cX9_reckon 106 = .ok (.aload_n 0, 1) := by decide +kernel
theorem dX9_reckon_107 : decode cX9_reckon 107 = .ok (.getfield 13, 3) := by decide +kernel
theorem dX9_reckon_110 : decode cX9_reckon 110 = .ok (.iload_n 1, 1) := by decide +kernel
theorem dX9_reckon_111 : decode cX9_reckon 111 = .ok (.iaload, 1) := by decide +kernel
theorem dX9_reckon_112 : decode cX9_reckon 112 = .ok (.goto 23, 3) := by decide +kernel
theorem dX9_reckon_115 : decode cX9_reckon 115 = .ok (.aload_n 0, 1) := by decide +kernel
theorem dX9_reckon_116 : decode cX9_reckon 116 = .ok (.getfield 31, 3) := by decide +kernel
theorem dX9_reckon_119 : decode cX9_reckon 119 = .ok (.iload_n 1, 1) := by decide +kernel
theorem dX9_reckon_120 : decode cX9_reckon 120 = .ok (.iaload, 1) := by decide +kernel
theorem dX9_reckon_121 : decode cX9_reckon 121 = .ok (.iconst 5, 1) := by decide +kernel
theorem dX9_reckon_122 : decode cX9_reckon 122 = .ok (.if_icmp .ne 7, 3) := by decide +kernel
theorem dX9_reckon_125 : decode cX9_reckon 125 = .ok (.iconst 0, 1) := by decide +kernel
theorem dX9_reckon_126 : decode cX9_reckon 126 = .ok (.goto 9, 3) := by decide +kernel
theorem dX9_reckon_129 : decode cX9_reckon 129 = .ok (.aload_n 0, 1) := by decide +kernel
theorem dX9_reckon_130 : decode cX9_reckon 130 = .ok (.getfield 16, 3) := by decide +kernel
theorem dX9_reckon_133 : decode cX9_reckon 133 = .ok (.iload_n 1, 1) := by decide +kernel
theorem dX9_reckon_134 : decode cX9_reckon 134 = .ok (.iaload, 1) := by decide +kernel
theorem dX9_reckon_135 : decode cX9_reckon 135 = .ok (.iadd, 1) := by decide +kernel
theorem dX9_reckon_136 : decode cX9_reckon 136 = .ok (.iastore, 1) := by decide +kernel
theorem dX9_reckon_137 : decode cX9_reckon 137 = .ok (.return_, 1) := by decide +kernel
theorem dX9_planned_0 : decode cX9_planned 0 = .ok (.iload_n 1, 1) := by decide +kernel
theorem dX9_planned_1 : decode cX9_planned 1 = .ok (.ifCond .lt 20, 3) := by decide +kernel
theorem dX9_planned_4 : decode cX9_planned 4 = .ok (.iload_n 1, 1) := by decide +kernel
theorem dX9_planned_5 : decode cX9_planned 5 = .ok (.aload_n 0, 1) := by decide +kernel
theorem dX9_planned_6 : decode cX9_planned 6 = .ok (.getfield 258, 3) := by decide +kernel
theorem dX9_planned_9 : decode cX9_planned 9 = .ok (.if_icmp .ge 12, 3) := by decide +kernel
theorem dX9_planned_12 : decode cX9_planned 12 = .ok (.iload_n 2, 1) := by decide +kernel
theorem dX9_planned_13 : decode cX9_planned 13 = .ok (.ifCond .lt 8, 3) := by decide +kernel
theorem dX9_planned_16 : decode cX9_planned 16 = .ok (.iload_n 2, 1) := by decide +kernel
theorem dX9_planned_17 : decode cX9_planned 17 = .ok (.iconst 3, 1) := by decide +kernel
theorem dX9_planned_18 : decode cX9_planned 18 = .ok (.if_icmp .le 5, 3) := by decide +kernel
theorem dX9_planned_21 : decode cX9_planned 21 = .ok (.iconst (-1), 1) := by decide +kernel
theorem dX9_planned_22 : decode cX9_planned 22 = .ok (.ireturn, 1) := by decide +kernel
theorem dX9_planned_23 : decode cX9_planned 23 = .ok (.iload_n 2, 1) := by decide +kernel
theorem dX9_planned_24 : decode cX9_planned 24 = .ok (.ifCond .ne 12, 3) := by decide +kernel
theorem dX9_planned_27 : decode cX9_planned 27 = .ok (.aload_n 0, 1) := by decide +kernel
theorem dX9_planned_28 : decode cX9_planned 28 = .ok (.getfield 95, 3) := by decide +kernel
theorem dX9_planned_31 : decode cX9_planned 31 = .ok (.iload_n 1, 1) := by decide +kernel
theorem dX9_planned_32 : decode cX9_planned 32 = .ok (.iaload, 1) := by decide +kernel
theorem dX9_planned_33 : decode cX9_planned 33 = .ok (.goto 37, 3) := by decide +kernel
theorem dX9_planned_36 : decode cX9_planned 36 = .ok (.iload_n 2, 1) := by decide +kernel
theorem dX9_planned_37 : decode cX9_planned 37 = .ok (.iconst 1, 1) := by decide +kernel
theorem dX9_planned_38 : decode cX9_planned 38 = .ok (.if_icmp .ne 12, 3) := by decide +kernel
theorem dX9_planned_41 : decode cX9_planned 41 = .ok (.aload_n 0, 1) := by decide +kernel
theorem dX9_planned_42 : decode cX9_planned 42 = .ok (.getfield 98, 3) := by decide +kernel
theorem dX9_planned_45 : decode cX9_planned 45 = .ok (.iload_n 1, 1) := by decide +kernel
theorem dX9_planned_46 : decode cX9_planned 46 = .ok (.iaload, 1) := by decide +kernel
theorem dX9_planned_47 : decode cX9_planned 47 = .ok (.goto 23, 3) := by decide +kernel
theorem dX9_planned_50 : decode cX9_planned 50 = .ok (.iload_n 2, 1) := by decide +kernel
theorem dX9_planned_51 : decode cX9_planned 51 = .ok (.iconst 2, 1) := by decide +kernel
theorem dX9_planned_52 : decode cX9_planned 52 = .ok (.if_icmp .ne 12, 3) := by decide +kernel
theorem dX9_planned_55 : decode cX9_planned 55 = .ok (.aload_n 0, 1) := by decide +kernel
theorem dX9_planned_56 : decode cX9_planned 56 = .ok (.getfield 101, 3) := by decide +kernel
theorem dX9_planned_59 : decode cX9_planned 59 = .ok (.iload_n 1, 1) := by decide +kernel
theorem dX9_planned_60 : decode cX9_planned 60 = .ok (.iaload, 1) := by decide +kernel
theorem dX9_planned_61 : decode cX9_planned 61 = .ok (.goto 9, 3) := by decide +kernel
theorem dX9_planned_64 : decode cX9_planned 64 = .ok (.aload_n 0, 1) := by decide +kernel
theorem dX9_planned_65 : decode cX9_planned 65 = .ok (.getfield 104, 3) := by decide +kernel
theorem dX9_planned_68 : decode cX9_planned 68 = .ok (.iload_n 1, 1) := by decide +kernel
theorem dX9_planned_69 : decode cX9_planned 69 = .ok (.iaload, 1) := by decide +kernel
theorem dX9_planned_70 : decode cX9_planned 70 = .ok (.ireturn, 1) := by decide +kernel
theorem dX9_quick_0 : decode cX9_quick 0 = .ok (.aload_n 0, 1) := by decide +kernel
theorem dX9_quick_1 : decode cX9_quick 1 = .ok (.getfield 107, 3) := by decide +kernel
theorem dX9_quick_4 : decode cX9_quick 4 = .ok (.ireturn, 1) := by decide +kernel
theorem dX9_ring_0 : decode cX9_ring 0 = .ok (.aload_n 0, 1) := by decide +kernel
theorem dX9_ring_1 : decode cX9_ring 1 = .ok (.getfield 197, 3) := by decide +kernel
theorem dX9_ring_4 : decode cX9_ring 4 = .ok (.ireturn, 1) := by decide +kernel
theorem dX9_changes_0 : decode cX9_changes 0 = .ok (.aload_n 0, 1) := by decide +kernel
theorem dX9_changes_1 : decode cX9_changes 1 = .ok (.getfield 132, 3) := by decide +kernel
theorem dX9_changes_4 : decode cX9_changes 4 = .ok (.ireturn, 1) := by decide +kernel
theorem dX9_change_0 : decode cX9_change 0 = .ok (.iload_n 1, 1) := by decide +kernel
theorem dX9_change_1 : decode cX9_change 1 = .ok (.ifCond .lt 32, 3) := by decide +kernel
theorem dX9_change_4 : decode cX9_change 4 = .ok (.iload_n 1, 1) := by decide +kernel
theorem dX9_change_5 : decode cX9_change 5 = .ok (.aload_n 0, 1) := by decide +kernel
theorem dX9_change_6 : decode cX9_change 6 = .ok (.getfield 132, 3) := by decide +kernel
theorem dX9_change_9 : decode cX9_change 9 = .ok (.if_icmp .ge 24, 3) := by decide +kernel
theorem dX9_change_12 : decode cX9_change 12 = .ok (.iload_n 1, 1) := by decide +kernel
theorem dX9_change_13 : decode cX9_change 13 = .ok (.aload_n 0, 1) := by decide +kernel
theorem dX9_change_14 : decode cX9_change 14 = .ok (.getfield 132, 3) := by decide +kernel
theorem dX9_change_17 : decode cX9_change 17 = .ok (.sipush 2000, 3) := by decide +kernel
theorem dX9_change_20 : decode cX9_change 20 = .ok (.isub, 1) := by decide +kernel
theorem dX9_change_21 : decode cX9_change 21 = .ok (.if_icmp .lt 12, 3) := by decide +kernel
theorem dX9_change_24 : decode cX9_change 24 = .ok (.iload_n 2, 1) := by decide +kernel
theorem dX9_change_25 : decode cX9_change 25 = .ok (.ifCond .lt 8, 3) := by decide +kernel
theorem dX9_change_28 : decode cX9_change 28 = .ok (.iload_n 2, 1) := by decide +kernel
theorem dX9_change_29 : decode cX9_change 29 = .ok (.iconst 2, 1) := by decide +kernel
theorem dX9_change_30 : decode cX9_change 30 = .ok (.if_icmp .le 5, 3) := by decide +kernel
theorem dX9_change_33 : decode cX9_change 33 = .ok (.iconst (-1), 1) := by decide +kernel
theorem dX9_change_34 : decode cX9_change 34 = .ok (.ireturn, 1) := by decide +kernel
theorem dX9_change_35 : decode cX9_change 35 = .ok (.iload_n 2, 1) := by decide +kernel
theorem dX9_change_36 : decode cX9_change 36 = .ok (.ifCond .ne 16, 3) := by decide +kernel
theorem dX9_change_39 : decode cX9_change 39 = .ok (.aload_n 0, 1) := by decide +kernel
theorem dX9_change_40 : decode cX9_change 40 = .ok (.getfield 117, 3) := by decide +kernel
theorem dX9_change_43 : decode cX9_change 43 = .ok (.iload_n 1, 1) := by decide +kernel
theorem dX9_change_44 : decode cX9_change 44 = .ok (.sipush 2000, 3) := by decide +kernel
theorem dX9_change_47 : decode cX9_change 47 = .ok (.irem, 1) := by decide +kernel
theorem dX9_change_48 : decode cX9_change 48 = .ok (.iaload, 1) := by decide +kernel
theorem dX9_change_49 : decode cX9_change 49 = .ok (.goto 31, 3) := by decide +kernel
theorem dX9_change_52 : decode cX9_change 52 = .ok (.iload_n 2, 1) := by decide +kernel
theorem dX9_change_53 : decode cX9_change 53 = .ok (.iconst 1, 1) := by decide +kernel
theorem dX9_change_54 : decode cX9_change 54 = .ok (.if_icmp .ne 16, 3) := by decide +kernel
theorem dX9_change_57 : decode cX9_change 57 = .ok (.aload_n 0, 1) := by decide +kernel
theorem dX9_change_58 : decode cX9_change 58 = .ok (.getfield 120, 3) := by decide +kernel
theorem dX9_change_61 : decode cX9_change 61 = .ok (.iload_n 1, 1) := by decide +kernel
theorem dX9_change_62 : decode cX9_change 62 = .ok (.sipush 2000, 3) := by decide +kernel
theorem dX9_change_65 : decode cX9_change 65 = .ok (.irem, 1) := by decide +kernel
theorem dX9_change_66 : decode cX9_change 66 = .ok (.iaload, 1) := by decide +kernel
theorem dX9_change_67 : decode cX9_change 67 = .ok (.goto 13, 3) := by decide +kernel
theorem dX9_change_70 : decode cX9_change 70 = .ok (.aload_n 0, 1) := by decide +kernel
theorem dX9_change_71 : decode cX9_change 71 = .ok (.getfield 123, 3) := by decide +kernel
theorem dX9_change_74 : decode cX9_change 74 = .ok (.iload_n 1, 1) := by decide +kernel
theorem dX9_change_75 : decode cX9_change 75 = .ok (.sipush 2000, 3) := by decide +kernel
theorem dX9_change_78 : decode cX9_change 78 = .ok (.irem, 1) := by decide +kernel
theorem dX9_change_79 : decode cX9_change 79 = .ok (.iaload, 1) := by decide +kernel
theorem dX9_change_80 : decode cX9_change 80 = .ok (.ireturn, 1) := by decide +kernel
theorem dX9_check_0 : decode cX9_check 0 = .ok (.iconst 0, 1) := by decide +kernel
theorem dX9_check_1 : decode cX9_check 1 = .ok (.istore_n 1, 1) := by decide +kernel
theorem dX9_check_2 : decode cX9_check 2 = .ok (.iconst 0, 1) := by decide +kernel
theorem dX9_check_3 : decode cX9_check 3 = .ok (.istore_n 2, 1) := by decide +kernel
theorem dX9_check_4 : decode cX9_check 4 = .ok (.iconst 0, 1) := by decide +kernel
theorem dX9_check_5 : decode cX9_check 5 = .ok (.istore_n 3, 1) := by decide +kernel
theorem dX9_check_6 : decode cX9_check 6 = .ok (.iload_n 3, 1) := by decide +kernel
theorem dX9_check_7 : decode cX9_check 7 = .ok (.aload_n 0, 1) := by decide +kernel
theorem dX9_check_8 : decode cX9_check 8 = .ok (.getfield 126, 3) := by decide +kernel
theorem dX9_check_11 : decode cX9_check 11 = .ok (.if_icmp .ge 128, 3) := by decide +kernel
theorem dX9_check_14 : decode cX9_check 14 = .ok (.iload_n 1, 1) := by decide +kernel
theorem dX9_check_15 : decode cX9_check 15 = .ok (.ifCond .ne 31, 3) := by decide +kernel
theorem dX9_check_18 : decode cX9_check 18 = .ok (.aload_n 0, 1) := by decide +kernel
theorem dX9_check_19 : decode cX9_check 19 = .ok (.getfield 31, 3) := by decide +kernel
theorem dX9_check_22 : decode cX9_check 22 = .ok (.iload_n 3, 1) := by decide +kernel
theorem dX9_check_23 : decode cX9_check 23 = .ok (.iaload, 1) := by decide +kernel
theorem dX9_check_24 : decode cX9_check 24 = .ok (.iconst 1, 1) := by decide +kernel
theorem dX9_check_25 : decode cX9_check 25 = .ok (.if_icmp .eq 13, 3) := by decide +kernel
theorem dX9_check_28 : decode cX9_check 28 = .ok (.aload_n 0, 1) := by decide +kernel
theorem dX9_check_29 : decode cX9_check 29 = .ok (.getfield 31, 3) := by decide +kernel
theorem dX9_check_32 : decode cX9_check 32 = .ok (.iload_n 3, 1) := by decide +kernel
theorem dX9_check_33 : decode cX9_check 33 = .ok (.iaload, 1) := by decide +kernel
theorem dX9_check_34 : decode cX9_check 34 = .ok (.iconst 2, 1) := by decide +kernel
theorem dX9_check_35 : decode cX9_check 35 = .ok (.if_icmp .ne 15, 3) := by decide +kernel
theorem dX9_check_38 : decode cX9_check 38 = .ok (.aload_n 0, 1) := by decide +kernel
theorem dX9_check_39 : decode cX9_check 39 = .ok (.iload_n 3, 1) := by decide +kernel
theorem dX9_check_40 : decode cX9_check 40 = .ok (.invokevirtual 231, 3) := by decide +kernel
theorem dX9_check_43 : decode cX9_check 43 = .ok (.ifCond .ne 7, 3) := by decide +kernel
theorem dX9_check_46 : decode cX9_check 46 = .ok (.iconst 1, 1) := by decide +kernel
theorem dX9_check_47 : decode cX9_check 47 = .ok (.goto 4, 3) := by decide +kernel
theorem dX9_check_50 : decode cX9_check 50 = .ok (.iconst 0, 1) := by decide +kernel
theorem dX9_check_51 : decode cX9_check 51 = .ok (.istore_n 1, 1) := by decide +kernel
theorem dX9_check_52 : decode cX9_check 52 = .ok (.iconst 0, 1) := by decide +kernel
theorem dX9_check_53 : decode cX9_check 53 = .ok (.istore 4, 2) := by decide +kernel
theorem dX9_check_55 : decode cX9_check 55 = .ok (.iload 4, 2) := by decide +kernel
theorem dX9_check_57 : decode cX9_check 57 = .ok (.aload_n 0, 1) := by decide +kernel
theorem dX9_check_58 : decode cX9_check 58 = .ok (.getfield 126, 3) := by decide +kernel
theorem dX9_check_61 : decode cX9_check 61 = .ok (.if_icmp .ge 72, 3) := by decide +kernel
theorem dX9_check_64 : decode cX9_check 64 = .ok (.iload_n 2, 1) := by decide +kernel
theorem dX9_check_65 : decode cX9_check 65 = .ok (.ifCond .ne 56, 3) := by decide +kernel
theorem dX9_check_68 : decode cX9_check 68 = .ok (.aload_n 0, 1) := by decide +kernel
theorem dX9_check_69 : decode cX9_check 69 = .ok (.iconst 3, 1) := by decide +kernel
theorem dX9_check_70 : decode cX9_check 70 = .ok (.iload_n 3, 1) := by decide +kernel
theorem dX9_check_71 : decode cX9_check 71 = .ok (.iload 4, 2) := by decide +kernel
theorem dX9_check_73 : decode cX9_check 73 = .ok (.invokevirtual 150, 3) := by decide +kernel
theorem dX9_check_76 : decode cX9_check 76 = .ok (.ifCond .eq 49, 3) := by decide +kernel
theorem dX9_check_79 : decode cX9_check 79 = .ok (.aload_n 0, 1) := by decide +kernel
theorem dX9_check_80 : decode cX9_check 80 = .ok (.getfield 31, 3) := by decide +kernel
theorem dX9_check_83 : decode cX9_check 83 = .ok (.iload_n 3, 1) := by decide +kernel
theorem dX9_check_84 : decode cX9_check 84 = .ok (.iaload, 1) := by decide +kernel
theorem dX9_check_85 : decode cX9_check 85 = .ok (.iconst 1, 1) := by decide +kernel
theorem dX9_check_86 : decode cX9_check 86 = .ok (.if_icmp .lt 39, 3) := by decide +kernel
theorem dX9_check_89 : decode cX9_check 89 = .ok (.aload_n 0, 1) := by decide +kernel
theorem dX9_check_90 : decode cX9_check 90 = .ok (.getfield 31, 3) := by decide +kernel
theorem dX9_check_93 : decode cX9_check 93 = .ok (.iload_n 3, 1) := by decide +kernel
theorem dX9_check_94 : decode cX9_check 94 = .ok (.iaload, 1) := by decide +kernel
theorem dX9_check_95 : decode cX9_check 95 = .ok (.iconst 3, 1) := by decide +kernel
theorem dX9_check_96 : decode cX9_check 96 = .ok (.if_icmp .gt 29, 3) := by decide +kernel
theorem dX9_check_99 : decode cX9_check 99 = .ok (.aload_n 0, 1) := by decide +kernel
theorem dX9_check_100 : decode cX9_check 100 = .ok (.getfield 31, 3) := by decide +kernel
theorem dX9_check_103 : decode cX9_check 103 = .ok (.iload 4, 2) := by decide +kernel
theorem dX9_check_105 : decode cX9_check 105 = .ok (.iaload, 1) := by decide +kernel
theorem dX9_check_106 : decode cX9_check 106 = .ok (.iconst 1, 1) := by decide +kernel
theorem dX9_check_107 : decode cX9_check 107 = .ok (.if_icmp .lt 18, 3) := by decide +kernel
theorem dX9_check_110 : decode cX9_check 110 = .ok (.aload_n 0, 1) := by decide +kernel
theorem dX9_check_111 : decode cX9_check 111 = .ok (.getfield 31, 3) := by decide +kernel
theorem dX9_check_114 : decode cX9_check 114 = .ok (.iload 4, 2) := by decide +kernel
theorem dX9_check_116 : decode cX9_check 116 = .ok (.iaload, 1) := by decide +kernel
theorem dX9_check_117 : decode cX9_check 117 = .ok (.iconst 3, 1) := by decide +kernel
theorem dX9_check_118 : decode cX9_check 118 = .ok (.if_icmp .gt 7, 3) := by decide +kernel
theorem dX9_check_121 : decode cX9_check 121 = .ok (.iconst 1, 1) := by decide +kernel
theorem dX9_check_122 : decode cX9_check 122 = .ok (.goto 4, 3) := by decide +kernel
theorem dX9_check_125 : decode cX9_check 125 = .ok (.iconst 0, 1) := by decide +kernel
theorem dX9_check_126 : decode cX9_check 126 = .ok (.istore_n 2, 1) := by decide +kernel
theorem dX9_check_127 : decode cX9_check 127 = .ok (.iinc 4 1, 3) := by decide +kernel
theorem dX9_check_130 : decode cX9_check 130 = .ok (.goto (-75), 3) := by decide +kernel
theorem dX9_check_133 : decode cX9_check 133 = .ok (.iinc 3 1, 3) := by decide +kernel
theorem dX9_check_136 : decode cX9_check 136 = .ok (.goto (-130), 3) := by decide +kernel
theorem dX9_check_139 : decode cX9_check 139 = .ok (.iload_n 1, 1) := by decide +kernel
theorem dX9_check_140 : decode cX9_check 140 = .ok (.ifCond .eq 7, 3) := by decide +kernel
theorem dX9_check_143 : decode cX9_check 143 = .ok (.iconst 1, 1) := by decide +kernel
theorem dX9_check_144 : decode cX9_check 144 = .ok (.goto 4, 3) := by decide +kernel
theorem dX9_check_147 : decode cX9_check 147 = .ok (.iconst 0, 1) := by decide +kernel
theorem dX9_check_148 : decode cX9_check 148 = .ok (.iload_n 2, 1) := by decide +kernel
theorem dX9_check_149 : decode cX9_check 149 = .ok (.ifCond .eq 7, 3) := by decide +kernel
theorem dX9_check_152 : decode cX9_check 152 = .ok (.iconst 1, 1) := by decide +kernel
theorem dX9_check_153 : decode cX9_check 153 = .ok (.goto 4, 3) := by decide +kernel
theorem dX9_check_156 : decode cX9_check 156 = .ok (.iconst 0, 1) := by decide +kernel
theorem dX9_check_157 : decode cX9_check 157 = .ok (.iadd, 1) := by decide +kernel
theorem dX9_check_158 : decode cX9_check 158 = .ok (.ireturn, 1) := by decide +kernel
def wq_m_about : List Cond := [.code yX9_about cX9_about 3 (some .int), .fieldLink RX9 31 "ServiceTreeModel" "state" "[I", .fieldLink RX9 34 "ServiceTreeModel" "since" "[I", .fieldLink RX9 37 "ServiceTreeModel" "starts" "[I", .fieldLink RX9 40 "ServiceTreeModel" "fails" "[I", .fieldLink RX9 43 "ServiceTreeModel" "hasEnded" "[Z", .fieldLink RX9 71 "ServiceTreeModel" "job" "[I", .fieldLink RX9 65 "ServiceTreeModel" "letterMany" "[I", .fieldLink RX9 56 "ServiceTreeModel" "read" "[I", .fieldLink RX9 59 "ServiceTreeModel" "readLast" "[I", .fieldLink RX9 9 "ServiceTreeModel" "kind" "[I", .methodLink RX9 135 yX9_is, .instanceMethod yX9_is, .selects RX9 yX9_is yX9_is, .initialized RX9] ++ (wsX90 ++ (wq_m_is))
theorem in_m_about_X9 : ∀ w ∈ wsX90, w ∈ wq_m_about := fun _ h => List.mem_append_right _ (List.mem_append_left _ (h))
set_option maxRecDepth 20000 in
theorem wi_m_about : ∀ w ∈ wq_m_about, w ∈ lw_tbl := List.forall_mem_append.mpr ⟨(by decide +kernel), List.forall_mem_append.mpr ⟨inKX9, wi_m_is⟩⟩
set_option maxRecDepth 20000 in
theorem wg_m_about : GoodIn wq_m_about wq_m_about := goodIn_sub (fun _ h => h) (by decide +kernel)
set_option maxRecDepth 20000 in
theorem wc_m_about_m_is_135 : GoodIn wq_m_about (wsV RX9 135 RX9 yX9_is wq_m_is) := goodIn_app (goodIn_of _ (by decide +kernel)) (fun w h => ⟨List.mem_append_right _ (List.mem_append_right _ (h)), (wg_m_is w h).2⟩)
def rm_m_about : Room := { frames := 1, cells := 0, slots := 0, locals := 21 }
set_option maxHeartbeats 4000000 in
set_option maxRecDepth 100000 in
theorem c_m_about (l : Launch) (dC : Nat → ClassId) (dI : Nat → Nat → Nat) (h : Nat) (a : Nat → Nat) (k : Nat → ClassId) (F : Nat → Nat → Int32) (V : Nat → Int32) (n b : Nat) (p0 : Int32) (p1 : Int32) (sz : Nat) (hI0 : InvM n b F V) (hb0 : b + 0 < 2147483648)  : Met l yX9_about wq_m_about rm_m_about (va_Pc [.ref h, .int p0, .int p1] (fun U => U.heap.size = sz ∧ va_P (dC, dI) vwCl (mW h a k F V) U.heap ∧ va_K (dC, dI) vwCl (mT k) U ∧ va_D (fun _ => True) (mW h a k F V))) (va_Qi (fun (r : Int32) (u : (Nat → Nat → Int32) × (Nat → Int32)) => u.1 = F ∧ u.2 = V ∧ (True)) (fun (u : (Nat → Nat → Int32) × (Nat → Int32)) (t : State) => va_P (dC, dI) vwCl (mW h a k u.1 u.2) t.heap ∧ va_D (va_A (mW h a k F V) sz) (mW h a k u.1 u.2)) (va_A (mW h a k F V) sz)) 0 0 (va_A (mW h a k F V) sz) := by
  have hn : n ≤ 40 := hI0.1
  have hI : StM n b F V F V := StM.rf hI0
  have hU : ∀ j : Nat, j ∉ ([] : List Nat) → F j = F j := fun _ _ => rfl
  have hV : ∀ j : Nat, j ∉ ([] : List Nat) → V j = V j := fun _ _ => rfl
  refine Met.ofW (cc := cX9_about) (maxL := 3) (ret := (some .int)) (by decide) rfl ?_
  intro p e s m args below meth c s₁ B hml hv
  obtain ⟨rfl, hsz, hP, hK, hD0⟩ := hv
  have hx := B.exec
  have hb := B.bytes
  have hr := B.returns
  have hts := atoms_spec (ws := wq_m_about) B.pre
  have hown : s.vm.findClass RX9 = some m.cls := findClass_of_methodNamed B.named
  have hlocks := B.notSynchronized
  subst hsz
  have hD := hD0.self (sz := s.heap.size)
  generalize hAe : va_A (mW h a k F V) s.heap.size = A at hD ⊢
  have hA : ∀ q : Nat, s.heap.size ≤ q → A q := fun q h => by rw [← hAe]; exact Or.inr h
  have hS : va_S A s.heap s.heap [] := va_S.rf
  have hl := lv_entry ([.ref h, .int p0, .int p1]) (n := 3) (Nat.le_of_ble_eq_true rfl)
  rw [lg_entry_eq]
  generalize (lg_sl ([.ref h, .int p0, .int p1]) ++ List.replicate (3 - (lg_sl ([.ref h, .int p0, .int p1])).length) Slot.unset).toArray = ls at hl ⊢
  have hl : lv_has ls 3 [(0, .ref h), (1, .int p0), (2, .int p1)] := hl
  refine lv_aload_n hx hb dX9_about_0 rfl (lv_at hl 0 rfl) ?_
  refine lv_iload_n hx hb dX9_about_1 rfl (lv_at hl 1 rfl) ?_
  have hFc := mw_free hD hS hA
  refine va_calli (va_runV (As := [.int p0]) (rest := []) ⟨hx, hb, hml, hown, hts⟩ (c_m_is l dC dI h a k F V n (b) p0 s.heap.size hI.1 (by omega) ) (cwV 1 hts wc_m_about_m_is_135 rfl rfl rfl (by decide +kernel) ⟨Nat.le_of_ble_eq_true rfl, Nat.le_of_ble_eq_true rfl⟩) ⟨fun a9 U g mk q => by obtain ⟨q0, q1, qP, qK, qD⟩ := q; exact ⟨q0, q1, qP, va_K.moved (u := U) (U := U.calling g mk a9) (Vm.Alike.refl U.vm) qK, qD⟩, va_recv hK hP (ci := 10) (q0 := 0) rfl rfl, fun U hU hW => ⟨rfl, by rw [hU], by rw [hU]; exact hP, va_K.moved hW.alike hK, hD.weaken (fun _ _ _ _ => trivial)⟩⟩ rfl rfl hl.1 rfl (lv_room (Nat.le_of_ble_eq_true rfl)) dX9_about_2 ⟨Nat.le_of_ble_eq_true rfl, Nat.le_of_ble_eq_true rfl⟩) hS (fun q _ h => hFc q h) hFc (fun r1 u t H1 locs ht hvm hw hB hz1 hk1 hS => ?_)
  obtain ⟨F2, V3⟩ := u
  replace hP := hB.1
  rw [ht] at hP
  replace hD : va_D A (mW h a k F2 V3) := hB.2.weaken (fun _ q _ h9 => hFc q.1 h9)
  clear hB
  generalize H1 = H at hP hS ⊢
  replace hP : va_P (dC, dI) vwCl (mW h a k F2 V3) H := hP
  obtain ⟨hwF, hwV, hw⟩ : F2 = F ∧ V3 = V ∧ _ := hw
  rw [hwF, hwV] at hP hD
  rcases hw with ⟨rfl, j4, hj4, ej4⟩ | ⟨rfl, noj4⟩
  · subst ej4
    refine lv_if_ne (tgt := 10) hx hb dX9_about_5 (by decide) (fun _ => ?_) (fun c9 => absurd c9 (by decide))
    refine lv_iload_n hx hb dX9_about_10 rfl (lv_at hl 2 rfl) ?_
    rcases Classical.em (p1 = 0) with c5 | c5
    · refine lv_tableIn (tgt := 64) (off := 53) hx hb dX9_about_11 (by rw [c5]; decide) (by rw [c5]; decide) (by rw [c5]; rfl) (by decide) ?_
      refine lv_aload_n hx hb dX9_about_64 rfl (lv_at hl 0 rfl) ?_
      refine va_get (D := (dC, dI)) (ci := 10) (v := .ref (a 7)) (C := RX9) (T := TX9) (N := 46) hx hb hts in_m_about_X9 hown hK hP 0 rfl rfl 7 (by decide) (hts (.fieldLink RX9 31 "ServiceTreeModel" "state" "[I") (by decide +kernel)) (fun _ h9 => h9) rfl dX9_about_65 ?_
      refine lv_iload_n hx hb dX9_about_68 rfl (lv_at hl 1 rfl) ?_
      refine va_iald (n := 40) (f := F 7) hx hb hK hP 8 7 rfl rfl (vp_in_nI (n := j4) (by omega) (by decide)) dX9_about_69 ?_
      refine lv_topi (fun x6 ex6 => ?_)
      exact W.iret (v := x6) hx hb hr (fun t ht hW => ⟨⟨x6, (F, V), rfl, ⟨rfl, rfl, trivial⟩, by rw [ht]; exact hP, hD⟩, hS.F ht⟩) hS.2.2 dX9_about_70
    rcases Classical.em (p1 = 1) with c7 | c7
    · refine lv_tableIn (tgt := 71) (off := 60) hx hb dX9_about_11 (by rw [c7]; decide) (by rw [c7]; decide) (by rw [c7]; rfl) (by decide) ?_
      refine lv_aload_n hx hb dX9_about_71 rfl (lv_at hl 0 rfl) ?_
      refine va_get (D := (dC, dI)) (ci := 10) (v := .ref (a 8)) (C := RX9) (T := TX9) (N := 46) hx hb hts in_m_about_X9 hown hK hP 0 rfl rfl 8 (by decide) (hts (.fieldLink RX9 34 "ServiceTreeModel" "since" "[I") (by decide +kernel)) (fun _ h9 => h9) rfl dX9_about_72 ?_
      refine lv_iload_n hx hb dX9_about_75 rfl (lv_at hl 1 rfl) ?_
      refine va_iald (n := 40) (f := F 8) hx hb hK hP 9 8 rfl rfl (vp_in_nI (n := j4) (by omega) (by decide)) dX9_about_76 ?_
      refine lv_topi (fun x8 ex8 => ?_)
      exact W.iret (v := x8) hx hb hr (fun t ht hW => ⟨⟨x8, (F, V), rfl, ⟨rfl, rfl, trivial⟩, by rw [ht]; exact hP, hD⟩, hS.F ht⟩) hS.2.2 dX9_about_77
    rcases Classical.em (p1 = 2) with c9 | c9
    · refine lv_tableIn (tgt := 78) (off := 67) hx hb dX9_about_11 (by rw [c9]; decide) (by rw [c9]; decide) (by rw [c9]; rfl) (by decide) ?_
      refine lv_aload_n hx hb dX9_about_78 rfl (lv_at hl 0 rfl) ?_
      refine va_get (D := (dC, dI)) (ci := 10) (v := .ref (a 9)) (C := RX9) (T := TX9) (N := 46) hx hb hts in_m_about_X9 hown hK hP 0 rfl rfl 9 (by decide) (hts (.fieldLink RX9 37 "ServiceTreeModel" "starts" "[I") (by decide +kernel)) (fun _ h9 => h9) rfl dX9_about_79 ?_
      refine lv_iload_n hx hb dX9_about_82 rfl (lv_at hl 1 rfl) ?_
      refine va_iald (n := 40) (f := F 9) hx hb hK hP 10 9 rfl rfl (vp_in_nI (n := j4) (by omega) (by decide)) dX9_about_83 ?_
      refine lv_topi (fun x10 ex10 => ?_)
      obtain ⟨m11, hm11, qm11⟩ := hI.1.2.2.2.2.1 (nI j4).toNatClampNeg
      obtain rfl : x10 = nI m11 := ex10.trans qm11
      exact W.iret (v := (nI m11)) hx hb hr (fun t ht hW => ⟨⟨(nI m11), (F, V), rfl, ⟨rfl, rfl, trivial⟩, by rw [ht]; exact hP, hD⟩, hS.F ht⟩) hS.2.2 dX9_about_84
    rcases Classical.em (p1 = 3) with c12 | c12
    · refine lv_tableIn (tgt := 85) (off := 74) hx hb dX9_about_11 (by rw [c12]; decide) (by rw [c12]; decide) (by rw [c12]; rfl) (by decide) ?_
      refine lv_aload_n hx hb dX9_about_85 rfl (lv_at hl 0 rfl) ?_
      refine va_get (D := (dC, dI)) (ci := 10) (v := .ref (a 10)) (C := RX9) (T := TX9) (N := 46) hx hb hts in_m_about_X9 hown hK hP 0 rfl rfl 10 (by decide) (hts (.fieldLink RX9 40 "ServiceTreeModel" "fails" "[I") (by decide +kernel)) (fun _ h9 => h9) rfl dX9_about_86 ?_
      refine lv_iload_n hx hb dX9_about_89 rfl (lv_at hl 1 rfl) ?_
      refine va_iald (n := 40) (f := F 10) hx hb hK hP 11 10 rfl rfl (vp_in_nI (n := j4) (by omega) (by decide)) dX9_about_90 ?_
      refine lv_topi (fun x13 ex13 => ?_)
      exact W.iret (v := x13) hx hb hr (fun t ht hW => ⟨⟨x13, (F, V), rfl, ⟨rfl, rfl, trivial⟩, by rw [ht]; exact hP, hD⟩, hS.F ht⟩) hS.2.2 dX9_about_91
    rcases Classical.em (p1 = 4) with c14 | c14
    · refine lv_tableIn (tgt := 92) (off := 81) hx hb dX9_about_11 (by rw [c14]; decide) (by rw [c14]; decide) (by rw [c14]; rfl) (by decide) ?_
      refine lv_aload_n hx hb dX9_about_92 rfl (lv_at hl 0 rfl) ?_
      refine va_get (D := (dC, dI)) (ci := 10) (v := .ref (a 11)) (C := RX9) (T := TX9) (N := 46) hx hb hts in_m_about_X9 hown hK hP 0 rfl rfl 11 (by decide) (hts (.fieldLink RX9 43 "ServiceTreeModel" "hasEnded" "[Z") (by decide +kernel)) (fun _ h9 => h9) rfl dX9_about_93 ?_
      refine lv_iload_n hx hb dX9_about_96 rfl (lv_at hl 1 rfl) ?_
      refine va_zald (n := 40) (f := F 11) hx hb hK hP 12 11 rfl rfl (vp_in_nI (n := j4) (by omega) (by decide)) dX9_about_97 ?_
      refine lv_topi (fun x15 ex15 => ?_)
      refine lv_if_eq (tgt := 105) hx hb dX9_about_98 (by decide) (fun c16 => ?_) (fun c16 => ?_)
      · refine lv_iconst (v := 0) hx hb dX9_about_105 (by decide) ?_
        exact W.iret (v := 0) hx hb hr (fun t ht hW => ⟨⟨0, (F, V), rfl, ⟨rfl, rfl, trivial⟩, by rw [ht]; exact hP, hD⟩, hS.F ht⟩) hS.2.2 dX9_about_106
      · refine lv_iconst (v := 1) hx hb dX9_about_101 (by decide) ?_
        refine lv_goto (tgt := 106) hx hb dX9_about_102 (by decide) ?_
        exact W.iret (v := 1) hx hb hr (fun t ht hW => ⟨⟨1, (F, V), rfl, ⟨rfl, rfl, trivial⟩, by rw [ht]; exact hP, hD⟩, hS.F ht⟩) hS.2.2 dX9_about_106
    rcases Classical.em (p1 = 5) with c17 | c17
    · refine lv_tableIn (tgt := 107) (off := 96) hx hb dX9_about_11 (by rw [c17]; decide) (by rw [c17]; decide) (by rw [c17]; rfl) (by decide) ?_
      refine lv_aload_n hx hb dX9_about_107 rfl (lv_at hl 0 rfl) ?_
      refine va_get (D := (dC, dI)) (ci := 10) (v := .ref (a 25)) (C := RX9) (T := TX9) (N := 46) hx hb hts in_m_about_X9 hown hK hP 0 rfl rfl 25 (by decide) (hts (.fieldLink RX9 71 "ServiceTreeModel" "job" "[I") (by decide +kernel)) (fun _ h9 => h9) rfl dX9_about_108 ?_
      refine lv_iload_n hx hb dX9_about_111 rfl (lv_at hl 1 rfl) ?_
      refine va_iald (n := 40) (f := F 25) hx hb hK hP 21 20 rfl rfl (vp_in_nI (n := j4) (by omega) (by decide)) dX9_about_112 ?_
      refine lv_topi (fun x18 ex18 => ?_)
      exact W.iret (v := x18) hx hb hr (fun t ht hW => ⟨⟨x18, (F, V), rfl, ⟨rfl, rfl, trivial⟩, by rw [ht]; exact hP, hD⟩, hS.F ht⟩) hS.2.2 dX9_about_113
    rcases Classical.em (p1 = 6) with c19 | c19
    · refine lv_tableIn (tgt := 114) (off := 103) hx hb dX9_about_11 (by rw [c19]; decide) (by rw [c19]; decide) (by rw [c19]; rfl) (by decide) ?_
      refine lv_aload_n hx hb dX9_about_114 rfl (lv_at hl 0 rfl) ?_
      refine va_get (D := (dC, dI)) (ci := 10) (v := .ref (a 18)) (C := RX9) (T := TX9) (N := 46) hx hb hts in_m_about_X9 hown hK hP 0 rfl rfl 18 (by decide) (hts (.fieldLink RX9 65 "ServiceTreeModel" "letterMany" "[I") (by decide +kernel)) (fun _ h9 => h9) rfl dX9_about_115 ?_
      refine lv_iload_n hx hb dX9_about_118 rfl (lv_at hl 1 rfl) ?_
      refine va_iald (n := 40) (f := F 18) hx hb hK hP 19 18 rfl rfl (vp_in_nI (n := j4) (by omega) (by decide)) dX9_about_119 ?_
      refine lv_topi (fun x20 ex20 => ?_)
      obtain ⟨m21, hm21, qm21⟩ := hI.1.2.2.2.2.2.2.1 (nI j4).toNatClampNeg
      obtain rfl : x20 = nI m21 := ex20.trans qm21
      exact W.iret (v := (nI m21)) hx hb hr (fun t ht hW => ⟨⟨(nI m21), (F, V), rfl, ⟨rfl, rfl, trivial⟩, by rw [ht]; exact hP, hD⟩, hS.F ht⟩) hS.2.2 dX9_about_120
    rcases Classical.em (p1 = 7) with c22 | c22
    · refine lv_tableIn (tgt := 121) (off := 110) hx hb dX9_about_11 (by rw [c22]; decide) (by rw [c22]; decide) (by rw [c22]; rfl) (by decide) ?_
      refine lv_aload_n hx hb dX9_about_121 rfl (lv_at hl 0 rfl) ?_
      refine va_get (D := (dC, dI)) (ci := 10) (v := .ref (a 15)) (C := RX9) (T := TX9) (N := 46) hx hb hts in_m_about_X9 hown hK hP 0 rfl rfl 15 (by decide) (hts (.fieldLink RX9 56 "ServiceTreeModel" "read" "[I") (by decide +kernel)) (fun _ h9 => h9) rfl dX9_about_122 ?_
      refine lv_iload_n hx hb dX9_about_125 rfl (lv_at hl 1 rfl) ?_
      refine va_iald (n := 40) (f := F 15) hx hb hK hP 16 15 rfl rfl (vp_in_nI (n := j4) (by omega) (by decide)) dX9_about_126 ?_
      refine lv_topi (fun x23 ex23 => ?_)
      exact W.iret (v := x23) hx hb hr (fun t ht hW => ⟨⟨x23, (F, V), rfl, ⟨rfl, rfl, trivial⟩, by rw [ht]; exact hP, hD⟩, hS.F ht⟩) hS.2.2 dX9_about_127
    rcases Classical.em (p1 = 8) with c24 | c24
    · refine lv_tableIn (tgt := 128) (off := 117) hx hb dX9_about_11 (by rw [c24]; decide) (by rw [c24]; decide) (by rw [c24]; rfl) (by decide) ?_
      refine lv_aload_n hx hb dX9_about_128 rfl (lv_at hl 0 rfl) ?_
      refine va_get (D := (dC, dI)) (ci := 10) (v := .ref (a 16)) (C := RX9) (T := TX9) (N := 46) hx hb hts in_m_about_X9 hown hK hP 0 rfl rfl 16 (by decide) (hts (.fieldLink RX9 59 "ServiceTreeModel" "readLast" "[I") (by decide +kernel)) (fun _ h9 => h9) rfl dX9_about_129 ?_
      refine lv_iload_n hx hb dX9_about_132 rfl (lv_at hl 1 rfl) ?_
      refine va_iald (n := 40) (f := F 16) hx hb hK hP 17 16 rfl rfl (vp_in_nI (n := j4) (by omega) (by decide)) dX9_about_133 ?_
      refine lv_topi (fun x25 ex25 => ?_)
      exact W.iret (v := x25) hx hb hr (fun t ht hW => ⟨⟨x25, (F, V), rfl, ⟨rfl, rfl, trivial⟩, by rw [ht]; exact hP, hD⟩, hS.F ht⟩) hS.2.2 dX9_about_134
    rcases Classical.em (p1 = 9) with c26 | c26
    · refine lv_tableIn (tgt := 135) (off := 124) hx hb dX9_about_11 (by rw [c26]; decide) (by rw [c26]; decide) (by rw [c26]; rfl) (by decide) ?_
      refine lv_aload_n hx hb dX9_about_135 rfl (lv_at hl 0 rfl) ?_
      refine va_get (D := (dC, dI)) (ci := 10) (v := .ref (a 0)) (C := RX9) (T := TX9) (N := 46) hx hb hts in_m_about_X9 hown hK hP 0 rfl rfl 0 (by decide) (hts (.fieldLink RX9 9 "ServiceTreeModel" "kind" "[I") (by decide +kernel)) (fun _ h9 => h9) rfl dX9_about_136 ?_
      refine lv_iload_n hx hb dX9_about_139 rfl (lv_at hl 1 rfl) ?_
      refine va_iald (n := 40) (f := F 0) hx hb hK hP 1 0 rfl rfl (vp_in_nI (n := j4) (by omega) (by decide)) dX9_about_140 ?_
      refine lv_topi (fun x27 ex27 => ?_)
      exact W.iret (v := x27) hx hb hr (fun t ht hW => ⟨⟨x27, (F, V), rfl, ⟨rfl, rfl, trivial⟩, by rw [ht]; exact hP, hD⟩, hS.F ht⟩) hS.2.2 dX9_about_141
    refine lv_tableOut (tgt := 142) hx hb dX9_about_11 (by have k0 := c5; have k1 := c7; have k2 := c9; have k3 := c12; have k4 := c14; have k5 := c17; have k6 := c19; have k7 := c22; have k8 := c24; have k9 := c26; simp only [p1_le, p1_lt, p1_eq, p1_m6, p1_m1, p1_0, p1_1, p1_2, p1_3, p1_4, p1_5, p1_6, p1_7, p1_8, p1_9, p1_10, p1_11, p1_12, p1_13, p1_14, p1_15, p1_16, p1_17, p1_18, p1_19, p1_20, p1_40, p1_50, p1_200, p1_1000] at k0 k1 k2 k3 k4 k5 k6 k7 k8 k9 ⊢; omega) (by decide) ?_
    refine lv_iconst (v := (-1)) hx hb dX9_about_142 (by decide) ?_
    exact W.iret (v := (-1)) hx hb hr (fun t ht hW => ⟨⟨(-1), (F, V), rfl, ⟨rfl, rfl, trivial⟩, by rw [ht]; exact hP, hD⟩, hS.F ht⟩) hS.2.2 dX9_about_143
  · refine lv_if_ne (tgt := 10) hx hb dX9_about_5 (by decide) (fun c9 => absurd (by decide) c9) (fun _ => ?_)
    refine lv_iconst (v := (-1)) hx hb dX9_about_8 (by decide) ?_
    exact W.iret (v := (-1)) hx hb hr (fun t ht hW => ⟨⟨(-1), (F, V), rfl, ⟨rfl, rfl, trivial⟩, by rw [ht]; exact hP, hD⟩, hS.F ht⟩) hS.2.2 dX9_about_9
def wq_m_count : List Cond := [.code yX9_count cX9_count 2 (some .int), .fieldLink RX9 126 "ServiceTreeModel" "services" "I", .fieldLink RX9 153 "ServiceTreeModel" "relations" "I", .fieldLink RX9 129 "ServiceTreeModel" "tick" "I", .fieldLink RX9 249 "ServiceTreeModel" "lettersAll" "I", .fieldLink RX9 243 "ServiceTreeModel" "readAll" "I", .methodLink RX9 143 yX9_jobs, .instanceMethod yX9_jobs, .selects RX9 yX9_jobs yX9_jobs, .initialized RX9] ++ (wsX90 ++ (wq_m_jobs))
theorem in_m_count_X9 : ∀ w ∈ wsX90, w ∈ wq_m_count := fun _ h => List.mem_append_right _ (List.mem_append_left _ (h))
set_option maxRecDepth 20000 in
theorem wi_m_count : ∀ w ∈ wq_m_count, w ∈ lw_tbl := List.forall_mem_append.mpr ⟨(by decide +kernel), List.forall_mem_append.mpr ⟨inKX9, wi_m_jobs⟩⟩
set_option maxRecDepth 20000 in
theorem wg_m_count : GoodIn wq_m_count wq_m_count := goodIn_sub (fun _ h => h) (by decide +kernel)
set_option maxRecDepth 20000 in
theorem wc_m_count_m_jobs_143 : GoodIn wq_m_count (wsV RX9 143 RX9 yX9_jobs wq_m_jobs) := goodIn_app (goodIn_of _ (by decide +kernel)) (fun w h => ⟨List.mem_append_right _ (List.mem_append_right _ (h)), (wg_m_jobs w h).2⟩)
def rm_m_count : Room := { frames := 1, cells := 0, slots := 0, locals := 22 }
set_option maxHeartbeats 4000000 in
set_option maxRecDepth 100000 in
theorem c_m_count (l : Launch) (dC : Nat → ClassId) (dI : Nat → Nat → Nat) (h : Nat) (a : Nat → Nat) (k : Nat → ClassId) (F : Nat → Nat → Int32) (V : Nat → Int32) (n b : Nat) (p0 : Int32) (sz : Nat) (hI0 : InvM n b F V) (hb0 : b + 0 < 2147483648)  : Met l yX9_count wq_m_count rm_m_count (va_Pc [.ref h, .int p0] (fun U => U.heap.size = sz ∧ va_P (dC, dI) vwCl (mW h a k F V) U.heap ∧ va_K (dC, dI) vwCl (mT k) U ∧ va_D (fun _ => True) (mW h a k F V))) (va_Qi (fun (r : Int32) (u : (Nat → Nat → Int32) × (Nat → Int32)) => u.1 = F ∧ u.2 = V ∧ (True)) (fun (u : (Nat → Nat → Int32) × (Nat → Int32)) (t : State) => va_P (dC, dI) vwCl (mW h a k u.1 u.2) t.heap ∧ va_D (va_A (mW h a k F V) sz) (mW h a k u.1 u.2)) (va_A (mW h a k F V) sz)) 0 0 (va_A (mW h a k F V) sz) := by
  have hn : n ≤ 40 := hI0.1
  have hI : StM n b F V F V := StM.rf hI0
  have hU : ∀ j : Nat, j ∉ ([] : List Nat) → F j = F j := fun _ _ => rfl
  have hV : ∀ j : Nat, j ∉ ([] : List Nat) → V j = V j := fun _ _ => rfl
  refine Met.ofW (cc := cX9_count) (maxL := 2) (ret := (some .int)) (by decide) rfl ?_
  intro p e s m args below meth c s₁ B hml hv
  obtain ⟨rfl, hsz, hP, hK, hD0⟩ := hv
  have hx := B.exec
  have hb := B.bytes
  have hr := B.returns
  have hts := atoms_spec (ws := wq_m_count) B.pre
  have hown : s.vm.findClass RX9 = some m.cls := findClass_of_methodNamed B.named
  have hlocks := B.notSynchronized
  subst hsz
  have hD := hD0.self (sz := s.heap.size)
  generalize hAe : va_A (mW h a k F V) s.heap.size = A at hD ⊢
  have hA : ∀ q : Nat, s.heap.size ≤ q → A q := fun q h => by rw [← hAe]; exact Or.inr h
  have hS : va_S A s.heap s.heap [] := va_S.rf
  have hl := lv_entry ([.ref h, .int p0]) (n := 2) (Nat.le_of_ble_eq_true rfl)
  rw [lg_entry_eq]
  generalize (lg_sl ([.ref h, .int p0]) ++ List.replicate (2 - (lg_sl ([.ref h, .int p0])).length) Slot.unset).toArray = ls at hl ⊢
  have hl : lv_has ls 2 [(0, .ref h), (1, .int p0)] := hl
  refine lv_iload_n hx hb dX9_count_0 rfl (lv_at hl 1 rfl) ?_
  rcases Classical.em (p0 = 0) with c1 | c1
  · refine lv_tableIn (tgt := 40) (off := 39) hx hb dX9_count_1 (by rw [c1]; decide) (by rw [c1]; decide) (by rw [c1]; rfl) (by decide) ?_
    refine lv_aload_n hx hb dX9_count_40 rfl (lv_at hl 0 rfl) ?_
    refine va_get (D := (dC, dI)) (ci := 10) (v := .int (V 21)) (C := RX9) (T := TX9) (N := 46) hx hb hts in_m_count_X9 hown hK hP 0 rfl rfl 21 (by decide) (hts (.fieldLink RX9 126 "ServiceTreeModel" "services" "I") (by decide +kernel)) (fun _ h9 => h9) rfl dX9_count_41 ?_
    refine p1_topr (v := .int (nI n)) (congrArg Value.int hI.1.2.1) ?_
    exact W.iret (v := (nI n)) hx hb hr (fun t ht hW => ⟨⟨(nI n), (F, V), rfl, ⟨rfl, rfl, trivial⟩, by rw [ht]; exact hP, hD⟩, hS.F ht⟩) hS.2.2 dX9_count_44
  rcases Classical.em (p0 = 1) with c2 | c2
  · refine lv_tableIn (tgt := 45) (off := 44) hx hb dX9_count_1 (by rw [c2]; decide) (by rw [c2]; decide) (by rw [c2]; rfl) (by decide) ?_
    refine lv_aload_n hx hb dX9_count_45 rfl (lv_at hl 0 rfl) ?_
    refine va_get (D := (dC, dI)) (ci := 10) (v := .int (V 20)) (C := RX9) (T := TX9) (N := 46) hx hb hts in_m_count_X9 hown hK hP 0 rfl rfl 20 (by decide) (hts (.fieldLink RX9 153 "ServiceTreeModel" "relations" "I") (by decide +kernel)) (fun _ h9 => h9) rfl dX9_count_46 ?_
    refine lv_topi (fun x3 ex3 => ?_)
    exact W.iret (v := x3) hx hb hr (fun t ht hW => ⟨⟨x3, (F, V), rfl, ⟨rfl, rfl, trivial⟩, by rw [ht]; exact hP, hD⟩, hS.F ht⟩) hS.2.2 dX9_count_49
  rcases Classical.em (p0 = 2) with c4 | c4
  · refine lv_tableIn (tgt := 50) (off := 49) hx hb dX9_count_1 (by rw [c4]; decide) (by rw [c4]; decide) (by rw [c4]; rfl) (by decide) ?_
    refine lv_aload_n hx hb dX9_count_50 rfl (lv_at hl 0 rfl) ?_
    have hFc := mw_free hD hS hA
    refine va_calli (va_runV (As := []) (rest := []) ⟨hx, hb, hml, hown, hts⟩ (c_m_jobs l dC dI h a k F V n (b)  s.heap.size hI.1 (by omega) ) (cwV 0 hts wc_m_count_m_jobs_143 rfl rfl rfl (by decide +kernel) ⟨Nat.le_of_ble_eq_true rfl, Nat.le_of_ble_eq_true rfl⟩) ⟨fun a9 U g mk q => by obtain ⟨q0, q1, qP, qK, qD⟩ := q; exact ⟨q0, q1, qP, va_K.moved (u := U) (U := U.calling g mk a9) (Vm.Alike.refl U.vm) qK, qD⟩, va_recv hK hP (ci := 10) (q0 := 0) rfl rfl, fun U hU hW => ⟨rfl, by rw [hU], by rw [hU]; exact hP, va_K.moved hW.alike hK, hD.weaken (fun _ _ _ _ => trivial)⟩⟩ rfl rfl hl.1 rfl (lv_room (Nat.le_of_ble_eq_true rfl)) dX9_count_51 ⟨Nat.le_of_ble_eq_true rfl, Nat.le_of_ble_eq_true rfl⟩) hS (fun q _ h => hFc q h) hFc (fun r5 u t H1 locs ht hvm hw hB hz1 hk1 hS => ?_)
    obtain ⟨F6, V7⟩ := u
    replace hP := hB.1
    rw [ht] at hP
    replace hD : va_D A (mW h a k F6 V7) := hB.2.weaken (fun _ q _ h9 => hFc q.1 h9)
    clear hB
    generalize H1 = H at hP hS ⊢
    replace hP : va_P (dC, dI) vwCl (mW h a k F6 V7) H := hP
    obtain ⟨hwF, hwV, hw⟩ : F6 = F ∧ V7 = V ∧ _ := hw
    rw [hwF, hwV] at hP hD
    exact W.iret (v := r5) hx hb hr (fun t ht hW => ⟨⟨r5, (F, V), rfl, ⟨rfl, rfl, trivial⟩, by rw [ht]; exact hP, hD⟩, hS.F ht⟩) hS.2.2 dX9_count_54
  rcases Classical.em (p0 = 3) with c8 | c8
  · refine lv_tableIn (tgt := 55) (off := 54) hx hb dX9_count_1 (by rw [c8]; decide) (by rw [c8]; decide) (by rw [c8]; rfl) (by decide) ?_
    refine lv_aload_n hx hb dX9_count_55 rfl (lv_at hl 0 rfl) ?_
    refine va_get (D := (dC, dI)) (ci := 10) (v := .int (V 22)) (C := RX9) (T := TX9) (N := 46) hx hb hts in_m_count_X9 hown hK hP 0 rfl rfl 22 (by decide) (hts (.fieldLink RX9 129 "ServiceTreeModel" "tick" "I") (by decide +kernel)) (fun _ h9 => h9) rfl dX9_count_56 ?_
    refine lv_topi (fun x9 ex9 => ?_)
    exact W.iret (v := x9) hx hb hr (fun t ht hW => ⟨⟨x9, (F, V), rfl, ⟨rfl, rfl, trivial⟩, by rw [ht]; exact hP, hD⟩, hS.F ht⟩) hS.2.2 dX9_count_59
  rcases Classical.em (p0 = 4) with c10 | c10
  · refine lv_tableIn (tgt := 60) (off := 59) hx hb dX9_count_1 (by rw [c10]; decide) (by rw [c10]; decide) (by rw [c10]; rfl) (by decide) ?_
    refine lv_aload_n hx hb dX9_count_60 rfl (lv_at hl 0 rfl) ?_
    refine va_get (D := (dC, dI)) (ci := 10) (v := .int (V 23)) (C := RX9) (T := TX9) (N := 46) hx hb hts in_m_count_X9 hown hK hP 0 rfl rfl 23 (by decide) (hts (.fieldLink RX9 249 "ServiceTreeModel" "lettersAll" "I") (by decide +kernel)) (fun _ h9 => h9) rfl dX9_count_61 ?_
    refine lv_topi (fun x11 ex11 => ?_)
    exact W.iret (v := x11) hx hb hr (fun t ht hW => ⟨⟨x11, (F, V), rfl, ⟨rfl, rfl, trivial⟩, by rw [ht]; exact hP, hD⟩, hS.F ht⟩) hS.2.2 dX9_count_64
  rcases Classical.em (p0 = 5) with c12 | c12
  · refine lv_tableIn (tgt := 65) (off := 64) hx hb dX9_count_1 (by rw [c12]; decide) (by rw [c12]; decide) (by rw [c12]; rfl) (by decide) ?_
    refine lv_aload_n hx hb dX9_count_65 rfl (lv_at hl 0 rfl) ?_
    refine va_get (D := (dC, dI)) (ci := 10) (v := .int (V 24)) (C := RX9) (T := TX9) (N := 46) hx hb hts in_m_count_X9 hown hK hP 0 rfl rfl 24 (by decide) (hts (.fieldLink RX9 243 "ServiceTreeModel" "readAll" "I") (by decide +kernel)) (fun _ h9 => h9) rfl dX9_count_66 ?_
    refine lv_topi (fun x13 ex13 => ?_)
    exact W.iret (v := x13) hx hb hr (fun t ht hW => ⟨⟨x13, (F, V), rfl, ⟨rfl, rfl, trivial⟩, by rw [ht]; exact hP, hD⟩, hS.F ht⟩) hS.2.2 dX9_count_69
  refine lv_tableOut (tgt := 70) hx hb dX9_count_1 (by have k0 := c1; have k1 := c2; have k2 := c4; have k3 := c8; have k4 := c10; have k5 := c12; simp only [p1_le, p1_lt, p1_eq, p1_m6, p1_m1, p1_0, p1_1, p1_2, p1_3, p1_4, p1_5, p1_6, p1_7, p1_8, p1_9, p1_10, p1_11, p1_12, p1_13, p1_14, p1_15, p1_16, p1_17, p1_18, p1_19, p1_20, p1_40, p1_50, p1_200, p1_1000] at k0 k1 k2 k3 k4 k5 ⊢; omega) (by decide) ?_
  refine lv_iconst (v := (-1)) hx hb dX9_count_70 (by decide) ?_
  exact W.iret (v := (-1)) hx hb hr (fun t ht hW => ⟨⟨(-1), (F, V), rfl, ⟨rfl, rfl, trivial⟩, by rw [ht]; exact hP, hD⟩, hS.F ht⟩) hS.2.2 dX9_count_71
def wq_m_related : List Cond := [.code yX9_related cX9_related 4 (some .int), .methodLink RX9 139 yX9_isPair, .instanceMethod yX9_isPair, .selects RX9 yX9_isPair yX9_isPair, .initialized RX9, .methodLink RX9 150 yX9_has, .instanceMethod yX9_has, .selects RX9 yX9_has yX9_has] ++ (wsX90 ++ (wq_m_isPair ++ (wq_m_has)))
theorem in_m_related_X9 : ∀ w ∈ wsX90, w ∈ wq_m_related := fun _ h => List.mem_append_right _ (List.mem_append_left _ (h))
set_option maxRecDepth 20000 in
theorem wi_m_related : ∀ w ∈ wq_m_related, w ∈ lw_tbl := List.forall_mem_append.mpr ⟨(by decide +kernel), List.forall_mem_append.mpr ⟨inKX9, List.forall_mem_append.mpr ⟨wi_m_isPair, wi_m_has⟩⟩⟩
set_option maxRecDepth 20000 in
theorem wg_m_related : GoodIn wq_m_related wq_m_related := goodIn_sub (fun _ h => h) (by decide +kernel)
set_option maxRecDepth 20000 in
theorem wc_m_related_m_isPair_139 : GoodIn wq_m_related (wsV RX9 139 RX9 yX9_isPair wq_m_isPair) := goodIn_app (goodIn_of _ (by decide +kernel)) (fun w h => ⟨List.mem_append_right _ (List.mem_append_right _ (List.mem_append_left _ (h))), (wg_m_isPair w h).2⟩)
set_option maxRecDepth 20000 in
theorem wc_m_related_m_has_150 : GoodIn wq_m_related (wsV RX9 150 RX9 yX9_has wq_m_has) := goodIn_app (goodIn_of _ (by decide +kernel)) (fun w h => ⟨List.mem_append_right _ (List.mem_append_right _ (List.mem_append_right _ (h))), (wg_m_has w h).2⟩)
def rm_m_related : Room := { frames := 2, cells := 0, slots := 0, locals := 44 }
set_option maxHeartbeats 4000000 in
set_option maxRecDepth 100000 in
theorem c_m_related (l : Launch) (dC : Nat → ClassId) (dI : Nat → Nat → Nat) (h : Nat) (a : Nat → Nat) (k : Nat → ClassId) (F : Nat → Nat → Int32) (V : Nat → Int32) (n b : Nat) (p0 : Int32) (p1 : Int32) (p2 : Int32) (sz : Nat) (hI0 : InvM n b F V) (hb0 : b + 0 < 2147483648)  : Met l yX9_related wq_m_related rm_m_related (va_Pc [.ref h, .int p0, .int p1, .int p2] (fun U => U.heap.size = sz ∧ va_P (dC, dI) vwCl (mW h a k F V) U.heap ∧ va_K (dC, dI) vwCl (mT k) U ∧ va_D (fun _ => True) (mW h a k F V))) (va_Qi (fun (r : Int32) (u : (Nat → Nat → Int32) × (Nat → Int32)) => u.1 = F ∧ u.2 = V ∧ (True)) (fun (u : (Nat → Nat → Int32) × (Nat → Int32)) (t : State) => va_P (dC, dI) vwCl (mW h a k u.1 u.2) t.heap ∧ va_D (va_A (mW h a k F V) sz) (mW h a k u.1 u.2)) (va_A (mW h a k F V) sz)) 0 0 (va_A (mW h a k F V) sz) := by
  have hn : n ≤ 40 := hI0.1
  have hI : StM n b F V F V := StM.rf hI0
  have hU : ∀ j : Nat, j ∉ ([] : List Nat) → F j = F j := fun _ _ => rfl
  have hV : ∀ j : Nat, j ∉ ([] : List Nat) → V j = V j := fun _ _ => rfl
  refine Met.ofW (cc := cX9_related) (maxL := 4) (ret := (some .int)) (by decide) rfl ?_
  intro p e s m args below meth c s₁ B hml hv
  obtain ⟨rfl, hsz, hP, hK, hD0⟩ := hv
  have hx := B.exec
  have hb := B.bytes
  have hr := B.returns
  have hts := atoms_spec (ws := wq_m_related) B.pre
  have hown : s.vm.findClass RX9 = some m.cls := findClass_of_methodNamed B.named
  have hlocks := B.notSynchronized
  subst hsz
  have hD := hD0.self (sz := s.heap.size)
  generalize hAe : va_A (mW h a k F V) s.heap.size = A at hD ⊢
  have hA : ∀ q : Nat, s.heap.size ≤ q → A q := fun q h => by rw [← hAe]; exact Or.inr h
  have hS : va_S A s.heap s.heap [] := va_S.rf
  have hl := lv_entry ([.ref h, .int p0, .int p1, .int p2]) (n := 4) (Nat.le_of_ble_eq_true rfl)
  rw [lg_entry_eq]
  generalize (lg_sl ([.ref h, .int p0, .int p1, .int p2]) ++ List.replicate (4 - (lg_sl ([.ref h, .int p0, .int p1, .int p2])).length) Slot.unset).toArray = ls at hl ⊢
  have hl : lv_has ls 4 [(0, .ref h), (1, .int p0), (2, .int p1), (3, .int p2)] := hl
  refine lv_aload_n hx hb dX9_related_0 rfl (lv_at hl 0 rfl) ?_
  refine lv_iload_n hx hb dX9_related_1 rfl (lv_at hl 1 rfl) ?_
  refine lv_iload_n hx hb dX9_related_2 rfl (lv_at hl 2 rfl) ?_
  refine lv_iload_n hx hb dX9_related_3 rfl (lv_at hl 3 rfl) ?_
  have hFc := mw_free hD hS hA
  refine va_calli (va_runV (As := [.int p0, .int p1, .int p2]) (rest := []) ⟨hx, hb, hml, hown, hts⟩ (c_m_isPair l dC dI h a k F V n (b) p0 p1 p2 s.heap.size hI.1 (by omega) ) (cwV 3 hts wc_m_related_m_isPair_139 rfl rfl rfl (by decide +kernel) ⟨Nat.le_of_ble_eq_true rfl, Nat.le_of_ble_eq_true rfl⟩) ⟨fun a9 U g mk q => by obtain ⟨q0, q1, qP, qK, qD⟩ := q; exact ⟨q0, q1, qP, va_K.moved (u := U) (U := U.calling g mk a9) (Vm.Alike.refl U.vm) qK, qD⟩, va_recv hK hP (ci := 10) (q0 := 0) rfl rfl, fun U hU hW => ⟨rfl, by rw [hU], by rw [hU]; exact hP, va_K.moved hW.alike hK, hD.weaken (fun _ _ _ _ => trivial)⟩⟩ rfl rfl hl.1 rfl (lv_room (Nat.le_of_ble_eq_true rfl)) dX9_related_4 ⟨Nat.le_of_ble_eq_true rfl, Nat.le_of_ble_eq_true rfl⟩) hS (fun q _ h => hFc q h) hFc (fun r1 u t H1 locs ht hvm hw hB hz1 hk1 hS => ?_)
  obtain ⟨F2, V3⟩ := u
  replace hP := hB.1
  rw [ht] at hP
  replace hD : va_D A (mW h a k F2 V3) := hB.2.weaken (fun _ q _ h9 => hFc q.1 h9)
  clear hB
  generalize H1 = H at hP hS ⊢
  replace hP : va_P (dC, dI) vwCl (mW h a k F2 V3) H := hP
  obtain ⟨hwF, hwV, hw⟩ : F2 = F ∧ V3 = V ∧ _ := hw
  rw [hwF, hwV] at hP hD
  rcases hw with ⟨rfl, ⟨o4, ho4, eo4⟩, ⟨j5, hj5, ej5⟩, j6, hj6, ej6⟩ | rfl
  · subst eo4
    subst ej5
    subst ej6
    refine lv_if_eq (tgt := 28) hx hb dX9_related_7 (by decide) (fun c9 => absurd c9 (by decide)) (fun _ => ?_)
    refine lv_aload_n hx hb dX9_related_10 rfl (lv_at hl 0 rfl) ?_
    refine lv_iload_n hx hb dX9_related_11 rfl (lv_at hl 1 rfl) ?_
    refine lv_iload_n hx hb dX9_related_12 rfl (lv_at hl 2 rfl) ?_
    refine lv_iload_n hx hb dX9_related_13 rfl (lv_at hl 3 rfl) ?_
    have hFc := mw_free hD hS hA
    refine va_calli (va_runV (As := [.int (nI o4), .int (nI j5), .int (nI j6)]) (rest := []) ⟨hx, hb, hml, hown, hts⟩ (c_m_has l dC dI h a k F V n (b) o4 j5 j6 H.size hI.1 (by omega) (by omega) (by omega) (by omega)) (cwV 3 hts wc_m_related_m_has_150 rfl rfl rfl (by decide +kernel) ⟨Nat.le_of_ble_eq_true rfl, Nat.le_of_ble_eq_true rfl⟩) ⟨fun a9 U g mk q => by obtain ⟨q0, q1, qP, qK, qD⟩ := q; exact ⟨q0, q1, qP, va_K.moved (u := U) (U := U.calling g mk a9) (Vm.Alike.refl U.vm) qK, qD⟩, va_recv hK hP (ci := 10) (q0 := 0) rfl rfl, fun U hU hW => ⟨rfl, by rw [hU], by rw [hU]; exact hP, va_K.moved hW.alike hK, hD.weaken (fun _ _ _ _ => trivial)⟩⟩ rfl rfl hl.1 rfl (lv_room (Nat.le_of_ble_eq_true rfl)) dX9_related_14 ⟨Nat.le_of_ble_eq_true rfl, Nat.le_of_ble_eq_true rfl⟩) hS (fun q _ h => hFc q h) hFc (fun r7 u t H1 locs ht hvm hw hB hz1 hk1 hS => ?_)
    obtain ⟨F8, V9⟩ := u
    replace hP := hB.1
    rw [ht] at hP
    replace hD : va_D A (mW h a k F8 V9) := hB.2.weaken (fun _ q _ h9 => hFc q.1 h9)
    clear hB
    generalize H1 = H at hP hS ⊢
    replace hP : va_P (dC, dI) vwCl (mW h a k F8 V9) H := hP
    obtain ⟨hwF, hwV, hw⟩ : F8 = F ∧ V9 = V ∧ _ := hw
    rw [hwF, hwV] at hP hD
    have br7 := hw
    refine lv_if_eq (tgt := 24) hx hb dX9_related_17 (by decide) (fun c10 => ?_) (fun c10 => ?_)
    · refine lv_iconst (v := 0) hx hb dX9_related_24 (by decide) ?_
      refine lv_goto (tgt := 29) hx hb dX9_related_25 (by decide) ?_
      exact W.iret (v := 0) hx hb hr (fun t ht hW => ⟨⟨0, (F, V), rfl, ⟨rfl, rfl, trivial⟩, by rw [ht]; exact hP, hD⟩, hS.F ht⟩) hS.2.2 dX9_related_29
    · refine lv_iconst (v := 1) hx hb dX9_related_20 (by decide) ?_
      refine lv_goto (tgt := 29) hx hb dX9_related_21 (by decide) ?_
      exact W.iret (v := 1) hx hb hr (fun t ht hW => ⟨⟨1, (F, V), rfl, ⟨rfl, rfl, trivial⟩, by rw [ht]; exact hP, hD⟩, hS.F ht⟩) hS.2.2 dX9_related_29
  · refine lv_if_eq (tgt := 28) hx hb dX9_related_7 (by decide) (fun _ => ?_) (fun c9 => absurd (by decide) c9)
    refine lv_iconst (v := (-1)) hx hb dX9_related_28 (by decide) ?_
    exact W.iret (v := (-1)) hx hb hr (fun t ht hW => ⟨⟨(-1), (F, V), rfl, ⟨rfl, rfl, trivial⟩, by rw [ht]; exact hP, hD⟩, hS.F ht⟩) hS.2.2 dX9_related_29
def wq_m_waits : List Cond := [.code yX9_waits cX9_waits 5 (some .int), .fieldLink RX9 126 "ServiceTreeModel" "services" "I", .fieldLink RX9 71 "ServiceTreeModel" "job" "[I", .fieldLink RX9 74 "ServiceTreeModel" "hasBegun" "[Z", .methodLink RX9 135 yX9_is, .instanceMethod yX9_is, .selects RX9 yX9_is yX9_is, .initialized RX9, .methodLink RX9 167 yX9_waitsAmong, .instanceMethod yX9_waitsAmong, .selects RX9 yX9_waitsAmong yX9_waitsAmong] ++ (wsX90 ++ (wq_m_is ++ (wq_m_waitsAmong_job)))
theorem in_m_waits_X9 : ∀ w ∈ wsX90, w ∈ wq_m_waits := fun _ h => List.mem_append_right _ (List.mem_append_left _ (h))
set_option maxRecDepth 20000 in
theorem wi_m_waits : ∀ w ∈ wq_m_waits, w ∈ lw_tbl := List.forall_mem_append.mpr ⟨(by decide +kernel), List.forall_mem_append.mpr ⟨inKX9, List.forall_mem_append.mpr ⟨wi_m_is, wi_m_waitsAmong_job⟩⟩⟩
set_option maxRecDepth 20000 in
theorem wg_m_waits : GoodIn wq_m_waits wq_m_waits := goodIn_sub (fun _ h => h) (by decide +kernel)
set_option maxRecDepth 20000 in
theorem wc_m_waits_m_is_135 : GoodIn wq_m_waits (wsV RX9 135 RX9 yX9_is wq_m_is) := goodIn_app (goodIn_of _ (by decide +kernel)) (fun w h => ⟨List.mem_append_right _ (List.mem_append_right _ (List.mem_append_left _ (h))), (wg_m_is w h).2⟩)
set_option maxRecDepth 20000 in
theorem wc_m_waits_m_waitsAmong_job_167 : GoodIn wq_m_waits (wsV RX9 167 RX9 yX9_waitsAmong wq_m_waitsAmong_job) := goodIn_app (goodIn_of _ (by decide +kernel)) (fun w h => ⟨List.mem_append_right _ (List.mem_append_right _ (List.mem_append_right _ (h))), (wg_m_waitsAmong_job w h).2⟩)
def rm_m_waits : Room := { frames := 2, cells := 0, slots := 0, locals := 46 }
set_option maxHeartbeats 4000000 in
set_option maxRecDepth 100000 in
theorem c_m_waits (l : Launch) (dC : Nat → ClassId) (dI : Nat → Nat → Nat) (h : Nat) (a : Nat → Nat) (k : Nat → ClassId) (F : Nat → Nat → Int32) (V : Nat → Int32) (n b : Nat) (p0 : Int32) (p1 : Int32) (sz : Nat) (hI0 : InvM n b F V) (hb0 : b + 0 < 2147483648)  : Met l yX9_waits wq_m_waits rm_m_waits (va_Pc [.ref h, .int p0, .int p1] (fun U => U.heap.size = sz ∧ va_P (dC, dI) vwCl (mW h a k F V) U.heap ∧ va_K (dC, dI) vwCl (mT k) U ∧ va_D (fun _ => True) (mW h a k F V))) (va_Qi (fun (r : Int32) (u : (Nat → Nat → Int32) × (Nat → Int32)) => u.1 = F ∧ u.2 = V ∧ (True)) (fun (u : (Nat → Nat → Int32) × (Nat → Int32)) (t : State) => va_P (dC, dI) vwCl (mW h a k u.1 u.2) t.heap ∧ va_D (va_A (mW h a k F V) sz) (mW h a k u.1 u.2)) (va_A (mW h a k F V) sz)) 0 0 (va_A (mW h a k F V) sz) := by
  have hn : n ≤ 40 := hI0.1
  have hI : StM n b F V F V := StM.rf hI0
  have hU : ∀ j : Nat, j ∉ ([] : List Nat) → F j = F j := fun _ _ => rfl
  have hV : ∀ j : Nat, j ∉ ([] : List Nat) → V j = V j := fun _ _ => rfl
  refine Met.ofW (cc := cX9_waits) (maxL := 5) (ret := (some .int)) (by decide) rfl ?_
  intro p e s m args below meth c s₁ B hml hv
  obtain ⟨rfl, hsz, hP, hK, hD0⟩ := hv
  have hx := B.exec
  have hb := B.bytes
  have hr := B.returns
  have hts := atoms_spec (ws := wq_m_waits) B.pre
  have hown : s.vm.findClass RX9 = some m.cls := findClass_of_methodNamed B.named
  have hlocks := B.notSynchronized
  subst hsz
  have hD := hD0.self (sz := s.heap.size)
  generalize hAe : va_A (mW h a k F V) s.heap.size = A at hD ⊢
  have hA : ∀ q : Nat, s.heap.size ≤ q → A q := fun q h => by rw [← hAe]; exact Or.inr h
  have hS : va_S A s.heap s.heap [] := va_S.rf
  have hl := lv_entry ([.ref h, .int p0, .int p1]) (n := 5) (Nat.le_of_ble_eq_true rfl)
  rw [lg_entry_eq]
  generalize (lg_sl ([.ref h, .int p0, .int p1]) ++ List.replicate (5 - (lg_sl ([.ref h, .int p0, .int p1])).length) Slot.unset).toArray = ls at hl ⊢
  have hl : lv_has ls 5 [(0, .ref h), (1, .int p0), (2, .int p1)] := hl
  refine mw_Q (fun Q0 hQ => ?_)
  refine lv_aload_n hx hb dX9_waits_0 rfl (lv_at hl 0 rfl) ?_
  refine lv_iload_n hx hb dX9_waits_1 rfl (lv_at hl 1 rfl) ?_
  have hFc := mw_free hD hS hA
  refine va_calli (va_runV (As := [.int p0]) (rest := []) ⟨hx, hb, hml, hown, hts⟩ (c_m_is l dC dI h a k F V n (b) p0 s.heap.size hI.1 (by omega) ) (cwV 1 hts wc_m_waits_m_is_135 rfl rfl rfl (by decide +kernel) ⟨Nat.le_of_ble_eq_true rfl, Nat.le_of_ble_eq_true rfl⟩) ⟨fun a9 U g mk q => by obtain ⟨q0, q1, qP, qK, qD⟩ := q; exact ⟨q0, q1, qP, va_K.moved (u := U) (U := U.calling g mk a9) (Vm.Alike.refl U.vm) qK, qD⟩, va_recv hK hP (ci := 10) (q0 := 0) rfl rfl, fun U hU hW => ⟨rfl, by rw [hU], by rw [hU]; exact hP, va_K.moved hW.alike hK, hD.weaken (fun _ _ _ _ => trivial)⟩⟩ rfl rfl hl.1 rfl (lv_room (Nat.le_of_ble_eq_true rfl)) dX9_waits_2 ⟨Nat.le_of_ble_eq_true rfl, Nat.le_of_ble_eq_true rfl⟩) hS (fun q _ h => hFc q h) hFc (fun r1 u t H1 locs ht hvm hw hB hz1 hk1 hS => ?_)
  obtain ⟨F2, V3⟩ := u
  replace hP := hB.1
  rw [ht] at hP
  replace hD : va_D A (mW h a k F2 V3) := hB.2.weaken (fun _ q _ h9 => hFc q.1 h9)
  clear hB
  generalize H1 = H at hP hS ⊢
  replace hP : va_P (dC, dI) vwCl (mW h a k F2 V3) H := hP
  obtain ⟨hwF, hwV, hw⟩ : F2 = F ∧ V3 = V ∧ _ := hw
  rw [hwF, hwV] at hP hD
  rcases hw with ⟨rfl, j4, hj4, ej4⟩ | ⟨rfl, noj4⟩
  · subst ej4
    refine lv_if_eq (tgt := 17) hx hb dX9_waits_5 (by decide) (fun c9 => absurd c9 (by decide)) (fun _ => ?_)
    refine lv_iload_n hx hb dX9_waits_8 rfl (lv_at hl 2 rfl) ?_
    refine lv_if_lt (tgt := 17) hx hb dX9_waits_9 (by decide) (fun c5 => ?_) (fun c5 => ?_)
    · refine lv_iconst (v := (-1)) hx hb dX9_waits_17 (by decide) ?_
      rw [hQ]
      exact W.iret (v := (-1)) hx hb hr (fun t ht hW => ⟨⟨(-1), (F, V), rfl, ⟨rfl, rfl, trivial⟩, by rw [ht]; exact hP, hD⟩, hS.F ht⟩) hS.2.2 dX9_waits_18
    · refine lv_iload_n hx hb dX9_waits_12 rfl (lv_at hl 2 rfl) ?_
      refine lv_iconst (v := 1) hx hb dX9_waits_13 (by decide) ?_
      refine lv_icmp_le (tgt := 19) hx hb dX9_waits_14 (by decide) (fun c6 => ?_) (fun c6 => ?_)
      · refine lv_iconst (v := 0) hx hb dX9_waits_19 (by decide) ?_
        refine lv_istore_n (lv' := [(3, .int 0), (0, .ref h), (1, .int (nI j4)), (2, .int p1)]) hx hb dX9_waits_20 rfl hl (by decide) rfl (fun ls hl => ?_)
        refine lv_iconst (v := 0) hx hb dX9_waits_21 (by decide) ?_
        refine lv_istore (lv' := [(4, .int 0), (3, .int 0), (0, .ref h), (1, .int (nI j4)), (2, .int p1)]) hx hb dX9_waits_22 hl (by decide) rfl (fun ls hl => ?_)
        have lp10 : ∀ (fu8 i7 : Nat) (y11 : Int32) (H : Heap) (locs : List Loc) (ls : Array Slot), n < i7 + fu8 → i7 ≤ n → va_P (dC, dI) vwCl (mW h a k F V) H → va_D A (mW h a k F V) → va_S A s.heap H locs → lv_has ls 5 [(4, .int (nI i7)), (3, .int y11), (0, .ref h), (1, .int (nI j4)), (2, .int p1)] → W p l e (headSpec wq_m_waits rm_m_waits).room s m ([.ref h, .int (nI j4), .int p1] : List Value).toArray below meth c H locs 0 0 Q0 (F0 m 24 ls []) := by
          intro fu8
          induction fu8 with
          | zero =>
            intro i7 y11 H locs ls hf hi
            exact absurd hf (by omega)
          | succ fu8 ih9 =>
            intro i7 y11 H locs ls hfi7 hii7 hP hD hS hl
            refine lv_iload hx hb dX9_waits_24 (lv_at hl 0 rfl) ?_
            refine lv_aload_n hx hb dX9_waits_26 rfl (lv_at hl 2 rfl) ?_
            refine va_get (D := (dC, dI)) (ci := 10) (v := .int (V 21)) (C := RX9) (T := TX9) (N := 46) hx hb hts in_m_waits_X9 hown hK hP 0 rfl rfl 21 (by decide) (hts (.fieldLink RX9 126 "ServiceTreeModel" "services" "I") (by decide +kernel)) (fun _ h9 => h9) rfl dX9_waits_27 ?_
            refine p1_topr (v := .int (nI n)) (congrArg Value.int hI.1.2.1) ?_
            refine lv_icmp_ge (tgt := 101) hx hb dX9_waits_30 (by decide) (fun c12 => ?_) (fun c12 => ?_)
            · replace c12 : n ≤ i7 := (nI_leI (a := n) (b := i7) (by omega) (by omega)).mp c12
              refine lv_iload_n hx hb dX9_waits_101 rfl (lv_at hl 1 rfl) ?_
              rw [hQ]
              exact W.iret (v := y11) hx hb hr (fun t ht hW => ⟨⟨y11, (F, V), rfl, ⟨rfl, rfl, trivial⟩, by rw [ht]; exact hP, hD⟩, hS.F ht⟩) hS.2.2 dX9_waits_102
            · replace c12 : ¬ (n ≤ i7) := fun q9 => c12 ((nI_leI (a := n) (b := i7) (by omega) (by omega)).mpr q9)
              refine lv_iload_n hx hb dX9_waits_33 rfl (lv_at hl 1 rfl) ?_
              refine lv_iload_n hx hb dX9_waits_34 rfl (lv_at hl 4 rfl) ?_
              refine lv_if_ne (tgt := 64) hx hb dX9_waits_35 (by decide) (fun c13 => ?_) (fun c13 => ?_)
              · refine lv_aload_n hx hb dX9_waits_64 rfl (lv_at hl 2 rfl) ?_
                refine lv_aload_n hx hb dX9_waits_65 rfl (lv_at hl 2 rfl) ?_
                refine va_get (D := (dC, dI)) (ci := 10) (v := .ref (a 25)) (C := RX9) (T := TX9) (N := 46) hx hb hts in_m_waits_X9 hown hK hP 0 rfl rfl 25 (by decide) (hts (.fieldLink RX9 71 "ServiceTreeModel" "job" "[I") (by decide +kernel)) (fun _ h9 => h9) rfl dX9_waits_66 ?_
                refine lv_iload hx hb dX9_waits_69 (lv_at hl 0 rfl) ?_
                refine lv_iload_n hx hb dX9_waits_71 rfl (lv_at hl 3 rfl) ?_
                have hFc := mw_free hD hS hA
                refine va_calli (va_runV (As := [.ref (a 25), .int (nI i7), .int (nI j4)]) (rest := [.int y11]) ⟨hx, hb, hml, hown, hts⟩ (c_m_waitsAmong_job l dC dI h a k F V n (b) i7 j4 H.size hI.1 (by omega) (by omega) (by omega)) (cwV 3 hts wc_m_waits_m_waitsAmong_job_167 rfl rfl rfl (by decide +kernel) ⟨Nat.le_of_ble_eq_true rfl, Nat.le_of_ble_eq_true rfl⟩) ⟨fun a9 U g mk q => by obtain ⟨q0, q1, qP, qK, qD⟩ := q; exact ⟨q0, q1, qP, va_K.moved (u := U) (U := U.calling g mk a9) (Vm.Alike.refl U.vm) qK, qD⟩, va_recv hK hP (ci := 10) (q0 := 0) rfl rfl, fun U hU hW => ⟨rfl, by rw [hU], by rw [hU]; exact hP, va_K.moved hW.alike hK, hD.weaken (fun _ _ _ _ => trivial)⟩⟩ rfl rfl hl.1 rfl (lv_room (Nat.le_of_ble_eq_true rfl)) dX9_waits_72 ⟨Nat.le_of_ble_eq_true rfl, Nat.le_of_ble_eq_true rfl⟩) hS (fun q _ h => hFc q h) hFc (fun r14 u t H1 locs ht hvm hw hB hz1 hk1 hS => ?_)
                obtain ⟨F15, V16⟩ := u
                replace hP := hB.1
                rw [ht] at hP
                replace hD : va_D A (mW h a k F15 V16) := hB.2.weaken (fun _ q _ h9 => hFc q.1 h9)
                clear hB
                generalize H1 = H at hP hS ⊢
                replace hP : va_P (dC, dI) vwCl (mW h a k F15 V16) H := hP
                obtain ⟨hwF, hwV, hw⟩ : F15 = F ∧ V16 = V ∧ _ := hw
                rw [hwF, hwV] at hP hD
                have br14 := hw
                refine lv_if_eq (tgt := 92) hx hb dX9_waits_75 (by decide) (fun c17 => ?_) (fun c17 => ?_)
                · refine lv_iconst (v := 0) hx hb dX9_waits_92 (by decide) ?_
                  refine lv_iadd hx hb dX9_waits_93 ?_
                  refine lv_topi (fun x18 ex18 => ?_)
                  refine lv_istore_n (lv' := [(3, .int x18), (4, .int (nI i7)), (0, .ref h), (1, .int (nI j4)), (2, .int p1)]) hx hb dX9_waits_94 rfl hl (by decide) rfl (fun ls hl => ?_)
                  refine lv_iinc (v := nI (i7 + 1)) (lv' := [(4, .int (nI (i7 + 1))), (3, .int x18), (0, .ref h), (1, .int (nI j4)), (2, .int p1)]) hx hb dX9_waits_95 hl (k := 1) rfl (nI_add i7 1) (by decide) rfl (fun ls hl => ?_)
                  refine lv_goto (tgt := 24) hx hb dX9_waits_98 (by decide) ?_
                  exact ih9 (i7 + 1) x18 _ _ _ (by omega) (by omega)  hP hD hS (lv_sub hl [0, 1, 2, 3, 4] rfl)
                · refine lv_aload_n hx hb dX9_waits_78 rfl (lv_at hl 2 rfl) ?_
                  refine va_get (D := (dC, dI)) (ci := 10) (v := .ref (a 26)) (C := RX9) (T := TX9) (N := 46) hx hb hts in_m_waits_X9 hown hK hP 0 rfl rfl 26 (by decide) (hts (.fieldLink RX9 74 "ServiceTreeModel" "hasBegun" "[Z") (by decide +kernel)) (fun _ h9 => h9) rfl dX9_waits_79 ?_
                  refine lv_iload hx hb dX9_waits_82 (lv_at hl 0 rfl) ?_
                  refine va_zald (n := 40) (f := F 26) hx hb hK hP 22 21 rfl rfl (vp_in_nI (n := i7) (by omega) (by decide)) dX9_waits_84 ?_
                  refine lv_topi (fun x19 ex19 => ?_)
                  refine lv_if_ne (tgt := 92) hx hb dX9_waits_85 (by decide) (fun c20 => ?_) (fun c20 => ?_)
                  · refine lv_iconst (v := 0) hx hb dX9_waits_92 (by decide) ?_
                    refine lv_iadd hx hb dX9_waits_93 ?_
                    refine lv_topi (fun x21 ex21 => ?_)
                    refine lv_istore_n (lv' := [(3, .int x21), (4, .int (nI i7)), (0, .ref h), (1, .int (nI j4)), (2, .int p1)]) hx hb dX9_waits_94 rfl hl (by decide) rfl (fun ls hl => ?_)
                    refine lv_iinc (v := nI (i7 + 1)) (lv' := [(4, .int (nI (i7 + 1))), (3, .int x21), (0, .ref h), (1, .int (nI j4)), (2, .int p1)]) hx hb dX9_waits_95 hl (k := 1) rfl (nI_add i7 1) (by decide) rfl (fun ls hl => ?_)
                    refine lv_goto (tgt := 24) hx hb dX9_waits_98 (by decide) ?_
                    exact ih9 (i7 + 1) x21 _ _ _ (by omega) (by omega)  hP hD hS (lv_sub hl [0, 1, 2, 3, 4] rfl)
                  · refine lv_iconst (v := 1) hx hb dX9_waits_88 (by decide) ?_
                    refine lv_goto (tgt := 93) hx hb dX9_waits_89 (by decide) ?_
                    refine lv_iadd hx hb dX9_waits_93 ?_
                    refine lv_topi (fun x22 ex22 => ?_)
                    refine lv_istore_n (lv' := [(3, .int x22), (4, .int (nI i7)), (0, .ref h), (1, .int (nI j4)), (2, .int p1)]) hx hb dX9_waits_94 rfl hl (by decide) rfl (fun ls hl => ?_)
                    refine lv_iinc (v := nI (i7 + 1)) (lv' := [(4, .int (nI (i7 + 1))), (3, .int x22), (0, .ref h), (1, .int (nI j4)), (2, .int p1)]) hx hb dX9_waits_95 hl (k := 1) rfl (nI_add i7 1) (by decide) rfl (fun ls hl => ?_)
                    refine lv_goto (tgt := 24) hx hb dX9_waits_98 (by decide) ?_
                    exact ih9 (i7 + 1) x22 _ _ _ (by omega) (by omega)  hP hD hS (lv_sub hl [0, 1, 2, 3, 4] rfl)
              · refine lv_aload_n hx hb dX9_waits_38 rfl (lv_at hl 2 rfl) ?_
                refine lv_aload_n hx hb dX9_waits_39 rfl (lv_at hl 2 rfl) ?_
                refine va_get (D := (dC, dI)) (ci := 10) (v := .ref (a 25)) (C := RX9) (T := TX9) (N := 46) hx hb hts in_m_waits_X9 hown hK hP 0 rfl rfl 25 (by decide) (hts (.fieldLink RX9 71 "ServiceTreeModel" "job" "[I") (by decide +kernel)) (fun _ h9 => h9) rfl dX9_waits_40 ?_
                refine lv_iload_n hx hb dX9_waits_43 rfl (lv_at hl 3 rfl) ?_
                refine lv_iload hx hb dX9_waits_44 (lv_at hl 0 rfl) ?_
                have hFc := mw_free hD hS hA
                refine va_calli (va_runV (As := [.ref (a 25), .int (nI j4), .int (nI i7)]) (rest := [.int y11]) ⟨hx, hb, hml, hown, hts⟩ (c_m_waitsAmong_job l dC dI h a k F V n (b) j4 i7 H.size hI.1 (by omega) (by omega) (by omega)) (cwV 3 hts wc_m_waits_m_waitsAmong_job_167 rfl rfl rfl (by decide +kernel) ⟨Nat.le_of_ble_eq_true rfl, Nat.le_of_ble_eq_true rfl⟩) ⟨fun a9 U g mk q => by obtain ⟨q0, q1, qP, qK, qD⟩ := q; exact ⟨q0, q1, qP, va_K.moved (u := U) (U := U.calling g mk a9) (Vm.Alike.refl U.vm) qK, qD⟩, va_recv hK hP (ci := 10) (q0 := 0) rfl rfl, fun U hU hW => ⟨rfl, by rw [hU], by rw [hU]; exact hP, va_K.moved hW.alike hK, hD.weaken (fun _ _ _ _ => trivial)⟩⟩ rfl rfl hl.1 rfl (lv_room (Nat.le_of_ble_eq_true rfl)) dX9_waits_46 ⟨Nat.le_of_ble_eq_true rfl, Nat.le_of_ble_eq_true rfl⟩) hS (fun q _ h => hFc q h) hFc (fun r23 u t H1 locs ht hvm hw hB hz1 hk1 hS => ?_)
                obtain ⟨F24, V25⟩ := u
                replace hP := hB.1
                rw [ht] at hP
                replace hD : va_D A (mW h a k F24 V25) := hB.2.weaken (fun _ q _ h9 => hFc q.1 h9)
                clear hB
                generalize H1 = H at hP hS ⊢
                replace hP : va_P (dC, dI) vwCl (mW h a k F24 V25) H := hP
                obtain ⟨hwF, hwV, hw⟩ : F24 = F ∧ V25 = V ∧ _ := hw
                rw [hwF, hwV] at hP hD
                have br23 := hw
                refine lv_if_eq (tgt := 92) hx hb dX9_waits_49 (by decide) (fun c26 => ?_) (fun c26 => ?_)
                · refine lv_iconst (v := 0) hx hb dX9_waits_92 (by decide) ?_
                  refine lv_iadd hx hb dX9_waits_93 ?_
                  refine lv_topi (fun x27 ex27 => ?_)
                  refine lv_istore_n (lv' := [(3, .int x27), (4, .int (nI i7)), (0, .ref h), (1, .int (nI j4)), (2, .int p1)]) hx hb dX9_waits_94 rfl hl (by decide) rfl (fun ls hl => ?_)
                  refine lv_iinc (v := nI (i7 + 1)) (lv' := [(4, .int (nI (i7 + 1))), (3, .int x27), (0, .ref h), (1, .int (nI j4)), (2, .int p1)]) hx hb dX9_waits_95 hl (k := 1) rfl (nI_add i7 1) (by decide) rfl (fun ls hl => ?_)
                  refine lv_goto (tgt := 24) hx hb dX9_waits_98 (by decide) ?_
                  exact ih9 (i7 + 1) x27 _ _ _ (by omega) (by omega)  hP hD hS (lv_sub hl [0, 1, 2, 3, 4] rfl)
                · refine lv_aload_n hx hb dX9_waits_52 rfl (lv_at hl 2 rfl) ?_
                  refine va_get (D := (dC, dI)) (ci := 10) (v := .ref (a 26)) (C := RX9) (T := TX9) (N := 46) hx hb hts in_m_waits_X9 hown hK hP 0 rfl rfl 26 (by decide) (hts (.fieldLink RX9 74 "ServiceTreeModel" "hasBegun" "[Z") (by decide +kernel)) (fun _ h9 => h9) rfl dX9_waits_53 ?_
                  refine lv_iload_n hx hb dX9_waits_56 rfl (lv_at hl 3 rfl) ?_
                  refine va_zald (n := 40) (f := F 26) hx hb hK hP 22 21 rfl rfl (vp_in_nI (n := j4) (by omega) (by decide)) dX9_waits_57 ?_
                  refine lv_topi (fun x28 ex28 => ?_)
                  refine lv_if_ne (tgt := 92) hx hb dX9_waits_58 (by decide) (fun c29 => ?_) (fun c29 => ?_)
                  · refine lv_iconst (v := 0) hx hb dX9_waits_92 (by decide) ?_
                    refine lv_iadd hx hb dX9_waits_93 ?_
                    refine lv_topi (fun x30 ex30 => ?_)
                    refine lv_istore_n (lv' := [(3, .int x30), (4, .int (nI i7)), (0, .ref h), (1, .int (nI j4)), (2, .int p1)]) hx hb dX9_waits_94 rfl hl (by decide) rfl (fun ls hl => ?_)
                    refine lv_iinc (v := nI (i7 + 1)) (lv' := [(4, .int (nI (i7 + 1))), (3, .int x30), (0, .ref h), (1, .int (nI j4)), (2, .int p1)]) hx hb dX9_waits_95 hl (k := 1) rfl (nI_add i7 1) (by decide) rfl (fun ls hl => ?_)
                    refine lv_goto (tgt := 24) hx hb dX9_waits_98 (by decide) ?_
                    exact ih9 (i7 + 1) x30 _ _ _ (by omega) (by omega)  hP hD hS (lv_sub hl [0, 1, 2, 3, 4] rfl)
                  · refine lv_goto (tgt := 88) hx hb dX9_waits_61 (by decide) ?_
                    refine lv_iconst (v := 1) hx hb dX9_waits_88 (by decide) ?_
                    refine lv_goto (tgt := 93) hx hb dX9_waits_89 (by decide) ?_
                    refine lv_iadd hx hb dX9_waits_93 ?_
                    refine lv_topi (fun x31 ex31 => ?_)
                    refine lv_istore_n (lv' := [(3, .int x31), (4, .int (nI i7)), (0, .ref h), (1, .int (nI j4)), (2, .int p1)]) hx hb dX9_waits_94 rfl hl (by decide) rfl (fun ls hl => ?_)
                    refine lv_iinc (v := nI (i7 + 1)) (lv' := [(4, .int (nI (i7 + 1))), (3, .int x31), (0, .ref h), (1, .int (nI j4)), (2, .int p1)]) hx hb dX9_waits_95 hl (k := 1) rfl (nI_add i7 1) (by decide) rfl (fun ls hl => ?_)
                    refine lv_goto (tgt := 24) hx hb dX9_waits_98 (by decide) ?_
                    exact ih9 (i7 + 1) x31 _ _ _ (by omega) (by omega)  hP hD hS (lv_sub hl [0, 1, 2, 3, 4] rfl)
        exact lp10 (n + 1) 0 0 _ _ _ (by omega) (by omega)  hP hD hS hl
      · refine lv_iconst (v := (-1)) hx hb dX9_waits_17 (by decide) ?_
        rw [hQ]
        exact W.iret (v := (-1)) hx hb hr (fun t ht hW => ⟨⟨(-1), (F, V), rfl, ⟨rfl, rfl, trivial⟩, by rw [ht]; exact hP, hD⟩, hS.F ht⟩) hS.2.2 dX9_waits_18
  · refine lv_if_eq (tgt := 17) hx hb dX9_waits_5 (by decide) (fun _ => ?_) (fun c9 => absurd (by decide) c9)
    refine lv_iconst (v := (-1)) hx hb dX9_waits_17 (by decide) ?_
    rw [hQ]
    exact W.iret (v := (-1)) hx hb hr (fun t ht hW => ⟨⟨(-1), (F, V), rfl, ⟨rfl, rfl, trivial⟩, by rw [ht]; exact hP, hD⟩, hS.F ht⟩) hS.2.2 dX9_waits_18
def wq_m_planned : List Cond := [.code yX9_planned cX9_planned 3 (some .int), .fieldLink RX9 258 "ServiceTreeModel" "planned" "I", .fieldLink RX9 104 "ServiceTreeModel" "planEnd" "[I", .fieldLink RX9 101 "ServiceTreeModel" "planBegin" "[I", .fieldLink RX9 98 "ServiceTreeModel" "planHow" "[I", .fieldLink RX9 95 "ServiceTreeModel" "planService" "[I"] ++ (wsX90)
theorem in_m_planned_X9 : ∀ w ∈ wsX90, w ∈ wq_m_planned := fun _ h => List.mem_append_right _ (h)
set_option maxRecDepth 20000 in
theorem wi_m_planned : ∀ w ∈ wq_m_planned, w ∈ lw_tbl := List.forall_mem_append.mpr ⟨(by decide +kernel), inKX9⟩
set_option maxRecDepth 20000 in
theorem wg_m_planned : GoodIn wq_m_planned wq_m_planned := goodIn_sub (fun _ h => h) (by decide +kernel)
def rm_m_planned : Room := { frames := 0, cells := 0, slots := 0, locals := 0 }
set_option maxHeartbeats 4000000 in
set_option maxRecDepth 100000 in
theorem c_m_planned (l : Launch) (dC : Nat → ClassId) (dI : Nat → Nat → Nat) (h : Nat) (a : Nat → Nat) (k : Nat → ClassId) (F : Nat → Nat → Int32) (V : Nat → Int32) (n b : Nat) (p0 : Int32) (p1 : Int32) (sz : Nat) (hI0 : InvM n b F V) (hb0 : b + 0 < 2147483648)  : Met l yX9_planned wq_m_planned rm_m_planned (va_Pc [.ref h, .int p0, .int p1] (fun U => U.heap.size = sz ∧ va_P (dC, dI) vwCl (mW h a k F V) U.heap ∧ va_K (dC, dI) vwCl (mT k) U ∧ va_D (fun _ => True) (mW h a k F V))) (va_Qi (fun (r : Int32) (u : (Nat → Nat → Int32) × (Nat → Int32)) => u.1 = F ∧ u.2 = V ∧ (True)) (fun (u : (Nat → Nat → Int32) × (Nat → Int32)) (t : State) => va_P (dC, dI) vwCl (mW h a k u.1 u.2) t.heap ∧ va_D (va_A (mW h a k F V) sz) (mW h a k u.1 u.2)) (va_A (mW h a k F V) sz)) 0 0 (va_A (mW h a k F V) sz) := by
  have hn : n ≤ 40 := hI0.1
  have hI : StM n b F V F V := StM.rf hI0
  have hU : ∀ j : Nat, j ∉ ([] : List Nat) → F j = F j := fun _ _ => rfl
  have hV : ∀ j : Nat, j ∉ ([] : List Nat) → V j = V j := fun _ _ => rfl
  refine Met.ofW (cc := cX9_planned) (maxL := 3) (ret := (some .int)) (by decide) rfl ?_
  intro p e s m args below meth c s₁ B hml hv
  obtain ⟨rfl, hsz, hP, hK, hD0⟩ := hv
  have hx := B.exec
  have hb := B.bytes
  have hr := B.returns
  have hts := atoms_spec (ws := wq_m_planned) B.pre
  have hown : s.vm.findClass RX9 = some m.cls := findClass_of_methodNamed B.named
  have hlocks := B.notSynchronized
  subst hsz
  have hD := hD0.self (sz := s.heap.size)
  generalize hAe : va_A (mW h a k F V) s.heap.size = A at hD ⊢
  have hA : ∀ q : Nat, s.heap.size ≤ q → A q := fun q h => by rw [← hAe]; exact Or.inr h
  have hS : va_S A s.heap s.heap [] := va_S.rf
  have hl := lv_entry ([.ref h, .int p0, .int p1]) (n := 3) (Nat.le_of_ble_eq_true rfl)
  rw [lg_entry_eq]
  generalize (lg_sl ([.ref h, .int p0, .int p1]) ++ List.replicate (3 - (lg_sl ([.ref h, .int p0, .int p1])).length) Slot.unset).toArray = ls at hl ⊢
  have hl : lv_has ls 3 [(0, .ref h), (1, .int p0), (2, .int p1)] := hl
  refine lv_iload_n hx hb dX9_planned_0 rfl (lv_at hl 1 rfl) ?_
  refine lv_if_lt (tgt := 21) hx hb dX9_planned_1 (by decide) (fun c1 => ?_) (fun c1 => ?_)
  · refine lv_iconst (v := (-1)) hx hb dX9_planned_21 (by decide) ?_
    exact W.iret (v := (-1)) hx hb hr (fun t ht hW => ⟨⟨(-1), (F, V), rfl, ⟨rfl, rfl, trivial⟩, by rw [ht]; exact hP, hD⟩, hS.F ht⟩) hS.2.2 dX9_planned_22
  · refine lv_iload_n hx hb dX9_planned_4 rfl (lv_at hl 1 rfl) ?_
    refine lv_aload_n hx hb dX9_planned_5 rfl (lv_at hl 0 rfl) ?_
    refine va_get (D := (dC, dI)) (ci := 10) (v := .int (V 38)) (C := RX9) (T := TX9) (N := 46) hx hb hts in_m_planned_X9 hown hK hP 0 rfl rfl 38 (by decide) (hts (.fieldLink RX9 258 "ServiceTreeModel" "planned" "I") (by decide +kernel)) (fun _ h9 => h9) rfl dX9_planned_6 ?_
    obtain ⟨pl2, hpl2, epl2⟩ := hI.1.2.2.1
    refine p1_topr (v := .int (nI pl2)) (congrArg Value.int epl2) ?_
    refine lv_icmp_ge (tgt := 21) hx hb dX9_planned_9 (by decide) (fun c3 => ?_) (fun c3 => ?_)
    · refine lv_iconst (v := (-1)) hx hb dX9_planned_21 (by decide) ?_
      exact W.iret (v := (-1)) hx hb hr (fun t ht hW => ⟨⟨(-1), (F, V), rfl, ⟨rfl, rfl, trivial⟩, by rw [ht]; exact hP, hD⟩, hS.F ht⟩) hS.2.2 dX9_planned_22
    · obtain ⟨j4, hj4, ej4⟩ := mw_nI (n := pl2) (by omega) c1 c3
      subst ej4
      refine lv_iload_n hx hb dX9_planned_12 rfl (lv_at hl 2 rfl) ?_
      refine lv_if_lt (tgt := 21) hx hb dX9_planned_13 (by decide) (fun c5 => ?_) (fun c5 => ?_)
      · refine lv_iconst (v := (-1)) hx hb dX9_planned_21 (by decide) ?_
        exact W.iret (v := (-1)) hx hb hr (fun t ht hW => ⟨⟨(-1), (F, V), rfl, ⟨rfl, rfl, trivial⟩, by rw [ht]; exact hP, hD⟩, hS.F ht⟩) hS.2.2 dX9_planned_22
      · refine lv_iload_n hx hb dX9_planned_16 rfl (lv_at hl 2 rfl) ?_
        refine lv_iconst (v := 3) hx hb dX9_planned_17 (by decide) ?_
        refine lv_icmp_le (tgt := 23) hx hb dX9_planned_18 (by decide) (fun c6 => ?_) (fun c6 => ?_)
        · refine lv_iload_n hx hb dX9_planned_23 rfl (lv_at hl 2 rfl) ?_
          refine lv_if_ne (tgt := 36) hx hb dX9_planned_24 (by decide) (fun c7 => ?_) (fun c7 => ?_)
          · refine lv_iload_n hx hb dX9_planned_36 rfl (lv_at hl 2 rfl) ?_
            refine lv_iconst (v := 1) hx hb dX9_planned_37 (by decide) ?_
            refine lv_icmp_ne (tgt := 50) hx hb dX9_planned_38 (by decide) (fun c8 => ?_) (fun c8 => ?_)
            · refine lv_iload_n hx hb dX9_planned_50 rfl (lv_at hl 2 rfl) ?_
              refine lv_iconst (v := 2) hx hb dX9_planned_51 (by decide) ?_
              refine lv_icmp_ne (tgt := 64) hx hb dX9_planned_52 (by decide) (fun c9 => ?_) (fun c9 => ?_)
              · refine lv_aload_n hx hb dX9_planned_64 rfl (lv_at hl 0 rfl) ?_
                refine va_get (D := (dC, dI)) (ci := 10) (v := .ref (a 37)) (C := RX9) (T := TX9) (N := 46) hx hb hts in_m_planned_X9 hown hK hP 0 rfl rfl 37 (by decide) (hts (.fieldLink RX9 104 "ServiceTreeModel" "planEnd" "[I") (by decide +kernel)) (fun _ h9 => h9) rfl dX9_planned_65 ?_
                refine lv_iload_n hx hb dX9_planned_68 rfl (lv_at hl 1 rfl) ?_
                refine va_iald (n := 40) (f := F 37) hx hb hK hP 32 31 rfl rfl (vp_in_nI (n := j4) (by omega) (by decide)) dX9_planned_69 ?_
                refine lv_topi (fun x10 ex10 => ?_)
                exact W.iret (v := x10) hx hb hr (fun t ht hW => ⟨⟨x10, (F, V), rfl, ⟨rfl, rfl, trivial⟩, by rw [ht]; exact hP, hD⟩, hS.F ht⟩) hS.2.2 dX9_planned_70
              · refine lv_aload_n hx hb dX9_planned_55 rfl (lv_at hl 0 rfl) ?_
                refine va_get (D := (dC, dI)) (ci := 10) (v := .ref (a 36)) (C := RX9) (T := TX9) (N := 46) hx hb hts in_m_planned_X9 hown hK hP 0 rfl rfl 36 (by decide) (hts (.fieldLink RX9 101 "ServiceTreeModel" "planBegin" "[I") (by decide +kernel)) (fun _ h9 => h9) rfl dX9_planned_56 ?_
                refine lv_iload_n hx hb dX9_planned_59 rfl (lv_at hl 1 rfl) ?_
                refine va_iald (n := 40) (f := F 36) hx hb hK hP 31 30 rfl rfl (vp_in_nI (n := j4) (by omega) (by decide)) dX9_planned_60 ?_
                refine lv_topi (fun x11 ex11 => ?_)
                refine lv_goto (tgt := 70) hx hb dX9_planned_61 (by decide) ?_
                exact W.iret (v := x11) hx hb hr (fun t ht hW => ⟨⟨x11, (F, V), rfl, ⟨rfl, rfl, trivial⟩, by rw [ht]; exact hP, hD⟩, hS.F ht⟩) hS.2.2 dX9_planned_70
            · refine lv_aload_n hx hb dX9_planned_41 rfl (lv_at hl 0 rfl) ?_
              refine va_get (D := (dC, dI)) (ci := 10) (v := .ref (a 35)) (C := RX9) (T := TX9) (N := 46) hx hb hts in_m_planned_X9 hown hK hP 0 rfl rfl 35 (by decide) (hts (.fieldLink RX9 98 "ServiceTreeModel" "planHow" "[I") (by decide +kernel)) (fun _ h9 => h9) rfl dX9_planned_42 ?_
              refine lv_iload_n hx hb dX9_planned_45 rfl (lv_at hl 1 rfl) ?_
              refine va_iald (n := 40) (f := F 35) hx hb hK hP 30 29 rfl rfl (vp_in_nI (n := j4) (by omega) (by decide)) dX9_planned_46 ?_
              refine lv_topi (fun x12 ex12 => ?_)
              refine lv_goto (tgt := 70) hx hb dX9_planned_47 (by decide) ?_
              exact W.iret (v := x12) hx hb hr (fun t ht hW => ⟨⟨x12, (F, V), rfl, ⟨rfl, rfl, trivial⟩, by rw [ht]; exact hP, hD⟩, hS.F ht⟩) hS.2.2 dX9_planned_70
          · refine lv_aload_n hx hb dX9_planned_27 rfl (lv_at hl 0 rfl) ?_
            refine va_get (D := (dC, dI)) (ci := 10) (v := .ref (a 34)) (C := RX9) (T := TX9) (N := 46) hx hb hts in_m_planned_X9 hown hK hP 0 rfl rfl 34 (by decide) (hts (.fieldLink RX9 95 "ServiceTreeModel" "planService" "[I") (by decide +kernel)) (fun _ h9 => h9) rfl dX9_planned_28 ?_
            refine lv_iload_n hx hb dX9_planned_31 rfl (lv_at hl 1 rfl) ?_
            refine va_iald (n := 40) (f := F 34) hx hb hK hP 29 28 rfl rfl (vp_in_nI (n := j4) (by omega) (by decide)) dX9_planned_32 ?_
            refine lv_topi (fun x13 ex13 => ?_)
            refine lv_goto (tgt := 70) hx hb dX9_planned_33 (by decide) ?_
            exact W.iret (v := x13) hx hb hr (fun t ht hW => ⟨⟨x13, (F, V), rfl, ⟨rfl, rfl, trivial⟩, by rw [ht]; exact hP, hD⟩, hS.F ht⟩) hS.2.2 dX9_planned_70
        · refine lv_iconst (v := (-1)) hx hb dX9_planned_21 (by decide) ?_
          exact W.iret (v := (-1)) hx hb hr (fun t ht hW => ⟨⟨(-1), (F, V), rfl, ⟨rfl, rfl, trivial⟩, by rw [ht]; exact hP, hD⟩, hS.F ht⟩) hS.2.2 dX9_planned_22
def wq_m_change : List Cond := [.code yX9_change cX9_change 3 (some .int), .fieldLink RX9 132 "ServiceTreeModel" "changes" "I", .fieldLink RX9 123 "ServiceTreeModel" "changeState" "[I", .fieldLink RX9 120 "ServiceTreeModel" "changeService" "[I", .fieldLink RX9 117 "ServiceTreeModel" "changeTick" "[I"] ++ (wsX90)
theorem in_m_change_X9 : ∀ w ∈ wsX90, w ∈ wq_m_change := fun _ h => List.mem_append_right _ (h)
set_option maxRecDepth 20000 in
theorem wi_m_change : ∀ w ∈ wq_m_change, w ∈ lw_tbl := List.forall_mem_append.mpr ⟨(by decide +kernel), inKX9⟩
set_option maxRecDepth 20000 in
theorem wg_m_change : GoodIn wq_m_change wq_m_change := goodIn_sub (fun _ h => h) (by decide +kernel)
def rm_m_change : Room := { frames := 0, cells := 0, slots := 0, locals := 0 }
set_option maxHeartbeats 4000000 in
set_option maxRecDepth 100000 in
theorem c_m_change (l : Launch) (dC : Nat → ClassId) (dI : Nat → Nat → Nat) (h : Nat) (a : Nat → Nat) (k : Nat → ClassId) (F : Nat → Nat → Int32) (V : Nat → Int32) (n b : Nat) (p0 : Int32) (p1 : Int32) (sz : Nat) (hI0 : InvM n b F V) (hb0 : b + 0 < 2147483648)  : Met l yX9_change wq_m_change rm_m_change (va_Pc [.ref h, .int p0, .int p1] (fun U => U.heap.size = sz ∧ va_P (dC, dI) vwCl (mW h a k F V) U.heap ∧ va_K (dC, dI) vwCl (mT k) U ∧ va_D (fun _ => True) (mW h a k F V))) (va_Qi (fun (r : Int32) (u : (Nat → Nat → Int32) × (Nat → Int32)) => u.1 = F ∧ u.2 = V ∧ (True)) (fun (u : (Nat → Nat → Int32) × (Nat → Int32)) (t : State) => va_P (dC, dI) vwCl (mW h a k u.1 u.2) t.heap ∧ va_D (va_A (mW h a k F V) sz) (mW h a k u.1 u.2)) (va_A (mW h a k F V) sz)) 0 0 (va_A (mW h a k F V) sz) := by
  have hn : n ≤ 40 := hI0.1
  have hI : StM n b F V F V := StM.rf hI0
  have hU : ∀ j : Nat, j ∉ ([] : List Nat) → F j = F j := fun _ _ => rfl
  have hV : ∀ j : Nat, j ∉ ([] : List Nat) → V j = V j := fun _ _ => rfl
  refine Met.ofW (cc := cX9_change) (maxL := 3) (ret := (some .int)) (by decide) rfl ?_
  intro p e s m args below meth c s₁ B hml hv
  obtain ⟨rfl, hsz, hP, hK, hD0⟩ := hv
  have hx := B.exec
  have hb := B.bytes
  have hr := B.returns
  have hts := atoms_spec (ws := wq_m_change) B.pre
  have hown : s.vm.findClass RX9 = some m.cls := findClass_of_methodNamed B.named
  have hlocks := B.notSynchronized
  subst hsz
  have hD := hD0.self (sz := s.heap.size)
  generalize hAe : va_A (mW h a k F V) s.heap.size = A at hD ⊢
  have hA : ∀ q : Nat, s.heap.size ≤ q → A q := fun q h => by rw [← hAe]; exact Or.inr h
  have hS : va_S A s.heap s.heap [] := va_S.rf
  have hl := lv_entry ([.ref h, .int p0, .int p1]) (n := 3) (Nat.le_of_ble_eq_true rfl)
  rw [lg_entry_eq]
  generalize (lg_sl ([.ref h, .int p0, .int p1]) ++ List.replicate (3 - (lg_sl ([.ref h, .int p0, .int p1])).length) Slot.unset).toArray = ls at hl ⊢
  have hl : lv_has ls 3 [(0, .ref h), (1, .int p0), (2, .int p1)] := hl
  refine lv_iload_n hx hb dX9_change_0 rfl (lv_at hl 1 rfl) ?_
  refine lv_if_lt (tgt := 33) hx hb dX9_change_1 (by decide) (fun c1 => ?_) (fun c1 => ?_)
  · refine lv_iconst (v := (-1)) hx hb dX9_change_33 (by decide) ?_
    exact W.iret (v := (-1)) hx hb hr (fun t ht hW => ⟨⟨(-1), (F, V), rfl, ⟨rfl, rfl, trivial⟩, by rw [ht]; exact hP, hD⟩, hS.F ht⟩) hS.2.2 dX9_change_34
  · refine lv_iload_n hx hb dX9_change_4 rfl (lv_at hl 1 rfl) ?_
    refine lv_aload_n hx hb dX9_change_5 rfl (lv_at hl 0 rfl) ?_
    refine va_get (D := (dC, dI)) (ci := 10) (v := .int (V 45)) (C := RX9) (T := TX9) (N := 46) hx hb hts in_m_change_X9 hown hK hP 0 rfl rfl 45 (by decide) (hts (.fieldLink RX9 132 "ServiceTreeModel" "changes" "I") (by decide +kernel)) (fun _ h9 => h9) rfl dX9_change_6 ?_
    obtain ⟨ch2, hch2, ech2⟩ := hI.1.2.2.2.1
    refine p1_topr (v := .int (nI ch2)) (congrArg Value.int ech2) ?_
    refine lv_icmp_ge (tgt := 33) hx hb dX9_change_9 (by decide) (fun c3 => ?_) (fun c3 => ?_)
    · refine lv_iconst (v := (-1)) hx hb dX9_change_33 (by decide) ?_
      exact W.iret (v := (-1)) hx hb hr (fun t ht hW => ⟨⟨(-1), (F, V), rfl, ⟨rfl, rfl, trivial⟩, by rw [ht]; exact hP, hD⟩, hS.F ht⟩) hS.2.2 dX9_change_34
    · obtain ⟨j4, hj4, ej4⟩ := mw_nI (n := ch2) (by omega) c1 c3
      subst ej4
      refine lv_iload_n hx hb dX9_change_12 rfl (lv_at hl 1 rfl) ?_
      refine lv_aload_n hx hb dX9_change_13 rfl (lv_at hl 0 rfl) ?_
      refine va_get (D := (dC, dI)) (ci := 10) (v := .int (V 45)) (C := RX9) (T := TX9) (N := 46) hx hb hts in_m_change_X9 hown hK hP 0 rfl rfl 45 (by decide) (hts (.fieldLink RX9 132 "ServiceTreeModel" "changes" "I") (by decide +kernel)) (fun _ h9 => h9) rfl dX9_change_14 ?_
      obtain ⟨ch5, hch5, ech5⟩ := hI.1.2.2.2.1
      refine p1_topr (v := .int (nI ch5)) (congrArg Value.int ech5) ?_
      refine lv_sipush (v := 2000) hx hb dX9_change_17 (by decide) ?_
      refine lv_isub hx hb dX9_change_20 ?_
      refine lv_topi (fun x6 ex6 => ?_)
      refine lv_icmp_lt (tgt := 33) hx hb dX9_change_21 (by decide) (fun c7 => ?_) (fun c7 => ?_)
      · refine lv_iconst (v := (-1)) hx hb dX9_change_33 (by decide) ?_
        exact W.iret (v := (-1)) hx hb hr (fun t ht hW => ⟨⟨(-1), (F, V), rfl, ⟨rfl, rfl, trivial⟩, by rw [ht]; exact hP, hD⟩, hS.F ht⟩) hS.2.2 dX9_change_34
      · refine lv_iload_n hx hb dX9_change_24 rfl (lv_at hl 2 rfl) ?_
        refine lv_if_lt (tgt := 33) hx hb dX9_change_25 (by decide) (fun c8 => ?_) (fun c8 => ?_)
        · refine lv_iconst (v := (-1)) hx hb dX9_change_33 (by decide) ?_
          exact W.iret (v := (-1)) hx hb hr (fun t ht hW => ⟨⟨(-1), (F, V), rfl, ⟨rfl, rfl, trivial⟩, by rw [ht]; exact hP, hD⟩, hS.F ht⟩) hS.2.2 dX9_change_34
        · refine lv_iload_n hx hb dX9_change_28 rfl (lv_at hl 2 rfl) ?_
          refine lv_iconst (v := 2) hx hb dX9_change_29 (by decide) ?_
          refine lv_icmp_le (tgt := 35) hx hb dX9_change_30 (by decide) (fun c9 => ?_) (fun c9 => ?_)
          · refine lv_iload_n hx hb dX9_change_35 rfl (lv_at hl 2 rfl) ?_
            refine lv_if_ne (tgt := 52) hx hb dX9_change_36 (by decide) (fun c10 => ?_) (fun c10 => ?_)
            · refine lv_iload_n hx hb dX9_change_52 rfl (lv_at hl 2 rfl) ?_
              refine lv_iconst (v := 1) hx hb dX9_change_53 (by decide) ?_
              refine lv_icmp_ne (tgt := 70) hx hb dX9_change_54 (by decide) (fun c11 => ?_) (fun c11 => ?_)
              · refine lv_aload_n hx hb dX9_change_70 rfl (lv_at hl 0 rfl) ?_
                refine va_get (D := (dC, dI)) (ci := 10) (v := .ref (a 44)) (C := RX9) (T := TX9) (N := 46) hx hb hts in_m_change_X9 hown hK hP 0 rfl rfl 44 (by decide) (hts (.fieldLink RX9 123 "ServiceTreeModel" "changeState" "[I") (by decide +kernel)) (fun _ h9 => h9) rfl dX9_change_71 ?_
                refine lv_iload_n hx hb dX9_change_74 rfl (lv_at hl 1 rfl) ?_
                refine lv_sipush (v := 2000) hx hb dX9_change_75 (by decide) ?_
                refine lv_irem hx hb dX9_change_78 (by decide) ?_
                obtain ⟨m12, hm12, em12⟩ : ∃ z9 : Nat, z9 < 2000 ∧ z9 = j4 % 2000 := ⟨_, Nat.mod_lt _ (by decide), rfl⟩
                refine p1_topr (v := .int (nI m12)) (congrArg Value.int (by rw [em12]; exact pk_rem (a := j4) (d := 2000) (by omega) (by decide) (by decide))) ?_
                refine va_iald (n := 2000) (f := F 44) hx hb hK hP 37 36 rfl rfl (vp_in_nI (n := m12) (by omega) (by decide)) dX9_change_79 ?_
                refine lv_topi (fun x13 ex13 => ?_)
                exact W.iret (v := x13) hx hb hr (fun t ht hW => ⟨⟨x13, (F, V), rfl, ⟨rfl, rfl, trivial⟩, by rw [ht]; exact hP, hD⟩, hS.F ht⟩) hS.2.2 dX9_change_80
              · refine lv_aload_n hx hb dX9_change_57 rfl (lv_at hl 0 rfl) ?_
                refine va_get (D := (dC, dI)) (ci := 10) (v := .ref (a 43)) (C := RX9) (T := TX9) (N := 46) hx hb hts in_m_change_X9 hown hK hP 0 rfl rfl 43 (by decide) (hts (.fieldLink RX9 120 "ServiceTreeModel" "changeService" "[I") (by decide +kernel)) (fun _ h9 => h9) rfl dX9_change_58 ?_
                refine lv_iload_n hx hb dX9_change_61 rfl (lv_at hl 1 rfl) ?_
                refine lv_sipush (v := 2000) hx hb dX9_change_62 (by decide) ?_
                refine lv_irem hx hb dX9_change_65 (by decide) ?_
                obtain ⟨m14, hm14, em14⟩ : ∃ z9 : Nat, z9 < 2000 ∧ z9 = j4 % 2000 := ⟨_, Nat.mod_lt _ (by decide), rfl⟩
                refine p1_topr (v := .int (nI m14)) (congrArg Value.int (by rw [em14]; exact pk_rem (a := j4) (d := 2000) (by omega) (by decide) (by decide))) ?_
                refine va_iald (n := 2000) (f := F 43) hx hb hK hP 36 35 rfl rfl (vp_in_nI (n := m14) (by omega) (by decide)) dX9_change_66 ?_
                refine lv_topi (fun x15 ex15 => ?_)
                refine lv_goto (tgt := 80) hx hb dX9_change_67 (by decide) ?_
                exact W.iret (v := x15) hx hb hr (fun t ht hW => ⟨⟨x15, (F, V), rfl, ⟨rfl, rfl, trivial⟩, by rw [ht]; exact hP, hD⟩, hS.F ht⟩) hS.2.2 dX9_change_80
            · refine lv_aload_n hx hb dX9_change_39 rfl (lv_at hl 0 rfl) ?_
              refine va_get (D := (dC, dI)) (ci := 10) (v := .ref (a 42)) (C := RX9) (T := TX9) (N := 46) hx hb hts in_m_change_X9 hown hK hP 0 rfl rfl 42 (by decide) (hts (.fieldLink RX9 117 "ServiceTreeModel" "changeTick" "[I") (by decide +kernel)) (fun _ h9 => h9) rfl dX9_change_40 ?_
              refine lv_iload_n hx hb dX9_change_43 rfl (lv_at hl 1 rfl) ?_
              refine lv_sipush (v := 2000) hx hb dX9_change_44 (by decide) ?_
              refine lv_irem hx hb dX9_change_47 (by decide) ?_
              obtain ⟨m16, hm16, em16⟩ : ∃ z9 : Nat, z9 < 2000 ∧ z9 = j4 % 2000 := ⟨_, Nat.mod_lt _ (by decide), rfl⟩
              refine p1_topr (v := .int (nI m16)) (congrArg Value.int (by rw [em16]; exact pk_rem (a := j4) (d := 2000) (by omega) (by decide) (by decide))) ?_
              refine va_iald (n := 2000) (f := F 42) hx hb hK hP 35 34 rfl rfl (vp_in_nI (n := m16) (by omega) (by decide)) dX9_change_48 ?_
              refine lv_topi (fun x17 ex17 => ?_)
              refine lv_goto (tgt := 80) hx hb dX9_change_49 (by decide) ?_
              exact W.iret (v := x17) hx hb hr (fun t ht hW => ⟨⟨x17, (F, V), rfl, ⟨rfl, rfl, trivial⟩, by rw [ht]; exact hP, hD⟩, hS.F ht⟩) hS.2.2 dX9_change_80
          · refine lv_iconst (v := (-1)) hx hb dX9_change_33 (by decide) ?_
            exact W.iret (v := (-1)) hx hb hr (fun t ht hW => ⟨⟨(-1), (F, V), rfl, ⟨rfl, rfl, trivial⟩, by rw [ht]; exact hP, hD⟩, hS.F ht⟩) hS.2.2 dX9_change_34
def wq_m_quick : List Cond := [.code yX9_quick cX9_quick 1 (some .int), .fieldLink RX9 107 "ServiceTreeModel" "quick" "I"] ++ (wsX90)
theorem in_m_quick_X9 : ∀ w ∈ wsX90, w ∈ wq_m_quick := fun _ h => List.mem_append_right _ (h)
set_option maxRecDepth 20000 in
theorem wi_m_quick : ∀ w ∈ wq_m_quick, w ∈ lw_tbl := List.forall_mem_append.mpr ⟨(by decide +kernel), inKX9⟩
set_option maxRecDepth 20000 in
theorem wg_m_quick : GoodIn wq_m_quick wq_m_quick := goodIn_sub (fun _ h => h) (by decide +kernel)
def rm_m_quick : Room := { frames := 0, cells := 0, slots := 0, locals := 0 }
set_option maxHeartbeats 4000000 in
set_option maxRecDepth 100000 in
theorem c_m_quick (l : Launch) (dC : Nat → ClassId) (dI : Nat → Nat → Nat) (h : Nat) (a : Nat → Nat) (k : Nat → ClassId) (F : Nat → Nat → Int32) (V : Nat → Int32) (n b : Nat)  (sz : Nat) (hI0 : InvM n b F V) (hb0 : b + 0 < 2147483648)  : Met l yX9_quick wq_m_quick rm_m_quick (va_Pc [.ref h] (fun U => U.heap.size = sz ∧ va_P (dC, dI) vwCl (mW h a k F V) U.heap ∧ va_K (dC, dI) vwCl (mT k) U ∧ va_D (fun _ => True) (mW h a k F V))) (va_Qi (fun (r : Int32) (u : (Nat → Nat → Int32) × (Nat → Int32)) => u.1 = F ∧ u.2 = V ∧ (True)) (fun (u : (Nat → Nat → Int32) × (Nat → Int32)) (t : State) => va_P (dC, dI) vwCl (mW h a k u.1 u.2) t.heap ∧ va_D (va_A (mW h a k F V) sz) (mW h a k u.1 u.2)) (va_A (mW h a k F V) sz)) 0 0 (va_A (mW h a k F V) sz) := by
  have hn : n ≤ 40 := hI0.1
  have hI : StM n b F V F V := StM.rf hI0
  have hU : ∀ j : Nat, j ∉ ([] : List Nat) → F j = F j := fun _ _ => rfl
  have hV : ∀ j : Nat, j ∉ ([] : List Nat) → V j = V j := fun _ _ => rfl
  refine Met.ofW (cc := cX9_quick) (maxL := 1) (ret := (some .int)) (by decide) rfl ?_
  intro p e s m args below meth c s₁ B hml hv
  obtain ⟨rfl, hsz, hP, hK, hD0⟩ := hv
  have hx := B.exec
  have hb := B.bytes
  have hr := B.returns
  have hts := atoms_spec (ws := wq_m_quick) B.pre
  have hown : s.vm.findClass RX9 = some m.cls := findClass_of_methodNamed B.named
  have hlocks := B.notSynchronized
  subst hsz
  have hD := hD0.self (sz := s.heap.size)
  generalize hAe : va_A (mW h a k F V) s.heap.size = A at hD ⊢
  have hA : ∀ q : Nat, s.heap.size ≤ q → A q := fun q h => by rw [← hAe]; exact Or.inr h
  have hS : va_S A s.heap s.heap [] := va_S.rf
  have hl := lv_entry ([.ref h]) (n := 1) (Nat.le_of_ble_eq_true rfl)
  rw [lg_entry_eq]
  generalize (lg_sl ([.ref h]) ++ List.replicate (1 - (lg_sl ([.ref h])).length) Slot.unset).toArray = ls at hl ⊢
  have hl : lv_has ls 1 [(0, .ref h)] := hl
  refine lv_aload_n hx hb dX9_quick_0 rfl (lv_at hl 0 rfl) ?_
  refine va_get (D := (dC, dI)) (ci := 10) (v := .int (V 39)) (C := RX9) (T := TX9) (N := 46) hx hb hts in_m_quick_X9 hown hK hP 0 rfl rfl 39 (by decide) (hts (.fieldLink RX9 107 "ServiceTreeModel" "quick" "I") (by decide +kernel)) (fun _ h9 => h9) rfl dX9_quick_1 ?_
  refine lv_topi (fun x1 ex1 => ?_)
  exact W.iret (v := x1) hx hb hr (fun t ht hW => ⟨⟨x1, (F, V), rfl, ⟨rfl, rfl, trivial⟩, by rw [ht]; exact hP, hD⟩, hS.F ht⟩) hS.2.2 dX9_quick_4
def wq_m_ring : List Cond := [.code yX9_ring cX9_ring 1 (some .int), .fieldLink RX9 197 "ServiceTreeModel" "ring" "I"] ++ (wsX90)
theorem in_m_ring_X9 : ∀ w ∈ wsX90, w ∈ wq_m_ring := fun _ h => List.mem_append_right _ (h)
set_option maxRecDepth 20000 in
theorem wi_m_ring : ∀ w ∈ wq_m_ring, w ∈ lw_tbl := List.forall_mem_append.mpr ⟨(by decide +kernel), inKX9⟩
set_option maxRecDepth 20000 in
theorem wg_m_ring : GoodIn wq_m_ring wq_m_ring := goodIn_sub (fun _ h => h) (by decide +kernel)
def rm_m_ring : Room := { frames := 0, cells := 0, slots := 0, locals := 0 }
set_option maxHeartbeats 4000000 in
set_option maxRecDepth 100000 in
theorem c_m_ring (l : Launch) (dC : Nat → ClassId) (dI : Nat → Nat → Nat) (h : Nat) (a : Nat → Nat) (k : Nat → ClassId) (F : Nat → Nat → Int32) (V : Nat → Int32) (n b : Nat)  (sz : Nat) (hI0 : InvM n b F V) (hb0 : b + 0 < 2147483648)  : Met l yX9_ring wq_m_ring rm_m_ring (va_Pc [.ref h] (fun U => U.heap.size = sz ∧ va_P (dC, dI) vwCl (mW h a k F V) U.heap ∧ va_K (dC, dI) vwCl (mT k) U ∧ va_D (fun _ => True) (mW h a k F V))) (va_Qi (fun (r : Int32) (u : (Nat → Nat → Int32) × (Nat → Int32)) => u.1 = F ∧ u.2 = V ∧ (True)) (fun (u : (Nat → Nat → Int32) × (Nat → Int32)) (t : State) => va_P (dC, dI) vwCl (mW h a k u.1 u.2) t.heap ∧ va_D (va_A (mW h a k F V) sz) (mW h a k u.1 u.2)) (va_A (mW h a k F V) sz)) 0 0 (va_A (mW h a k F V) sz) := by
  have hn : n ≤ 40 := hI0.1
  have hI : StM n b F V F V := StM.rf hI0
  have hU : ∀ j : Nat, j ∉ ([] : List Nat) → F j = F j := fun _ _ => rfl
  have hV : ∀ j : Nat, j ∉ ([] : List Nat) → V j = V j := fun _ _ => rfl
  refine Met.ofW (cc := cX9_ring) (maxL := 1) (ret := (some .int)) (by decide) rfl ?_
  intro p e s m args below meth c s₁ B hml hv
  obtain ⟨rfl, hsz, hP, hK, hD0⟩ := hv
  have hx := B.exec
  have hb := B.bytes
  have hr := B.returns
  have hts := atoms_spec (ws := wq_m_ring) B.pre
  have hown : s.vm.findClass RX9 = some m.cls := findClass_of_methodNamed B.named
  have hlocks := B.notSynchronized
  subst hsz
  have hD := hD0.self (sz := s.heap.size)
  generalize hAe : va_A (mW h a k F V) s.heap.size = A at hD ⊢
  have hA : ∀ q : Nat, s.heap.size ≤ q → A q := fun q h => by rw [← hAe]; exact Or.inr h
  have hS : va_S A s.heap s.heap [] := va_S.rf
  have hl := lv_entry ([.ref h]) (n := 1) (Nat.le_of_ble_eq_true rfl)
  rw [lg_entry_eq]
  generalize (lg_sl ([.ref h]) ++ List.replicate (1 - (lg_sl ([.ref h])).length) Slot.unset).toArray = ls at hl ⊢
  have hl : lv_has ls 1 [(0, .ref h)] := hl
  refine lv_aload_n hx hb dX9_ring_0 rfl (lv_at hl 0 rfl) ?_
  refine va_get (D := (dC, dI)) (ci := 10) (v := .int (V 33)) (C := RX9) (T := TX9) (N := 46) hx hb hts in_m_ring_X9 hown hK hP 0 rfl rfl 33 (by decide) (hts (.fieldLink RX9 197 "ServiceTreeModel" "ring" "I") (by decide +kernel)) (fun _ h9 => h9) rfl dX9_ring_1 ?_
  refine lv_topi (fun x1 ex1 => ?_)
  exact W.iret (v := x1) hx hb hr (fun t ht hW => ⟨⟨x1, (F, V), rfl, ⟨rfl, rfl, trivial⟩, by rw [ht]; exact hP, hD⟩, hS.F ht⟩) hS.2.2 dX9_ring_4
def wq_m_changes : List Cond := [.code yX9_changes cX9_changes 1 (some .int), .fieldLink RX9 132 "ServiceTreeModel" "changes" "I"] ++ (wsX90)
theorem in_m_changes_X9 : ∀ w ∈ wsX90, w ∈ wq_m_changes := fun _ h => List.mem_append_right _ (h)
set_option maxRecDepth 20000 in
theorem wi_m_changes : ∀ w ∈ wq_m_changes, w ∈ lw_tbl := List.forall_mem_append.mpr ⟨(by decide +kernel), inKX9⟩
set_option maxRecDepth 20000 in
theorem wg_m_changes : GoodIn wq_m_changes wq_m_changes := goodIn_sub (fun _ h => h) (by decide +kernel)
def rm_m_changes : Room := { frames := 0, cells := 0, slots := 0, locals := 0 }
set_option maxHeartbeats 4000000 in
set_option maxRecDepth 100000 in
theorem c_m_changes (l : Launch) (dC : Nat → ClassId) (dI : Nat → Nat → Nat) (h : Nat) (a : Nat → Nat) (k : Nat → ClassId) (F : Nat → Nat → Int32) (V : Nat → Int32) (n b : Nat)  (sz : Nat) (hI0 : InvM n b F V) (hb0 : b + 0 < 2147483648)  : Met l yX9_changes wq_m_changes rm_m_changes (va_Pc [.ref h] (fun U => U.heap.size = sz ∧ va_P (dC, dI) vwCl (mW h a k F V) U.heap ∧ va_K (dC, dI) vwCl (mT k) U ∧ va_D (fun _ => True) (mW h a k F V))) (va_Qi (fun (r : Int32) (u : (Nat → Nat → Int32) × (Nat → Int32)) => u.1 = F ∧ u.2 = V ∧ (True)) (fun (u : (Nat → Nat → Int32) × (Nat → Int32)) (t : State) => va_P (dC, dI) vwCl (mW h a k u.1 u.2) t.heap ∧ va_D (va_A (mW h a k F V) sz) (mW h a k u.1 u.2)) (va_A (mW h a k F V) sz)) 0 0 (va_A (mW h a k F V) sz) := by
  have hn : n ≤ 40 := hI0.1
  have hI : StM n b F V F V := StM.rf hI0
  have hU : ∀ j : Nat, j ∉ ([] : List Nat) → F j = F j := fun _ _ => rfl
  have hV : ∀ j : Nat, j ∉ ([] : List Nat) → V j = V j := fun _ _ => rfl
  refine Met.ofW (cc := cX9_changes) (maxL := 1) (ret := (some .int)) (by decide) rfl ?_
  intro p e s m args below meth c s₁ B hml hv
  obtain ⟨rfl, hsz, hP, hK, hD0⟩ := hv
  have hx := B.exec
  have hb := B.bytes
  have hr := B.returns
  have hts := atoms_spec (ws := wq_m_changes) B.pre
  have hown : s.vm.findClass RX9 = some m.cls := findClass_of_methodNamed B.named
  have hlocks := B.notSynchronized
  subst hsz
  have hD := hD0.self (sz := s.heap.size)
  generalize hAe : va_A (mW h a k F V) s.heap.size = A at hD ⊢
  have hA : ∀ q : Nat, s.heap.size ≤ q → A q := fun q h => by rw [← hAe]; exact Or.inr h
  have hS : va_S A s.heap s.heap [] := va_S.rf
  have hl := lv_entry ([.ref h]) (n := 1) (Nat.le_of_ble_eq_true rfl)
  rw [lg_entry_eq]
  generalize (lg_sl ([.ref h]) ++ List.replicate (1 - (lg_sl ([.ref h])).length) Slot.unset).toArray = ls at hl ⊢
  have hl : lv_has ls 1 [(0, .ref h)] := hl
  refine lv_aload_n hx hb dX9_changes_0 rfl (lv_at hl 0 rfl) ?_
  refine va_get (D := (dC, dI)) (ci := 10) (v := .int (V 45)) (C := RX9) (T := TX9) (N := 46) hx hb hts in_m_changes_X9 hown hK hP 0 rfl rfl 45 (by decide) (hts (.fieldLink RX9 132 "ServiceTreeModel" "changes" "I") (by decide +kernel)) (fun _ h9 => h9) rfl dX9_changes_1 ?_
  obtain ⟨ch1, hch1, ech1⟩ := hI.1.2.2.2.1
  refine p1_topr (v := .int (nI ch1)) (congrArg Value.int ech1) ?_
  exact W.iret (v := (nI ch1)) hx hb hr (fun t ht hW => ⟨⟨(nI ch1), (F, V), rfl, ⟨rfl, rfl, trivial⟩, by rw [ht]; exact hP, hD⟩, hS.F ht⟩) hS.2.2 dX9_changes_4
def wq_m_check : List Cond := [.code yX9_check cX9_check 5 (some .int), .fieldLink RX9 126 "ServiceTreeModel" "services" "I", .fieldLink RX9 31 "ServiceTreeModel" "state" "[I", .methodLink RX9 150 yX9_has, .instanceMethod yX9_has, .selects RX9 yX9_has yX9_has, .initialized RX9, .methodLink RX9 231 yX9_hasNeeds, .instanceMethod yX9_hasNeeds, .selects RX9 yX9_hasNeeds yX9_hasNeeds] ++ (wsX90 ++ (wq_m_has ++ (wq_m_hasNeeds)))
theorem in_m_check_X9 : ∀ w ∈ wsX90, w ∈ wq_m_check := fun _ h => List.mem_append_right _ (List.mem_append_left _ (h))
set_option maxRecDepth 20000 in
theorem wi_m_check : ∀ w ∈ wq_m_check, w ∈ lw_tbl := List.forall_mem_append.mpr ⟨(by decide +kernel), List.forall_mem_append.mpr ⟨inKX9, List.forall_mem_append.mpr ⟨wi_m_has, wi_m_hasNeeds⟩⟩⟩
set_option maxRecDepth 20000 in
theorem wg_m_check : GoodIn wq_m_check wq_m_check := goodIn_sub (fun _ h => h) (by decide +kernel)
set_option maxRecDepth 20000 in
theorem wc_m_check_m_has_150 : GoodIn wq_m_check (wsV RX9 150 RX9 yX9_has wq_m_has) := goodIn_app (goodIn_of _ (by decide +kernel)) (fun w h => ⟨List.mem_append_right _ (List.mem_append_right _ (List.mem_append_left _ (h))), (wg_m_has w h).2⟩)
set_option maxRecDepth 20000 in
theorem wc_m_check_m_hasNeeds_231 : GoodIn wq_m_check (wsV RX9 231 RX9 yX9_hasNeeds wq_m_hasNeeds) := goodIn_app (goodIn_of _ (by decide +kernel)) (fun w h => ⟨List.mem_append_right _ (List.mem_append_right _ (List.mem_append_right _ (h))), (wg_m_hasNeeds w h).2⟩)
def rm_m_check : Room := { frames := 2, cells := 0, slots := 0, locals := 46 }
set_option maxHeartbeats 4000000 in
set_option maxRecDepth 100000 in
theorem c_m_check (l : Launch) (dC : Nat → ClassId) (dI : Nat → Nat → Nat) (h : Nat) (a : Nat → Nat) (k : Nat → ClassId) (F : Nat → Nat → Int32) (V : Nat → Int32) (n b : Nat)  (sz : Nat) (hI0 : InvM n b F V) (hb0 : b + 0 < 2147483648)  : Met l yX9_check wq_m_check rm_m_check (va_Pc [.ref h] (fun U => U.heap.size = sz ∧ va_P (dC, dI) vwCl (mW h a k F V) U.heap ∧ va_K (dC, dI) vwCl (mT k) U ∧ va_D (fun _ => True) (mW h a k F V))) (va_Qi (fun (r : Int32) (u : (Nat → Nat → Int32) × (Nat → Int32)) => u.1 = F ∧ u.2 = V ∧ (True)) (fun (u : (Nat → Nat → Int32) × (Nat → Int32)) (t : State) => va_P (dC, dI) vwCl (mW h a k u.1 u.2) t.heap ∧ va_D (va_A (mW h a k F V) sz) (mW h a k u.1 u.2)) (va_A (mW h a k F V) sz)) 0 0 (va_A (mW h a k F V) sz) := by
  have hn : n ≤ 40 := hI0.1
  have hI : StM n b F V F V := StM.rf hI0
  have hU : ∀ j : Nat, j ∉ ([] : List Nat) → F j = F j := fun _ _ => rfl
  have hV : ∀ j : Nat, j ∉ ([] : List Nat) → V j = V j := fun _ _ => rfl
  refine Met.ofW (cc := cX9_check) (maxL := 5) (ret := (some .int)) (by decide) rfl ?_
  intro p e s m args below meth c s₁ B hml hv
  obtain ⟨rfl, hsz, hP, hK, hD0⟩ := hv
  have hx := B.exec
  have hb := B.bytes
  have hr := B.returns
  have hts := atoms_spec (ws := wq_m_check) B.pre
  have hown : s.vm.findClass RX9 = some m.cls := findClass_of_methodNamed B.named
  have hlocks := B.notSynchronized
  subst hsz
  have hD := hD0.self (sz := s.heap.size)
  generalize hAe : va_A (mW h a k F V) s.heap.size = A at hD ⊢
  have hA : ∀ q : Nat, s.heap.size ≤ q → A q := fun q h => by rw [← hAe]; exact Or.inr h
  have hS : va_S A s.heap s.heap [] := va_S.rf
  have hl := lv_entry ([.ref h]) (n := 5) (Nat.le_of_ble_eq_true rfl)
  rw [lg_entry_eq]
  generalize (lg_sl ([.ref h]) ++ List.replicate (5 - (lg_sl ([.ref h])).length) Slot.unset).toArray = ls at hl ⊢
  have hl : lv_has ls 5 [(0, .ref h)] := hl
  refine mw_Q (fun Q0 hQ => ?_)
  refine lv_iconst (v := 0) hx hb dX9_check_0 (by decide) ?_
  refine lv_istore_n (lv' := [(1, .int 0), (0, .ref h)]) hx hb dX9_check_1 rfl hl (by decide) rfl (fun ls hl => ?_)
  refine lv_iconst (v := 0) hx hb dX9_check_2 (by decide) ?_
  refine lv_istore_n (lv' := [(2, .int 0), (1, .int 0), (0, .ref h)]) hx hb dX9_check_3 rfl hl (by decide) rfl (fun ls hl => ?_)
  refine lv_iconst (v := 0) hx hb dX9_check_4 (by decide) ?_
  refine lv_istore_n (lv' := [(3, .int 0), (2, .int 0), (1, .int 0), (0, .ref h)]) hx hb dX9_check_5 rfl hl (by decide) rfl (fun ls hl => ?_)
  have lp4 : ∀ (fu2 i1 : Nat) (y5 : Int32) (y6 : Int32) (H : Heap) (locs : List Loc) (ls : Array Slot), n < i1 + fu2 → i1 ≤ n → va_P (dC, dI) vwCl (mW h a k F V) H → va_D A (mW h a k F V) → va_S A s.heap H locs → lv_has ls 5 [(3, .int (nI i1)), (2, .int y5), (1, .int y6), (0, .ref h)] → W p l e (headSpec wq_m_check rm_m_check).room s m ([.ref h] : List Value).toArray below meth c H locs 0 0 Q0 (F0 m 6 ls []) := by
    intro fu2
    induction fu2 with
    | zero =>
      intro i1 y5 y6 H locs ls hf hi
      exact absurd hf (by omega)
    | succ fu2 ih3 =>
      intro i1 y5 y6 H locs ls hfi1 hii1 hP hD hS hl
      refine lv_iload_n hx hb dX9_check_6 rfl (lv_at hl 0 rfl) ?_
      refine lv_aload_n hx hb dX9_check_7 rfl (lv_at hl 3 rfl) ?_
      refine va_get (D := (dC, dI)) (ci := 10) (v := .int (V 21)) (C := RX9) (T := TX9) (N := 46) hx hb hts in_m_check_X9 hown hK hP 0 rfl rfl 21 (by decide) (hts (.fieldLink RX9 126 "ServiceTreeModel" "services" "I") (by decide +kernel)) (fun _ h9 => h9) rfl dX9_check_8 ?_
      refine p1_topr (v := .int (nI n)) (congrArg Value.int hI.1.2.1) ?_
      refine lv_icmp_ge (tgt := 139) hx hb dX9_check_11 (by decide) (fun c7 => ?_) (fun c7 => ?_)
      · replace c7 : n ≤ i1 := (nI_leI (a := n) (b := i1) (by omega) (by omega)).mp c7
        refine lv_iload_n hx hb dX9_check_139 rfl (lv_at hl 2 rfl) ?_
        refine lv_if_eq (tgt := 147) hx hb dX9_check_140 (by decide) (fun c8 => ?_) (fun c8 => ?_)
        · refine lv_iconst (v := 0) hx hb dX9_check_147 (by decide) ?_
          refine lv_iload_n hx hb dX9_check_148 rfl (lv_at hl 1 rfl) ?_
          refine lv_if_eq (tgt := 156) hx hb dX9_check_149 (by decide) (fun c9 => ?_) (fun c9 => ?_)
          · refine lv_iconst (v := 0) hx hb dX9_check_156 (by decide) ?_
            refine lv_iadd hx hb dX9_check_157 ?_
            refine p1_topr (v := .int 0) (congrArg Value.int (by decide)) ?_
            rw [hQ]
            exact W.iret (v := 0) hx hb hr (fun t ht hW => ⟨⟨0, (F, V), rfl, ⟨rfl, rfl, trivial⟩, by rw [ht]; exact hP, hD⟩, hS.F ht⟩) hS.2.2 dX9_check_158
          · refine lv_iconst (v := 1) hx hb dX9_check_152 (by decide) ?_
            refine lv_goto (tgt := 157) hx hb dX9_check_153 (by decide) ?_
            refine lv_iadd hx hb dX9_check_157 ?_
            refine p1_topr (v := .int 1) (congrArg Value.int (by decide)) ?_
            rw [hQ]
            exact W.iret (v := 1) hx hb hr (fun t ht hW => ⟨⟨1, (F, V), rfl, ⟨rfl, rfl, trivial⟩, by rw [ht]; exact hP, hD⟩, hS.F ht⟩) hS.2.2 dX9_check_158
        · refine lv_iconst (v := 1) hx hb dX9_check_143 (by decide) ?_
          refine lv_goto (tgt := 148) hx hb dX9_check_144 (by decide) ?_
          refine lv_iload_n hx hb dX9_check_148 rfl (lv_at hl 1 rfl) ?_
          refine lv_if_eq (tgt := 156) hx hb dX9_check_149 (by decide) (fun c10 => ?_) (fun c10 => ?_)
          · refine lv_iconst (v := 0) hx hb dX9_check_156 (by decide) ?_
            refine lv_iadd hx hb dX9_check_157 ?_
            refine p1_topr (v := .int 1) (congrArg Value.int (by decide)) ?_
            rw [hQ]
            exact W.iret (v := 1) hx hb hr (fun t ht hW => ⟨⟨1, (F, V), rfl, ⟨rfl, rfl, trivial⟩, by rw [ht]; exact hP, hD⟩, hS.F ht⟩) hS.2.2 dX9_check_158
          · refine lv_iconst (v := 1) hx hb dX9_check_152 (by decide) ?_
            refine lv_goto (tgt := 157) hx hb dX9_check_153 (by decide) ?_
            refine lv_iadd hx hb dX9_check_157 ?_
            refine p1_topr (v := .int 2) (congrArg Value.int (by decide)) ?_
            rw [hQ]
            exact W.iret (v := 2) hx hb hr (fun t ht hW => ⟨⟨2, (F, V), rfl, ⟨rfl, rfl, trivial⟩, by rw [ht]; exact hP, hD⟩, hS.F ht⟩) hS.2.2 dX9_check_158
      · replace c7 : ¬ (n ≤ i1) := fun q9 => c7 ((nI_leI (a := n) (b := i1) (by omega) (by omega)).mpr q9)
        refine lv_iload_n hx hb dX9_check_14 rfl (lv_at hl 2 rfl) ?_
        refine lv_if_ne (tgt := 46) hx hb dX9_check_15 (by decide) (fun c11 => ?_) (fun c11 => ?_)
        · refine lv_iconst (v := 1) hx hb dX9_check_46 (by decide) ?_
          refine lv_goto (tgt := 51) hx hb dX9_check_47 (by decide) ?_
          refine lv_istore_n (lv' := [(1, .int 1), (3, .int (nI i1)), (2, .int y5), (0, .ref h)]) hx hb dX9_check_51 rfl hl (by decide) rfl (fun ls hl => ?_)
          refine lv_iconst (v := 0) hx hb dX9_check_52 (by decide) ?_
          refine lv_istore (lv' := [(4, .int 0), (1, .int 1), (3, .int (nI i1)), (2, .int y5), (0, .ref h)]) hx hb dX9_check_53 hl (by decide) rfl (fun ls hl => ?_)
          have lp15 : ∀ (fu13 i12 : Nat) (y16 : Int32) (H : Heap) (locs : List Loc) (ls : Array Slot), n < i12 + fu13 → i12 ≤ n → va_P (dC, dI) vwCl (mW h a k F V) H → va_D A (mW h a k F V) → va_S A s.heap H locs → lv_has ls 5 [(4, .int (nI i12)), (1, .int 1), (3, .int (nI i1)), (2, .int y16), (0, .ref h)] → W p l e (headSpec wq_m_check rm_m_check).room s m ([.ref h] : List Value).toArray below meth c H locs 0 0 Q0 (F0 m 55 ls []) := by
            intro fu13
            induction fu13 with
            | zero =>
              intro i12 y16 H locs ls hf hi
              exact absurd hf (by omega)
            | succ fu13 ih14 =>
              intro i12 y16 H locs ls hfi12 hii12 hP hD hS hl
              refine lv_iload hx hb dX9_check_55 (lv_at hl 0 rfl) ?_
              refine lv_aload_n hx hb dX9_check_57 rfl (lv_at hl 4 rfl) ?_
              refine va_get (D := (dC, dI)) (ci := 10) (v := .int (V 21)) (C := RX9) (T := TX9) (N := 46) hx hb hts in_m_check_X9 hown hK hP 0 rfl rfl 21 (by decide) (hts (.fieldLink RX9 126 "ServiceTreeModel" "services" "I") (by decide +kernel)) (fun _ h9 => h9) rfl dX9_check_58 ?_
              refine p1_topr (v := .int (nI n)) (congrArg Value.int hI.1.2.1) ?_
              refine lv_icmp_ge (tgt := 133) hx hb dX9_check_61 (by decide) (fun c17 => ?_) (fun c17 => ?_)
              · replace c17 : n ≤ i12 := (nI_leI (a := n) (b := i12) (by omega) (by omega)).mp c17
                refine lv_iinc (v := nI (i1 + 1)) (lv' := [(3, .int (nI (i1 + 1))), (4, .int (nI i12)), (1, .int 1), (2, .int y16), (0, .ref h)]) hx hb dX9_check_133 hl (k := 2) rfl (nI_add i1 1) (by decide) rfl (fun ls hl => ?_)
                refine lv_goto (tgt := 6) hx hb dX9_check_136 (by decide) ?_
                exact ih3 (i1 + 1) y16 1 _ _ _ (by omega) (by omega)  hP hD hS (lv_sub hl [0, 3, 2, 4] rfl)
              · replace c17 : ¬ (n ≤ i12) := fun q9 => c17 ((nI_leI (a := n) (b := i12) (by omega) (by omega)).mpr q9)
                refine lv_iload_n hx hb dX9_check_64 rfl (lv_at hl 3 rfl) ?_
                refine lv_if_ne (tgt := 121) hx hb dX9_check_65 (by decide) (fun c18 => ?_) (fun c18 => ?_)
                · refine lv_iconst (v := 1) hx hb dX9_check_121 (by decide) ?_
                  refine lv_goto (tgt := 126) hx hb dX9_check_122 (by decide) ?_
                  refine lv_istore_n (lv' := [(2, .int 1), (4, .int (nI i12)), (1, .int 1), (3, .int (nI i1)), (0, .ref h)]) hx hb dX9_check_126 rfl hl (by decide) rfl (fun ls hl => ?_)
                  refine lv_iinc (v := nI (i12 + 1)) (lv' := [(4, .int (nI (i12 + 1))), (2, .int 1), (1, .int 1), (3, .int (nI i1)), (0, .ref h)]) hx hb dX9_check_127 hl (k := 1) rfl (nI_add i12 1) (by decide) rfl (fun ls hl => ?_)
                  refine lv_goto (tgt := 55) hx hb dX9_check_130 (by decide) ?_
                  exact ih14 (i12 + 1) 1 _ _ _ (by omega) (by omega)  hP hD hS (lv_sub hl [0, 2, 3, 1, 4] rfl)
                · refine lv_aload_n hx hb dX9_check_68 rfl (lv_at hl 4 rfl) ?_
                  refine lv_iconst (v := 3) hx hb dX9_check_69 (by decide) ?_
                  refine lv_iload_n hx hb dX9_check_70 rfl (lv_at hl 2 rfl) ?_
                  refine lv_iload hx hb dX9_check_71 (lv_at hl 0 rfl) ?_
                  have hFc := mw_free hD hS hA
                  refine va_calli (va_runV (As := [.int 3, .int (nI i1), .int (nI i12)]) (rest := []) ⟨hx, hb, hml, hown, hts⟩ (c_m_has l dC dI h a k F V n (b) 3 i1 i12 H.size hI.1 (by omega) (by omega) (by omega) (by omega)) (cwV 3 hts wc_m_check_m_has_150 rfl rfl rfl (by decide +kernel) ⟨Nat.le_of_ble_eq_true rfl, Nat.le_of_ble_eq_true rfl⟩) ⟨fun a9 U g mk q => by obtain ⟨q0, q1, qP, qK, qD⟩ := q; exact ⟨q0, q1, qP, va_K.moved (u := U) (U := U.calling g mk a9) (Vm.Alike.refl U.vm) qK, qD⟩, va_recv hK hP (ci := 10) (q0 := 0) rfl rfl, fun U hU hW => ⟨rfl, by rw [hU], by rw [hU]; exact hP, va_K.moved hW.alike hK, hD.weaken (fun _ _ _ _ => trivial)⟩⟩ rfl rfl hl.1 rfl (lv_room (Nat.le_of_ble_eq_true rfl)) dX9_check_73 ⟨Nat.le_of_ble_eq_true rfl, Nat.le_of_ble_eq_true rfl⟩) hS (fun q _ h => hFc q h) hFc (fun r19 u t H1 locs ht hvm hw hB hz1 hk1 hS => ?_)
                  obtain ⟨F20, V21⟩ := u
                  replace hP := hB.1
                  rw [ht] at hP
                  replace hD : va_D A (mW h a k F20 V21) := hB.2.weaken (fun _ q _ h9 => hFc q.1 h9)
                  clear hB
                  generalize H1 = H at hP hS ⊢
                  replace hP : va_P (dC, dI) vwCl (mW h a k F20 V21) H := hP
                  obtain ⟨hwF, hwV, hw⟩ : F20 = F ∧ V21 = V ∧ _ := hw
                  rw [hwF, hwV] at hP hD
                  have br19 := hw
                  refine lv_if_eq (tgt := 125) hx hb dX9_check_76 (by decide) (fun c22 => ?_) (fun c22 => ?_)
                  · refine lv_iconst (v := 0) hx hb dX9_check_125 (by decide) ?_
                    refine lv_istore_n (lv' := [(2, .int 0), (4, .int (nI i12)), (1, .int 1), (3, .int (nI i1)), (0, .ref h)]) hx hb dX9_check_126 rfl hl (by decide) rfl (fun ls hl => ?_)
                    refine lv_iinc (v := nI (i12 + 1)) (lv' := [(4, .int (nI (i12 + 1))), (2, .int 0), (1, .int 1), (3, .int (nI i1)), (0, .ref h)]) hx hb dX9_check_127 hl (k := 1) rfl (nI_add i12 1) (by decide) rfl (fun ls hl => ?_)
                    refine lv_goto (tgt := 55) hx hb dX9_check_130 (by decide) ?_
                    exact ih14 (i12 + 1) 0 _ _ _ (by omega) (by omega)  hP hD hS (lv_sub hl [0, 2, 3, 1, 4] rfl)
                  · refine lv_aload_n hx hb dX9_check_79 rfl (lv_at hl 4 rfl) ?_
                    refine va_get (D := (dC, dI)) (ci := 10) (v := .ref (a 7)) (C := RX9) (T := TX9) (N := 46) hx hb hts in_m_check_X9 hown hK hP 0 rfl rfl 7 (by decide) (hts (.fieldLink RX9 31 "ServiceTreeModel" "state" "[I") (by decide +kernel)) (fun _ h9 => h9) rfl dX9_check_80 ?_
                    refine lv_iload_n hx hb dX9_check_83 rfl (lv_at hl 2 rfl) ?_
                    refine va_iald (n := 40) (f := F 7) hx hb hK hP 8 7 rfl rfl (vp_in_nI (n := i1) (by omega) (by decide)) dX9_check_84 ?_
                    refine lv_topi (fun x23 ex23 => ?_)
                    refine lv_iconst (v := 1) hx hb dX9_check_85 (by decide) ?_
                    refine lv_icmp_lt (tgt := 125) hx hb dX9_check_86 (by decide) (fun c24 => ?_) (fun c24 => ?_)
                    · refine lv_iconst (v := 0) hx hb dX9_check_125 (by decide) ?_
                      refine lv_istore_n (lv' := [(2, .int 0), (4, .int (nI i12)), (1, .int 1), (3, .int (nI i1)), (0, .ref h)]) hx hb dX9_check_126 rfl hl (by decide) rfl (fun ls hl => ?_)
                      refine lv_iinc (v := nI (i12 + 1)) (lv' := [(4, .int (nI (i12 + 1))), (2, .int 0), (1, .int 1), (3, .int (nI i1)), (0, .ref h)]) hx hb dX9_check_127 hl (k := 1) rfl (nI_add i12 1) (by decide) rfl (fun ls hl => ?_)
                      refine lv_goto (tgt := 55) hx hb dX9_check_130 (by decide) ?_
                      exact ih14 (i12 + 1) 0 _ _ _ (by omega) (by omega)  hP hD hS (lv_sub hl [0, 2, 3, 1, 4] rfl)
                    · refine lv_aload_n hx hb dX9_check_89 rfl (lv_at hl 4 rfl) ?_
                      refine va_get (D := (dC, dI)) (ci := 10) (v := .ref (a 7)) (C := RX9) (T := TX9) (N := 46) hx hb hts in_m_check_X9 hown hK hP 0 rfl rfl 7 (by decide) (hts (.fieldLink RX9 31 "ServiceTreeModel" "state" "[I") (by decide +kernel)) (fun _ h9 => h9) rfl dX9_check_90 ?_
                      refine lv_iload_n hx hb dX9_check_93 rfl (lv_at hl 2 rfl) ?_
                      refine va_iald (n := 40) (f := F 7) hx hb hK hP 8 7 rfl rfl (vp_in_nI (n := i1) (by omega) (by decide)) dX9_check_94 ?_
                      refine p1_topr (v := .int x23) (congrArg Value.int ex23.symm) ?_
                      refine lv_iconst (v := 3) hx hb dX9_check_95 (by decide) ?_
                      refine lv_icmp_gt (tgt := 125) hx hb dX9_check_96 (by decide) (fun c26 => ?_) (fun c26 => ?_)
                      · refine lv_iconst (v := 0) hx hb dX9_check_125 (by decide) ?_
                        refine lv_istore_n (lv' := [(2, .int 0), (4, .int (nI i12)), (1, .int 1), (3, .int (nI i1)), (0, .ref h)]) hx hb dX9_check_126 rfl hl (by decide) rfl (fun ls hl => ?_)
                        refine lv_iinc (v := nI (i12 + 1)) (lv' := [(4, .int (nI (i12 + 1))), (2, .int 0), (1, .int 1), (3, .int (nI i1)), (0, .ref h)]) hx hb dX9_check_127 hl (k := 1) rfl (nI_add i12 1) (by decide) rfl (fun ls hl => ?_)
                        refine lv_goto (tgt := 55) hx hb dX9_check_130 (by decide) ?_
                        exact ih14 (i12 + 1) 0 _ _ _ (by omega) (by omega)  hP hD hS (lv_sub hl [0, 2, 3, 1, 4] rfl)
                      · refine lv_aload_n hx hb dX9_check_99 rfl (lv_at hl 4 rfl) ?_
                        refine va_get (D := (dC, dI)) (ci := 10) (v := .ref (a 7)) (C := RX9) (T := TX9) (N := 46) hx hb hts in_m_check_X9 hown hK hP 0 rfl rfl 7 (by decide) (hts (.fieldLink RX9 31 "ServiceTreeModel" "state" "[I") (by decide +kernel)) (fun _ h9 => h9) rfl dX9_check_100 ?_
                        refine lv_iload hx hb dX9_check_103 (lv_at hl 0 rfl) ?_
                        refine va_iald (n := 40) (f := F 7) hx hb hK hP 8 7 rfl rfl (vp_in_nI (n := i12) (by omega) (by decide)) dX9_check_105 ?_
                        refine lv_topi (fun x27 ex27 => ?_)
                        refine lv_iconst (v := 1) hx hb dX9_check_106 (by decide) ?_
                        refine lv_icmp_lt (tgt := 125) hx hb dX9_check_107 (by decide) (fun c28 => ?_) (fun c28 => ?_)
                        · refine lv_iconst (v := 0) hx hb dX9_check_125 (by decide) ?_
                          refine lv_istore_n (lv' := [(2, .int 0), (4, .int (nI i12)), (1, .int 1), (3, .int (nI i1)), (0, .ref h)]) hx hb dX9_check_126 rfl hl (by decide) rfl (fun ls hl => ?_)
                          refine lv_iinc (v := nI (i12 + 1)) (lv' := [(4, .int (nI (i12 + 1))), (2, .int 0), (1, .int 1), (3, .int (nI i1)), (0, .ref h)]) hx hb dX9_check_127 hl (k := 1) rfl (nI_add i12 1) (by decide) rfl (fun ls hl => ?_)
                          refine lv_goto (tgt := 55) hx hb dX9_check_130 (by decide) ?_
                          exact ih14 (i12 + 1) 0 _ _ _ (by omega) (by omega)  hP hD hS (lv_sub hl [0, 2, 3, 1, 4] rfl)
                        · refine lv_aload_n hx hb dX9_check_110 rfl (lv_at hl 4 rfl) ?_
                          refine va_get (D := (dC, dI)) (ci := 10) (v := .ref (a 7)) (C := RX9) (T := TX9) (N := 46) hx hb hts in_m_check_X9 hown hK hP 0 rfl rfl 7 (by decide) (hts (.fieldLink RX9 31 "ServiceTreeModel" "state" "[I") (by decide +kernel)) (fun _ h9 => h9) rfl dX9_check_111 ?_
                          refine lv_iload hx hb dX9_check_114 (lv_at hl 0 rfl) ?_
                          refine va_iald (n := 40) (f := F 7) hx hb hK hP 8 7 rfl rfl (vp_in_nI (n := i12) (by omega) (by decide)) dX9_check_116 ?_
                          refine p1_topr (v := .int x27) (congrArg Value.int ex27.symm) ?_
                          refine lv_iconst (v := 3) hx hb dX9_check_117 (by decide) ?_
                          refine lv_icmp_gt (tgt := 125) hx hb dX9_check_118 (by decide) (fun c30 => ?_) (fun c30 => ?_)
                          · refine lv_iconst (v := 0) hx hb dX9_check_125 (by decide) ?_
                            refine lv_istore_n (lv' := [(2, .int 0), (4, .int (nI i12)), (1, .int 1), (3, .int (nI i1)), (0, .ref h)]) hx hb dX9_check_126 rfl hl (by decide) rfl (fun ls hl => ?_)
                            refine lv_iinc (v := nI (i12 + 1)) (lv' := [(4, .int (nI (i12 + 1))), (2, .int 0), (1, .int 1), (3, .int (nI i1)), (0, .ref h)]) hx hb dX9_check_127 hl (k := 1) rfl (nI_add i12 1) (by decide) rfl (fun ls hl => ?_)
                            refine lv_goto (tgt := 55) hx hb dX9_check_130 (by decide) ?_
                            exact ih14 (i12 + 1) 0 _ _ _ (by omega) (by omega)  hP hD hS (lv_sub hl [0, 2, 3, 1, 4] rfl)
                          · refine lv_iconst (v := 1) hx hb dX9_check_121 (by decide) ?_
                            refine lv_goto (tgt := 126) hx hb dX9_check_122 (by decide) ?_
                            refine lv_istore_n (lv' := [(2, .int 1), (4, .int (nI i12)), (1, .int 1), (3, .int (nI i1)), (0, .ref h)]) hx hb dX9_check_126 rfl hl (by decide) rfl (fun ls hl => ?_)
                            refine lv_iinc (v := nI (i12 + 1)) (lv' := [(4, .int (nI (i12 + 1))), (2, .int 1), (1, .int 1), (3, .int (nI i1)), (0, .ref h)]) hx hb dX9_check_127 hl (k := 1) rfl (nI_add i12 1) (by decide) rfl (fun ls hl => ?_)
                            refine lv_goto (tgt := 55) hx hb dX9_check_130 (by decide) ?_
                            exact ih14 (i12 + 1) 1 _ _ _ (by omega) (by omega)  hP hD hS (lv_sub hl [0, 2, 3, 1, 4] rfl)
          exact lp15 (n + 1) 0 y5 _ _ _ (by omega) (by omega)  hP hD hS hl
        · refine lv_aload_n hx hb dX9_check_18 rfl (lv_at hl 3 rfl) ?_
          refine va_get (D := (dC, dI)) (ci := 10) (v := .ref (a 7)) (C := RX9) (T := TX9) (N := 46) hx hb hts in_m_check_X9 hown hK hP 0 rfl rfl 7 (by decide) (hts (.fieldLink RX9 31 "ServiceTreeModel" "state" "[I") (by decide +kernel)) (fun _ h9 => h9) rfl dX9_check_19 ?_
          refine lv_iload_n hx hb dX9_check_22 rfl (lv_at hl 0 rfl) ?_
          refine va_iald (n := 40) (f := F 7) hx hb hK hP 8 7 rfl rfl (vp_in_nI (n := i1) (by omega) (by decide)) dX9_check_23 ?_
          refine lv_topi (fun x31 ex31 => ?_)
          refine lv_iconst (v := 1) hx hb dX9_check_24 (by decide) ?_
          refine lv_icmp_eq (tgt := 38) hx hb dX9_check_25 (by decide) (fun c32 => ?_) (fun c32 => ?_)
          · refine lv_aload_n hx hb dX9_check_38 rfl (lv_at hl 3 rfl) ?_
            refine lv_iload_n hx hb dX9_check_39 rfl (lv_at hl 0 rfl) ?_
            have hFc := mw_free hD hS hA
            refine va_calli (va_runV (As := [.int (nI i1)]) (rest := []) ⟨hx, hb, hml, hown, hts⟩ (c_m_hasNeeds l dC dI h a k F V n (b) i1 H.size hI.1 (by omega) (by omega)) (cwV 1 hts wc_m_check_m_hasNeeds_231 rfl rfl rfl (by decide +kernel) ⟨Nat.le_of_ble_eq_true rfl, Nat.le_of_ble_eq_true rfl⟩) ⟨fun a9 U g mk q => by obtain ⟨q0, q1, qP, qK, qD⟩ := q; exact ⟨q0, q1, qP, va_K.moved (u := U) (U := U.calling g mk a9) (Vm.Alike.refl U.vm) qK, qD⟩, va_recv hK hP (ci := 10) (q0 := 0) rfl rfl, fun U hU hW => ⟨rfl, by rw [hU], by rw [hU]; exact hP, va_K.moved hW.alike hK, hD.weaken (fun _ _ _ _ => trivial)⟩⟩ rfl rfl hl.1 rfl (lv_room (Nat.le_of_ble_eq_true rfl)) dX9_check_40 ⟨Nat.le_of_ble_eq_true rfl, Nat.le_of_ble_eq_true rfl⟩) hS (fun q _ h => hFc q h) hFc (fun r33 u t H1 locs ht hvm hw hB hz1 hk1 hS => ?_)
            obtain ⟨F34, V35⟩ := u
            replace hP := hB.1
            rw [ht] at hP
            replace hD : va_D A (mW h a k F34 V35) := hB.2.weaken (fun _ q _ h9 => hFc q.1 h9)
            clear hB
            generalize H1 = H at hP hS ⊢
            replace hP : va_P (dC, dI) vwCl (mW h a k F34 V35) H := hP
            obtain ⟨hwF, hwV, hw⟩ : F34 = F ∧ V35 = V ∧ _ := hw
            rw [hwF, hwV] at hP hD
            have br33 := hw
            refine lv_if_ne (tgt := 50) hx hb dX9_check_43 (by decide) (fun c36 => ?_) (fun c36 => ?_)
            · refine lv_iconst (v := 0) hx hb dX9_check_50 (by decide) ?_
              refine lv_istore_n (lv' := [(1, .int 0), (3, .int (nI i1)), (2, .int y5), (0, .ref h)]) hx hb dX9_check_51 rfl hl (by decide) rfl (fun ls hl => ?_)
              refine lv_iconst (v := 0) hx hb dX9_check_52 (by decide) ?_
              refine lv_istore (lv' := [(4, .int 0), (1, .int 0), (3, .int (nI i1)), (2, .int y5), (0, .ref h)]) hx hb dX9_check_53 hl (by decide) rfl (fun ls hl => ?_)
              have lp40 : ∀ (fu38 i37 : Nat) (y41 : Int32) (H : Heap) (locs : List Loc) (ls : Array Slot), n < i37 + fu38 → i37 ≤ n → va_P (dC, dI) vwCl (mW h a k F V) H → va_D A (mW h a k F V) → va_S A s.heap H locs → lv_has ls 5 [(4, .int (nI i37)), (1, .int 0), (3, .int (nI i1)), (2, .int y41), (0, .ref h)] → W p l e (headSpec wq_m_check rm_m_check).room s m ([.ref h] : List Value).toArray below meth c H locs 0 0 Q0 (F0 m 55 ls []) := by
                intro fu38
                induction fu38 with
                | zero =>
                  intro i37 y41 H locs ls hf hi
                  exact absurd hf (by omega)
                | succ fu38 ih39 =>
                  intro i37 y41 H locs ls hfi37 hii37 hP hD hS hl
                  refine lv_iload hx hb dX9_check_55 (lv_at hl 0 rfl) ?_
                  refine lv_aload_n hx hb dX9_check_57 rfl (lv_at hl 4 rfl) ?_
                  refine va_get (D := (dC, dI)) (ci := 10) (v := .int (V 21)) (C := RX9) (T := TX9) (N := 46) hx hb hts in_m_check_X9 hown hK hP 0 rfl rfl 21 (by decide) (hts (.fieldLink RX9 126 "ServiceTreeModel" "services" "I") (by decide +kernel)) (fun _ h9 => h9) rfl dX9_check_58 ?_
                  refine p1_topr (v := .int (nI n)) (congrArg Value.int hI.1.2.1) ?_
                  refine lv_icmp_ge (tgt := 133) hx hb dX9_check_61 (by decide) (fun c42 => ?_) (fun c42 => ?_)
                  · replace c42 : n ≤ i37 := (nI_leI (a := n) (b := i37) (by omega) (by omega)).mp c42
                    refine lv_iinc (v := nI (i1 + 1)) (lv' := [(3, .int (nI (i1 + 1))), (4, .int (nI i37)), (1, .int 0), (2, .int y41), (0, .ref h)]) hx hb dX9_check_133 hl (k := 2) rfl (nI_add i1 1) (by decide) rfl (fun ls hl => ?_)
                    refine lv_goto (tgt := 6) hx hb dX9_check_136 (by decide) ?_
                    exact ih3 (i1 + 1) y41 0 _ _ _ (by omega) (by omega)  hP hD hS (lv_sub hl [0, 3, 2, 4] rfl)
                  · replace c42 : ¬ (n ≤ i37) := fun q9 => c42 ((nI_leI (a := n) (b := i37) (by omega) (by omega)).mpr q9)
                    refine lv_iload_n hx hb dX9_check_64 rfl (lv_at hl 3 rfl) ?_
                    refine lv_if_ne (tgt := 121) hx hb dX9_check_65 (by decide) (fun c43 => ?_) (fun c43 => ?_)
                    · refine lv_iconst (v := 1) hx hb dX9_check_121 (by decide) ?_
                      refine lv_goto (tgt := 126) hx hb dX9_check_122 (by decide) ?_
                      refine lv_istore_n (lv' := [(2, .int 1), (4, .int (nI i37)), (1, .int 0), (3, .int (nI i1)), (0, .ref h)]) hx hb dX9_check_126 rfl hl (by decide) rfl (fun ls hl => ?_)
                      refine lv_iinc (v := nI (i37 + 1)) (lv' := [(4, .int (nI (i37 + 1))), (2, .int 1), (1, .int 0), (3, .int (nI i1)), (0, .ref h)]) hx hb dX9_check_127 hl (k := 1) rfl (nI_add i37 1) (by decide) rfl (fun ls hl => ?_)
                      refine lv_goto (tgt := 55) hx hb dX9_check_130 (by decide) ?_
                      exact ih39 (i37 + 1) 1 _ _ _ (by omega) (by omega)  hP hD hS (lv_sub hl [0, 2, 3, 1, 4] rfl)
                    · refine lv_aload_n hx hb dX9_check_68 rfl (lv_at hl 4 rfl) ?_
                      refine lv_iconst (v := 3) hx hb dX9_check_69 (by decide) ?_
                      refine lv_iload_n hx hb dX9_check_70 rfl (lv_at hl 2 rfl) ?_
                      refine lv_iload hx hb dX9_check_71 (lv_at hl 0 rfl) ?_
                      have hFc := mw_free hD hS hA
                      refine va_calli (va_runV (As := [.int 3, .int (nI i1), .int (nI i37)]) (rest := []) ⟨hx, hb, hml, hown, hts⟩ (c_m_has l dC dI h a k F V n (b) 3 i1 i37 H.size hI.1 (by omega) (by omega) (by omega) (by omega)) (cwV 3 hts wc_m_check_m_has_150 rfl rfl rfl (by decide +kernel) ⟨Nat.le_of_ble_eq_true rfl, Nat.le_of_ble_eq_true rfl⟩) ⟨fun a9 U g mk q => by obtain ⟨q0, q1, qP, qK, qD⟩ := q; exact ⟨q0, q1, qP, va_K.moved (u := U) (U := U.calling g mk a9) (Vm.Alike.refl U.vm) qK, qD⟩, va_recv hK hP (ci := 10) (q0 := 0) rfl rfl, fun U hU hW => ⟨rfl, by rw [hU], by rw [hU]; exact hP, va_K.moved hW.alike hK, hD.weaken (fun _ _ _ _ => trivial)⟩⟩ rfl rfl hl.1 rfl (lv_room (Nat.le_of_ble_eq_true rfl)) dX9_check_73 ⟨Nat.le_of_ble_eq_true rfl, Nat.le_of_ble_eq_true rfl⟩) hS (fun q _ h => hFc q h) hFc (fun r44 u t H1 locs ht hvm hw hB hz1 hk1 hS => ?_)
                      obtain ⟨F45, V46⟩ := u
                      replace hP := hB.1
                      rw [ht] at hP
                      replace hD : va_D A (mW h a k F45 V46) := hB.2.weaken (fun _ q _ h9 => hFc q.1 h9)
                      clear hB
                      generalize H1 = H at hP hS ⊢
                      replace hP : va_P (dC, dI) vwCl (mW h a k F45 V46) H := hP
                      obtain ⟨hwF, hwV, hw⟩ : F45 = F ∧ V46 = V ∧ _ := hw
                      rw [hwF, hwV] at hP hD
                      have br44 := hw
                      refine lv_if_eq (tgt := 125) hx hb dX9_check_76 (by decide) (fun c47 => ?_) (fun c47 => ?_)
                      · refine lv_iconst (v := 0) hx hb dX9_check_125 (by decide) ?_
                        refine lv_istore_n (lv' := [(2, .int 0), (4, .int (nI i37)), (1, .int 0), (3, .int (nI i1)), (0, .ref h)]) hx hb dX9_check_126 rfl hl (by decide) rfl (fun ls hl => ?_)
                        refine lv_iinc (v := nI (i37 + 1)) (lv' := [(4, .int (nI (i37 + 1))), (2, .int 0), (1, .int 0), (3, .int (nI i1)), (0, .ref h)]) hx hb dX9_check_127 hl (k := 1) rfl (nI_add i37 1) (by decide) rfl (fun ls hl => ?_)
                        refine lv_goto (tgt := 55) hx hb dX9_check_130 (by decide) ?_
                        exact ih39 (i37 + 1) 0 _ _ _ (by omega) (by omega)  hP hD hS (lv_sub hl [0, 2, 3, 1, 4] rfl)
                      · refine lv_aload_n hx hb dX9_check_79 rfl (lv_at hl 4 rfl) ?_
                        refine va_get (D := (dC, dI)) (ci := 10) (v := .ref (a 7)) (C := RX9) (T := TX9) (N := 46) hx hb hts in_m_check_X9 hown hK hP 0 rfl rfl 7 (by decide) (hts (.fieldLink RX9 31 "ServiceTreeModel" "state" "[I") (by decide +kernel)) (fun _ h9 => h9) rfl dX9_check_80 ?_
                        refine lv_iload_n hx hb dX9_check_83 rfl (lv_at hl 2 rfl) ?_
                        refine va_iald (n := 40) (f := F 7) hx hb hK hP 8 7 rfl rfl (vp_in_nI (n := i1) (by omega) (by decide)) dX9_check_84 ?_
                        refine p1_topr (v := .int x31) (congrArg Value.int ex31.symm) ?_
                        refine lv_iconst (v := 1) hx hb dX9_check_85 (by decide) ?_
                        refine lv_icmp_lt (tgt := 125) hx hb dX9_check_86 (by decide) (fun c49 => ?_) (fun c49 => ?_)
                        · refine lv_iconst (v := 0) hx hb dX9_check_125 (by decide) ?_
                          refine lv_istore_n (lv' := [(2, .int 0), (4, .int (nI i37)), (1, .int 0), (3, .int (nI i1)), (0, .ref h)]) hx hb dX9_check_126 rfl hl (by decide) rfl (fun ls hl => ?_)
                          refine lv_iinc (v := nI (i37 + 1)) (lv' := [(4, .int (nI (i37 + 1))), (2, .int 0), (1, .int 0), (3, .int (nI i1)), (0, .ref h)]) hx hb dX9_check_127 hl (k := 1) rfl (nI_add i37 1) (by decide) rfl (fun ls hl => ?_)
                          refine lv_goto (tgt := 55) hx hb dX9_check_130 (by decide) ?_
                          exact ih39 (i37 + 1) 0 _ _ _ (by omega) (by omega)  hP hD hS (lv_sub hl [0, 2, 3, 1, 4] rfl)
                        · refine lv_aload_n hx hb dX9_check_89 rfl (lv_at hl 4 rfl) ?_
                          refine va_get (D := (dC, dI)) (ci := 10) (v := .ref (a 7)) (C := RX9) (T := TX9) (N := 46) hx hb hts in_m_check_X9 hown hK hP 0 rfl rfl 7 (by decide) (hts (.fieldLink RX9 31 "ServiceTreeModel" "state" "[I") (by decide +kernel)) (fun _ h9 => h9) rfl dX9_check_90 ?_
                          refine lv_iload_n hx hb dX9_check_93 rfl (lv_at hl 2 rfl) ?_
                          refine va_iald (n := 40) (f := F 7) hx hb hK hP 8 7 rfl rfl (vp_in_nI (n := i1) (by omega) (by decide)) dX9_check_94 ?_
                          refine p1_topr (v := .int x31) (congrArg Value.int ex31.symm) ?_
                          refine lv_iconst (v := 3) hx hb dX9_check_95 (by decide) ?_
                          refine lv_icmp_gt (tgt := 125) hx hb dX9_check_96 (by decide) (fun c51 => ?_) (fun c51 => ?_)
                          · refine lv_iconst (v := 0) hx hb dX9_check_125 (by decide) ?_
                            refine lv_istore_n (lv' := [(2, .int 0), (4, .int (nI i37)), (1, .int 0), (3, .int (nI i1)), (0, .ref h)]) hx hb dX9_check_126 rfl hl (by decide) rfl (fun ls hl => ?_)
                            refine lv_iinc (v := nI (i37 + 1)) (lv' := [(4, .int (nI (i37 + 1))), (2, .int 0), (1, .int 0), (3, .int (nI i1)), (0, .ref h)]) hx hb dX9_check_127 hl (k := 1) rfl (nI_add i37 1) (by decide) rfl (fun ls hl => ?_)
                            refine lv_goto (tgt := 55) hx hb dX9_check_130 (by decide) ?_
                            exact ih39 (i37 + 1) 0 _ _ _ (by omega) (by omega)  hP hD hS (lv_sub hl [0, 2, 3, 1, 4] rfl)
                          · refine lv_aload_n hx hb dX9_check_99 rfl (lv_at hl 4 rfl) ?_
                            refine va_get (D := (dC, dI)) (ci := 10) (v := .ref (a 7)) (C := RX9) (T := TX9) (N := 46) hx hb hts in_m_check_X9 hown hK hP 0 rfl rfl 7 (by decide) (hts (.fieldLink RX9 31 "ServiceTreeModel" "state" "[I") (by decide +kernel)) (fun _ h9 => h9) rfl dX9_check_100 ?_
                            refine lv_iload hx hb dX9_check_103 (lv_at hl 0 rfl) ?_
                            refine va_iald (n := 40) (f := F 7) hx hb hK hP 8 7 rfl rfl (vp_in_nI (n := i37) (by omega) (by decide)) dX9_check_105 ?_
                            refine lv_topi (fun x52 ex52 => ?_)
                            refine lv_iconst (v := 1) hx hb dX9_check_106 (by decide) ?_
                            refine lv_icmp_lt (tgt := 125) hx hb dX9_check_107 (by decide) (fun c53 => ?_) (fun c53 => ?_)
                            · refine lv_iconst (v := 0) hx hb dX9_check_125 (by decide) ?_
                              refine lv_istore_n (lv' := [(2, .int 0), (4, .int (nI i37)), (1, .int 0), (3, .int (nI i1)), (0, .ref h)]) hx hb dX9_check_126 rfl hl (by decide) rfl (fun ls hl => ?_)
                              refine lv_iinc (v := nI (i37 + 1)) (lv' := [(4, .int (nI (i37 + 1))), (2, .int 0), (1, .int 0), (3, .int (nI i1)), (0, .ref h)]) hx hb dX9_check_127 hl (k := 1) rfl (nI_add i37 1) (by decide) rfl (fun ls hl => ?_)
                              refine lv_goto (tgt := 55) hx hb dX9_check_130 (by decide) ?_
                              exact ih39 (i37 + 1) 0 _ _ _ (by omega) (by omega)  hP hD hS (lv_sub hl [0, 2, 3, 1, 4] rfl)
                            · refine lv_aload_n hx hb dX9_check_110 rfl (lv_at hl 4 rfl) ?_
                              refine va_get (D := (dC, dI)) (ci := 10) (v := .ref (a 7)) (C := RX9) (T := TX9) (N := 46) hx hb hts in_m_check_X9 hown hK hP 0 rfl rfl 7 (by decide) (hts (.fieldLink RX9 31 "ServiceTreeModel" "state" "[I") (by decide +kernel)) (fun _ h9 => h9) rfl dX9_check_111 ?_
                              refine lv_iload hx hb dX9_check_114 (lv_at hl 0 rfl) ?_
                              refine va_iald (n := 40) (f := F 7) hx hb hK hP 8 7 rfl rfl (vp_in_nI (n := i37) (by omega) (by decide)) dX9_check_116 ?_
                              refine p1_topr (v := .int x52) (congrArg Value.int ex52.symm) ?_
                              refine lv_iconst (v := 3) hx hb dX9_check_117 (by decide) ?_
                              refine lv_icmp_gt (tgt := 125) hx hb dX9_check_118 (by decide) (fun c55 => ?_) (fun c55 => ?_)
                              · refine lv_iconst (v := 0) hx hb dX9_check_125 (by decide) ?_
                                refine lv_istore_n (lv' := [(2, .int 0), (4, .int (nI i37)), (1, .int 0), (3, .int (nI i1)), (0, .ref h)]) hx hb dX9_check_126 rfl hl (by decide) rfl (fun ls hl => ?_)
                                refine lv_iinc (v := nI (i37 + 1)) (lv' := [(4, .int (nI (i37 + 1))), (2, .int 0), (1, .int 0), (3, .int (nI i1)), (0, .ref h)]) hx hb dX9_check_127 hl (k := 1) rfl (nI_add i37 1) (by decide) rfl (fun ls hl => ?_)
                                refine lv_goto (tgt := 55) hx hb dX9_check_130 (by decide) ?_
                                exact ih39 (i37 + 1) 0 _ _ _ (by omega) (by omega)  hP hD hS (lv_sub hl [0, 2, 3, 1, 4] rfl)
                              · refine lv_iconst (v := 1) hx hb dX9_check_121 (by decide) ?_
                                refine lv_goto (tgt := 126) hx hb dX9_check_122 (by decide) ?_
                                refine lv_istore_n (lv' := [(2, .int 1), (4, .int (nI i37)), (1, .int 0), (3, .int (nI i1)), (0, .ref h)]) hx hb dX9_check_126 rfl hl (by decide) rfl (fun ls hl => ?_)
                                refine lv_iinc (v := nI (i37 + 1)) (lv' := [(4, .int (nI (i37 + 1))), (2, .int 1), (1, .int 0), (3, .int (nI i1)), (0, .ref h)]) hx hb dX9_check_127 hl (k := 1) rfl (nI_add i37 1) (by decide) rfl (fun ls hl => ?_)
                                refine lv_goto (tgt := 55) hx hb dX9_check_130 (by decide) ?_
                                exact ih39 (i37 + 1) 1 _ _ _ (by omega) (by omega)  hP hD hS (lv_sub hl [0, 2, 3, 1, 4] rfl)
              exact lp40 (n + 1) 0 y5 _ _ _ (by omega) (by omega)  hP hD hS hl
            · refine lv_iconst (v := 1) hx hb dX9_check_46 (by decide) ?_
              refine lv_goto (tgt := 51) hx hb dX9_check_47 (by decide) ?_
              refine lv_istore_n (lv' := [(1, .int 1), (3, .int (nI i1)), (2, .int y5), (0, .ref h)]) hx hb dX9_check_51 rfl hl (by decide) rfl (fun ls hl => ?_)
              refine lv_iconst (v := 0) hx hb dX9_check_52 (by decide) ?_
              refine lv_istore (lv' := [(4, .int 0), (1, .int 1), (3, .int (nI i1)), (2, .int y5), (0, .ref h)]) hx hb dX9_check_53 hl (by decide) rfl (fun ls hl => ?_)
              have lp59 : ∀ (fu57 i56 : Nat) (y60 : Int32) (H : Heap) (locs : List Loc) (ls : Array Slot), n < i56 + fu57 → i56 ≤ n → va_P (dC, dI) vwCl (mW h a k F V) H → va_D A (mW h a k F V) → va_S A s.heap H locs → lv_has ls 5 [(4, .int (nI i56)), (1, .int 1), (3, .int (nI i1)), (2, .int y60), (0, .ref h)] → W p l e (headSpec wq_m_check rm_m_check).room s m ([.ref h] : List Value).toArray below meth c H locs 0 0 Q0 (F0 m 55 ls []) := by
                intro fu57
                induction fu57 with
                | zero =>
                  intro i56 y60 H locs ls hf hi
                  exact absurd hf (by omega)
                | succ fu57 ih58 =>
                  intro i56 y60 H locs ls hfi56 hii56 hP hD hS hl
                  refine lv_iload hx hb dX9_check_55 (lv_at hl 0 rfl) ?_
                  refine lv_aload_n hx hb dX9_check_57 rfl (lv_at hl 4 rfl) ?_
                  refine va_get (D := (dC, dI)) (ci := 10) (v := .int (V 21)) (C := RX9) (T := TX9) (N := 46) hx hb hts in_m_check_X9 hown hK hP 0 rfl rfl 21 (by decide) (hts (.fieldLink RX9 126 "ServiceTreeModel" "services" "I") (by decide +kernel)) (fun _ h9 => h9) rfl dX9_check_58 ?_
                  refine p1_topr (v := .int (nI n)) (congrArg Value.int hI.1.2.1) ?_
                  refine lv_icmp_ge (tgt := 133) hx hb dX9_check_61 (by decide) (fun c61 => ?_) (fun c61 => ?_)
                  · replace c61 : n ≤ i56 := (nI_leI (a := n) (b := i56) (by omega) (by omega)).mp c61
                    refine lv_iinc (v := nI (i1 + 1)) (lv' := [(3, .int (nI (i1 + 1))), (4, .int (nI i56)), (1, .int 1), (2, .int y60), (0, .ref h)]) hx hb dX9_check_133 hl (k := 2) rfl (nI_add i1 1) (by decide) rfl (fun ls hl => ?_)
                    refine lv_goto (tgt := 6) hx hb dX9_check_136 (by decide) ?_
                    exact ih3 (i1 + 1) y60 1 _ _ _ (by omega) (by omega)  hP hD hS (lv_sub hl [0, 3, 2, 4] rfl)
                  · replace c61 : ¬ (n ≤ i56) := fun q9 => c61 ((nI_leI (a := n) (b := i56) (by omega) (by omega)).mpr q9)
                    refine lv_iload_n hx hb dX9_check_64 rfl (lv_at hl 3 rfl) ?_
                    refine lv_if_ne (tgt := 121) hx hb dX9_check_65 (by decide) (fun c62 => ?_) (fun c62 => ?_)
                    · refine lv_iconst (v := 1) hx hb dX9_check_121 (by decide) ?_
                      refine lv_goto (tgt := 126) hx hb dX9_check_122 (by decide) ?_
                      refine lv_istore_n (lv' := [(2, .int 1), (4, .int (nI i56)), (1, .int 1), (3, .int (nI i1)), (0, .ref h)]) hx hb dX9_check_126 rfl hl (by decide) rfl (fun ls hl => ?_)
                      refine lv_iinc (v := nI (i56 + 1)) (lv' := [(4, .int (nI (i56 + 1))), (2, .int 1), (1, .int 1), (3, .int (nI i1)), (0, .ref h)]) hx hb dX9_check_127 hl (k := 1) rfl (nI_add i56 1) (by decide) rfl (fun ls hl => ?_)
                      refine lv_goto (tgt := 55) hx hb dX9_check_130 (by decide) ?_
                      exact ih58 (i56 + 1) 1 _ _ _ (by omega) (by omega)  hP hD hS (lv_sub hl [0, 2, 3, 1, 4] rfl)
                    · refine lv_aload_n hx hb dX9_check_68 rfl (lv_at hl 4 rfl) ?_
                      refine lv_iconst (v := 3) hx hb dX9_check_69 (by decide) ?_
                      refine lv_iload_n hx hb dX9_check_70 rfl (lv_at hl 2 rfl) ?_
                      refine lv_iload hx hb dX9_check_71 (lv_at hl 0 rfl) ?_
                      have hFc := mw_free hD hS hA
                      refine va_calli (va_runV (As := [.int 3, .int (nI i1), .int (nI i56)]) (rest := []) ⟨hx, hb, hml, hown, hts⟩ (c_m_has l dC dI h a k F V n (b) 3 i1 i56 H.size hI.1 (by omega) (by omega) (by omega) (by omega)) (cwV 3 hts wc_m_check_m_has_150 rfl rfl rfl (by decide +kernel) ⟨Nat.le_of_ble_eq_true rfl, Nat.le_of_ble_eq_true rfl⟩) ⟨fun a9 U g mk q => by obtain ⟨q0, q1, qP, qK, qD⟩ := q; exact ⟨q0, q1, qP, va_K.moved (u := U) (U := U.calling g mk a9) (Vm.Alike.refl U.vm) qK, qD⟩, va_recv hK hP (ci := 10) (q0 := 0) rfl rfl, fun U hU hW => ⟨rfl, by rw [hU], by rw [hU]; exact hP, va_K.moved hW.alike hK, hD.weaken (fun _ _ _ _ => trivial)⟩⟩ rfl rfl hl.1 rfl (lv_room (Nat.le_of_ble_eq_true rfl)) dX9_check_73 ⟨Nat.le_of_ble_eq_true rfl, Nat.le_of_ble_eq_true rfl⟩) hS (fun q _ h => hFc q h) hFc (fun r63 u t H1 locs ht hvm hw hB hz1 hk1 hS => ?_)
                      obtain ⟨F64, V65⟩ := u
                      replace hP := hB.1
                      rw [ht] at hP
                      replace hD : va_D A (mW h a k F64 V65) := hB.2.weaken (fun _ q _ h9 => hFc q.1 h9)
                      clear hB
                      generalize H1 = H at hP hS ⊢
                      replace hP : va_P (dC, dI) vwCl (mW h a k F64 V65) H := hP
                      obtain ⟨hwF, hwV, hw⟩ : F64 = F ∧ V65 = V ∧ _ := hw
                      rw [hwF, hwV] at hP hD
                      have br63 := hw
                      refine lv_if_eq (tgt := 125) hx hb dX9_check_76 (by decide) (fun c66 => ?_) (fun c66 => ?_)
                      · refine lv_iconst (v := 0) hx hb dX9_check_125 (by decide) ?_
                        refine lv_istore_n (lv' := [(2, .int 0), (4, .int (nI i56)), (1, .int 1), (3, .int (nI i1)), (0, .ref h)]) hx hb dX9_check_126 rfl hl (by decide) rfl (fun ls hl => ?_)
                        refine lv_iinc (v := nI (i56 + 1)) (lv' := [(4, .int (nI (i56 + 1))), (2, .int 0), (1, .int 1), (3, .int (nI i1)), (0, .ref h)]) hx hb dX9_check_127 hl (k := 1) rfl (nI_add i56 1) (by decide) rfl (fun ls hl => ?_)
                        refine lv_goto (tgt := 55) hx hb dX9_check_130 (by decide) ?_
                        exact ih58 (i56 + 1) 0 _ _ _ (by omega) (by omega)  hP hD hS (lv_sub hl [0, 2, 3, 1, 4] rfl)
                      · refine lv_aload_n hx hb dX9_check_79 rfl (lv_at hl 4 rfl) ?_
                        refine va_get (D := (dC, dI)) (ci := 10) (v := .ref (a 7)) (C := RX9) (T := TX9) (N := 46) hx hb hts in_m_check_X9 hown hK hP 0 rfl rfl 7 (by decide) (hts (.fieldLink RX9 31 "ServiceTreeModel" "state" "[I") (by decide +kernel)) (fun _ h9 => h9) rfl dX9_check_80 ?_
                        refine lv_iload_n hx hb dX9_check_83 rfl (lv_at hl 2 rfl) ?_
                        refine va_iald (n := 40) (f := F 7) hx hb hK hP 8 7 rfl rfl (vp_in_nI (n := i1) (by omega) (by decide)) dX9_check_84 ?_
                        refine p1_topr (v := .int x31) (congrArg Value.int ex31.symm) ?_
                        refine lv_iconst (v := 1) hx hb dX9_check_85 (by decide) ?_
                        refine lv_icmp_lt (tgt := 125) hx hb dX9_check_86 (by decide) (fun c68 => ?_) (fun c68 => ?_)
                        · refine lv_iconst (v := 0) hx hb dX9_check_125 (by decide) ?_
                          refine lv_istore_n (lv' := [(2, .int 0), (4, .int (nI i56)), (1, .int 1), (3, .int (nI i1)), (0, .ref h)]) hx hb dX9_check_126 rfl hl (by decide) rfl (fun ls hl => ?_)
                          refine lv_iinc (v := nI (i56 + 1)) (lv' := [(4, .int (nI (i56 + 1))), (2, .int 0), (1, .int 1), (3, .int (nI i1)), (0, .ref h)]) hx hb dX9_check_127 hl (k := 1) rfl (nI_add i56 1) (by decide) rfl (fun ls hl => ?_)
                          refine lv_goto (tgt := 55) hx hb dX9_check_130 (by decide) ?_
                          exact ih58 (i56 + 1) 0 _ _ _ (by omega) (by omega)  hP hD hS (lv_sub hl [0, 2, 3, 1, 4] rfl)
                        · refine lv_aload_n hx hb dX9_check_89 rfl (lv_at hl 4 rfl) ?_
                          refine va_get (D := (dC, dI)) (ci := 10) (v := .ref (a 7)) (C := RX9) (T := TX9) (N := 46) hx hb hts in_m_check_X9 hown hK hP 0 rfl rfl 7 (by decide) (hts (.fieldLink RX9 31 "ServiceTreeModel" "state" "[I") (by decide +kernel)) (fun _ h9 => h9) rfl dX9_check_90 ?_
                          refine lv_iload_n hx hb dX9_check_93 rfl (lv_at hl 2 rfl) ?_
                          refine va_iald (n := 40) (f := F 7) hx hb hK hP 8 7 rfl rfl (vp_in_nI (n := i1) (by omega) (by decide)) dX9_check_94 ?_
                          refine p1_topr (v := .int x31) (congrArg Value.int ex31.symm) ?_
                          refine lv_iconst (v := 3) hx hb dX9_check_95 (by decide) ?_
                          refine lv_icmp_gt (tgt := 125) hx hb dX9_check_96 (by decide) (fun c70 => ?_) (fun c70 => ?_)
                          · refine lv_iconst (v := 0) hx hb dX9_check_125 (by decide) ?_
                            refine lv_istore_n (lv' := [(2, .int 0), (4, .int (nI i56)), (1, .int 1), (3, .int (nI i1)), (0, .ref h)]) hx hb dX9_check_126 rfl hl (by decide) rfl (fun ls hl => ?_)
                            refine lv_iinc (v := nI (i56 + 1)) (lv' := [(4, .int (nI (i56 + 1))), (2, .int 0), (1, .int 1), (3, .int (nI i1)), (0, .ref h)]) hx hb dX9_check_127 hl (k := 1) rfl (nI_add i56 1) (by decide) rfl (fun ls hl => ?_)
                            refine lv_goto (tgt := 55) hx hb dX9_check_130 (by decide) ?_
                            exact ih58 (i56 + 1) 0 _ _ _ (by omega) (by omega)  hP hD hS (lv_sub hl [0, 2, 3, 1, 4] rfl)
                          · refine lv_aload_n hx hb dX9_check_99 rfl (lv_at hl 4 rfl) ?_
                            refine va_get (D := (dC, dI)) (ci := 10) (v := .ref (a 7)) (C := RX9) (T := TX9) (N := 46) hx hb hts in_m_check_X9 hown hK hP 0 rfl rfl 7 (by decide) (hts (.fieldLink RX9 31 "ServiceTreeModel" "state" "[I") (by decide +kernel)) (fun _ h9 => h9) rfl dX9_check_100 ?_
                            refine lv_iload hx hb dX9_check_103 (lv_at hl 0 rfl) ?_
                            refine va_iald (n := 40) (f := F 7) hx hb hK hP 8 7 rfl rfl (vp_in_nI (n := i56) (by omega) (by decide)) dX9_check_105 ?_
                            refine lv_topi (fun x71 ex71 => ?_)
                            refine lv_iconst (v := 1) hx hb dX9_check_106 (by decide) ?_
                            refine lv_icmp_lt (tgt := 125) hx hb dX9_check_107 (by decide) (fun c72 => ?_) (fun c72 => ?_)
                            · refine lv_iconst (v := 0) hx hb dX9_check_125 (by decide) ?_
                              refine lv_istore_n (lv' := [(2, .int 0), (4, .int (nI i56)), (1, .int 1), (3, .int (nI i1)), (0, .ref h)]) hx hb dX9_check_126 rfl hl (by decide) rfl (fun ls hl => ?_)
                              refine lv_iinc (v := nI (i56 + 1)) (lv' := [(4, .int (nI (i56 + 1))), (2, .int 0), (1, .int 1), (3, .int (nI i1)), (0, .ref h)]) hx hb dX9_check_127 hl (k := 1) rfl (nI_add i56 1) (by decide) rfl (fun ls hl => ?_)
                              refine lv_goto (tgt := 55) hx hb dX9_check_130 (by decide) ?_
                              exact ih58 (i56 + 1) 0 _ _ _ (by omega) (by omega)  hP hD hS (lv_sub hl [0, 2, 3, 1, 4] rfl)
                            · refine lv_aload_n hx hb dX9_check_110 rfl (lv_at hl 4 rfl) ?_
                              refine va_get (D := (dC, dI)) (ci := 10) (v := .ref (a 7)) (C := RX9) (T := TX9) (N := 46) hx hb hts in_m_check_X9 hown hK hP 0 rfl rfl 7 (by decide) (hts (.fieldLink RX9 31 "ServiceTreeModel" "state" "[I") (by decide +kernel)) (fun _ h9 => h9) rfl dX9_check_111 ?_
                              refine lv_iload hx hb dX9_check_114 (lv_at hl 0 rfl) ?_
                              refine va_iald (n := 40) (f := F 7) hx hb hK hP 8 7 rfl rfl (vp_in_nI (n := i56) (by omega) (by decide)) dX9_check_116 ?_
                              refine p1_topr (v := .int x71) (congrArg Value.int ex71.symm) ?_
                              refine lv_iconst (v := 3) hx hb dX9_check_117 (by decide) ?_
                              refine lv_icmp_gt (tgt := 125) hx hb dX9_check_118 (by decide) (fun c74 => ?_) (fun c74 => ?_)
                              · refine lv_iconst (v := 0) hx hb dX9_check_125 (by decide) ?_
                                refine lv_istore_n (lv' := [(2, .int 0), (4, .int (nI i56)), (1, .int 1), (3, .int (nI i1)), (0, .ref h)]) hx hb dX9_check_126 rfl hl (by decide) rfl (fun ls hl => ?_)
                                refine lv_iinc (v := nI (i56 + 1)) (lv' := [(4, .int (nI (i56 + 1))), (2, .int 0), (1, .int 1), (3, .int (nI i1)), (0, .ref h)]) hx hb dX9_check_127 hl (k := 1) rfl (nI_add i56 1) (by decide) rfl (fun ls hl => ?_)
                                refine lv_goto (tgt := 55) hx hb dX9_check_130 (by decide) ?_
                                exact ih58 (i56 + 1) 0 _ _ _ (by omega) (by omega)  hP hD hS (lv_sub hl [0, 2, 3, 1, 4] rfl)
                              · refine lv_iconst (v := 1) hx hb dX9_check_121 (by decide) ?_
                                refine lv_goto (tgt := 126) hx hb dX9_check_122 (by decide) ?_
                                refine lv_istore_n (lv' := [(2, .int 1), (4, .int (nI i56)), (1, .int 1), (3, .int (nI i1)), (0, .ref h)]) hx hb dX9_check_126 rfl hl (by decide) rfl (fun ls hl => ?_)
                                refine lv_iinc (v := nI (i56 + 1)) (lv' := [(4, .int (nI (i56 + 1))), (2, .int 1), (1, .int 1), (3, .int (nI i1)), (0, .ref h)]) hx hb dX9_check_127 hl (k := 1) rfl (nI_add i56 1) (by decide) rfl (fun ls hl => ?_)
                                refine lv_goto (tgt := 55) hx hb dX9_check_130 (by decide) ?_
                                exact ih58 (i56 + 1) 1 _ _ _ (by omega) (by omega)  hP hD hS (lv_sub hl [0, 2, 3, 1, 4] rfl)
              exact lp59 (n + 1) 0 y5 _ _ _ (by omega) (by omega)  hP hD hS hl
          · refine lv_aload_n hx hb dX9_check_28 rfl (lv_at hl 3 rfl) ?_
            refine va_get (D := (dC, dI)) (ci := 10) (v := .ref (a 7)) (C := RX9) (T := TX9) (N := 46) hx hb hts in_m_check_X9 hown hK hP 0 rfl rfl 7 (by decide) (hts (.fieldLink RX9 31 "ServiceTreeModel" "state" "[I") (by decide +kernel)) (fun _ h9 => h9) rfl dX9_check_29 ?_
            refine lv_iload_n hx hb dX9_check_32 rfl (lv_at hl 0 rfl) ?_
            refine va_iald (n := 40) (f := F 7) hx hb hK hP 8 7 rfl rfl (vp_in_nI (n := i1) (by omega) (by decide)) dX9_check_33 ?_
            refine p1_topr (v := .int x31) (congrArg Value.int ex31.symm) ?_
            refine lv_iconst (v := 2) hx hb dX9_check_34 (by decide) ?_
            refine lv_icmp_ne (tgt := 50) hx hb dX9_check_35 (by decide) (fun c76 => ?_) (fun c76 => ?_)
            · refine lv_iconst (v := 0) hx hb dX9_check_50 (by decide) ?_
              refine lv_istore_n (lv' := [(1, .int 0), (3, .int (nI i1)), (2, .int y5), (0, .ref h)]) hx hb dX9_check_51 rfl hl (by decide) rfl (fun ls hl => ?_)
              refine lv_iconst (v := 0) hx hb dX9_check_52 (by decide) ?_
              refine lv_istore (lv' := [(4, .int 0), (1, .int 0), (3, .int (nI i1)), (2, .int y5), (0, .ref h)]) hx hb dX9_check_53 hl (by decide) rfl (fun ls hl => ?_)
              have lp80 : ∀ (fu78 i77 : Nat) (y81 : Int32) (H : Heap) (locs : List Loc) (ls : Array Slot), n < i77 + fu78 → i77 ≤ n → va_P (dC, dI) vwCl (mW h a k F V) H → va_D A (mW h a k F V) → va_S A s.heap H locs → lv_has ls 5 [(4, .int (nI i77)), (1, .int 0), (3, .int (nI i1)), (2, .int y81), (0, .ref h)] → W p l e (headSpec wq_m_check rm_m_check).room s m ([.ref h] : List Value).toArray below meth c H locs 0 0 Q0 (F0 m 55 ls []) := by
                intro fu78
                induction fu78 with
                | zero =>
                  intro i77 y81 H locs ls hf hi
                  exact absurd hf (by omega)
                | succ fu78 ih79 =>
                  intro i77 y81 H locs ls hfi77 hii77 hP hD hS hl
                  refine lv_iload hx hb dX9_check_55 (lv_at hl 0 rfl) ?_
                  refine lv_aload_n hx hb dX9_check_57 rfl (lv_at hl 4 rfl) ?_
                  refine va_get (D := (dC, dI)) (ci := 10) (v := .int (V 21)) (C := RX9) (T := TX9) (N := 46) hx hb hts in_m_check_X9 hown hK hP 0 rfl rfl 21 (by decide) (hts (.fieldLink RX9 126 "ServiceTreeModel" "services" "I") (by decide +kernel)) (fun _ h9 => h9) rfl dX9_check_58 ?_
                  refine p1_topr (v := .int (nI n)) (congrArg Value.int hI.1.2.1) ?_
                  refine lv_icmp_ge (tgt := 133) hx hb dX9_check_61 (by decide) (fun c82 => ?_) (fun c82 => ?_)
                  · replace c82 : n ≤ i77 := (nI_leI (a := n) (b := i77) (by omega) (by omega)).mp c82
                    refine lv_iinc (v := nI (i1 + 1)) (lv' := [(3, .int (nI (i1 + 1))), (4, .int (nI i77)), (1, .int 0), (2, .int y81), (0, .ref h)]) hx hb dX9_check_133 hl (k := 2) rfl (nI_add i1 1) (by decide) rfl (fun ls hl => ?_)
                    refine lv_goto (tgt := 6) hx hb dX9_check_136 (by decide) ?_
                    exact ih3 (i1 + 1) y81 0 _ _ _ (by omega) (by omega)  hP hD hS (lv_sub hl [0, 3, 2, 4] rfl)
                  · replace c82 : ¬ (n ≤ i77) := fun q9 => c82 ((nI_leI (a := n) (b := i77) (by omega) (by omega)).mpr q9)
                    refine lv_iload_n hx hb dX9_check_64 rfl (lv_at hl 3 rfl) ?_
                    refine lv_if_ne (tgt := 121) hx hb dX9_check_65 (by decide) (fun c83 => ?_) (fun c83 => ?_)
                    · refine lv_iconst (v := 1) hx hb dX9_check_121 (by decide) ?_
                      refine lv_goto (tgt := 126) hx hb dX9_check_122 (by decide) ?_
                      refine lv_istore_n (lv' := [(2, .int 1), (4, .int (nI i77)), (1, .int 0), (3, .int (nI i1)), (0, .ref h)]) hx hb dX9_check_126 rfl hl (by decide) rfl (fun ls hl => ?_)
                      refine lv_iinc (v := nI (i77 + 1)) (lv' := [(4, .int (nI (i77 + 1))), (2, .int 1), (1, .int 0), (3, .int (nI i1)), (0, .ref h)]) hx hb dX9_check_127 hl (k := 1) rfl (nI_add i77 1) (by decide) rfl (fun ls hl => ?_)
                      refine lv_goto (tgt := 55) hx hb dX9_check_130 (by decide) ?_
                      exact ih79 (i77 + 1) 1 _ _ _ (by omega) (by omega)  hP hD hS (lv_sub hl [0, 2, 3, 1, 4] rfl)
                    · refine lv_aload_n hx hb dX9_check_68 rfl (lv_at hl 4 rfl) ?_
                      refine lv_iconst (v := 3) hx hb dX9_check_69 (by decide) ?_
                      refine lv_iload_n hx hb dX9_check_70 rfl (lv_at hl 2 rfl) ?_
                      refine lv_iload hx hb dX9_check_71 (lv_at hl 0 rfl) ?_
                      have hFc := mw_free hD hS hA
                      refine va_calli (va_runV (As := [.int 3, .int (nI i1), .int (nI i77)]) (rest := []) ⟨hx, hb, hml, hown, hts⟩ (c_m_has l dC dI h a k F V n (b) 3 i1 i77 H.size hI.1 (by omega) (by omega) (by omega) (by omega)) (cwV 3 hts wc_m_check_m_has_150 rfl rfl rfl (by decide +kernel) ⟨Nat.le_of_ble_eq_true rfl, Nat.le_of_ble_eq_true rfl⟩) ⟨fun a9 U g mk q => by obtain ⟨q0, q1, qP, qK, qD⟩ := q; exact ⟨q0, q1, qP, va_K.moved (u := U) (U := U.calling g mk a9) (Vm.Alike.refl U.vm) qK, qD⟩, va_recv hK hP (ci := 10) (q0 := 0) rfl rfl, fun U hU hW => ⟨rfl, by rw [hU], by rw [hU]; exact hP, va_K.moved hW.alike hK, hD.weaken (fun _ _ _ _ => trivial)⟩⟩ rfl rfl hl.1 rfl (lv_room (Nat.le_of_ble_eq_true rfl)) dX9_check_73 ⟨Nat.le_of_ble_eq_true rfl, Nat.le_of_ble_eq_true rfl⟩) hS (fun q _ h => hFc q h) hFc (fun r84 u t H1 locs ht hvm hw hB hz1 hk1 hS => ?_)
                      obtain ⟨F85, V86⟩ := u
                      replace hP := hB.1
                      rw [ht] at hP
                      replace hD : va_D A (mW h a k F85 V86) := hB.2.weaken (fun _ q _ h9 => hFc q.1 h9)
                      clear hB
                      generalize H1 = H at hP hS ⊢
                      replace hP : va_P (dC, dI) vwCl (mW h a k F85 V86) H := hP
                      obtain ⟨hwF, hwV, hw⟩ : F85 = F ∧ V86 = V ∧ _ := hw
                      rw [hwF, hwV] at hP hD
                      have br84 := hw
                      refine lv_if_eq (tgt := 125) hx hb dX9_check_76 (by decide) (fun c87 => ?_) (fun c87 => ?_)
                      · refine lv_iconst (v := 0) hx hb dX9_check_125 (by decide) ?_
                        refine lv_istore_n (lv' := [(2, .int 0), (4, .int (nI i77)), (1, .int 0), (3, .int (nI i1)), (0, .ref h)]) hx hb dX9_check_126 rfl hl (by decide) rfl (fun ls hl => ?_)
                        refine lv_iinc (v := nI (i77 + 1)) (lv' := [(4, .int (nI (i77 + 1))), (2, .int 0), (1, .int 0), (3, .int (nI i1)), (0, .ref h)]) hx hb dX9_check_127 hl (k := 1) rfl (nI_add i77 1) (by decide) rfl (fun ls hl => ?_)
                        refine lv_goto (tgt := 55) hx hb dX9_check_130 (by decide) ?_
                        exact ih79 (i77 + 1) 0 _ _ _ (by omega) (by omega)  hP hD hS (lv_sub hl [0, 2, 3, 1, 4] rfl)
                      · refine lv_aload_n hx hb dX9_check_79 rfl (lv_at hl 4 rfl) ?_
                        refine va_get (D := (dC, dI)) (ci := 10) (v := .ref (a 7)) (C := RX9) (T := TX9) (N := 46) hx hb hts in_m_check_X9 hown hK hP 0 rfl rfl 7 (by decide) (hts (.fieldLink RX9 31 "ServiceTreeModel" "state" "[I") (by decide +kernel)) (fun _ h9 => h9) rfl dX9_check_80 ?_
                        refine lv_iload_n hx hb dX9_check_83 rfl (lv_at hl 2 rfl) ?_
                        refine va_iald (n := 40) (f := F 7) hx hb hK hP 8 7 rfl rfl (vp_in_nI (n := i1) (by omega) (by decide)) dX9_check_84 ?_
                        refine p1_topr (v := .int x31) (congrArg Value.int ex31.symm) ?_
                        refine lv_iconst (v := 1) hx hb dX9_check_85 (by decide) ?_
                        refine lv_icmp_lt (tgt := 125) hx hb dX9_check_86 (by decide) (fun c89 => ?_) (fun c89 => ?_)
                        · refine lv_iconst (v := 0) hx hb dX9_check_125 (by decide) ?_
                          refine lv_istore_n (lv' := [(2, .int 0), (4, .int (nI i77)), (1, .int 0), (3, .int (nI i1)), (0, .ref h)]) hx hb dX9_check_126 rfl hl (by decide) rfl (fun ls hl => ?_)
                          refine lv_iinc (v := nI (i77 + 1)) (lv' := [(4, .int (nI (i77 + 1))), (2, .int 0), (1, .int 0), (3, .int (nI i1)), (0, .ref h)]) hx hb dX9_check_127 hl (k := 1) rfl (nI_add i77 1) (by decide) rfl (fun ls hl => ?_)
                          refine lv_goto (tgt := 55) hx hb dX9_check_130 (by decide) ?_
                          exact ih79 (i77 + 1) 0 _ _ _ (by omega) (by omega)  hP hD hS (lv_sub hl [0, 2, 3, 1, 4] rfl)
                        · refine lv_aload_n hx hb dX9_check_89 rfl (lv_at hl 4 rfl) ?_
                          refine va_get (D := (dC, dI)) (ci := 10) (v := .ref (a 7)) (C := RX9) (T := TX9) (N := 46) hx hb hts in_m_check_X9 hown hK hP 0 rfl rfl 7 (by decide) (hts (.fieldLink RX9 31 "ServiceTreeModel" "state" "[I") (by decide +kernel)) (fun _ h9 => h9) rfl dX9_check_90 ?_
                          refine lv_iload_n hx hb dX9_check_93 rfl (lv_at hl 2 rfl) ?_
                          refine va_iald (n := 40) (f := F 7) hx hb hK hP 8 7 rfl rfl (vp_in_nI (n := i1) (by omega) (by decide)) dX9_check_94 ?_
                          refine p1_topr (v := .int x31) (congrArg Value.int ex31.symm) ?_
                          refine lv_iconst (v := 3) hx hb dX9_check_95 (by decide) ?_
                          refine lv_icmp_gt (tgt := 125) hx hb dX9_check_96 (by decide) (fun c91 => ?_) (fun c91 => ?_)
                          · refine lv_iconst (v := 0) hx hb dX9_check_125 (by decide) ?_
                            refine lv_istore_n (lv' := [(2, .int 0), (4, .int (nI i77)), (1, .int 0), (3, .int (nI i1)), (0, .ref h)]) hx hb dX9_check_126 rfl hl (by decide) rfl (fun ls hl => ?_)
                            refine lv_iinc (v := nI (i77 + 1)) (lv' := [(4, .int (nI (i77 + 1))), (2, .int 0), (1, .int 0), (3, .int (nI i1)), (0, .ref h)]) hx hb dX9_check_127 hl (k := 1) rfl (nI_add i77 1) (by decide) rfl (fun ls hl => ?_)
                            refine lv_goto (tgt := 55) hx hb dX9_check_130 (by decide) ?_
                            exact ih79 (i77 + 1) 0 _ _ _ (by omega) (by omega)  hP hD hS (lv_sub hl [0, 2, 3, 1, 4] rfl)
                          · refine lv_aload_n hx hb dX9_check_99 rfl (lv_at hl 4 rfl) ?_
                            refine va_get (D := (dC, dI)) (ci := 10) (v := .ref (a 7)) (C := RX9) (T := TX9) (N := 46) hx hb hts in_m_check_X9 hown hK hP 0 rfl rfl 7 (by decide) (hts (.fieldLink RX9 31 "ServiceTreeModel" "state" "[I") (by decide +kernel)) (fun _ h9 => h9) rfl dX9_check_100 ?_
                            refine lv_iload hx hb dX9_check_103 (lv_at hl 0 rfl) ?_
                            refine va_iald (n := 40) (f := F 7) hx hb hK hP 8 7 rfl rfl (vp_in_nI (n := i77) (by omega) (by decide)) dX9_check_105 ?_
                            refine lv_topi (fun x92 ex92 => ?_)
                            refine lv_iconst (v := 1) hx hb dX9_check_106 (by decide) ?_
                            refine lv_icmp_lt (tgt := 125) hx hb dX9_check_107 (by decide) (fun c93 => ?_) (fun c93 => ?_)
                            · refine lv_iconst (v := 0) hx hb dX9_check_125 (by decide) ?_
                              refine lv_istore_n (lv' := [(2, .int 0), (4, .int (nI i77)), (1, .int 0), (3, .int (nI i1)), (0, .ref h)]) hx hb dX9_check_126 rfl hl (by decide) rfl (fun ls hl => ?_)
                              refine lv_iinc (v := nI (i77 + 1)) (lv' := [(4, .int (nI (i77 + 1))), (2, .int 0), (1, .int 0), (3, .int (nI i1)), (0, .ref h)]) hx hb dX9_check_127 hl (k := 1) rfl (nI_add i77 1) (by decide) rfl (fun ls hl => ?_)
                              refine lv_goto (tgt := 55) hx hb dX9_check_130 (by decide) ?_
                              exact ih79 (i77 + 1) 0 _ _ _ (by omega) (by omega)  hP hD hS (lv_sub hl [0, 2, 3, 1, 4] rfl)
                            · refine lv_aload_n hx hb dX9_check_110 rfl (lv_at hl 4 rfl) ?_
                              refine va_get (D := (dC, dI)) (ci := 10) (v := .ref (a 7)) (C := RX9) (T := TX9) (N := 46) hx hb hts in_m_check_X9 hown hK hP 0 rfl rfl 7 (by decide) (hts (.fieldLink RX9 31 "ServiceTreeModel" "state" "[I") (by decide +kernel)) (fun _ h9 => h9) rfl dX9_check_111 ?_
                              refine lv_iload hx hb dX9_check_114 (lv_at hl 0 rfl) ?_
                              refine va_iald (n := 40) (f := F 7) hx hb hK hP 8 7 rfl rfl (vp_in_nI (n := i77) (by omega) (by decide)) dX9_check_116 ?_
                              refine p1_topr (v := .int x92) (congrArg Value.int ex92.symm) ?_
                              refine lv_iconst (v := 3) hx hb dX9_check_117 (by decide) ?_
                              refine lv_icmp_gt (tgt := 125) hx hb dX9_check_118 (by decide) (fun c95 => ?_) (fun c95 => ?_)
                              · refine lv_iconst (v := 0) hx hb dX9_check_125 (by decide) ?_
                                refine lv_istore_n (lv' := [(2, .int 0), (4, .int (nI i77)), (1, .int 0), (3, .int (nI i1)), (0, .ref h)]) hx hb dX9_check_126 rfl hl (by decide) rfl (fun ls hl => ?_)
                                refine lv_iinc (v := nI (i77 + 1)) (lv' := [(4, .int (nI (i77 + 1))), (2, .int 0), (1, .int 0), (3, .int (nI i1)), (0, .ref h)]) hx hb dX9_check_127 hl (k := 1) rfl (nI_add i77 1) (by decide) rfl (fun ls hl => ?_)
                                refine lv_goto (tgt := 55) hx hb dX9_check_130 (by decide) ?_
                                exact ih79 (i77 + 1) 0 _ _ _ (by omega) (by omega)  hP hD hS (lv_sub hl [0, 2, 3, 1, 4] rfl)
                              · refine lv_iconst (v := 1) hx hb dX9_check_121 (by decide) ?_
                                refine lv_goto (tgt := 126) hx hb dX9_check_122 (by decide) ?_
                                refine lv_istore_n (lv' := [(2, .int 1), (4, .int (nI i77)), (1, .int 0), (3, .int (nI i1)), (0, .ref h)]) hx hb dX9_check_126 rfl hl (by decide) rfl (fun ls hl => ?_)
                                refine lv_iinc (v := nI (i77 + 1)) (lv' := [(4, .int (nI (i77 + 1))), (2, .int 1), (1, .int 0), (3, .int (nI i1)), (0, .ref h)]) hx hb dX9_check_127 hl (k := 1) rfl (nI_add i77 1) (by decide) rfl (fun ls hl => ?_)
                                refine lv_goto (tgt := 55) hx hb dX9_check_130 (by decide) ?_
                                exact ih79 (i77 + 1) 1 _ _ _ (by omega) (by omega)  hP hD hS (lv_sub hl [0, 2, 3, 1, 4] rfl)
              exact lp80 (n + 1) 0 y5 _ _ _ (by omega) (by omega)  hP hD hS hl
            · refine lv_aload_n hx hb dX9_check_38 rfl (lv_at hl 3 rfl) ?_
              refine lv_iload_n hx hb dX9_check_39 rfl (lv_at hl 0 rfl) ?_
              have hFc := mw_free hD hS hA
              refine va_calli (va_runV (As := [.int (nI i1)]) (rest := []) ⟨hx, hb, hml, hown, hts⟩ (c_m_hasNeeds l dC dI h a k F V n (b) i1 H.size hI.1 (by omega) (by omega)) (cwV 1 hts wc_m_check_m_hasNeeds_231 rfl rfl rfl (by decide +kernel) ⟨Nat.le_of_ble_eq_true rfl, Nat.le_of_ble_eq_true rfl⟩) ⟨fun a9 U g mk q => by obtain ⟨q0, q1, qP, qK, qD⟩ := q; exact ⟨q0, q1, qP, va_K.moved (u := U) (U := U.calling g mk a9) (Vm.Alike.refl U.vm) qK, qD⟩, va_recv hK hP (ci := 10) (q0 := 0) rfl rfl, fun U hU hW => ⟨rfl, by rw [hU], by rw [hU]; exact hP, va_K.moved hW.alike hK, hD.weaken (fun _ _ _ _ => trivial)⟩⟩ rfl rfl hl.1 rfl (lv_room (Nat.le_of_ble_eq_true rfl)) dX9_check_40 ⟨Nat.le_of_ble_eq_true rfl, Nat.le_of_ble_eq_true rfl⟩) hS (fun q _ h => hFc q h) hFc (fun r96 u t H1 locs ht hvm hw hB hz1 hk1 hS => ?_)
              obtain ⟨F97, V98⟩ := u
              replace hP := hB.1
              rw [ht] at hP
              replace hD : va_D A (mW h a k F97 V98) := hB.2.weaken (fun _ q _ h9 => hFc q.1 h9)
              clear hB
              generalize H1 = H at hP hS ⊢
              replace hP : va_P (dC, dI) vwCl (mW h a k F97 V98) H := hP
              obtain ⟨hwF, hwV, hw⟩ : F97 = F ∧ V98 = V ∧ _ := hw
              rw [hwF, hwV] at hP hD
              have br96 := hw
              refine lv_if_ne (tgt := 50) hx hb dX9_check_43 (by decide) (fun c99 => ?_) (fun c99 => ?_)
              · refine lv_iconst (v := 0) hx hb dX9_check_50 (by decide) ?_
                refine lv_istore_n (lv' := [(1, .int 0), (3, .int (nI i1)), (2, .int y5), (0, .ref h)]) hx hb dX9_check_51 rfl hl (by decide) rfl (fun ls hl => ?_)
                refine lv_iconst (v := 0) hx hb dX9_check_52 (by decide) ?_
                refine lv_istore (lv' := [(4, .int 0), (1, .int 0), (3, .int (nI i1)), (2, .int y5), (0, .ref h)]) hx hb dX9_check_53 hl (by decide) rfl (fun ls hl => ?_)
                have lp103 : ∀ (fu101 i100 : Nat) (y104 : Int32) (H : Heap) (locs : List Loc) (ls : Array Slot), n < i100 + fu101 → i100 ≤ n → va_P (dC, dI) vwCl (mW h a k F V) H → va_D A (mW h a k F V) → va_S A s.heap H locs → lv_has ls 5 [(4, .int (nI i100)), (1, .int 0), (3, .int (nI i1)), (2, .int y104), (0, .ref h)] → W p l e (headSpec wq_m_check rm_m_check).room s m ([.ref h] : List Value).toArray below meth c H locs 0 0 Q0 (F0 m 55 ls []) := by
                  intro fu101
                  induction fu101 with
                  | zero =>
                    intro i100 y104 H locs ls hf hi
                    exact absurd hf (by omega)
                  | succ fu101 ih102 =>
                    intro i100 y104 H locs ls hfi100 hii100 hP hD hS hl
                    refine lv_iload hx hb dX9_check_55 (lv_at hl 0 rfl) ?_
                    refine lv_aload_n hx hb dX9_check_57 rfl (lv_at hl 4 rfl) ?_
                    refine va_get (D := (dC, dI)) (ci := 10) (v := .int (V 21)) (C := RX9) (T := TX9) (N := 46) hx hb hts in_m_check_X9 hown hK hP 0 rfl rfl 21 (by decide) (hts (.fieldLink RX9 126 "ServiceTreeModel" "services" "I") (by decide +kernel)) (fun _ h9 => h9) rfl dX9_check_58 ?_
                    refine p1_topr (v := .int (nI n)) (congrArg Value.int hI.1.2.1) ?_
                    refine lv_icmp_ge (tgt := 133) hx hb dX9_check_61 (by decide) (fun c105 => ?_) (fun c105 => ?_)
                    · replace c105 : n ≤ i100 := (nI_leI (a := n) (b := i100) (by omega) (by omega)).mp c105
                      refine lv_iinc (v := nI (i1 + 1)) (lv' := [(3, .int (nI (i1 + 1))), (4, .int (nI i100)), (1, .int 0), (2, .int y104), (0, .ref h)]) hx hb dX9_check_133 hl (k := 2) rfl (nI_add i1 1) (by decide) rfl (fun ls hl => ?_)
                      refine lv_goto (tgt := 6) hx hb dX9_check_136 (by decide) ?_
                      exact ih3 (i1 + 1) y104 0 _ _ _ (by omega) (by omega)  hP hD hS (lv_sub hl [0, 3, 2, 4] rfl)
                    · replace c105 : ¬ (n ≤ i100) := fun q9 => c105 ((nI_leI (a := n) (b := i100) (by omega) (by omega)).mpr q9)
                      refine lv_iload_n hx hb dX9_check_64 rfl (lv_at hl 3 rfl) ?_
                      refine lv_if_ne (tgt := 121) hx hb dX9_check_65 (by decide) (fun c106 => ?_) (fun c106 => ?_)
                      · refine lv_iconst (v := 1) hx hb dX9_check_121 (by decide) ?_
                        refine lv_goto (tgt := 126) hx hb dX9_check_122 (by decide) ?_
                        refine lv_istore_n (lv' := [(2, .int 1), (4, .int (nI i100)), (1, .int 0), (3, .int (nI i1)), (0, .ref h)]) hx hb dX9_check_126 rfl hl (by decide) rfl (fun ls hl => ?_)
                        refine lv_iinc (v := nI (i100 + 1)) (lv' := [(4, .int (nI (i100 + 1))), (2, .int 1), (1, .int 0), (3, .int (nI i1)), (0, .ref h)]) hx hb dX9_check_127 hl (k := 1) rfl (nI_add i100 1) (by decide) rfl (fun ls hl => ?_)
                        refine lv_goto (tgt := 55) hx hb dX9_check_130 (by decide) ?_
                        exact ih102 (i100 + 1) 1 _ _ _ (by omega) (by omega)  hP hD hS (lv_sub hl [0, 2, 3, 1, 4] rfl)
                      · refine lv_aload_n hx hb dX9_check_68 rfl (lv_at hl 4 rfl) ?_
                        refine lv_iconst (v := 3) hx hb dX9_check_69 (by decide) ?_
                        refine lv_iload_n hx hb dX9_check_70 rfl (lv_at hl 2 rfl) ?_
                        refine lv_iload hx hb dX9_check_71 (lv_at hl 0 rfl) ?_
                        have hFc := mw_free hD hS hA
                        refine va_calli (va_runV (As := [.int 3, .int (nI i1), .int (nI i100)]) (rest := []) ⟨hx, hb, hml, hown, hts⟩ (c_m_has l dC dI h a k F V n (b) 3 i1 i100 H.size hI.1 (by omega) (by omega) (by omega) (by omega)) (cwV 3 hts wc_m_check_m_has_150 rfl rfl rfl (by decide +kernel) ⟨Nat.le_of_ble_eq_true rfl, Nat.le_of_ble_eq_true rfl⟩) ⟨fun a9 U g mk q => by obtain ⟨q0, q1, qP, qK, qD⟩ := q; exact ⟨q0, q1, qP, va_K.moved (u := U) (U := U.calling g mk a9) (Vm.Alike.refl U.vm) qK, qD⟩, va_recv hK hP (ci := 10) (q0 := 0) rfl rfl, fun U hU hW => ⟨rfl, by rw [hU], by rw [hU]; exact hP, va_K.moved hW.alike hK, hD.weaken (fun _ _ _ _ => trivial)⟩⟩ rfl rfl hl.1 rfl (lv_room (Nat.le_of_ble_eq_true rfl)) dX9_check_73 ⟨Nat.le_of_ble_eq_true rfl, Nat.le_of_ble_eq_true rfl⟩) hS (fun q _ h => hFc q h) hFc (fun r107 u t H1 locs ht hvm hw hB hz1 hk1 hS => ?_)
                        obtain ⟨F108, V109⟩ := u
                        replace hP := hB.1
                        rw [ht] at hP
                        replace hD : va_D A (mW h a k F108 V109) := hB.2.weaken (fun _ q _ h9 => hFc q.1 h9)
                        clear hB
                        generalize H1 = H at hP hS ⊢
                        replace hP : va_P (dC, dI) vwCl (mW h a k F108 V109) H := hP
                        obtain ⟨hwF, hwV, hw⟩ : F108 = F ∧ V109 = V ∧ _ := hw
                        rw [hwF, hwV] at hP hD
                        have br107 := hw
                        refine lv_if_eq (tgt := 125) hx hb dX9_check_76 (by decide) (fun c110 => ?_) (fun c110 => ?_)
                        · refine lv_iconst (v := 0) hx hb dX9_check_125 (by decide) ?_
                          refine lv_istore_n (lv' := [(2, .int 0), (4, .int (nI i100)), (1, .int 0), (3, .int (nI i1)), (0, .ref h)]) hx hb dX9_check_126 rfl hl (by decide) rfl (fun ls hl => ?_)
                          refine lv_iinc (v := nI (i100 + 1)) (lv' := [(4, .int (nI (i100 + 1))), (2, .int 0), (1, .int 0), (3, .int (nI i1)), (0, .ref h)]) hx hb dX9_check_127 hl (k := 1) rfl (nI_add i100 1) (by decide) rfl (fun ls hl => ?_)
                          refine lv_goto (tgt := 55) hx hb dX9_check_130 (by decide) ?_
                          exact ih102 (i100 + 1) 0 _ _ _ (by omega) (by omega)  hP hD hS (lv_sub hl [0, 2, 3, 1, 4] rfl)
                        · refine lv_aload_n hx hb dX9_check_79 rfl (lv_at hl 4 rfl) ?_
                          refine va_get (D := (dC, dI)) (ci := 10) (v := .ref (a 7)) (C := RX9) (T := TX9) (N := 46) hx hb hts in_m_check_X9 hown hK hP 0 rfl rfl 7 (by decide) (hts (.fieldLink RX9 31 "ServiceTreeModel" "state" "[I") (by decide +kernel)) (fun _ h9 => h9) rfl dX9_check_80 ?_
                          refine lv_iload_n hx hb dX9_check_83 rfl (lv_at hl 2 rfl) ?_
                          refine va_iald (n := 40) (f := F 7) hx hb hK hP 8 7 rfl rfl (vp_in_nI (n := i1) (by omega) (by decide)) dX9_check_84 ?_
                          refine p1_topr (v := .int x31) (congrArg Value.int ex31.symm) ?_
                          refine lv_iconst (v := 1) hx hb dX9_check_85 (by decide) ?_
                          refine lv_icmp_lt (tgt := 125) hx hb dX9_check_86 (by decide) (fun c112 => ?_) (fun c112 => ?_)
                          · refine lv_iconst (v := 0) hx hb dX9_check_125 (by decide) ?_
                            refine lv_istore_n (lv' := [(2, .int 0), (4, .int (nI i100)), (1, .int 0), (3, .int (nI i1)), (0, .ref h)]) hx hb dX9_check_126 rfl hl (by decide) rfl (fun ls hl => ?_)
                            refine lv_iinc (v := nI (i100 + 1)) (lv' := [(4, .int (nI (i100 + 1))), (2, .int 0), (1, .int 0), (3, .int (nI i1)), (0, .ref h)]) hx hb dX9_check_127 hl (k := 1) rfl (nI_add i100 1) (by decide) rfl (fun ls hl => ?_)
                            refine lv_goto (tgt := 55) hx hb dX9_check_130 (by decide) ?_
                            exact ih102 (i100 + 1) 0 _ _ _ (by omega) (by omega)  hP hD hS (lv_sub hl [0, 2, 3, 1, 4] rfl)
                          · refine lv_aload_n hx hb dX9_check_89 rfl (lv_at hl 4 rfl) ?_
                            refine va_get (D := (dC, dI)) (ci := 10) (v := .ref (a 7)) (C := RX9) (T := TX9) (N := 46) hx hb hts in_m_check_X9 hown hK hP 0 rfl rfl 7 (by decide) (hts (.fieldLink RX9 31 "ServiceTreeModel" "state" "[I") (by decide +kernel)) (fun _ h9 => h9) rfl dX9_check_90 ?_
                            refine lv_iload_n hx hb dX9_check_93 rfl (lv_at hl 2 rfl) ?_
                            refine va_iald (n := 40) (f := F 7) hx hb hK hP 8 7 rfl rfl (vp_in_nI (n := i1) (by omega) (by decide)) dX9_check_94 ?_
                            refine p1_topr (v := .int x31) (congrArg Value.int ex31.symm) ?_
                            refine lv_iconst (v := 3) hx hb dX9_check_95 (by decide) ?_
                            refine lv_icmp_gt (tgt := 125) hx hb dX9_check_96 (by decide) (fun c114 => ?_) (fun c114 => ?_)
                            · refine lv_iconst (v := 0) hx hb dX9_check_125 (by decide) ?_
                              refine lv_istore_n (lv' := [(2, .int 0), (4, .int (nI i100)), (1, .int 0), (3, .int (nI i1)), (0, .ref h)]) hx hb dX9_check_126 rfl hl (by decide) rfl (fun ls hl => ?_)
                              refine lv_iinc (v := nI (i100 + 1)) (lv' := [(4, .int (nI (i100 + 1))), (2, .int 0), (1, .int 0), (3, .int (nI i1)), (0, .ref h)]) hx hb dX9_check_127 hl (k := 1) rfl (nI_add i100 1) (by decide) rfl (fun ls hl => ?_)
                              refine lv_goto (tgt := 55) hx hb dX9_check_130 (by decide) ?_
                              exact ih102 (i100 + 1) 0 _ _ _ (by omega) (by omega)  hP hD hS (lv_sub hl [0, 2, 3, 1, 4] rfl)
                            · refine lv_aload_n hx hb dX9_check_99 rfl (lv_at hl 4 rfl) ?_
                              refine va_get (D := (dC, dI)) (ci := 10) (v := .ref (a 7)) (C := RX9) (T := TX9) (N := 46) hx hb hts in_m_check_X9 hown hK hP 0 rfl rfl 7 (by decide) (hts (.fieldLink RX9 31 "ServiceTreeModel" "state" "[I") (by decide +kernel)) (fun _ h9 => h9) rfl dX9_check_100 ?_
                              refine lv_iload hx hb dX9_check_103 (lv_at hl 0 rfl) ?_
                              refine va_iald (n := 40) (f := F 7) hx hb hK hP 8 7 rfl rfl (vp_in_nI (n := i100) (by omega) (by decide)) dX9_check_105 ?_
                              refine lv_topi (fun x115 ex115 => ?_)
                              refine lv_iconst (v := 1) hx hb dX9_check_106 (by decide) ?_
                              refine lv_icmp_lt (tgt := 125) hx hb dX9_check_107 (by decide) (fun c116 => ?_) (fun c116 => ?_)
                              · refine lv_iconst (v := 0) hx hb dX9_check_125 (by decide) ?_
                                refine lv_istore_n (lv' := [(2, .int 0), (4, .int (nI i100)), (1, .int 0), (3, .int (nI i1)), (0, .ref h)]) hx hb dX9_check_126 rfl hl (by decide) rfl (fun ls hl => ?_)
                                refine lv_iinc (v := nI (i100 + 1)) (lv' := [(4, .int (nI (i100 + 1))), (2, .int 0), (1, .int 0), (3, .int (nI i1)), (0, .ref h)]) hx hb dX9_check_127 hl (k := 1) rfl (nI_add i100 1) (by decide) rfl (fun ls hl => ?_)
                                refine lv_goto (tgt := 55) hx hb dX9_check_130 (by decide) ?_
                                exact ih102 (i100 + 1) 0 _ _ _ (by omega) (by omega)  hP hD hS (lv_sub hl [0, 2, 3, 1, 4] rfl)
                              · refine lv_aload_n hx hb dX9_check_110 rfl (lv_at hl 4 rfl) ?_
                                refine va_get (D := (dC, dI)) (ci := 10) (v := .ref (a 7)) (C := RX9) (T := TX9) (N := 46) hx hb hts in_m_check_X9 hown hK hP 0 rfl rfl 7 (by decide) (hts (.fieldLink RX9 31 "ServiceTreeModel" "state" "[I") (by decide +kernel)) (fun _ h9 => h9) rfl dX9_check_111 ?_
                                refine lv_iload hx hb dX9_check_114 (lv_at hl 0 rfl) ?_
                                refine va_iald (n := 40) (f := F 7) hx hb hK hP 8 7 rfl rfl (vp_in_nI (n := i100) (by omega) (by decide)) dX9_check_116 ?_
                                refine p1_topr (v := .int x115) (congrArg Value.int ex115.symm) ?_
                                refine lv_iconst (v := 3) hx hb dX9_check_117 (by decide) ?_
                                refine lv_icmp_gt (tgt := 125) hx hb dX9_check_118 (by decide) (fun c118 => ?_) (fun c118 => ?_)
                                · refine lv_iconst (v := 0) hx hb dX9_check_125 (by decide) ?_
                                  refine lv_istore_n (lv' := [(2, .int 0), (4, .int (nI i100)), (1, .int 0), (3, .int (nI i1)), (0, .ref h)]) hx hb dX9_check_126 rfl hl (by decide) rfl (fun ls hl => ?_)
                                  refine lv_iinc (v := nI (i100 + 1)) (lv' := [(4, .int (nI (i100 + 1))), (2, .int 0), (1, .int 0), (3, .int (nI i1)), (0, .ref h)]) hx hb dX9_check_127 hl (k := 1) rfl (nI_add i100 1) (by decide) rfl (fun ls hl => ?_)
                                  refine lv_goto (tgt := 55) hx hb dX9_check_130 (by decide) ?_
                                  exact ih102 (i100 + 1) 0 _ _ _ (by omega) (by omega)  hP hD hS (lv_sub hl [0, 2, 3, 1, 4] rfl)
                                · refine lv_iconst (v := 1) hx hb dX9_check_121 (by decide) ?_
                                  refine lv_goto (tgt := 126) hx hb dX9_check_122 (by decide) ?_
                                  refine lv_istore_n (lv' := [(2, .int 1), (4, .int (nI i100)), (1, .int 0), (3, .int (nI i1)), (0, .ref h)]) hx hb dX9_check_126 rfl hl (by decide) rfl (fun ls hl => ?_)
                                  refine lv_iinc (v := nI (i100 + 1)) (lv' := [(4, .int (nI (i100 + 1))), (2, .int 1), (1, .int 0), (3, .int (nI i1)), (0, .ref h)]) hx hb dX9_check_127 hl (k := 1) rfl (nI_add i100 1) (by decide) rfl (fun ls hl => ?_)
                                  refine lv_goto (tgt := 55) hx hb dX9_check_130 (by decide) ?_
                                  exact ih102 (i100 + 1) 1 _ _ _ (by omega) (by omega)  hP hD hS (lv_sub hl [0, 2, 3, 1, 4] rfl)
                exact lp103 (n + 1) 0 y5 _ _ _ (by omega) (by omega)  hP hD hS hl
              · refine lv_iconst (v := 1) hx hb dX9_check_46 (by decide) ?_
                refine lv_goto (tgt := 51) hx hb dX9_check_47 (by decide) ?_
                refine lv_istore_n (lv' := [(1, .int 1), (3, .int (nI i1)), (2, .int y5), (0, .ref h)]) hx hb dX9_check_51 rfl hl (by decide) rfl (fun ls hl => ?_)
                refine lv_iconst (v := 0) hx hb dX9_check_52 (by decide) ?_
                refine lv_istore (lv' := [(4, .int 0), (1, .int 1), (3, .int (nI i1)), (2, .int y5), (0, .ref h)]) hx hb dX9_check_53 hl (by decide) rfl (fun ls hl => ?_)
                have lp122 : ∀ (fu120 i119 : Nat) (y123 : Int32) (H : Heap) (locs : List Loc) (ls : Array Slot), n < i119 + fu120 → i119 ≤ n → va_P (dC, dI) vwCl (mW h a k F V) H → va_D A (mW h a k F V) → va_S A s.heap H locs → lv_has ls 5 [(4, .int (nI i119)), (1, .int 1), (3, .int (nI i1)), (2, .int y123), (0, .ref h)] → W p l e (headSpec wq_m_check rm_m_check).room s m ([.ref h] : List Value).toArray below meth c H locs 0 0 Q0 (F0 m 55 ls []) := by
                  intro fu120
                  induction fu120 with
                  | zero =>
                    intro i119 y123 H locs ls hf hi
                    exact absurd hf (by omega)
                  | succ fu120 ih121 =>
                    intro i119 y123 H locs ls hfi119 hii119 hP hD hS hl
                    refine lv_iload hx hb dX9_check_55 (lv_at hl 0 rfl) ?_
                    refine lv_aload_n hx hb dX9_check_57 rfl (lv_at hl 4 rfl) ?_
                    refine va_get (D := (dC, dI)) (ci := 10) (v := .int (V 21)) (C := RX9) (T := TX9) (N := 46) hx hb hts in_m_check_X9 hown hK hP 0 rfl rfl 21 (by decide) (hts (.fieldLink RX9 126 "ServiceTreeModel" "services" "I") (by decide +kernel)) (fun _ h9 => h9) rfl dX9_check_58 ?_
                    refine p1_topr (v := .int (nI n)) (congrArg Value.int hI.1.2.1) ?_
                    refine lv_icmp_ge (tgt := 133) hx hb dX9_check_61 (by decide) (fun c124 => ?_) (fun c124 => ?_)
                    · replace c124 : n ≤ i119 := (nI_leI (a := n) (b := i119) (by omega) (by omega)).mp c124
                      refine lv_iinc (v := nI (i1 + 1)) (lv' := [(3, .int (nI (i1 + 1))), (4, .int (nI i119)), (1, .int 1), (2, .int y123), (0, .ref h)]) hx hb dX9_check_133 hl (k := 2) rfl (nI_add i1 1) (by decide) rfl (fun ls hl => ?_)
                      refine lv_goto (tgt := 6) hx hb dX9_check_136 (by decide) ?_
                      exact ih3 (i1 + 1) y123 1 _ _ _ (by omega) (by omega)  hP hD hS (lv_sub hl [0, 3, 2, 4] rfl)
                    · replace c124 : ¬ (n ≤ i119) := fun q9 => c124 ((nI_leI (a := n) (b := i119) (by omega) (by omega)).mpr q9)
                      refine lv_iload_n hx hb dX9_check_64 rfl (lv_at hl 3 rfl) ?_
                      refine lv_if_ne (tgt := 121) hx hb dX9_check_65 (by decide) (fun c125 => ?_) (fun c125 => ?_)
                      · refine lv_iconst (v := 1) hx hb dX9_check_121 (by decide) ?_
                        refine lv_goto (tgt := 126) hx hb dX9_check_122 (by decide) ?_
                        refine lv_istore_n (lv' := [(2, .int 1), (4, .int (nI i119)), (1, .int 1), (3, .int (nI i1)), (0, .ref h)]) hx hb dX9_check_126 rfl hl (by decide) rfl (fun ls hl => ?_)
                        refine lv_iinc (v := nI (i119 + 1)) (lv' := [(4, .int (nI (i119 + 1))), (2, .int 1), (1, .int 1), (3, .int (nI i1)), (0, .ref h)]) hx hb dX9_check_127 hl (k := 1) rfl (nI_add i119 1) (by decide) rfl (fun ls hl => ?_)
                        refine lv_goto (tgt := 55) hx hb dX9_check_130 (by decide) ?_
                        exact ih121 (i119 + 1) 1 _ _ _ (by omega) (by omega)  hP hD hS (lv_sub hl [0, 2, 3, 1, 4] rfl)
                      · refine lv_aload_n hx hb dX9_check_68 rfl (lv_at hl 4 rfl) ?_
                        refine lv_iconst (v := 3) hx hb dX9_check_69 (by decide) ?_
                        refine lv_iload_n hx hb dX9_check_70 rfl (lv_at hl 2 rfl) ?_
                        refine lv_iload hx hb dX9_check_71 (lv_at hl 0 rfl) ?_
                        have hFc := mw_free hD hS hA
                        refine va_calli (va_runV (As := [.int 3, .int (nI i1), .int (nI i119)]) (rest := []) ⟨hx, hb, hml, hown, hts⟩ (c_m_has l dC dI h a k F V n (b) 3 i1 i119 H.size hI.1 (by omega) (by omega) (by omega) (by omega)) (cwV 3 hts wc_m_check_m_has_150 rfl rfl rfl (by decide +kernel) ⟨Nat.le_of_ble_eq_true rfl, Nat.le_of_ble_eq_true rfl⟩) ⟨fun a9 U g mk q => by obtain ⟨q0, q1, qP, qK, qD⟩ := q; exact ⟨q0, q1, qP, va_K.moved (u := U) (U := U.calling g mk a9) (Vm.Alike.refl U.vm) qK, qD⟩, va_recv hK hP (ci := 10) (q0 := 0) rfl rfl, fun U hU hW => ⟨rfl, by rw [hU], by rw [hU]; exact hP, va_K.moved hW.alike hK, hD.weaken (fun _ _ _ _ => trivial)⟩⟩ rfl rfl hl.1 rfl (lv_room (Nat.le_of_ble_eq_true rfl)) dX9_check_73 ⟨Nat.le_of_ble_eq_true rfl, Nat.le_of_ble_eq_true rfl⟩) hS (fun q _ h => hFc q h) hFc (fun r126 u t H1 locs ht hvm hw hB hz1 hk1 hS => ?_)
                        obtain ⟨F127, V128⟩ := u
                        replace hP := hB.1
                        rw [ht] at hP
                        replace hD : va_D A (mW h a k F127 V128) := hB.2.weaken (fun _ q _ h9 => hFc q.1 h9)
                        clear hB
                        generalize H1 = H at hP hS ⊢
                        replace hP : va_P (dC, dI) vwCl (mW h a k F127 V128) H := hP
                        obtain ⟨hwF, hwV, hw⟩ : F127 = F ∧ V128 = V ∧ _ := hw
                        rw [hwF, hwV] at hP hD
                        have br126 := hw
                        refine lv_if_eq (tgt := 125) hx hb dX9_check_76 (by decide) (fun c129 => ?_) (fun c129 => ?_)
                        · refine lv_iconst (v := 0) hx hb dX9_check_125 (by decide) ?_
                          refine lv_istore_n (lv' := [(2, .int 0), (4, .int (nI i119)), (1, .int 1), (3, .int (nI i1)), (0, .ref h)]) hx hb dX9_check_126 rfl hl (by decide) rfl (fun ls hl => ?_)
                          refine lv_iinc (v := nI (i119 + 1)) (lv' := [(4, .int (nI (i119 + 1))), (2, .int 0), (1, .int 1), (3, .int (nI i1)), (0, .ref h)]) hx hb dX9_check_127 hl (k := 1) rfl (nI_add i119 1) (by decide) rfl (fun ls hl => ?_)
                          refine lv_goto (tgt := 55) hx hb dX9_check_130 (by decide) ?_
                          exact ih121 (i119 + 1) 0 _ _ _ (by omega) (by omega)  hP hD hS (lv_sub hl [0, 2, 3, 1, 4] rfl)
                        · refine lv_aload_n hx hb dX9_check_79 rfl (lv_at hl 4 rfl) ?_
                          refine va_get (D := (dC, dI)) (ci := 10) (v := .ref (a 7)) (C := RX9) (T := TX9) (N := 46) hx hb hts in_m_check_X9 hown hK hP 0 rfl rfl 7 (by decide) (hts (.fieldLink RX9 31 "ServiceTreeModel" "state" "[I") (by decide +kernel)) (fun _ h9 => h9) rfl dX9_check_80 ?_
                          refine lv_iload_n hx hb dX9_check_83 rfl (lv_at hl 2 rfl) ?_
                          refine va_iald (n := 40) (f := F 7) hx hb hK hP 8 7 rfl rfl (vp_in_nI (n := i1) (by omega) (by decide)) dX9_check_84 ?_
                          refine p1_topr (v := .int x31) (congrArg Value.int ex31.symm) ?_
                          refine lv_iconst (v := 1) hx hb dX9_check_85 (by decide) ?_
                          refine lv_icmp_lt (tgt := 125) hx hb dX9_check_86 (by decide) (fun c131 => ?_) (fun c131 => ?_)
                          · refine lv_iconst (v := 0) hx hb dX9_check_125 (by decide) ?_
                            refine lv_istore_n (lv' := [(2, .int 0), (4, .int (nI i119)), (1, .int 1), (3, .int (nI i1)), (0, .ref h)]) hx hb dX9_check_126 rfl hl (by decide) rfl (fun ls hl => ?_)
                            refine lv_iinc (v := nI (i119 + 1)) (lv' := [(4, .int (nI (i119 + 1))), (2, .int 0), (1, .int 1), (3, .int (nI i1)), (0, .ref h)]) hx hb dX9_check_127 hl (k := 1) rfl (nI_add i119 1) (by decide) rfl (fun ls hl => ?_)
                            refine lv_goto (tgt := 55) hx hb dX9_check_130 (by decide) ?_
                            exact ih121 (i119 + 1) 0 _ _ _ (by omega) (by omega)  hP hD hS (lv_sub hl [0, 2, 3, 1, 4] rfl)
                          · refine lv_aload_n hx hb dX9_check_89 rfl (lv_at hl 4 rfl) ?_
                            refine va_get (D := (dC, dI)) (ci := 10) (v := .ref (a 7)) (C := RX9) (T := TX9) (N := 46) hx hb hts in_m_check_X9 hown hK hP 0 rfl rfl 7 (by decide) (hts (.fieldLink RX9 31 "ServiceTreeModel" "state" "[I") (by decide +kernel)) (fun _ h9 => h9) rfl dX9_check_90 ?_
                            refine lv_iload_n hx hb dX9_check_93 rfl (lv_at hl 2 rfl) ?_
                            refine va_iald (n := 40) (f := F 7) hx hb hK hP 8 7 rfl rfl (vp_in_nI (n := i1) (by omega) (by decide)) dX9_check_94 ?_
                            refine p1_topr (v := .int x31) (congrArg Value.int ex31.symm) ?_
                            refine lv_iconst (v := 3) hx hb dX9_check_95 (by decide) ?_
                            refine lv_icmp_gt (tgt := 125) hx hb dX9_check_96 (by decide) (fun c133 => ?_) (fun c133 => ?_)
                            · refine lv_iconst (v := 0) hx hb dX9_check_125 (by decide) ?_
                              refine lv_istore_n (lv' := [(2, .int 0), (4, .int (nI i119)), (1, .int 1), (3, .int (nI i1)), (0, .ref h)]) hx hb dX9_check_126 rfl hl (by decide) rfl (fun ls hl => ?_)
                              refine lv_iinc (v := nI (i119 + 1)) (lv' := [(4, .int (nI (i119 + 1))), (2, .int 0), (1, .int 1), (3, .int (nI i1)), (0, .ref h)]) hx hb dX9_check_127 hl (k := 1) rfl (nI_add i119 1) (by decide) rfl (fun ls hl => ?_)
                              refine lv_goto (tgt := 55) hx hb dX9_check_130 (by decide) ?_
                              exact ih121 (i119 + 1) 0 _ _ _ (by omega) (by omega)  hP hD hS (lv_sub hl [0, 2, 3, 1, 4] rfl)
                            · refine lv_aload_n hx hb dX9_check_99 rfl (lv_at hl 4 rfl) ?_
                              refine va_get (D := (dC, dI)) (ci := 10) (v := .ref (a 7)) (C := RX9) (T := TX9) (N := 46) hx hb hts in_m_check_X9 hown hK hP 0 rfl rfl 7 (by decide) (hts (.fieldLink RX9 31 "ServiceTreeModel" "state" "[I") (by decide +kernel)) (fun _ h9 => h9) rfl dX9_check_100 ?_
                              refine lv_iload hx hb dX9_check_103 (lv_at hl 0 rfl) ?_
                              refine va_iald (n := 40) (f := F 7) hx hb hK hP 8 7 rfl rfl (vp_in_nI (n := i119) (by omega) (by decide)) dX9_check_105 ?_
                              refine lv_topi (fun x134 ex134 => ?_)
                              refine lv_iconst (v := 1) hx hb dX9_check_106 (by decide) ?_
                              refine lv_icmp_lt (tgt := 125) hx hb dX9_check_107 (by decide) (fun c135 => ?_) (fun c135 => ?_)
                              · refine lv_iconst (v := 0) hx hb dX9_check_125 (by decide) ?_
                                refine lv_istore_n (lv' := [(2, .int 0), (4, .int (nI i119)), (1, .int 1), (3, .int (nI i1)), (0, .ref h)]) hx hb dX9_check_126 rfl hl (by decide) rfl (fun ls hl => ?_)
                                refine lv_iinc (v := nI (i119 + 1)) (lv' := [(4, .int (nI (i119 + 1))), (2, .int 0), (1, .int 1), (3, .int (nI i1)), (0, .ref h)]) hx hb dX9_check_127 hl (k := 1) rfl (nI_add i119 1) (by decide) rfl (fun ls hl => ?_)
                                refine lv_goto (tgt := 55) hx hb dX9_check_130 (by decide) ?_
                                exact ih121 (i119 + 1) 0 _ _ _ (by omega) (by omega)  hP hD hS (lv_sub hl [0, 2, 3, 1, 4] rfl)
                              · refine lv_aload_n hx hb dX9_check_110 rfl (lv_at hl 4 rfl) ?_
                                refine va_get (D := (dC, dI)) (ci := 10) (v := .ref (a 7)) (C := RX9) (T := TX9) (N := 46) hx hb hts in_m_check_X9 hown hK hP 0 rfl rfl 7 (by decide) (hts (.fieldLink RX9 31 "ServiceTreeModel" "state" "[I") (by decide +kernel)) (fun _ h9 => h9) rfl dX9_check_111 ?_
                                refine lv_iload hx hb dX9_check_114 (lv_at hl 0 rfl) ?_
                                refine va_iald (n := 40) (f := F 7) hx hb hK hP 8 7 rfl rfl (vp_in_nI (n := i119) (by omega) (by decide)) dX9_check_116 ?_
                                refine p1_topr (v := .int x134) (congrArg Value.int ex134.symm) ?_
                                refine lv_iconst (v := 3) hx hb dX9_check_117 (by decide) ?_
                                refine lv_icmp_gt (tgt := 125) hx hb dX9_check_118 (by decide) (fun c137 => ?_) (fun c137 => ?_)
                                · refine lv_iconst (v := 0) hx hb dX9_check_125 (by decide) ?_
                                  refine lv_istore_n (lv' := [(2, .int 0), (4, .int (nI i119)), (1, .int 1), (3, .int (nI i1)), (0, .ref h)]) hx hb dX9_check_126 rfl hl (by decide) rfl (fun ls hl => ?_)
                                  refine lv_iinc (v := nI (i119 + 1)) (lv' := [(4, .int (nI (i119 + 1))), (2, .int 0), (1, .int 1), (3, .int (nI i1)), (0, .ref h)]) hx hb dX9_check_127 hl (k := 1) rfl (nI_add i119 1) (by decide) rfl (fun ls hl => ?_)
                                  refine lv_goto (tgt := 55) hx hb dX9_check_130 (by decide) ?_
                                  exact ih121 (i119 + 1) 0 _ _ _ (by omega) (by omega)  hP hD hS (lv_sub hl [0, 2, 3, 1, 4] rfl)
                                · refine lv_iconst (v := 1) hx hb dX9_check_121 (by decide) ?_
                                  refine lv_goto (tgt := 126) hx hb dX9_check_122 (by decide) ?_
                                  refine lv_istore_n (lv' := [(2, .int 1), (4, .int (nI i119)), (1, .int 1), (3, .int (nI i1)), (0, .ref h)]) hx hb dX9_check_126 rfl hl (by decide) rfl (fun ls hl => ?_)
                                  refine lv_iinc (v := nI (i119 + 1)) (lv' := [(4, .int (nI (i119 + 1))), (2, .int 1), (1, .int 1), (3, .int (nI i1)), (0, .ref h)]) hx hb dX9_check_127 hl (k := 1) rfl (nI_add i119 1) (by decide) rfl (fun ls hl => ?_)
                                  refine lv_goto (tgt := 55) hx hb dX9_check_130 (by decide) ?_
                                  exact ih121 (i119 + 1) 1 _ _ _ (by omega) (by omega)  hP hD hS (lv_sub hl [0, 2, 3, 1, 4] rfl)
                exact lp122 (n + 1) 0 y5 _ _ _ (by omega) (by omega)  hP hD hS hl
  exact lp4 (n + 1) 0 0 0 _ _ _ (by omega) (by omega)  hP hD hS hl
def wq_m_reckon : List Cond := [.code yX9_reckon cX9_reckon 5 none, .fieldLink RX9 126 "ServiceTreeModel" "services" "I", .fieldLink RX9 114 "ServiceTreeModel" "begins" "[I", .fieldLink RX9 111 "ServiceTreeModel" "ends" "[I", .fieldLink RX9 86 "ServiceTreeModel" "newJob" "[I", .fieldLink RX9 31 "ServiceTreeModel" "state" "[I", .fieldLink RX9 16 "ServiceTreeModel" "stop" "[I", .fieldLink RX9 13 "ServiceTreeModel" "start" "[I", .methodLink RX9 167 yX9_waitsAmong, .instanceMethod yX9_waitsAmong, .selects RX9 yX9_waitsAmong yX9_waitsAmong, .initialized RX9] ++ (wsX90 ++ (wq_m_waitsAmong_newJob))
theorem in_m_reckon_X9 : ∀ w ∈ wsX90, w ∈ wq_m_reckon := fun _ h => List.mem_append_right _ (List.mem_append_left _ (h))
set_option maxRecDepth 20000 in
theorem wi_m_reckon : ∀ w ∈ wq_m_reckon, w ∈ lw_tbl := List.forall_mem_append.mpr ⟨(by decide +kernel), List.forall_mem_append.mpr ⟨inKX9, wi_m_waitsAmong_newJob⟩⟩
set_option maxRecDepth 20000 in
theorem wg_m_reckon : GoodIn wq_m_reckon wq_m_reckon := goodIn_sub (fun _ h => h) (by decide +kernel)
set_option maxRecDepth 20000 in
theorem wc_m_reckon_m_waitsAmong_newJob_167 : GoodIn wq_m_reckon (wsV RX9 167 RX9 yX9_waitsAmong wq_m_waitsAmong_newJob) := goodIn_app (goodIn_of _ (by decide +kernel)) (fun w h => ⟨List.mem_append_right _ (List.mem_append_right _ (h)), (wg_m_waitsAmong_newJob w h).2⟩)
def rm_m_reckon : Room := { frames := 2, cells := 0, slots := 0, locals := 46 }
set_option maxHeartbeats 4000000 in
set_option maxRecDepth 100000 in
theorem c_m_reckon (l : Launch) (dC : Nat → ClassId) (dI : Nat → Nat → Nat) (h : Nat) (a : Nat → Nat) (k : Nat → ClassId) (F : Nat → Nat → Int32) (V : Nat → Int32) (n b : Nat) (sv : Nat) (sz : Nat) (hI0 : InvM n b F V) (hb0 : b + 0 < 2147483648) (hp0 : sv < n) : Met l yX9_reckon wq_m_reckon rm_m_reckon (va_Pc [.ref h, .int (nI sv)] (fun U => U.heap.size = sz ∧ va_P (dC, dI) vwCl (mW h a k F V) U.heap ∧ va_K (dC, dI) vwCl (mT k) U ∧ va_D (fun _ => True) (mW h a k F V))) (va_Qv (fun (u : (Nat → Nat → Int32) × (Nat → Int32)) => StM n (b + 0) F V u.1 u.2 ∧ (∀ j : Nat, j ∉ ([40, 41] : List Nat) → u.1 j = F j) ∧ (∀ j : Nat, j ∉ ([] : List Nat) → u.2 j = V j) ∧ (True)) (fun (u : (Nat → Nat → Int32) × (Nat → Int32)) (t : State) => va_P (dC, dI) vwCl (mW h a k u.1 u.2) t.heap ∧ va_D (va_A (mW h a k F V) sz) (mW h a k u.1 u.2)) (va_A (mW h a k F V) sz)) 0 0 (va_A (mW h a k F V) sz) := by
  have hn : n ≤ 40 := hI0.1
  have hI : StM n b F V F V := StM.rf hI0
  have hU : ∀ j : Nat, j ∉ ([40, 41] : List Nat) → F j = F j := fun _ _ => rfl
  have hV : ∀ j : Nat, j ∉ ([] : List Nat) → V j = V j := fun _ _ => rfl
  refine Met.ofW (cc := cX9_reckon) (maxL := 5) (ret := none) (by decide) rfl ?_
  intro p e s m args below meth c s₁ B hml hv
  obtain ⟨rfl, hsz, hP, hK, hD0⟩ := hv
  have hx := B.exec
  have hb := B.bytes
  have hr := B.returns
  have hts := atoms_spec (ws := wq_m_reckon) B.pre
  have hown : s.vm.findClass RX9 = some m.cls := findClass_of_methodNamed B.named
  have hlocks := B.notSynchronized
  subst hsz
  have hD := hD0.self (sz := s.heap.size)
  generalize hAe : va_A (mW h a k F V) s.heap.size = A at hD ⊢
  have hA : ∀ q : Nat, s.heap.size ≤ q → A q := fun q h => by rw [← hAe]; exact Or.inr h
  have hS : va_S A s.heap s.heap [] := va_S.rf
  have hl := lv_entry ([.ref h, .int (nI sv)]) (n := 5) (Nat.le_of_ble_eq_true rfl)
  rw [lg_entry_eq]
  generalize (lg_sl ([.ref h, .int (nI sv)]) ++ List.replicate (5 - (lg_sl ([.ref h, .int (nI sv)])).length) Slot.unset).toArray = ls at hl ⊢
  have hl : lv_has ls 5 [(0, .ref h), (1, .int (nI sv))] := hl
  refine mw_Q (fun Q0 hQ => ?_)
  refine lv_iconst (v := 0) hx hb dX9_reckon_0 (by decide) ?_
  refine lv_istore_n (lv' := [(2, .int 0), (0, .ref h), (1, .int (nI sv))]) hx hb dX9_reckon_1 rfl hl (by decide) rfl (fun ls hl => ?_)
  refine lv_iconst (v := 1) hx hb dX9_reckon_2 (by decide) ?_
  refine lv_istore_n (lv' := [(3, .int 1), (2, .int 0), (0, .ref h), (1, .int (nI sv))]) hx hb dX9_reckon_3 rfl hl (by decide) rfl (fun ls hl => ?_)
  refine lv_iconst (v := 0) hx hb dX9_reckon_4 (by decide) ?_
  refine lv_istore (lv' := [(4, .int 0), (3, .int 1), (2, .int 0), (0, .ref h), (1, .int (nI sv))]) hx hb dX9_reckon_5 hl (by decide) rfl (fun ls hl => ?_)
  have lp4 : ∀ (fu2 i1 : Nat) (y5 : Int32) (y6 : Int32) (H : Heap) (locs : List Loc) (ls : Array Slot), n < i1 + fu2 → i1 ≤ n → va_P (dC, dI) vwCl (mW h a k F V) H → va_D A (mW h a k F V) → va_S A s.heap H locs → lv_has ls 5 [(4, .int (nI i1)), (3, .int y5), (2, .int y6), (0, .ref h), (1, .int (nI sv))] → W p l e (headSpec wq_m_reckon rm_m_reckon).room s m ([.ref h, .int (nI sv)] : List Value).toArray below meth c H locs 0 0 Q0 (F0 m 7 ls []) := by
    intro fu2
    induction fu2 with
    | zero =>
      intro i1 y5 y6 H locs ls hf hi
      exact absurd hf (by omega)
    | succ fu2 ih3 =>
      intro i1 y5 y6 H locs ls hfi1 hii1 hP hD hS hl
      refine lv_iload hx hb dX9_reckon_7 (lv_at hl 0 rfl) ?_
      refine lv_aload_n hx hb dX9_reckon_9 rfl (lv_at hl 3 rfl) ?_
      refine va_get (D := (dC, dI)) (ci := 10) (v := .int (V 21)) (C := RX9) (T := TX9) (N := 46) hx hb hts in_m_reckon_X9 hown hK hP 0 rfl rfl 21 (by decide) (hts (.fieldLink RX9 126 "ServiceTreeModel" "services" "I") (by decide +kernel)) (fun _ h9 => h9) rfl dX9_reckon_10 ?_
      refine p1_topr (v := .int (nI n)) (congrArg Value.int hI.1.2.1) ?_
      refine lv_icmp_ge (tgt := 79) hx hb dX9_reckon_13 (by decide) (fun c7 => ?_) (fun c7 => ?_)
      · replace c7 : n ≤ i1 := (nI_leI (a := n) (b := i1) (by omega) (by omega)).mp c7
        refine lv_iload_n hx hb dX9_reckon_79 rfl (lv_at hl 1 rfl) ?_
        refine lv_if_eq (tgt := 137) hx hb dX9_reckon_80 (by decide) (fun c8 => ?_) (fun c8 => ?_)
        · rw [hQ]
          exact W.vret hx hb hr (fun t ht hW => ⟨⟨(F, V), rfl, ⟨hI.mono (by omega), hU, hV, trivial⟩, by rw [ht]; exact hP, hD⟩, hS.F ht⟩) hS.2.2 dX9_reckon_137
        · refine lv_aload_n hx hb dX9_reckon_83 rfl (lv_at hl 3 rfl) ?_
          refine va_get (D := (dC, dI)) (ci := 10) (v := .ref (a 41)) (C := RX9) (T := TX9) (N := 46) hx hb hts in_m_reckon_X9 hown hK hP 0 rfl rfl 41 (by decide) (hts (.fieldLink RX9 114 "ServiceTreeModel" "begins" "[I") (by decide +kernel)) (fun _ h9 => h9) rfl dX9_reckon_84 ?_
          refine lv_iload_n hx hb dX9_reckon_87 rfl (lv_at hl 4 rfl) ?_
          refine lv_iload_n hx hb dX9_reckon_88 rfl (lv_at hl 2 rfl) ?_
          refine va_iast (n := 40) (f := F 41) hx hb hK hP hD hS 34 33 rfl rfl (vp_in_nI (n := sv) (by omega) (by decide)) dX9_reckon_89 (fun H locs hP hD hS => ?_)
          rw [mW_set_41] at hP hD
          obtain ⟨F9, eF9⟩ : ∃ f9 : Nat → Nat → Int32, f9 = va_up F 41 (upd (F 41) (nI sv).toNatClampNeg y6) := ⟨_, rfl⟩
          rw [← eF9] at hP hD
          replace hI : StM n (b) F V F9 V := ⟨by rw [eF9]; exact hI.1.setF (by decide), trivial⟩
          replace hU : ∀ j : Nat, j ∉ ([40, 41] : List Nat) → F9 j = F j := by rw [eF9]; exact mw_up (by decide) hU
          refine lv_aload_n hx hb dX9_reckon_90 rfl (lv_at hl 3 rfl) ?_
          refine va_get (D := (dC, dI)) (ci := 10) (v := .ref (a 40)) (C := RX9) (T := TX9) (N := 46) hx hb hts in_m_reckon_X9 hown hK hP 0 rfl rfl 40 (by decide) (hts (.fieldLink RX9 111 "ServiceTreeModel" "ends" "[I") (by decide +kernel)) (fun _ h9 => h9) rfl dX9_reckon_91 ?_
          refine lv_iload_n hx hb dX9_reckon_94 rfl (lv_at hl 4 rfl) ?_
          refine lv_iload_n hx hb dX9_reckon_95 rfl (lv_at hl 2 rfl) ?_
          refine lv_aload_n hx hb dX9_reckon_96 rfl (lv_at hl 3 rfl) ?_
          refine va_get (D := (dC, dI)) (ci := 10) (v := .ref (a 30)) (C := RX9) (T := TX9) (N := 46) hx hb hts in_m_reckon_X9 hown hK hP 0 rfl rfl 30 (by decide) (hts (.fieldLink RX9 86 "ServiceTreeModel" "newJob" "[I") (by decide +kernel)) (fun _ h9 => h9) rfl dX9_reckon_97 ?_
          refine lv_iload_n hx hb dX9_reckon_100 rfl (lv_at hl 4 rfl) ?_
          refine va_iald (n := 40) (f := F9 30) hx hb hK hP 26 25 rfl rfl (vp_in_nI (n := sv) (by omega) (by decide)) dX9_reckon_101 ?_
          refine lv_topi (fun x10 ex10 => ?_)
          refine lv_iconst (v := 1) hx hb dX9_reckon_102 (by decide) ?_
          refine lv_icmp_ne (tgt := 115) hx hb dX9_reckon_103 (by decide) (fun c11 => ?_) (fun c11 => ?_)
          · refine lv_aload_n hx hb dX9_reckon_115 rfl (lv_at hl 3 rfl) ?_
            refine va_get (D := (dC, dI)) (ci := 10) (v := .ref (a 7)) (C := RX9) (T := TX9) (N := 46) hx hb hts in_m_reckon_X9 hown hK hP 0 rfl rfl 7 (by decide) (hts (.fieldLink RX9 31 "ServiceTreeModel" "state" "[I") (by decide +kernel)) (fun _ h9 => h9) rfl dX9_reckon_116 ?_
            refine lv_iload_n hx hb dX9_reckon_119 rfl (lv_at hl 4 rfl) ?_
            refine va_iald (n := 40) (f := F9 7) hx hb hK hP 8 7 rfl rfl (vp_in_nI (n := sv) (by omega) (by decide)) dX9_reckon_120 ?_
            refine lv_topi (fun x12 ex12 => ?_)
            refine lv_iconst (v := 5) hx hb dX9_reckon_121 (by decide) ?_
            refine lv_icmp_ne (tgt := 129) hx hb dX9_reckon_122 (by decide) (fun c13 => ?_) (fun c13 => ?_)
            · refine lv_aload_n hx hb dX9_reckon_129 rfl (lv_at hl 3 rfl) ?_
              refine va_get (D := (dC, dI)) (ci := 10) (v := .ref (a 2)) (C := RX9) (T := TX9) (N := 46) hx hb hts in_m_reckon_X9 hown hK hP 0 rfl rfl 2 (by decide) (hts (.fieldLink RX9 16 "ServiceTreeModel" "stop" "[I") (by decide +kernel)) (fun _ h9 => h9) rfl dX9_reckon_130 ?_
              refine lv_iload_n hx hb dX9_reckon_133 rfl (lv_at hl 4 rfl) ?_
              refine va_iald (n := 40) (f := F9 2) hx hb hK hP 3 2 rfl rfl (vp_in_nI (n := sv) (by omega) (by decide)) dX9_reckon_134 ?_
              refine lv_topi (fun x14 ex14 => ?_)
              refine lv_iadd hx hb dX9_reckon_135 ?_
              refine lv_topi (fun x15 ex15 => ?_)
              refine va_iast (n := 40) (f := F9 40) hx hb hK hP hD hS 33 32 rfl rfl (vp_in_nI (n := sv) (by omega) (by decide)) dX9_reckon_136 (fun H locs hP hD hS => ?_)
              rw [mW_set_40] at hP hD
              obtain ⟨F16, eF16⟩ : ∃ f9 : Nat → Nat → Int32, f9 = va_up F9 40 (upd (F9 40) (nI sv).toNatClampNeg x15) := ⟨_, rfl⟩
              rw [← eF16] at hP hD
              replace hI : StM n (b) F V F16 V := ⟨by rw [eF16]; exact hI.1.setF (by decide), trivial⟩
              replace hU : ∀ j : Nat, j ∉ ([40, 41] : List Nat) → F16 j = F j := by rw [eF16]; exact mw_up (by decide) hU
              rw [hQ]
              exact W.vret hx hb hr (fun t ht hW => ⟨⟨(F16, V), rfl, ⟨hI.mono (by omega), hU, hV, trivial⟩, by rw [ht]; exact hP, hD⟩, hS.F ht⟩) hS.2.2 dX9_reckon_137
            · refine lv_iconst (v := 0) hx hb dX9_reckon_125 (by decide) ?_
              refine lv_goto (tgt := 135) hx hb dX9_reckon_126 (by decide) ?_
              refine lv_iadd hx hb dX9_reckon_135 ?_
              refine lv_topi (fun x17 ex17 => ?_)
              refine va_iast (n := 40) (f := F9 40) hx hb hK hP hD hS 33 32 rfl rfl (vp_in_nI (n := sv) (by omega) (by decide)) dX9_reckon_136 (fun H locs hP hD hS => ?_)
              rw [mW_set_40] at hP hD
              obtain ⟨F18, eF18⟩ : ∃ f9 : Nat → Nat → Int32, f9 = va_up F9 40 (upd (F9 40) (nI sv).toNatClampNeg x17) := ⟨_, rfl⟩
              rw [← eF18] at hP hD
              replace hI : StM n (b) F V F18 V := ⟨by rw [eF18]; exact hI.1.setF (by decide), trivial⟩
              replace hU : ∀ j : Nat, j ∉ ([40, 41] : List Nat) → F18 j = F j := by rw [eF18]; exact mw_up (by decide) hU
              rw [hQ]
              exact W.vret hx hb hr (fun t ht hW => ⟨⟨(F18, V), rfl, ⟨hI.mono (by omega), hU, hV, trivial⟩, by rw [ht]; exact hP, hD⟩, hS.F ht⟩) hS.2.2 dX9_reckon_137
          · refine lv_aload_n hx hb dX9_reckon_106 rfl (lv_at hl 3 rfl) ?_
            refine va_get (D := (dC, dI)) (ci := 10) (v := .ref (a 1)) (C := RX9) (T := TX9) (N := 46) hx hb hts in_m_reckon_X9 hown hK hP 0 rfl rfl 1 (by decide) (hts (.fieldLink RX9 13 "ServiceTreeModel" "start" "[I") (by decide +kernel)) (fun _ h9 => h9) rfl dX9_reckon_107 ?_
            refine lv_iload_n hx hb dX9_reckon_110 rfl (lv_at hl 4 rfl) ?_
            refine va_iald (n := 40) (f := F9 1) hx hb hK hP 2 1 rfl rfl (vp_in_nI (n := sv) (by omega) (by decide)) dX9_reckon_111 ?_
            refine lv_topi (fun x19 ex19 => ?_)
            refine lv_goto (tgt := 135) hx hb dX9_reckon_112 (by decide) ?_
            refine lv_iadd hx hb dX9_reckon_135 ?_
            refine lv_topi (fun x20 ex20 => ?_)
            refine va_iast (n := 40) (f := F9 40) hx hb hK hP hD hS 33 32 rfl rfl (vp_in_nI (n := sv) (by omega) (by decide)) dX9_reckon_136 (fun H locs hP hD hS => ?_)
            rw [mW_set_40] at hP hD
            obtain ⟨F21, eF21⟩ : ∃ f9 : Nat → Nat → Int32, f9 = va_up F9 40 (upd (F9 40) (nI sv).toNatClampNeg x20) := ⟨_, rfl⟩
            rw [← eF21] at hP hD
            replace hI : StM n (b) F V F21 V := ⟨by rw [eF21]; exact hI.1.setF (by decide), trivial⟩
            replace hU : ∀ j : Nat, j ∉ ([40, 41] : List Nat) → F21 j = F j := by rw [eF21]; exact mw_up (by decide) hU
            rw [hQ]
            exact W.vret hx hb hr (fun t ht hW => ⟨⟨(F21, V), rfl, ⟨hI.mono (by omega), hU, hV, trivial⟩, by rw [ht]; exact hP, hD⟩, hS.F ht⟩) hS.2.2 dX9_reckon_137
      · replace c7 : ¬ (n ≤ i1) := fun q9 => c7 ((nI_leI (a := n) (b := i1) (by omega) (by omega)).mpr q9)
        refine lv_aload_n hx hb dX9_reckon_16 rfl (lv_at hl 3 rfl) ?_
        refine lv_aload_n hx hb dX9_reckon_17 rfl (lv_at hl 3 rfl) ?_
        refine va_get (D := (dC, dI)) (ci := 10) (v := .ref (a 30)) (C := RX9) (T := TX9) (N := 46) hx hb hts in_m_reckon_X9 hown hK hP 0 rfl rfl 30 (by decide) (hts (.fieldLink RX9 86 "ServiceTreeModel" "newJob" "[I") (by decide +kernel)) (fun _ h9 => h9) rfl dX9_reckon_18 ?_
        refine lv_iload_n hx hb dX9_reckon_21 rfl (lv_at hl 4 rfl) ?_
        refine lv_iload hx hb dX9_reckon_22 (lv_at hl 0 rfl) ?_
        have hFc := mw_free hD hS hA
        refine va_calli (va_runV (As := [.ref (a 30), .int (nI sv), .int (nI i1)]) (rest := []) ⟨hx, hb, hml, hown, hts⟩ (c_m_waitsAmong_newJob l dC dI h a k F V n (b) sv i1 H.size hI.1 (by omega) (by omega) (by omega)) (cwV 3 hts wc_m_reckon_m_waitsAmong_newJob_167 rfl rfl rfl (by decide +kernel) ⟨Nat.le_of_ble_eq_true rfl, Nat.le_of_ble_eq_true rfl⟩) ⟨fun a9 U g mk q => by obtain ⟨q0, q1, qP, qK, qD⟩ := q; exact ⟨q0, q1, qP, va_K.moved (u := U) (U := U.calling g mk a9) (Vm.Alike.refl U.vm) qK, qD⟩, va_recv hK hP (ci := 10) (q0 := 0) rfl rfl, fun U hU hW => ⟨rfl, by rw [hU], by rw [hU]; exact hP, va_K.moved hW.alike hK, hD.weaken (fun _ _ _ _ => trivial)⟩⟩ rfl rfl hl.1 rfl (lv_room (Nat.le_of_ble_eq_true rfl)) dX9_reckon_24 ⟨Nat.le_of_ble_eq_true rfl, Nat.le_of_ble_eq_true rfl⟩) hS (fun q _ h => hFc q h) hFc (fun r22 u t H1 locs ht hvm hw hB hz1 hk1 hS => ?_)
        obtain ⟨F23, V24⟩ := u
        replace hP := hB.1
        rw [ht] at hP
        replace hD : va_D A (mW h a k F23 V24) := hB.2.weaken (fun _ q _ h9 => hFc q.1 h9)
        clear hB
        generalize H1 = H at hP hS ⊢
        replace hP : va_P (dC, dI) vwCl (mW h a k F23 V24) H := hP
        obtain ⟨hwF, hwV, hw⟩ : F23 = F ∧ V24 = V ∧ _ := hw
        rw [hwF, hwV] at hP hD
        have br22 := hw
        refine lv_if_eq (tgt := 73) hx hb dX9_reckon_27 (by decide) (fun c25 => ?_) (fun c25 => ?_)
        · refine lv_iinc (v := nI (i1 + 1)) (lv' := [(4, .int (nI (i1 + 1))), (3, .int y5), (2, .int y6), (0, .ref h), (1, .int (nI sv))]) hx hb dX9_reckon_73 hl (k := 0) rfl (nI_add i1 1) (by decide) rfl (fun ls hl => ?_)
          refine lv_goto (tgt := 7) hx hb dX9_reckon_76 (by decide) ?_
          exact ih3 (i1 + 1) y5 y6 _ _ _ (by omega) (by omega)  hP hD hS (lv_sub hl [0, 1, 2, 3, 4] rfl)
        · refine lv_iload_n hx hb dX9_reckon_30 rfl (lv_at hl 1 rfl) ?_
          refine lv_if_eq (tgt := 48) hx hb dX9_reckon_31 (by decide) (fun c26 => ?_) (fun c26 => ?_)
          · refine lv_iconst (v := 0) hx hb dX9_reckon_48 (by decide) ?_
            refine lv_istore_n (lv' := [(3, .int 0), (4, .int (nI i1)), (2, .int y6), (0, .ref h), (1, .int (nI sv))]) hx hb dX9_reckon_49 rfl hl (by decide) rfl (fun ls hl => ?_)
            refine lv_aload_n hx hb dX9_reckon_50 rfl (lv_at hl 3 rfl) ?_
            refine va_get (D := (dC, dI)) (ci := 10) (v := .ref (a 40)) (C := RX9) (T := TX9) (N := 46) hx hb hts in_m_reckon_X9 hown hK hP 0 rfl rfl 40 (by decide) (hts (.fieldLink RX9 111 "ServiceTreeModel" "ends" "[I") (by decide +kernel)) (fun _ h9 => h9) rfl dX9_reckon_51 ?_
            refine lv_iload hx hb dX9_reckon_54 (lv_at hl 1 rfl) ?_
            refine va_iald (n := 40) (f := F 40) hx hb hK hP 33 32 rfl rfl (vp_in_nI (n := i1) (by omega) (by decide)) dX9_reckon_56 ?_
            refine lv_topi (fun x27 ex27 => ?_)
            refine lv_iload_n hx hb dX9_reckon_57 rfl (lv_at hl 2 rfl) ?_
            refine lv_icmp_le (tgt := 71) hx hb dX9_reckon_58 (by decide) (fun c28 => ?_) (fun c28 => ?_)
            · refine lv_iload_n hx hb dX9_reckon_71 rfl (lv_at hl 2 rfl) ?_
              refine lv_istore_n (lv' := [(2, .int y6), (3, .int 0), (4, .int (nI i1)), (0, .ref h), (1, .int (nI sv))]) hx hb dX9_reckon_72 rfl hl (by decide) rfl (fun ls hl => ?_)
              refine lv_iinc (v := nI (i1 + 1)) (lv' := [(4, .int (nI (i1 + 1))), (2, .int y6), (3, .int 0), (0, .ref h), (1, .int (nI sv))]) hx hb dX9_reckon_73 hl (k := 2) rfl (nI_add i1 1) (by decide) rfl (fun ls hl => ?_)
              refine lv_goto (tgt := 7) hx hb dX9_reckon_76 (by decide) ?_
              exact ih3 (i1 + 1) 0 y6 _ _ _ (by omega) (by omega)  hP hD hS (lv_sub hl [0, 2, 1, 3, 4] rfl)
            · refine lv_aload_n hx hb dX9_reckon_61 rfl (lv_at hl 3 rfl) ?_
              refine va_get (D := (dC, dI)) (ci := 10) (v := .ref (a 40)) (C := RX9) (T := TX9) (N := 46) hx hb hts in_m_reckon_X9 hown hK hP 0 rfl rfl 40 (by decide) (hts (.fieldLink RX9 111 "ServiceTreeModel" "ends" "[I") (by decide +kernel)) (fun _ h9 => h9) rfl dX9_reckon_62 ?_
              refine lv_iload hx hb dX9_reckon_65 (lv_at hl 1 rfl) ?_
              refine va_iald (n := 40) (f := F 40) hx hb hK hP 33 32 rfl rfl (vp_in_nI (n := i1) (by omega) (by decide)) dX9_reckon_67 ?_
              refine p1_topr (v := .int x27) (congrArg Value.int ex27.symm) ?_
              refine lv_goto (tgt := 72) hx hb dX9_reckon_68 (by decide) ?_
              refine lv_istore_n (lv' := [(2, .int x27), (3, .int 0), (4, .int (nI i1)), (0, .ref h), (1, .int (nI sv))]) hx hb dX9_reckon_72 rfl hl (by decide) rfl (fun ls hl => ?_)
              refine lv_iinc (v := nI (i1 + 1)) (lv' := [(4, .int (nI (i1 + 1))), (2, .int x27), (3, .int 0), (0, .ref h), (1, .int (nI sv))]) hx hb dX9_reckon_73 hl (k := 2) rfl (nI_add i1 1) (by decide) rfl (fun ls hl => ?_)
              refine lv_goto (tgt := 7) hx hb dX9_reckon_76 (by decide) ?_
              exact ih3 (i1 + 1) 0 x27 _ _ _ (by omega) (by omega)  hP hD hS (lv_sub hl [0, 2, 1, 3, 4] rfl)
          · refine lv_aload_n hx hb dX9_reckon_34 rfl (lv_at hl 3 rfl) ?_
            refine va_get (D := (dC, dI)) (ci := 10) (v := .ref (a 40)) (C := RX9) (T := TX9) (N := 46) hx hb hts in_m_reckon_X9 hown hK hP 0 rfl rfl 40 (by decide) (hts (.fieldLink RX9 111 "ServiceTreeModel" "ends" "[I") (by decide +kernel)) (fun _ h9 => h9) rfl dX9_reckon_35 ?_
            refine lv_iload hx hb dX9_reckon_38 (lv_at hl 0 rfl) ?_
            refine va_iald (n := 40) (f := F 40) hx hb hK hP 33 32 rfl rfl (vp_in_nI (n := i1) (by omega) (by decide)) dX9_reckon_40 ?_
            refine lv_topi (fun x30 ex30 => ?_)
            refine lv_if_lt (tgt := 48) hx hb dX9_reckon_41 (by decide) (fun c31 => ?_) (fun c31 => ?_)
            · refine lv_iconst (v := 0) hx hb dX9_reckon_48 (by decide) ?_
              refine lv_istore_n (lv' := [(3, .int 0), (4, .int (nI i1)), (2, .int y6), (0, .ref h), (1, .int (nI sv))]) hx hb dX9_reckon_49 rfl hl (by decide) rfl (fun ls hl => ?_)
              refine lv_aload_n hx hb dX9_reckon_50 rfl (lv_at hl 3 rfl) ?_
              refine va_get (D := (dC, dI)) (ci := 10) (v := .ref (a 40)) (C := RX9) (T := TX9) (N := 46) hx hb hts in_m_reckon_X9 hown hK hP 0 rfl rfl 40 (by decide) (hts (.fieldLink RX9 111 "ServiceTreeModel" "ends" "[I") (by decide +kernel)) (fun _ h9 => h9) rfl dX9_reckon_51 ?_
              refine lv_iload hx hb dX9_reckon_54 (lv_at hl 1 rfl) ?_
              refine va_iald (n := 40) (f := F 40) hx hb hK hP 33 32 rfl rfl (vp_in_nI (n := i1) (by omega) (by decide)) dX9_reckon_56 ?_
              refine p1_topr (v := .int x30) (congrArg Value.int ex30.symm) ?_
              refine lv_iload_n hx hb dX9_reckon_57 rfl (lv_at hl 2 rfl) ?_
              refine lv_icmp_le (tgt := 71) hx hb dX9_reckon_58 (by decide) (fun c33 => ?_) (fun c33 => ?_)
              · refine lv_iload_n hx hb dX9_reckon_71 rfl (lv_at hl 2 rfl) ?_
                refine lv_istore_n (lv' := [(2, .int y6), (3, .int 0), (4, .int (nI i1)), (0, .ref h), (1, .int (nI sv))]) hx hb dX9_reckon_72 rfl hl (by decide) rfl (fun ls hl => ?_)
                refine lv_iinc (v := nI (i1 + 1)) (lv' := [(4, .int (nI (i1 + 1))), (2, .int y6), (3, .int 0), (0, .ref h), (1, .int (nI sv))]) hx hb dX9_reckon_73 hl (k := 2) rfl (nI_add i1 1) (by decide) rfl (fun ls hl => ?_)
                refine lv_goto (tgt := 7) hx hb dX9_reckon_76 (by decide) ?_
                exact ih3 (i1 + 1) 0 y6 _ _ _ (by omega) (by omega)  hP hD hS (lv_sub hl [0, 2, 1, 3, 4] rfl)
              · refine lv_aload_n hx hb dX9_reckon_61 rfl (lv_at hl 3 rfl) ?_
                refine va_get (D := (dC, dI)) (ci := 10) (v := .ref (a 40)) (C := RX9) (T := TX9) (N := 46) hx hb hts in_m_reckon_X9 hown hK hP 0 rfl rfl 40 (by decide) (hts (.fieldLink RX9 111 "ServiceTreeModel" "ends" "[I") (by decide +kernel)) (fun _ h9 => h9) rfl dX9_reckon_62 ?_
                refine lv_iload hx hb dX9_reckon_65 (lv_at hl 1 rfl) ?_
                refine va_iald (n := 40) (f := F 40) hx hb hK hP 33 32 rfl rfl (vp_in_nI (n := i1) (by omega) (by decide)) dX9_reckon_67 ?_
                refine p1_topr (v := .int x30) (congrArg Value.int ex30.symm) ?_
                refine lv_goto (tgt := 72) hx hb dX9_reckon_68 (by decide) ?_
                refine lv_istore_n (lv' := [(2, .int x30), (3, .int 0), (4, .int (nI i1)), (0, .ref h), (1, .int (nI sv))]) hx hb dX9_reckon_72 rfl hl (by decide) rfl (fun ls hl => ?_)
                refine lv_iinc (v := nI (i1 + 1)) (lv' := [(4, .int (nI (i1 + 1))), (2, .int x30), (3, .int 0), (0, .ref h), (1, .int (nI sv))]) hx hb dX9_reckon_73 hl (k := 2) rfl (nI_add i1 1) (by decide) rfl (fun ls hl => ?_)
                refine lv_goto (tgt := 7) hx hb dX9_reckon_76 (by decide) ?_
                exact ih3 (i1 + 1) 0 x30 _ _ _ (by omega) (by omega)  hP hD hS (lv_sub hl [0, 2, 1, 3, 4] rfl)
            · refine lv_iconst (v := 1) hx hb dX9_reckon_44 (by decide) ?_
              refine lv_goto (tgt := 49) hx hb dX9_reckon_45 (by decide) ?_
              refine lv_istore_n (lv' := [(3, .int 1), (4, .int (nI i1)), (2, .int y6), (0, .ref h), (1, .int (nI sv))]) hx hb dX9_reckon_49 rfl hl (by decide) rfl (fun ls hl => ?_)
              refine lv_aload_n hx hb dX9_reckon_50 rfl (lv_at hl 3 rfl) ?_
              refine va_get (D := (dC, dI)) (ci := 10) (v := .ref (a 40)) (C := RX9) (T := TX9) (N := 46) hx hb hts in_m_reckon_X9 hown hK hP 0 rfl rfl 40 (by decide) (hts (.fieldLink RX9 111 "ServiceTreeModel" "ends" "[I") (by decide +kernel)) (fun _ h9 => h9) rfl dX9_reckon_51 ?_
              refine lv_iload hx hb dX9_reckon_54 (lv_at hl 1 rfl) ?_
              refine va_iald (n := 40) (f := F 40) hx hb hK hP 33 32 rfl rfl (vp_in_nI (n := i1) (by omega) (by decide)) dX9_reckon_56 ?_
              refine p1_topr (v := .int x30) (congrArg Value.int ex30.symm) ?_
              refine lv_iload_n hx hb dX9_reckon_57 rfl (lv_at hl 2 rfl) ?_
              refine lv_icmp_le (tgt := 71) hx hb dX9_reckon_58 (by decide) (fun c36 => ?_) (fun c36 => ?_)
              · refine lv_iload_n hx hb dX9_reckon_71 rfl (lv_at hl 2 rfl) ?_
                refine lv_istore_n (lv' := [(2, .int y6), (3, .int 1), (4, .int (nI i1)), (0, .ref h), (1, .int (nI sv))]) hx hb dX9_reckon_72 rfl hl (by decide) rfl (fun ls hl => ?_)
                refine lv_iinc (v := nI (i1 + 1)) (lv' := [(4, .int (nI (i1 + 1))), (2, .int y6), (3, .int 1), (0, .ref h), (1, .int (nI sv))]) hx hb dX9_reckon_73 hl (k := 2) rfl (nI_add i1 1) (by decide) rfl (fun ls hl => ?_)
                refine lv_goto (tgt := 7) hx hb dX9_reckon_76 (by decide) ?_
                exact ih3 (i1 + 1) 1 y6 _ _ _ (by omega) (by omega)  hP hD hS (lv_sub hl [0, 2, 1, 3, 4] rfl)
              · refine lv_aload_n hx hb dX9_reckon_61 rfl (lv_at hl 3 rfl) ?_
                refine va_get (D := (dC, dI)) (ci := 10) (v := .ref (a 40)) (C := RX9) (T := TX9) (N := 46) hx hb hts in_m_reckon_X9 hown hK hP 0 rfl rfl 40 (by decide) (hts (.fieldLink RX9 111 "ServiceTreeModel" "ends" "[I") (by decide +kernel)) (fun _ h9 => h9) rfl dX9_reckon_62 ?_
                refine lv_iload hx hb dX9_reckon_65 (lv_at hl 1 rfl) ?_
                refine va_iald (n := 40) (f := F 40) hx hb hK hP 33 32 rfl rfl (vp_in_nI (n := i1) (by omega) (by decide)) dX9_reckon_67 ?_
                refine p1_topr (v := .int x30) (congrArg Value.int ex30.symm) ?_
                refine lv_goto (tgt := 72) hx hb dX9_reckon_68 (by decide) ?_
                refine lv_istore_n (lv' := [(2, .int x30), (3, .int 1), (4, .int (nI i1)), (0, .ref h), (1, .int (nI sv))]) hx hb dX9_reckon_72 rfl hl (by decide) rfl (fun ls hl => ?_)
                refine lv_iinc (v := nI (i1 + 1)) (lv' := [(4, .int (nI (i1 + 1))), (2, .int x30), (3, .int 1), (0, .ref h), (1, .int (nI sv))]) hx hb dX9_reckon_73 hl (k := 2) rfl (nI_add i1 1) (by decide) rfl (fun ls hl => ?_)
                refine lv_goto (tgt := 7) hx hb dX9_reckon_76 (by decide) ?_
                exact ih3 (i1 + 1) 1 x30 _ _ _ (by omega) (by omega)  hP hD hS (lv_sub hl [0, 2, 1, 3, 4] rfl)
  exact lp4 (n + 1) 0 1 0 _ _ _ (by omega) (by omega)  hP hD hS hl
def wq_m_plan : List Cond := [.code yX9_plan cX9_plan 6 (some .int), .fieldLink RX9 126 "ServiceTreeModel" "services" "I", .fieldLink RX9 258 "ServiceTreeModel" "planned" "I", .fieldLink RX9 107 "ServiceTreeModel" "quick" "I", .fieldLink RX9 86 "ServiceTreeModel" "newJob" "[I", .fieldLink RX9 95 "ServiceTreeModel" "planService" "[I", .fieldLink RX9 98 "ServiceTreeModel" "planHow" "[I", .fieldLink RX9 101 "ServiceTreeModel" "planBegin" "[I", .fieldLink RX9 114 "ServiceTreeModel" "begins" "[I", .fieldLink RX9 104 "ServiceTreeModel" "planEnd" "[I", .fieldLink RX9 111 "ServiceTreeModel" "ends" "[I", .methodLink RX9 135 yX9_is, .instanceMethod yX9_is, .selects RX9 yX9_is yX9_is, .initialized RX9, .methodLink RX9 207 yX9_look, .instanceMethod yX9_look, .selects RX9 yX9_look yX9_look, .methodLink RX9 255 yX9_reckon, .instanceMethod yX9_reckon, .selects RX9 yX9_reckon yX9_reckon] ++ (wsX90 ++ (wq_m_is ++ (wq_m_look ++ (wq_m_reckon))))
theorem in_m_plan_X9 : ∀ w ∈ wsX90, w ∈ wq_m_plan := fun _ h => List.mem_append_right _ (List.mem_append_left _ (h))
set_option maxRecDepth 20000 in
theorem wi_m_plan : ∀ w ∈ wq_m_plan, w ∈ lw_tbl := List.forall_mem_append.mpr ⟨(by decide +kernel), List.forall_mem_append.mpr ⟨inKX9, List.forall_mem_append.mpr ⟨wi_m_is, List.forall_mem_append.mpr ⟨wi_m_look, wi_m_reckon⟩⟩⟩⟩
set_option maxRecDepth 20000 in
theorem wg_m_plan : GoodIn wq_m_plan wq_m_plan := goodIn_sub (fun _ h => h) (by decide +kernel)
set_option maxRecDepth 20000 in
theorem wc_m_plan_m_is_135 : GoodIn wq_m_plan (wsV RX9 135 RX9 yX9_is wq_m_is) := goodIn_app (goodIn_of _ (by decide +kernel)) (fun w h => ⟨List.mem_append_right _ (List.mem_append_right _ (List.mem_append_left _ (h))), (wg_m_is w h).2⟩)
set_option maxRecDepth 20000 in
theorem wc_m_plan_m_look_207 : GoodIn wq_m_plan (wsV RX9 207 RX9 yX9_look wq_m_look) := goodIn_app (goodIn_of _ (by decide +kernel)) (fun w h => ⟨List.mem_append_right _ (List.mem_append_right _ (List.mem_append_right _ (List.mem_append_left _ (h)))), (wg_m_look w h).2⟩)
set_option maxRecDepth 20000 in
theorem wc_m_plan_m_reckon_255 : GoodIn wq_m_plan (wsV RX9 255 RX9 yX9_reckon wq_m_reckon) := goodIn_app (goodIn_of _ (by decide +kernel)) (fun w h => ⟨List.mem_append_right _ (List.mem_append_right _ (List.mem_append_right _ (List.mem_append_right _ (h)))), (wg_m_reckon w h).2⟩)
def rm_m_plan : Room := { frames := 4, cells := 0, slots := 0, locals := 98 }
set_option maxHeartbeats 4000000 in
set_option maxRecDepth 100000 in
theorem c_m_plan (l : Launch) (dC : Nat → ClassId) (dI : Nat → Nat → Nat) (h : Nat) (a : Nat → Nat) (k : Nat → ClassId) (F : Nat → Nat → Int32) (V : Nat → Int32) (n b : Nat) (p0 : Int32) (p1 : Int32) (sz : Nat) (hI0 : InvM n b F V) (hb0 : b + 0 < 2147483648)  : Met l yX9_plan wq_m_plan rm_m_plan (va_Pc [.ref h, .int p0, .int p1] (fun U => U.heap.size = sz ∧ va_P (dC, dI) vwCl (mW h a k F V) U.heap ∧ va_K (dC, dI) vwCl (mT k) U ∧ va_D (fun _ => True) (mW h a k F V))) (va_Qi (fun (r : Int32) (u : (Nat → Nat → Int32) × (Nat → Int32)) => StM n (b + 0) F V u.1 u.2 ∧ (∀ j : Nat, j ∉ ([27, 28, 29, 30, 31, 32, 34, 35, 36, 37, 40, 41] : List Nat) → u.1 j = F j) ∧ (∀ j : Nat, j ∉ ([33, 38, 39] : List Nat) → u.2 j = V j) ∧ (True)) (fun (u : (Nat → Nat → Int32) × (Nat → Int32)) (t : State) => va_P (dC, dI) vwCl (mW h a k u.1 u.2) t.heap ∧ va_D (va_A (mW h a k F V) sz) (mW h a k u.1 u.2)) (va_A (mW h a k F V) sz)) 0 0 (va_A (mW h a k F V) sz) := by
  have hn : n ≤ 40 := hI0.1
  have hI : StM n b F V F V := StM.rf hI0
  have hU : ∀ j : Nat, j ∉ ([27, 28, 29, 30, 31, 32, 34, 35, 36, 37, 40, 41] : List Nat) → F j = F j := fun _ _ => rfl
  have hV : ∀ j : Nat, j ∉ ([33, 38, 39] : List Nat) → V j = V j := fun _ _ => rfl
  refine Met.ofW (cc := cX9_plan) (maxL := 6) (ret := (some .int)) (by decide) rfl ?_
  intro p e s m args below meth c s₁ B hml hv
  obtain ⟨rfl, hsz, hP, hK, hD0⟩ := hv
  have hx := B.exec
  have hb := B.bytes
  have hr := B.returns
  have hts := atoms_spec (ws := wq_m_plan) B.pre
  have hown : s.vm.findClass RX9 = some m.cls := findClass_of_methodNamed B.named
  have hlocks := B.notSynchronized
  subst hsz
  have hD := hD0.self (sz := s.heap.size)
  generalize hAe : va_A (mW h a k F V) s.heap.size = A at hD ⊢
  have hA : ∀ q : Nat, s.heap.size ≤ q → A q := fun q h => by rw [← hAe]; exact Or.inr h
  have hS : va_S A s.heap s.heap [] := va_S.rf
  have hl := lv_entry ([.ref h, .int p0, .int p1]) (n := 6) (Nat.le_of_ble_eq_true rfl)
  rw [lg_entry_eq]
  generalize (lg_sl ([.ref h, .int p0, .int p1]) ++ List.replicate (6 - (lg_sl ([.ref h, .int p0, .int p1])).length) Slot.unset).toArray = ls at hl ⊢
  have hl : lv_has ls 6 [(0, .ref h), (1, .int p0), (2, .int p1)] := hl
  refine mw_Q (fun Q0 hQ => ?_)
  refine lv_iload_n hx hb dX9_plan_0 rfl (lv_at hl 1 rfl) ?_
  refine lv_if_lt (tgt := 17) hx hb dX9_plan_1 (by decide) (fun c1 => ?_) (fun c1 => ?_)
  · refine lv_iconst (v := (-1)) hx hb dX9_plan_17 (by decide) ?_
    rw [hQ]
    exact W.iret (v := (-1)) hx hb hr (fun t ht hW => ⟨⟨(-1), (F, V), rfl, ⟨hI.mono (by omega), hU, hV, trivial⟩, by rw [ht]; exact hP, hD⟩, hS.F ht⟩) hS.2.2 dX9_plan_18
  · refine lv_iload_n hx hb dX9_plan_4 rfl (lv_at hl 1 rfl) ?_
    refine lv_iconst (v := 2) hx hb dX9_plan_5 (by decide) ?_
    refine lv_icmp_gt (tgt := 17) hx hb dX9_plan_6 (by decide) (fun c2 => ?_) (fun c2 => ?_)
    · refine lv_iconst (v := (-1)) hx hb dX9_plan_17 (by decide) ?_
      rw [hQ]
      exact W.iret (v := (-1)) hx hb hr (fun t ht hW => ⟨⟨(-1), (F, V), rfl, ⟨hI.mono (by omega), hU, hV, trivial⟩, by rw [ht]; exact hP, hD⟩, hS.F ht⟩) hS.2.2 dX9_plan_18
    · refine lv_aload_n hx hb dX9_plan_9 rfl (lv_at hl 0 rfl) ?_
      refine lv_iload_n hx hb dX9_plan_10 rfl (lv_at hl 2 rfl) ?_
      have hFc := mw_free hD hS hA
      refine va_calli (va_runV (As := [.int p1]) (rest := []) ⟨hx, hb, hml, hown, hts⟩ (c_m_is l dC dI h a k F V n (b) p1 s.heap.size hI.1 (by omega) ) (cwV 1 hts wc_m_plan_m_is_135 rfl rfl rfl (by decide +kernel) ⟨Nat.le_of_ble_eq_true rfl, Nat.le_of_ble_eq_true rfl⟩) ⟨fun a9 U g mk q => by obtain ⟨q0, q1, qP, qK, qD⟩ := q; exact ⟨q0, q1, qP, va_K.moved (u := U) (U := U.calling g mk a9) (Vm.Alike.refl U.vm) qK, qD⟩, va_recv hK hP (ci := 10) (q0 := 0) rfl rfl, fun U hU hW => ⟨rfl, by rw [hU], by rw [hU]; exact hP, va_K.moved hW.alike hK, hD.weaken (fun _ _ _ _ => trivial)⟩⟩ rfl rfl hl.1 rfl (lv_room (Nat.le_of_ble_eq_true rfl)) dX9_plan_11 ⟨Nat.le_of_ble_eq_true rfl, Nat.le_of_ble_eq_true rfl⟩) hS (fun q _ h => hFc q h) hFc (fun r3 u t H1 locs ht hvm hw hB hz1 hk1 hS => ?_)
      obtain ⟨F4, V5⟩ := u
      replace hP := hB.1
      rw [ht] at hP
      replace hD : va_D A (mW h a k F4 V5) := hB.2.weaken (fun _ q _ h9 => hFc q.1 h9)
      clear hB
      generalize H1 = H at hP hS ⊢
      replace hP : va_P (dC, dI) vwCl (mW h a k F4 V5) H := hP
      obtain ⟨hwF, hwV, hw⟩ : F4 = F ∧ V5 = V ∧ _ := hw
      rw [hwF, hwV] at hP hD
      rcases hw with ⟨rfl, j6, hj6, ej6⟩ | ⟨rfl, noj6⟩
      · subst ej6
        refine lv_if_ne (tgt := 19) hx hb dX9_plan_14 (by decide) (fun _ => ?_) (fun c9 => absurd c9 (by decide))
        refine lv_aload_n hx hb dX9_plan_19 rfl (lv_at hl 0 rfl) ?_
        refine lv_iload_n hx hb dX9_plan_20 rfl (lv_at hl 1 rfl) ?_
        refine lv_iload_n hx hb dX9_plan_21 rfl (lv_at hl 2 rfl) ?_
        have hFc := mw_free hD hS hA
        refine va_calli (va_runV (As := [.int p0, .int (nI j6)]) (rest := []) ⟨hx, hb, hml, hown, hts⟩ (c_m_look l dC dI h a k F V n (b) p0 j6 H.size hI.1 (by omega) (by omega)) (cwV 2 hts wc_m_plan_m_look_207 rfl rfl rfl (by decide +kernel) ⟨Nat.le_of_ble_eq_true rfl, Nat.le_of_ble_eq_true rfl⟩) ⟨fun a9 U g mk q => by obtain ⟨q0, q1, qP, qK, qD⟩ := q; exact ⟨q0, q1, qP, va_K.moved (u := U) (U := U.calling g mk a9) (Vm.Alike.refl U.vm) qK, qD⟩, va_recv hK hP (ci := 10) (q0 := 0) rfl rfl, fun U hU hW => ⟨rfl, by rw [hU], by rw [hU]; exact hP, va_K.moved hW.alike hK, hD.weaken (fun _ _ _ _ => trivial)⟩⟩ rfl rfl hl.1 rfl (lv_room (Nat.le_of_ble_eq_true rfl)) dX9_plan_22 ⟨Nat.le_of_ble_eq_true rfl, Nat.le_of_ble_eq_true rfl⟩) hS (fun q _ h => hFc q h) hFc (fun r7 u t H1 locs ht hvm hw hB hz1 hk1 hS => ?_)
        obtain ⟨F8, V9⟩ := u
        replace hP := hB.1
        rw [ht] at hP
        replace hD : va_D A (mW h a k F8 V9) := hB.2.weaken (fun _ q _ h9 => hFc q.1 h9)
        clear hB
        generalize H1 = H at hP hS ⊢
        replace hP : va_P (dC, dI) vwCl (mW h a k F8 V9) H := hP
        obtain ⟨hwI, hwU, hwV, hw⟩ := hw
        replace hU : ∀ j : Nat, j ∉ ([27, 28, 29, 30, 31, 32, 34, 35, 36, 37, 40, 41] : List Nat) → F8 j = F j := mw_tr (by decide) hwU hU
        replace hV : ∀ j : Nat, j ∉ ([33, 38, 39] : List Nat) → V9 j = V j := mw_tr (by decide) hwV hV
        replace hI : StM n (b + 0) F V F8 V9 := hI.trans hwI
        replace hI : StM n (b) F V F8 V9 := hI
        refine lv_istore_n (lv' := [(3, .int r7), (0, .ref h), (1, .int p0), (2, .int (nI j6))]) hx hb dX9_plan_25 rfl hl (by decide) rfl (fun ls hl => ?_)
        refine lv_iload_n hx hb dX9_plan_26 rfl (lv_at hl 0 rfl) ?_
        refine lv_if_eq (tgt := 32) hx hb dX9_plan_27 (by decide) (fun c10 => ?_) (fun c10 => ?_)
        · refine lv_iconst (v := 0) hx hb dX9_plan_32 (by decide) ?_
          refine lv_istore (lv' := [(4, .int 0), (3, .int r7), (0, .ref h), (1, .int p0), (2, .int (nI j6))]) hx hb dX9_plan_33 hl (by decide) rfl (fun ls hl => ?_)
          have lp14 : ∀ (fu12 i11 : Nat)  (F15 : Nat → Nat → Int32) (V16 : Nat → Int32) (H : Heap) (locs : List Loc) (ls : Array Slot), n < i11 + fu12 → i11 ≤ n → StM n (b) F V F15 V16 → (∀ j : Nat, j ∉ ([27, 28, 29, 30, 31, 32, 34, 35, 36, 37, 40, 41] : List Nat) → F15 j = F j) → (∀ j : Nat, j ∉ ([33, 38, 39] : List Nat) → V16 j = V j) → va_P (dC, dI) vwCl (mW h a k F15 V16) H → va_D A (mW h a k F15 V16) → va_S A s.heap H locs → lv_has ls 6 [(4, .int (nI i11)), (3, .int r7), (0, .ref h), (1, .int p0), (2, .int (nI j6))] → W p l e (headSpec wq_m_plan rm_m_plan).room s m ([.ref h, .int p0, .int (nI j6)] : List Value).toArray below meth c H locs 0 0 Q0 (F0 m 35 ls []) := by
            intro fu12
            induction fu12 with
            | zero =>
              intro i11  F15 V16 H locs ls hf hi
              exact absurd hf (by omega)
            | succ fu12 ih13 =>
              intro i11  F15 V16 H locs ls hfi11 hii11 hI hU hV hP hD hS hl
              refine lv_iload hx hb dX9_plan_35 (lv_at hl 0 rfl) ?_
              refine lv_aload_n hx hb dX9_plan_37 rfl (lv_at hl 2 rfl) ?_
              refine va_get (D := (dC, dI)) (ci := 10) (v := .int (V16 21)) (C := RX9) (T := TX9) (N := 46) hx hb hts in_m_plan_X9 hown hK hP 0 rfl rfl 21 (by decide) (hts (.fieldLink RX9 126 "ServiceTreeModel" "services" "I") (by decide +kernel)) (fun _ h9 => h9) rfl dX9_plan_38 ?_
              refine p1_topr (v := .int (nI n)) (congrArg Value.int hI.1.2.1) ?_
              refine lv_icmp_ge (tgt := 58) hx hb dX9_plan_41 (by decide) (fun c17 => ?_) (fun c17 => ?_)
              · replace c17 : n ≤ i11 := (nI_leI (a := n) (b := i11) (by omega) (by omega)).mp c17
                refine lv_iconst (v := 0) hx hb dX9_plan_58 (by decide) ?_
                refine lv_istore (lv' := [(4, .int 0), (3, .int r7), (0, .ref h), (1, .int p0), (2, .int (nI j6))]) hx hb dX9_plan_59 hl (by decide) rfl (fun ls hl => ?_)
                have lp21 : ∀ (fu19 i18 : Nat)  (F22 : Nat → Nat → Int32) (V23 : Nat → Int32) (H : Heap) (locs : List Loc) (ls : Array Slot), n < i18 + fu19 → i18 ≤ n → StM n (b) F V F22 V23 → (∀ j : Nat, j ∉ ([27, 28, 29, 30, 31, 32, 34, 35, 36, 37, 40, 41] : List Nat) → F22 j = F j) → (∀ j : Nat, j ∉ ([33, 38, 39] : List Nat) → V23 j = V j) → va_P (dC, dI) vwCl (mW h a k F22 V23) H → va_D A (mW h a k F22 V23) → va_S A s.heap H locs → lv_has ls 6 [(4, .int (nI i18)), (3, .int r7), (0, .ref h), (1, .int p0), (2, .int (nI j6))] → W p l e (headSpec wq_m_plan rm_m_plan).room s m ([.ref h, .int p0, .int (nI j6)] : List Value).toArray below meth c H locs 0 0 Q0 (F0 m 61 ls []) := by
                  intro fu19
                  induction fu19 with
                  | zero =>
                    intro i18  F22 V23 H locs ls hf hi
                    exact absurd hf (by omega)
                  | succ fu19 ih20 =>
                    intro i18  F22 V23 H locs ls hfi18 hii18 hI hU hV hP hD hS hl
                    refine lv_iload hx hb dX9_plan_61 (lv_at hl 0 rfl) ?_
                    refine lv_aload_n hx hb dX9_plan_63 rfl (lv_at hl 2 rfl) ?_
                    refine va_get (D := (dC, dI)) (ci := 10) (v := .int (V23 21)) (C := RX9) (T := TX9) (N := 46) hx hb hts in_m_plan_X9 hown hK hP 0 rfl rfl 21 (by decide) (hts (.fieldLink RX9 126 "ServiceTreeModel" "services" "I") (by decide +kernel)) (fun _ h9 => h9) rfl dX9_plan_64 ?_
                    refine p1_topr (v := .int (nI n)) (congrArg Value.int hI.1.2.1) ?_
                    refine lv_icmp_ge (tgt := 120) hx hb dX9_plan_67 (by decide) (fun c24 => ?_) (fun c24 => ?_)
                    · replace c24 : n ≤ i18 := (nI_leI (a := n) (b := i18) (by omega) (by omega)).mp c24
                      refine lv_aload_n hx hb dX9_plan_120 rfl (lv_at hl 2 rfl) ?_
                      refine lv_iconst (v := 0) hx hb dX9_plan_121 (by decide) ?_
                      refine va_put (D := (dC, dI)) (ci := 10) (fs := mF a V23) (v := .int 0) (ty := .int) (C := RX9) (T := TX9) (N := 46) hx hb hts in_m_plan_X9 tyX9 tyX9_ok nmX9 hown hK hP hD hS 0 rfl rfl 38 (by decide) (hts (.fieldLink RX9 258 "ServiceTreeModel" "planned" "I") (by decide +kernel)) (fun _ h9 => h9) rfl (by decide +kernel) rfl rfl (Nat.le_of_ble_eq_true rfl) dX9_plan_122 (fun H locs hP hD hS => ?_)
                      rw [mW_put_38] at hP hD
                      obtain ⟨V25, eV25⟩ : ∃ f9 : Nat → Int32, f9 = va_up V23 38 0 := ⟨_, rfl⟩
                      rw [← eV25] at hP hD
                      replace hI : StM n (b) F V F22 V25 := ⟨by rw [eV25]; exact hI.1.put38 (x := 0) (by omega), trivial⟩
                      replace hV : ∀ j : Nat, j ∉ ([33, 38, 39] : List Nat) → V25 j = V j := by rw [eV25]; exact mw_up (by decide) hV
                      refine lv_aload_n hx hb dX9_plan_125 rfl (lv_at hl 2 rfl) ?_
                      refine lv_iconst (v := 0) hx hb dX9_plan_126 (by decide) ?_
                      refine va_put (D := (dC, dI)) (ci := 10) (fs := mF a V25) (v := .int 0) (ty := .int) (C := RX9) (T := TX9) (N := 46) hx hb hts in_m_plan_X9 tyX9 tyX9_ok nmX9 hown hK hP hD hS 0 rfl rfl 39 (by decide) (hts (.fieldLink RX9 107 "ServiceTreeModel" "quick" "I") (by decide +kernel)) (fun _ h9 => h9) rfl (by decide +kernel) rfl rfl (Nat.le_of_ble_eq_true rfl) dX9_plan_127 (fun H locs hP hD hS => ?_)
                      rw [mW_put_39] at hP hD
                      obtain ⟨V26, eV26⟩ : ∃ f9 : Nat → Int32, f9 = va_up V25 39 0 := ⟨_, rfl⟩
                      rw [← eV26] at hP hD
                      replace hI : StM n (b) F V F22 V26 := ⟨by rw [eV26]; exact hI.1.setV (by decide), trivial⟩
                      replace hV : ∀ j : Nat, j ∉ ([33, 38, 39] : List Nat) → V26 j = V j := by rw [eV26]; exact mw_up (by decide) hV
                      refine lv_iconst (v := 0) hx hb dX9_plan_130 (by decide) ?_
                      refine lv_istore (lv' := [(4, .int 0), (3, .int r7), (0, .ref h), (1, .int p0), (2, .int (nI j6))]) hx hb dX9_plan_131 hl (by decide) rfl (fun ls hl => ?_)
                      have lp30 : ∀ (fu28 i27 : Nat)  (F31 : Nat → Nat → Int32) (V32 : Nat → Int32) (H : Heap) (locs : List Loc) (ls : Array Slot), n < i27 + fu28 → i27 ≤ n → StM n (b) F V F31 V32 → (∀ j : Nat, j ∉ ([27, 28, 29, 30, 31, 32, 34, 35, 36, 37, 40, 41] : List Nat) → F31 j = F j) → (∀ j : Nat, j ∉ ([33, 38, 39] : List Nat) → V32 j = V j) → (∃ p9 : Nat, p9 ≤ i27 ∧ V32 38 = nI p9) → va_P (dC, dI) vwCl (mW h a k F31 V32) H → va_D A (mW h a k F31 V32) → va_S A s.heap H locs → lv_has ls 6 [(4, .int (nI i27)), (3, .int r7), (0, .ref h), (1, .int p0), (2, .int (nI j6))] → W p l e (headSpec wq_m_plan rm_m_plan).room s m ([.ref h, .int p0, .int (nI j6)] : List Value).toArray below meth c H locs 0 0 Q0 (F0 m 133 ls []) := by
                        intro fu28
                        induction fu28 with
                        | zero =>
                          intro i27  F31 V32 H locs ls hf hi
                          exact absurd hf (by omega)
                        | succ fu28 ih29 =>
                          intro i27  F31 V32 H locs ls hfi27 hii27 hI hU hV hqi27 hP hD hS hl
                          refine lv_iload hx hb dX9_plan_133 (lv_at hl 0 rfl) ?_
                          refine lv_aload_n hx hb dX9_plan_135 rfl (lv_at hl 2 rfl) ?_
                          refine va_get (D := (dC, dI)) (ci := 10) (v := .int (V32 21)) (C := RX9) (T := TX9) (N := 46) hx hb hts in_m_plan_X9 hown hK hP 0 rfl rfl 21 (by decide) (hts (.fieldLink RX9 126 "ServiceTreeModel" "services" "I") (by decide +kernel)) (fun _ h9 => h9) rfl dX9_plan_136 ?_
                          refine p1_topr (v := .int (nI n)) (congrArg Value.int hI.1.2.1) ?_
                          refine lv_icmp_ge (tgt := 351) hx hb dX9_plan_139 (by decide) (fun c33 => ?_) (fun c33 => ?_)
                          · replace c33 : n ≤ i27 := (nI_leI (a := n) (b := i27) (by omega) (by omega)).mp c33
                            refine lv_aload_n hx hb dX9_plan_351 rfl (lv_at hl 2 rfl) ?_
                            refine va_get (D := (dC, dI)) (ci := 10) (v := .int (V32 38)) (C := RX9) (T := TX9) (N := 46) hx hb hts in_m_plan_X9 hown hK hP 0 rfl rfl 38 (by decide) (hts (.fieldLink RX9 258 "ServiceTreeModel" "planned" "I") (by decide +kernel)) (fun _ h9 => h9) rfl dX9_plan_352 ?_
                            obtain ⟨pl34, hpl34, epl34⟩ := hI.1.2.2.1
                            refine p1_topr (v := .int (nI pl34)) (congrArg Value.int epl34) ?_
                            rw [hQ]
                            exact W.iret (v := (nI pl34)) hx hb hr (fun t ht hW => ⟨⟨(nI pl34), (F31, V32), rfl, ⟨hI.mono (by omega), hU, hV, trivial⟩, by rw [ht]; exact hP, hD⟩, hS.F ht⟩) hS.2.2 dX9_plan_355
                          · replace c33 : ¬ (n ≤ i27) := fun q9 => c33 ((nI_leI (a := n) (b := i27) (by omega) (by omega)).mpr q9)
                            refine lv_aload_n hx hb dX9_plan_142 rfl (lv_at hl 2 rfl) ?_
                            refine va_get (D := (dC, dI)) (ci := 10) (v := .ref (a 30)) (C := RX9) (T := TX9) (N := 46) hx hb hts in_m_plan_X9 hown hK hP 0 rfl rfl 30 (by decide) (hts (.fieldLink RX9 86 "ServiceTreeModel" "newJob" "[I") (by decide +kernel)) (fun _ h9 => h9) rfl dX9_plan_143 ?_
                            refine lv_iload hx hb dX9_plan_146 (lv_at hl 0 rfl) ?_
                            refine va_iald (n := 40) (f := F31 30) hx hb hK hP 26 25 rfl rfl (vp_in_nI (n := i27) (by omega) (by decide)) dX9_plan_148 ?_
                            refine lv_topi (fun x35 ex35 => ?_)
                            refine lv_if_eq (tgt := 345) hx hb dX9_plan_149 (by decide) (fun c36 => ?_) (fun c36 => ?_)
                            · refine lv_iinc (v := nI (i27 + 1)) (lv' := [(4, .int (nI (i27 + 1))), (3, .int r7), (0, .ref h), (1, .int p0), (2, .int (nI j6))]) hx hb dX9_plan_345 hl (k := 0) rfl (nI_add i27 1) (by decide) rfl (fun ls hl => ?_)
                              refine lv_goto (tgt := 133) hx hb dX9_plan_348 (by decide) ?_
                              exact ih29 (i27 + 1)  F31 V32 _ _ _ (by omega) (by omega) (hI.mono (by omega)) hU hV (by obtain ⟨p9, h9, e9⟩ := hqi27; exact ⟨p9, by omega, e9⟩) hP hD hS (lv_sub hl [0, 1, 2, 3, 4] rfl)
                            · refine lv_aload_n hx hb dX9_plan_152 rfl (lv_at hl 2 rfl) ?_
                              refine va_get (D := (dC, dI)) (ci := 10) (v := .int (V32 38)) (C := RX9) (T := TX9) (N := 46) hx hb hts in_m_plan_X9 hown hK hP 0 rfl rfl 38 (by decide) (hts (.fieldLink RX9 258 "ServiceTreeModel" "planned" "I") (by decide +kernel)) (fun _ h9 => h9) rfl dX9_plan_153 ?_
                              obtain ⟨pl37, hpl37, epl37⟩ := id hqi27
                              refine p1_topr (v := .int (nI pl37)) (congrArg Value.int epl37) ?_
                              refine lv_istore (lv' := [(5, .int (nI pl37)), (4, .int (nI i27)), (3, .int r7), (0, .ref h), (1, .int p0), (2, .int (nI j6))]) hx hb dX9_plan_156 hl (by decide) rfl (fun ls hl => ?_)
                              have lp41 : ∀ (fu39 i38 : Nat)  (F42 : Nat → Nat → Int32) (H : Heap) (locs : List Loc) (ls : Array Slot), i38 < fu39 → i38 ≤ i27 → StM n (b) F V F42 V32 → (∀ j : Nat, j ∉ ([27, 28, 29, 30, 31, 32, 34, 35, 36, 37, 40, 41] : List Nat) → F42 j = F j) → va_P (dC, dI) vwCl (mW h a k F42 V32) H → va_D A (mW h a k F42 V32) → va_S A s.heap H locs → lv_has ls 6 [(5, .int (nI i38)), (4, .int (nI i27)), (3, .int r7), (0, .ref h), (1, .int p0), (2, .int (nI j6))] → W p l e (headSpec wq_m_plan rm_m_plan).room s m ([.ref h, .int p0, .int (nI j6)] : List Value).toArray below meth c H locs 0 0 Q0 (F0 m 158 ls []) := by
                                intro fu39
                                induction fu39 with
                                | zero =>
                                  intro i38  F42 H locs ls hf hi
                                  exact absurd hf (by omega)
                                | succ fu39 ih40 =>
                                  intro i38  F42 H locs ls hfi38 hii38 hI hU hP hD hS hl
                                  refine lv_iload hx hb dX9_plan_158 (lv_at hl 0 rfl) ?_
                                  refine lv_if_le (tgt := 252) hx hb dX9_plan_160 (by decide) (fun c43 => ?_) (fun c43 => ?_)
                                  · replace c43 : i38 ≤ 0 := (nI_leI (a := i38) (b := 0) (by omega) (by omega)).mp c43
                                    refine lv_aload_n hx hb dX9_plan_252 rfl (lv_at hl 3 rfl) ?_
                                    refine va_get (D := (dC, dI)) (ci := 10) (v := .ref (a 34)) (C := RX9) (T := TX9) (N := 46) hx hb hts in_m_plan_X9 hown hK hP 0 rfl rfl 34 (by decide) (hts (.fieldLink RX9 95 "ServiceTreeModel" "planService" "[I") (by decide +kernel)) (fun _ h9 => h9) rfl dX9_plan_253 ?_
                                    refine lv_iload hx hb dX9_plan_256 (lv_at hl 0 rfl) ?_
                                    refine lv_iload hx hb dX9_plan_258 (lv_at hl 1 rfl) ?_
                                    refine va_iast (n := 40) (f := F42 34) hx hb hK hP hD hS 29 28 rfl rfl (vp_in_nI (n := i38) (by omega) (by decide)) dX9_plan_260 (fun H locs hP hD hS => ?_)
                                    rw [mW_set_34] at hP hD
                                    obtain ⟨F44, eF44⟩ : ∃ f9 : Nat → Nat → Int32, f9 = va_up F42 34 (upd (F42 34) (nI i38).toNatClampNeg (nI i27)) := ⟨_, rfl⟩
                                    rw [← eF44] at hP hD
                                    replace hI : StM n (b) F V F44 V32 := ⟨by rw [eF44]; exact hI.1.setF (by decide), trivial⟩
                                    replace hU : ∀ j : Nat, j ∉ ([27, 28, 29, 30, 31, 32, 34, 35, 36, 37, 40, 41] : List Nat) → F44 j = F j := by rw [eF44]; exact mw_up (by decide) hU
                                    refine lv_aload_n hx hb dX9_plan_261 rfl (lv_at hl 3 rfl) ?_
                                    refine va_get (D := (dC, dI)) (ci := 10) (v := .ref (a 35)) (C := RX9) (T := TX9) (N := 46) hx hb hts in_m_plan_X9 hown hK hP 0 rfl rfl 35 (by decide) (hts (.fieldLink RX9 98 "ServiceTreeModel" "planHow" "[I") (by decide +kernel)) (fun _ h9 => h9) rfl dX9_plan_262 ?_
                                    refine lv_iload hx hb dX9_plan_265 (lv_at hl 0 rfl) ?_
                                    refine lv_aload_n hx hb dX9_plan_267 rfl (lv_at hl 3 rfl) ?_
                                    refine va_get (D := (dC, dI)) (ci := 10) (v := .ref (a 30)) (C := RX9) (T := TX9) (N := 46) hx hb hts in_m_plan_X9 hown hK hP 0 rfl rfl 30 (by decide) (hts (.fieldLink RX9 86 "ServiceTreeModel" "newJob" "[I") (by decide +kernel)) (fun _ h9 => h9) rfl dX9_plan_268 ?_
                                    refine lv_iload hx hb dX9_plan_271 (lv_at hl 1 rfl) ?_
                                    refine va_iald (n := 40) (f := F44 30) hx hb hK hP 26 25 rfl rfl (vp_in_nI (n := i27) (by omega) (by decide)) dX9_plan_273 ?_
                                    refine lv_topi (fun x45 ex45 => ?_)
                                    refine va_iast (n := 40) (f := F44 35) hx hb hK hP hD hS 30 29 rfl rfl (vp_in_nI (n := i38) (by omega) (by decide)) dX9_plan_274 (fun H locs hP hD hS => ?_)
                                    rw [mW_set_35] at hP hD
                                    obtain ⟨F46, eF46⟩ : ∃ f9 : Nat → Nat → Int32, f9 = va_up F44 35 (upd (F44 35) (nI i38).toNatClampNeg x45) := ⟨_, rfl⟩
                                    rw [← eF46] at hP hD
                                    replace hI : StM n (b) F V F46 V32 := ⟨by rw [eF46]; exact hI.1.setF (by decide), trivial⟩
                                    replace hU : ∀ j : Nat, j ∉ ([27, 28, 29, 30, 31, 32, 34, 35, 36, 37, 40, 41] : List Nat) → F46 j = F j := by rw [eF46]; exact mw_up (by decide) hU
                                    refine lv_aload_n hx hb dX9_plan_275 rfl (lv_at hl 3 rfl) ?_
                                    refine va_get (D := (dC, dI)) (ci := 10) (v := .ref (a 36)) (C := RX9) (T := TX9) (N := 46) hx hb hts in_m_plan_X9 hown hK hP 0 rfl rfl 36 (by decide) (hts (.fieldLink RX9 101 "ServiceTreeModel" "planBegin" "[I") (by decide +kernel)) (fun _ h9 => h9) rfl dX9_plan_276 ?_
                                    refine lv_iload hx hb dX9_plan_279 (lv_at hl 0 rfl) ?_
                                    refine lv_aload_n hx hb dX9_plan_281 rfl (lv_at hl 3 rfl) ?_
                                    refine va_get (D := (dC, dI)) (ci := 10) (v := .ref (a 41)) (C := RX9) (T := TX9) (N := 46) hx hb hts in_m_plan_X9 hown hK hP 0 rfl rfl 41 (by decide) (hts (.fieldLink RX9 114 "ServiceTreeModel" "begins" "[I") (by decide +kernel)) (fun _ h9 => h9) rfl dX9_plan_282 ?_
                                    refine lv_iload hx hb dX9_plan_285 (lv_at hl 1 rfl) ?_
                                    refine va_iald (n := 40) (f := F46 41) hx hb hK hP 34 33 rfl rfl (vp_in_nI (n := i27) (by omega) (by decide)) dX9_plan_287 ?_
                                    refine lv_topi (fun x47 ex47 => ?_)
                                    refine va_iast (n := 40) (f := F46 36) hx hb hK hP hD hS 31 30 rfl rfl (vp_in_nI (n := i38) (by omega) (by decide)) dX9_plan_288 (fun H locs hP hD hS => ?_)
                                    rw [mW_set_36] at hP hD
                                    obtain ⟨F48, eF48⟩ : ∃ f9 : Nat → Nat → Int32, f9 = va_up F46 36 (upd (F46 36) (nI i38).toNatClampNeg x47) := ⟨_, rfl⟩
                                    rw [← eF48] at hP hD
                                    replace hI : StM n (b) F V F48 V32 := ⟨by rw [eF48]; exact hI.1.setF (by decide), trivial⟩
                                    replace hU : ∀ j : Nat, j ∉ ([27, 28, 29, 30, 31, 32, 34, 35, 36, 37, 40, 41] : List Nat) → F48 j = F j := by rw [eF48]; exact mw_up (by decide) hU
                                    refine lv_aload_n hx hb dX9_plan_289 rfl (lv_at hl 3 rfl) ?_
                                    refine va_get (D := (dC, dI)) (ci := 10) (v := .ref (a 37)) (C := RX9) (T := TX9) (N := 46) hx hb hts in_m_plan_X9 hown hK hP 0 rfl rfl 37 (by decide) (hts (.fieldLink RX9 104 "ServiceTreeModel" "planEnd" "[I") (by decide +kernel)) (fun _ h9 => h9) rfl dX9_plan_290 ?_
                                    refine lv_iload hx hb dX9_plan_293 (lv_at hl 0 rfl) ?_
                                    refine lv_aload_n hx hb dX9_plan_295 rfl (lv_at hl 3 rfl) ?_
                                    refine va_get (D := (dC, dI)) (ci := 10) (v := .ref (a 40)) (C := RX9) (T := TX9) (N := 46) hx hb hts in_m_plan_X9 hown hK hP 0 rfl rfl 40 (by decide) (hts (.fieldLink RX9 111 "ServiceTreeModel" "ends" "[I") (by decide +kernel)) (fun _ h9 => h9) rfl dX9_plan_296 ?_
                                    refine lv_iload hx hb dX9_plan_299 (lv_at hl 1 rfl) ?_
                                    refine va_iald (n := 40) (f := F48 40) hx hb hK hP 33 32 rfl rfl (vp_in_nI (n := i27) (by omega) (by decide)) dX9_plan_301 ?_
                                    refine lv_topi (fun x49 ex49 => ?_)
                                    refine va_iast (n := 40) (f := F48 37) hx hb hK hP hD hS 32 31 rfl rfl (vp_in_nI (n := i38) (by omega) (by decide)) dX9_plan_302 (fun H locs hP hD hS => ?_)
                                    rw [mW_set_37] at hP hD
                                    obtain ⟨F50, eF50⟩ : ∃ f9 : Nat → Nat → Int32, f9 = va_up F48 37 (upd (F48 37) (nI i38).toNatClampNeg x49) := ⟨_, rfl⟩
                                    rw [← eF50] at hP hD
                                    replace hI : StM n (b) F V F50 V32 := ⟨by rw [eF50]; exact hI.1.setF (by decide), trivial⟩
                                    replace hU : ∀ j : Nat, j ∉ ([27, 28, 29, 30, 31, 32, 34, 35, 36, 37, 40, 41] : List Nat) → F50 j = F j := by rw [eF50]; exact mw_up (by decide) hU
                                    refine lv_aload_n hx hb dX9_plan_303 rfl (lv_at hl 3 rfl) ?_
                                    refine lv_dup hx hb dX9_plan_304 rfl ?_
                                    refine va_get (D := (dC, dI)) (ci := 10) (v := .int (V32 38)) (C := RX9) (T := TX9) (N := 46) hx hb hts in_m_plan_X9 hown hK hP 0 rfl rfl 38 (by decide) (hts (.fieldLink RX9 258 "ServiceTreeModel" "planned" "I") (by decide +kernel)) (fun _ h9 => h9) rfl dX9_plan_305 ?_
                                    obtain ⟨pl51, hpl51, epl51⟩ := id hqi27
                                    refine p1_topr (v := .int (nI pl51)) (congrArg Value.int epl51) ?_
                                    refine lv_iconst (v := 1) hx hb dX9_plan_308 (by decide) ?_
                                    refine lv_iadd hx hb dX9_plan_309 ?_
                                    refine p1_topr (v := .int (nI (pl51 + 1))) (congrArg Value.int (nI_add pl51 1)) ?_
                                    refine va_put (D := (dC, dI)) (ci := 10) (fs := mF a V32) (v := .int (nI (pl51 + 1))) (ty := .int) (C := RX9) (T := TX9) (N := 46) hx hb hts in_m_plan_X9 tyX9 tyX9_ok nmX9 hown hK hP hD hS 0 rfl rfl 38 (by decide) (hts (.fieldLink RX9 258 "ServiceTreeModel" "planned" "I") (by decide +kernel)) (fun _ h9 => h9) rfl (by decide +kernel) rfl rfl (Nat.le_of_ble_eq_true rfl) dX9_plan_310 (fun H locs hP hD hS => ?_)
                                    rw [mW_put_38] at hP hD
                                    obtain ⟨V52, eV52⟩ : ∃ f9 : Nat → Int32, f9 = va_up V32 38 (nI (pl51 + 1)) := ⟨_, rfl⟩
                                    rw [← eV52] at hP hD
                                    replace hI : StM n (b) F V F50 V52 := ⟨by rw [eV52]; exact hI.1.put38 (x := pl51 + 1) (by omega), trivial⟩
                                    replace hV : ∀ j : Nat, j ∉ ([33, 38, 39] : List Nat) → V52 j = V j := by rw [eV52]; exact mw_up (by decide) hV
                                    refine lv_aload_n hx hb dX9_plan_313 rfl (lv_at hl 3 rfl) ?_
                                    refine lv_aload_n hx hb dX9_plan_314 rfl (lv_at hl 3 rfl) ?_
                                    refine va_get (D := (dC, dI)) (ci := 10) (v := .ref (a 40)) (C := RX9) (T := TX9) (N := 46) hx hb hts in_m_plan_X9 hown hK hP 0 rfl rfl 40 (by decide) (hts (.fieldLink RX9 111 "ServiceTreeModel" "ends" "[I") (by decide +kernel)) (fun _ h9 => h9) rfl dX9_plan_315 ?_
                                    refine lv_iload hx hb dX9_plan_318 (lv_at hl 1 rfl) ?_
                                    refine va_iald (n := 40) (f := F50 40) hx hb hK hP 33 32 rfl rfl (vp_in_nI (n := i27) (by omega) (by decide)) dX9_plan_320 ?_
                                    refine lv_topi (fun x53 ex53 => ?_)
                                    refine lv_aload_n hx hb dX9_plan_321 rfl (lv_at hl 3 rfl) ?_
                                    refine va_get (D := (dC, dI)) (ci := 10) (v := .int (V52 39)) (C := RX9) (T := TX9) (N := 46) hx hb hts in_m_plan_X9 hown hK hP 0 rfl rfl 39 (by decide) (hts (.fieldLink RX9 107 "ServiceTreeModel" "quick" "I") (by decide +kernel)) (fun _ h9 => h9) rfl dX9_plan_322 ?_
                                    refine lv_topi (fun x54 ex54 => ?_)
                                    refine lv_icmp_le (tgt := 338) hx hb dX9_plan_325 (by decide) (fun c55 => ?_) (fun c55 => ?_)
                                    · refine lv_aload_n hx hb dX9_plan_338 rfl (lv_at hl 3 rfl) ?_
                                      refine va_get (D := (dC, dI)) (ci := 10) (v := .int (V52 39)) (C := RX9) (T := TX9) (N := 46) hx hb hts in_m_plan_X9 hown hK hP 0 rfl rfl 39 (by decide) (hts (.fieldLink RX9 107 "ServiceTreeModel" "quick" "I") (by decide +kernel)) (fun _ h9 => h9) rfl dX9_plan_339 ?_
                                      refine lv_topi (fun x56 ex56 => ?_)
                                      refine va_put (D := (dC, dI)) (ci := 10) (fs := mF a V52) (v := .int x56) (ty := .int) (C := RX9) (T := TX9) (N := 46) hx hb hts in_m_plan_X9 tyX9 tyX9_ok nmX9 hown hK hP hD hS 0 rfl rfl 39 (by decide) (hts (.fieldLink RX9 107 "ServiceTreeModel" "quick" "I") (by decide +kernel)) (fun _ h9 => h9) rfl (by decide +kernel) rfl rfl (Nat.le_of_ble_eq_true rfl) dX9_plan_342 (fun H locs hP hD hS => ?_)
                                      rw [mW_put_39] at hP hD
                                      obtain ⟨V57, eV57⟩ : ∃ f9 : Nat → Int32, f9 = va_up V52 39 x56 := ⟨_, rfl⟩
                                      rw [← eV57] at hP hD
                                      replace hI : StM n (b) F V F50 V57 := ⟨by rw [eV57]; exact hI.1.setV (by decide), trivial⟩
                                      replace hV : ∀ j : Nat, j ∉ ([33, 38, 39] : List Nat) → V57 j = V j := by rw [eV57]; exact mw_up (by decide) hV
                                      refine lv_iinc (v := nI (i27 + 1)) (lv' := [(4, .int (nI (i27 + 1))), (5, .int (nI i38)), (3, .int r7), (0, .ref h), (1, .int p0), (2, .int (nI j6))]) hx hb dX9_plan_345 hl (k := 1) rfl (nI_add i27 1) (by decide) rfl (fun ls hl => ?_)
                                      refine lv_goto (tgt := 133) hx hb dX9_plan_348 (by decide) ?_
                                      exact ih29 (i27 + 1)  F50 V57 _ _ _ (by omega) (by omega) (hI.mono (by omega)) hU hV (⟨pl51 + 1, by omega, (by rw [eV57, va_up_ne _ _ (by decide)]; exact (by rw [eV52]; exact va_up_self V32 38 _))⟩) hP hD hS (lv_sub hl [0, 2, 3, 4, 5] rfl)
                                    · refine lv_aload_n hx hb dX9_plan_328 rfl (lv_at hl 3 rfl) ?_
                                      refine va_get (D := (dC, dI)) (ci := 10) (v := .ref (a 40)) (C := RX9) (T := TX9) (N := 46) hx hb hts in_m_plan_X9 hown hK hP 0 rfl rfl 40 (by decide) (hts (.fieldLink RX9 111 "ServiceTreeModel" "ends" "[I") (by decide +kernel)) (fun _ h9 => h9) rfl dX9_plan_329 ?_
                                      refine lv_iload hx hb dX9_plan_332 (lv_at hl 1 rfl) ?_
                                      refine va_iald (n := 40) (f := F50 40) hx hb hK hP 33 32 rfl rfl (vp_in_nI (n := i27) (by omega) (by decide)) dX9_plan_334 ?_
                                      refine p1_topr (v := .int x53) (congrArg Value.int ex53.symm) ?_
                                      refine lv_goto (tgt := 342) hx hb dX9_plan_335 (by decide) ?_
                                      refine va_put (D := (dC, dI)) (ci := 10) (fs := mF a V52) (v := .int x53) (ty := .int) (C := RX9) (T := TX9) (N := 46) hx hb hts in_m_plan_X9 tyX9 tyX9_ok nmX9 hown hK hP hD hS 0 rfl rfl 39 (by decide) (hts (.fieldLink RX9 107 "ServiceTreeModel" "quick" "I") (by decide +kernel)) (fun _ h9 => h9) rfl (by decide +kernel) rfl rfl (Nat.le_of_ble_eq_true rfl) dX9_plan_342 (fun H locs hP hD hS => ?_)
                                      rw [mW_put_39] at hP hD
                                      obtain ⟨V59, eV59⟩ : ∃ f9 : Nat → Int32, f9 = va_up V52 39 x53 := ⟨_, rfl⟩
                                      rw [← eV59] at hP hD
                                      replace hI : StM n (b) F V F50 V59 := ⟨by rw [eV59]; exact hI.1.setV (by decide), trivial⟩
                                      replace hV : ∀ j : Nat, j ∉ ([33, 38, 39] : List Nat) → V59 j = V j := by rw [eV59]; exact mw_up (by decide) hV
                                      refine lv_iinc (v := nI (i27 + 1)) (lv' := [(4, .int (nI (i27 + 1))), (5, .int (nI i38)), (3, .int r7), (0, .ref h), (1, .int p0), (2, .int (nI j6))]) hx hb dX9_plan_345 hl (k := 1) rfl (nI_add i27 1) (by decide) rfl (fun ls hl => ?_)
                                      refine lv_goto (tgt := 133) hx hb dX9_plan_348 (by decide) ?_
                                      exact ih29 (i27 + 1)  F50 V59 _ _ _ (by omega) (by omega) (hI.mono (by omega)) hU hV (⟨pl51 + 1, by omega, (by rw [eV59, va_up_ne _ _ (by decide)]; exact (by rw [eV52]; exact va_up_self V32 38 _))⟩) hP hD hS (lv_sub hl [0, 2, 3, 4, 5] rfl)
                                  · replace c43 : ¬ (i38 ≤ 0) := fun q9 => c43 ((nI_leI (a := i38) (b := 0) (by omega) (by omega)).mpr q9)
                                    refine lv_aload_n hx hb dX9_plan_163 rfl (lv_at hl 3 rfl) ?_
                                    refine va_get (D := (dC, dI)) (ci := 10) (v := .ref (a 36)) (C := RX9) (T := TX9) (N := 46) hx hb hts in_m_plan_X9 hown hK hP 0 rfl rfl 36 (by decide) (hts (.fieldLink RX9 101 "ServiceTreeModel" "planBegin" "[I") (by decide +kernel)) (fun _ h9 => h9) rfl dX9_plan_164 ?_
                                    refine lv_iload hx hb dX9_plan_167 (lv_at hl 0 rfl) ?_
                                    refine lv_iconst (v := 1) hx hb dX9_plan_169 (by decide) ?_
                                    refine lv_isub hx hb dX9_plan_170 ?_
                                    refine p1_topr (v := .int (nI (i38 - 1))) (congrArg Value.int (pk_sub (a := i38) (b := 1) (by omega))) ?_
                                    refine va_iald (n := 40) (f := F42 36) hx hb hK hP 31 30 rfl rfl (vp_in_nI (n := i38 - 1) (by omega) (by decide)) dX9_plan_171 ?_
                                    refine lv_topi (fun x60 ex60 => ?_)
                                    refine lv_aload_n hx hb dX9_plan_172 rfl (lv_at hl 3 rfl) ?_
                                    refine va_get (D := (dC, dI)) (ci := 10) (v := .ref (a 41)) (C := RX9) (T := TX9) (N := 46) hx hb hts in_m_plan_X9 hown hK hP 0 rfl rfl 41 (by decide) (hts (.fieldLink RX9 114 "ServiceTreeModel" "begins" "[I") (by decide +kernel)) (fun _ h9 => h9) rfl dX9_plan_173 ?_
                                    refine lv_iload hx hb dX9_plan_176 (lv_at hl 1 rfl) ?_
                                    refine va_iald (n := 40) (f := F42 41) hx hb hK hP 34 33 rfl rfl (vp_in_nI (n := i27) (by omega) (by decide)) dX9_plan_178 ?_
                                    refine lv_topi (fun x61 ex61 => ?_)
                                    refine lv_icmp_le (tgt := 252) hx hb dX9_plan_179 (by decide) (fun c62 => ?_) (fun c62 => ?_)
                                    · refine lv_aload_n hx hb dX9_plan_252 rfl (lv_at hl 3 rfl) ?_
                                      refine va_get (D := (dC, dI)) (ci := 10) (v := .ref (a 34)) (C := RX9) (T := TX9) (N := 46) hx hb hts in_m_plan_X9 hown hK hP 0 rfl rfl 34 (by decide) (hts (.fieldLink RX9 95 "ServiceTreeModel" "planService" "[I") (by decide +kernel)) (fun _ h9 => h9) rfl dX9_plan_253 ?_
                                      refine lv_iload hx hb dX9_plan_256 (lv_at hl 0 rfl) ?_
                                      refine lv_iload hx hb dX9_plan_258 (lv_at hl 1 rfl) ?_
                                      refine va_iast (n := 40) (f := F42 34) hx hb hK hP hD hS 29 28 rfl rfl (vp_in_nI (n := i38) (by omega) (by decide)) dX9_plan_260 (fun H locs hP hD hS => ?_)
                                      rw [mW_set_34] at hP hD
                                      obtain ⟨F63, eF63⟩ : ∃ f9 : Nat → Nat → Int32, f9 = va_up F42 34 (upd (F42 34) (nI i38).toNatClampNeg (nI i27)) := ⟨_, rfl⟩
                                      rw [← eF63] at hP hD
                                      replace hI : StM n (b) F V F63 V32 := ⟨by rw [eF63]; exact hI.1.setF (by decide), trivial⟩
                                      replace hU : ∀ j : Nat, j ∉ ([27, 28, 29, 30, 31, 32, 34, 35, 36, 37, 40, 41] : List Nat) → F63 j = F j := by rw [eF63]; exact mw_up (by decide) hU
                                      refine lv_aload_n hx hb dX9_plan_261 rfl (lv_at hl 3 rfl) ?_
                                      refine va_get (D := (dC, dI)) (ci := 10) (v := .ref (a 35)) (C := RX9) (T := TX9) (N := 46) hx hb hts in_m_plan_X9 hown hK hP 0 rfl rfl 35 (by decide) (hts (.fieldLink RX9 98 "ServiceTreeModel" "planHow" "[I") (by decide +kernel)) (fun _ h9 => h9) rfl dX9_plan_262 ?_
                                      refine lv_iload hx hb dX9_plan_265 (lv_at hl 0 rfl) ?_
                                      refine lv_aload_n hx hb dX9_plan_267 rfl (lv_at hl 3 rfl) ?_
                                      refine va_get (D := (dC, dI)) (ci := 10) (v := .ref (a 30)) (C := RX9) (T := TX9) (N := 46) hx hb hts in_m_plan_X9 hown hK hP 0 rfl rfl 30 (by decide) (hts (.fieldLink RX9 86 "ServiceTreeModel" "newJob" "[I") (by decide +kernel)) (fun _ h9 => h9) rfl dX9_plan_268 ?_
                                      refine lv_iload hx hb dX9_plan_271 (lv_at hl 1 rfl) ?_
                                      refine va_iald (n := 40) (f := F63 30) hx hb hK hP 26 25 rfl rfl (vp_in_nI (n := i27) (by omega) (by decide)) dX9_plan_273 ?_
                                      refine lv_topi (fun x64 ex64 => ?_)
                                      refine va_iast (n := 40) (f := F63 35) hx hb hK hP hD hS 30 29 rfl rfl (vp_in_nI (n := i38) (by omega) (by decide)) dX9_plan_274 (fun H locs hP hD hS => ?_)
                                      rw [mW_set_35] at hP hD
                                      obtain ⟨F65, eF65⟩ : ∃ f9 : Nat → Nat → Int32, f9 = va_up F63 35 (upd (F63 35) (nI i38).toNatClampNeg x64) := ⟨_, rfl⟩
                                      rw [← eF65] at hP hD
                                      replace hI : StM n (b) F V F65 V32 := ⟨by rw [eF65]; exact hI.1.setF (by decide), trivial⟩
                                      replace hU : ∀ j : Nat, j ∉ ([27, 28, 29, 30, 31, 32, 34, 35, 36, 37, 40, 41] : List Nat) → F65 j = F j := by rw [eF65]; exact mw_up (by decide) hU
                                      refine lv_aload_n hx hb dX9_plan_275 rfl (lv_at hl 3 rfl) ?_
                                      refine va_get (D := (dC, dI)) (ci := 10) (v := .ref (a 36)) (C := RX9) (T := TX9) (N := 46) hx hb hts in_m_plan_X9 hown hK hP 0 rfl rfl 36 (by decide) (hts (.fieldLink RX9 101 "ServiceTreeModel" "planBegin" "[I") (by decide +kernel)) (fun _ h9 => h9) rfl dX9_plan_276 ?_
                                      refine lv_iload hx hb dX9_plan_279 (lv_at hl 0 rfl) ?_
                                      refine lv_aload_n hx hb dX9_plan_281 rfl (lv_at hl 3 rfl) ?_
                                      refine va_get (D := (dC, dI)) (ci := 10) (v := .ref (a 41)) (C := RX9) (T := TX9) (N := 46) hx hb hts in_m_plan_X9 hown hK hP 0 rfl rfl 41 (by decide) (hts (.fieldLink RX9 114 "ServiceTreeModel" "begins" "[I") (by decide +kernel)) (fun _ h9 => h9) rfl dX9_plan_282 ?_
                                      refine lv_iload hx hb dX9_plan_285 (lv_at hl 1 rfl) ?_
                                      refine va_iald (n := 40) (f := F65 41) hx hb hK hP 34 33 rfl rfl (vp_in_nI (n := i27) (by omega) (by decide)) dX9_plan_287 ?_
                                      refine lv_topi (fun x66 ex66 => ?_)
                                      refine va_iast (n := 40) (f := F65 36) hx hb hK hP hD hS 31 30 rfl rfl (vp_in_nI (n := i38) (by omega) (by decide)) dX9_plan_288 (fun H locs hP hD hS => ?_)
                                      rw [mW_set_36] at hP hD
                                      obtain ⟨F67, eF67⟩ : ∃ f9 : Nat → Nat → Int32, f9 = va_up F65 36 (upd (F65 36) (nI i38).toNatClampNeg x66) := ⟨_, rfl⟩
                                      rw [← eF67] at hP hD
                                      replace hI : StM n (b) F V F67 V32 := ⟨by rw [eF67]; exact hI.1.setF (by decide), trivial⟩
                                      replace hU : ∀ j : Nat, j ∉ ([27, 28, 29, 30, 31, 32, 34, 35, 36, 37, 40, 41] : List Nat) → F67 j = F j := by rw [eF67]; exact mw_up (by decide) hU
                                      refine lv_aload_n hx hb dX9_plan_289 rfl (lv_at hl 3 rfl) ?_
                                      refine va_get (D := (dC, dI)) (ci := 10) (v := .ref (a 37)) (C := RX9) (T := TX9) (N := 46) hx hb hts in_m_plan_X9 hown hK hP 0 rfl rfl 37 (by decide) (hts (.fieldLink RX9 104 "ServiceTreeModel" "planEnd" "[I") (by decide +kernel)) (fun _ h9 => h9) rfl dX9_plan_290 ?_
                                      refine lv_iload hx hb dX9_plan_293 (lv_at hl 0 rfl) ?_
                                      refine lv_aload_n hx hb dX9_plan_295 rfl (lv_at hl 3 rfl) ?_
                                      refine va_get (D := (dC, dI)) (ci := 10) (v := .ref (a 40)) (C := RX9) (T := TX9) (N := 46) hx hb hts in_m_plan_X9 hown hK hP 0 rfl rfl 40 (by decide) (hts (.fieldLink RX9 111 "ServiceTreeModel" "ends" "[I") (by decide +kernel)) (fun _ h9 => h9) rfl dX9_plan_296 ?_
                                      refine lv_iload hx hb dX9_plan_299 (lv_at hl 1 rfl) ?_
                                      refine va_iald (n := 40) (f := F67 40) hx hb hK hP 33 32 rfl rfl (vp_in_nI (n := i27) (by omega) (by decide)) dX9_plan_301 ?_
                                      refine lv_topi (fun x68 ex68 => ?_)
                                      refine va_iast (n := 40) (f := F67 37) hx hb hK hP hD hS 32 31 rfl rfl (vp_in_nI (n := i38) (by omega) (by decide)) dX9_plan_302 (fun H locs hP hD hS => ?_)
                                      rw [mW_set_37] at hP hD
                                      obtain ⟨F69, eF69⟩ : ∃ f9 : Nat → Nat → Int32, f9 = va_up F67 37 (upd (F67 37) (nI i38).toNatClampNeg x68) := ⟨_, rfl⟩
                                      rw [← eF69] at hP hD
                                      replace hI : StM n (b) F V F69 V32 := ⟨by rw [eF69]; exact hI.1.setF (by decide), trivial⟩
                                      replace hU : ∀ j : Nat, j ∉ ([27, 28, 29, 30, 31, 32, 34, 35, 36, 37, 40, 41] : List Nat) → F69 j = F j := by rw [eF69]; exact mw_up (by decide) hU
                                      refine lv_aload_n hx hb dX9_plan_303 rfl (lv_at hl 3 rfl) ?_
                                      refine lv_dup hx hb dX9_plan_304 rfl ?_
                                      refine va_get (D := (dC, dI)) (ci := 10) (v := .int (V32 38)) (C := RX9) (T := TX9) (N := 46) hx hb hts in_m_plan_X9 hown hK hP 0 rfl rfl 38 (by decide) (hts (.fieldLink RX9 258 "ServiceTreeModel" "planned" "I") (by decide +kernel)) (fun _ h9 => h9) rfl dX9_plan_305 ?_
                                      obtain ⟨pl70, hpl70, epl70⟩ := id hqi27
                                      refine p1_topr (v := .int (nI pl70)) (congrArg Value.int epl70) ?_
                                      refine lv_iconst (v := 1) hx hb dX9_plan_308 (by decide) ?_
                                      refine lv_iadd hx hb dX9_plan_309 ?_
                                      refine p1_topr (v := .int (nI (pl70 + 1))) (congrArg Value.int (nI_add pl70 1)) ?_
                                      refine va_put (D := (dC, dI)) (ci := 10) (fs := mF a V32) (v := .int (nI (pl70 + 1))) (ty := .int) (C := RX9) (T := TX9) (N := 46) hx hb hts in_m_plan_X9 tyX9 tyX9_ok nmX9 hown hK hP hD hS 0 rfl rfl 38 (by decide) (hts (.fieldLink RX9 258 "ServiceTreeModel" "planned" "I") (by decide +kernel)) (fun _ h9 => h9) rfl (by decide +kernel) rfl rfl (Nat.le_of_ble_eq_true rfl) dX9_plan_310 (fun H locs hP hD hS => ?_)
                                      rw [mW_put_38] at hP hD
                                      obtain ⟨V71, eV71⟩ : ∃ f9 : Nat → Int32, f9 = va_up V32 38 (nI (pl70 + 1)) := ⟨_, rfl⟩
                                      rw [← eV71] at hP hD
                                      replace hI : StM n (b) F V F69 V71 := ⟨by rw [eV71]; exact hI.1.put38 (x := pl70 + 1) (by omega), trivial⟩
                                      replace hV : ∀ j : Nat, j ∉ ([33, 38, 39] : List Nat) → V71 j = V j := by rw [eV71]; exact mw_up (by decide) hV
                                      refine lv_aload_n hx hb dX9_plan_313 rfl (lv_at hl 3 rfl) ?_
                                      refine lv_aload_n hx hb dX9_plan_314 rfl (lv_at hl 3 rfl) ?_
                                      refine va_get (D := (dC, dI)) (ci := 10) (v := .ref (a 40)) (C := RX9) (T := TX9) (N := 46) hx hb hts in_m_plan_X9 hown hK hP 0 rfl rfl 40 (by decide) (hts (.fieldLink RX9 111 "ServiceTreeModel" "ends" "[I") (by decide +kernel)) (fun _ h9 => h9) rfl dX9_plan_315 ?_
                                      refine lv_iload hx hb dX9_plan_318 (lv_at hl 1 rfl) ?_
                                      refine va_iald (n := 40) (f := F69 40) hx hb hK hP 33 32 rfl rfl (vp_in_nI (n := i27) (by omega) (by decide)) dX9_plan_320 ?_
                                      refine lv_topi (fun x72 ex72 => ?_)
                                      refine lv_aload_n hx hb dX9_plan_321 rfl (lv_at hl 3 rfl) ?_
                                      refine va_get (D := (dC, dI)) (ci := 10) (v := .int (V71 39)) (C := RX9) (T := TX9) (N := 46) hx hb hts in_m_plan_X9 hown hK hP 0 rfl rfl 39 (by decide) (hts (.fieldLink RX9 107 "ServiceTreeModel" "quick" "I") (by decide +kernel)) (fun _ h9 => h9) rfl dX9_plan_322 ?_
                                      refine lv_topi (fun x73 ex73 => ?_)
                                      refine lv_icmp_le (tgt := 338) hx hb dX9_plan_325 (by decide) (fun c74 => ?_) (fun c74 => ?_)
                                      · refine lv_aload_n hx hb dX9_plan_338 rfl (lv_at hl 3 rfl) ?_
                                        refine va_get (D := (dC, dI)) (ci := 10) (v := .int (V71 39)) (C := RX9) (T := TX9) (N := 46) hx hb hts in_m_plan_X9 hown hK hP 0 rfl rfl 39 (by decide) (hts (.fieldLink RX9 107 "ServiceTreeModel" "quick" "I") (by decide +kernel)) (fun _ h9 => h9) rfl dX9_plan_339 ?_
                                        refine lv_topi (fun x75 ex75 => ?_)
                                        refine va_put (D := (dC, dI)) (ci := 10) (fs := mF a V71) (v := .int x75) (ty := .int) (C := RX9) (T := TX9) (N := 46) hx hb hts in_m_plan_X9 tyX9 tyX9_ok nmX9 hown hK hP hD hS 0 rfl rfl 39 (by decide) (hts (.fieldLink RX9 107 "ServiceTreeModel" "quick" "I") (by decide +kernel)) (fun _ h9 => h9) rfl (by decide +kernel) rfl rfl (Nat.le_of_ble_eq_true rfl) dX9_plan_342 (fun H locs hP hD hS => ?_)
                                        rw [mW_put_39] at hP hD
                                        obtain ⟨V76, eV76⟩ : ∃ f9 : Nat → Int32, f9 = va_up V71 39 x75 := ⟨_, rfl⟩
                                        rw [← eV76] at hP hD
                                        replace hI : StM n (b) F V F69 V76 := ⟨by rw [eV76]; exact hI.1.setV (by decide), trivial⟩
                                        replace hV : ∀ j : Nat, j ∉ ([33, 38, 39] : List Nat) → V76 j = V j := by rw [eV76]; exact mw_up (by decide) hV
                                        refine lv_iinc (v := nI (i27 + 1)) (lv' := [(4, .int (nI (i27 + 1))), (5, .int (nI i38)), (3, .int r7), (0, .ref h), (1, .int p0), (2, .int (nI j6))]) hx hb dX9_plan_345 hl (k := 1) rfl (nI_add i27 1) (by decide) rfl (fun ls hl => ?_)
                                        refine lv_goto (tgt := 133) hx hb dX9_plan_348 (by decide) ?_
                                        exact ih29 (i27 + 1)  F69 V76 _ _ _ (by omega) (by omega) (hI.mono (by omega)) hU hV (⟨pl70 + 1, by omega, (by rw [eV76, va_up_ne _ _ (by decide)]; exact (by rw [eV71]; exact va_up_self V32 38 _))⟩) hP hD hS (lv_sub hl [0, 2, 3, 4, 5] rfl)
                                      · refine lv_aload_n hx hb dX9_plan_328 rfl (lv_at hl 3 rfl) ?_
                                        refine va_get (D := (dC, dI)) (ci := 10) (v := .ref (a 40)) (C := RX9) (T := TX9) (N := 46) hx hb hts in_m_plan_X9 hown hK hP 0 rfl rfl 40 (by decide) (hts (.fieldLink RX9 111 "ServiceTreeModel" "ends" "[I") (by decide +kernel)) (fun _ h9 => h9) rfl dX9_plan_329 ?_
                                        refine lv_iload hx hb dX9_plan_332 (lv_at hl 1 rfl) ?_
                                        refine va_iald (n := 40) (f := F69 40) hx hb hK hP 33 32 rfl rfl (vp_in_nI (n := i27) (by omega) (by decide)) dX9_plan_334 ?_
                                        refine p1_topr (v := .int x72) (congrArg Value.int ex72.symm) ?_
                                        refine lv_goto (tgt := 342) hx hb dX9_plan_335 (by decide) ?_
                                        refine va_put (D := (dC, dI)) (ci := 10) (fs := mF a V71) (v := .int x72) (ty := .int) (C := RX9) (T := TX9) (N := 46) hx hb hts in_m_plan_X9 tyX9 tyX9_ok nmX9 hown hK hP hD hS 0 rfl rfl 39 (by decide) (hts (.fieldLink RX9 107 "ServiceTreeModel" "quick" "I") (by decide +kernel)) (fun _ h9 => h9) rfl (by decide +kernel) rfl rfl (Nat.le_of_ble_eq_true rfl) dX9_plan_342 (fun H locs hP hD hS => ?_)
                                        rw [mW_put_39] at hP hD
                                        obtain ⟨V78, eV78⟩ : ∃ f9 : Nat → Int32, f9 = va_up V71 39 x72 := ⟨_, rfl⟩
                                        rw [← eV78] at hP hD
                                        replace hI : StM n (b) F V F69 V78 := ⟨by rw [eV78]; exact hI.1.setV (by decide), trivial⟩
                                        replace hV : ∀ j : Nat, j ∉ ([33, 38, 39] : List Nat) → V78 j = V j := by rw [eV78]; exact mw_up (by decide) hV
                                        refine lv_iinc (v := nI (i27 + 1)) (lv' := [(4, .int (nI (i27 + 1))), (5, .int (nI i38)), (3, .int r7), (0, .ref h), (1, .int p0), (2, .int (nI j6))]) hx hb dX9_plan_345 hl (k := 1) rfl (nI_add i27 1) (by decide) rfl (fun ls hl => ?_)
                                        refine lv_goto (tgt := 133) hx hb dX9_plan_348 (by decide) ?_
                                        exact ih29 (i27 + 1)  F69 V78 _ _ _ (by omega) (by omega) (hI.mono (by omega)) hU hV (⟨pl70 + 1, by omega, (by rw [eV78, va_up_ne _ _ (by decide)]; exact (by rw [eV71]; exact va_up_self V32 38 _))⟩) hP hD hS (lv_sub hl [0, 2, 3, 4, 5] rfl)
                                    · refine lv_aload_n hx hb dX9_plan_182 rfl (lv_at hl 3 rfl) ?_
                                      refine va_get (D := (dC, dI)) (ci := 10) (v := .ref (a 34)) (C := RX9) (T := TX9) (N := 46) hx hb hts in_m_plan_X9 hown hK hP 0 rfl rfl 34 (by decide) (hts (.fieldLink RX9 95 "ServiceTreeModel" "planService" "[I") (by decide +kernel)) (fun _ h9 => h9) rfl dX9_plan_183 ?_
                                      refine lv_iload hx hb dX9_plan_186 (lv_at hl 0 rfl) ?_
                                      refine lv_aload_n hx hb dX9_plan_188 rfl (lv_at hl 3 rfl) ?_
                                      refine va_get (D := (dC, dI)) (ci := 10) (v := .ref (a 34)) (C := RX9) (T := TX9) (N := 46) hx hb hts in_m_plan_X9 hown hK hP 0 rfl rfl 34 (by decide) (hts (.fieldLink RX9 95 "ServiceTreeModel" "planService" "[I") (by decide +kernel)) (fun _ h9 => h9) rfl dX9_plan_189 ?_
                                      refine lv_iload hx hb dX9_plan_192 (lv_at hl 0 rfl) ?_
                                      refine lv_iconst (v := 1) hx hb dX9_plan_194 (by decide) ?_
                                      refine lv_isub hx hb dX9_plan_195 ?_
                                      refine p1_topr (v := .int (nI (i38 - 1))) (congrArg Value.int (pk_sub (a := i38) (b := 1) (by omega))) ?_
                                      refine va_iald (n := 40) (f := F42 34) hx hb hK hP 29 28 rfl rfl (vp_in_nI (n := i38 - 1) (by omega) (by decide)) dX9_plan_196 ?_
                                      refine lv_topi (fun x79 ex79 => ?_)
                                      refine va_iast (n := 40) (f := F42 34) hx hb hK hP hD hS 29 28 rfl rfl (vp_in_nI (n := i38) (by omega) (by decide)) dX9_plan_197 (fun H locs hP hD hS => ?_)
                                      rw [mW_set_34] at hP hD
                                      obtain ⟨F80, eF80⟩ : ∃ f9 : Nat → Nat → Int32, f9 = va_up F42 34 (upd (F42 34) (nI i38).toNatClampNeg x79) := ⟨_, rfl⟩
                                      rw [← eF80] at hP hD
                                      replace hI : StM n (b) F V F80 V32 := ⟨by rw [eF80]; exact hI.1.setF (by decide), trivial⟩
                                      replace hU : ∀ j : Nat, j ∉ ([27, 28, 29, 30, 31, 32, 34, 35, 36, 37, 40, 41] : List Nat) → F80 j = F j := by rw [eF80]; exact mw_up (by decide) hU
                                      refine lv_aload_n hx hb dX9_plan_198 rfl (lv_at hl 3 rfl) ?_
                                      refine va_get (D := (dC, dI)) (ci := 10) (v := .ref (a 35)) (C := RX9) (T := TX9) (N := 46) hx hb hts in_m_plan_X9 hown hK hP 0 rfl rfl 35 (by decide) (hts (.fieldLink RX9 98 "ServiceTreeModel" "planHow" "[I") (by decide +kernel)) (fun _ h9 => h9) rfl dX9_plan_199 ?_
                                      refine lv_iload hx hb dX9_plan_202 (lv_at hl 0 rfl) ?_
                                      refine lv_aload_n hx hb dX9_plan_204 rfl (lv_at hl 3 rfl) ?_
                                      refine va_get (D := (dC, dI)) (ci := 10) (v := .ref (a 35)) (C := RX9) (T := TX9) (N := 46) hx hb hts in_m_plan_X9 hown hK hP 0 rfl rfl 35 (by decide) (hts (.fieldLink RX9 98 "ServiceTreeModel" "planHow" "[I") (by decide +kernel)) (fun _ h9 => h9) rfl dX9_plan_205 ?_
                                      refine lv_iload hx hb dX9_plan_208 (lv_at hl 0 rfl) ?_
                                      refine lv_iconst (v := 1) hx hb dX9_plan_210 (by decide) ?_
                                      refine lv_isub hx hb dX9_plan_211 ?_
                                      refine p1_topr (v := .int (nI (i38 - 1))) (congrArg Value.int (pk_sub (a := i38) (b := 1) (by omega))) ?_
                                      refine va_iald (n := 40) (f := F80 35) hx hb hK hP 30 29 rfl rfl (vp_in_nI (n := i38 - 1) (by omega) (by decide)) dX9_plan_212 ?_
                                      refine lv_topi (fun x81 ex81 => ?_)
                                      refine va_iast (n := 40) (f := F80 35) hx hb hK hP hD hS 30 29 rfl rfl (vp_in_nI (n := i38) (by omega) (by decide)) dX9_plan_213 (fun H locs hP hD hS => ?_)
                                      rw [mW_set_35] at hP hD
                                      obtain ⟨F82, eF82⟩ : ∃ f9 : Nat → Nat → Int32, f9 = va_up F80 35 (upd (F80 35) (nI i38).toNatClampNeg x81) := ⟨_, rfl⟩
                                      rw [← eF82] at hP hD
                                      replace hI : StM n (b) F V F82 V32 := ⟨by rw [eF82]; exact hI.1.setF (by decide), trivial⟩
                                      replace hU : ∀ j : Nat, j ∉ ([27, 28, 29, 30, 31, 32, 34, 35, 36, 37, 40, 41] : List Nat) → F82 j = F j := by rw [eF82]; exact mw_up (by decide) hU
                                      refine lv_aload_n hx hb dX9_plan_214 rfl (lv_at hl 3 rfl) ?_
                                      refine va_get (D := (dC, dI)) (ci := 10) (v := .ref (a 36)) (C := RX9) (T := TX9) (N := 46) hx hb hts in_m_plan_X9 hown hK hP 0 rfl rfl 36 (by decide) (hts (.fieldLink RX9 101 "ServiceTreeModel" "planBegin" "[I") (by decide +kernel)) (fun _ h9 => h9) rfl dX9_plan_215 ?_
                                      refine lv_iload hx hb dX9_plan_218 (lv_at hl 0 rfl) ?_
                                      refine lv_aload_n hx hb dX9_plan_220 rfl (lv_at hl 3 rfl) ?_
                                      refine va_get (D := (dC, dI)) (ci := 10) (v := .ref (a 36)) (C := RX9) (T := TX9) (N := 46) hx hb hts in_m_plan_X9 hown hK hP 0 rfl rfl 36 (by decide) (hts (.fieldLink RX9 101 "ServiceTreeModel" "planBegin" "[I") (by decide +kernel)) (fun _ h9 => h9) rfl dX9_plan_221 ?_
                                      refine lv_iload hx hb dX9_plan_224 (lv_at hl 0 rfl) ?_
                                      refine lv_iconst (v := 1) hx hb dX9_plan_226 (by decide) ?_
                                      refine lv_isub hx hb dX9_plan_227 ?_
                                      refine p1_topr (v := .int (nI (i38 - 1))) (congrArg Value.int (pk_sub (a := i38) (b := 1) (by omega))) ?_
                                      refine va_iald (n := 40) (f := F82 36) hx hb hK hP 31 30 rfl rfl (vp_in_nI (n := i38 - 1) (by omega) (by decide)) dX9_plan_228 ?_
                                      refine lv_topi (fun x83 ex83 => ?_)
                                      refine va_iast (n := 40) (f := F82 36) hx hb hK hP hD hS 31 30 rfl rfl (vp_in_nI (n := i38) (by omega) (by decide)) dX9_plan_229 (fun H locs hP hD hS => ?_)
                                      rw [mW_set_36] at hP hD
                                      obtain ⟨F84, eF84⟩ : ∃ f9 : Nat → Nat → Int32, f9 = va_up F82 36 (upd (F82 36) (nI i38).toNatClampNeg x83) := ⟨_, rfl⟩
                                      rw [← eF84] at hP hD
                                      replace hI : StM n (b) F V F84 V32 := ⟨by rw [eF84]; exact hI.1.setF (by decide), trivial⟩
                                      replace hU : ∀ j : Nat, j ∉ ([27, 28, 29, 30, 31, 32, 34, 35, 36, 37, 40, 41] : List Nat) → F84 j = F j := by rw [eF84]; exact mw_up (by decide) hU
                                      refine lv_aload_n hx hb dX9_plan_230 rfl (lv_at hl 3 rfl) ?_
                                      refine va_get (D := (dC, dI)) (ci := 10) (v := .ref (a 37)) (C := RX9) (T := TX9) (N := 46) hx hb hts in_m_plan_X9 hown hK hP 0 rfl rfl 37 (by decide) (hts (.fieldLink RX9 104 "ServiceTreeModel" "planEnd" "[I") (by decide +kernel)) (fun _ h9 => h9) rfl dX9_plan_231 ?_
                                      refine lv_iload hx hb dX9_plan_234 (lv_at hl 0 rfl) ?_
                                      refine lv_aload_n hx hb dX9_plan_236 rfl (lv_at hl 3 rfl) ?_
                                      refine va_get (D := (dC, dI)) (ci := 10) (v := .ref (a 37)) (C := RX9) (T := TX9) (N := 46) hx hb hts in_m_plan_X9 hown hK hP 0 rfl rfl 37 (by decide) (hts (.fieldLink RX9 104 "ServiceTreeModel" "planEnd" "[I") (by decide +kernel)) (fun _ h9 => h9) rfl dX9_plan_237 ?_
                                      refine lv_iload hx hb dX9_plan_240 (lv_at hl 0 rfl) ?_
                                      refine lv_iconst (v := 1) hx hb dX9_plan_242 (by decide) ?_
                                      refine lv_isub hx hb dX9_plan_243 ?_
                                      refine p1_topr (v := .int (nI (i38 - 1))) (congrArg Value.int (pk_sub (a := i38) (b := 1) (by omega))) ?_
                                      refine va_iald (n := 40) (f := F84 37) hx hb hK hP 32 31 rfl rfl (vp_in_nI (n := i38 - 1) (by omega) (by decide)) dX9_plan_244 ?_
                                      refine lv_topi (fun x85 ex85 => ?_)
                                      refine va_iast (n := 40) (f := F84 37) hx hb hK hP hD hS 32 31 rfl rfl (vp_in_nI (n := i38) (by omega) (by decide)) dX9_plan_245 (fun H locs hP hD hS => ?_)
                                      rw [mW_set_37] at hP hD
                                      obtain ⟨F86, eF86⟩ : ∃ f9 : Nat → Nat → Int32, f9 = va_up F84 37 (upd (F84 37) (nI i38).toNatClampNeg x85) := ⟨_, rfl⟩
                                      rw [← eF86] at hP hD
                                      replace hI : StM n (b) F V F86 V32 := ⟨by rw [eF86]; exact hI.1.setF (by decide), trivial⟩
                                      replace hU : ∀ j : Nat, j ∉ ([27, 28, 29, 30, 31, 32, 34, 35, 36, 37, 40, 41] : List Nat) → F86 j = F j := by rw [eF86]; exact mw_up (by decide) hU
                                      refine lv_iinc (v := nI (i38 - 1)) (lv' := [(5, .int (nI (i38 - 1))), (4, .int (nI i27)), (3, .int r7), (0, .ref h), (1, .int p0), (2, .int (nI j6))]) hx hb dX9_plan_246 hl (k := 0) rfl (sb_m1 (by omega)) (by decide) rfl (fun ls hl => ?_)
                                      refine lv_goto (tgt := 158) hx hb dX9_plan_249 (by decide) ?_
                                      exact ih40 (i38 - 1)  F86 _ _ _ (by omega) (by omega) (hI.mono (by omega)) hU  hP hD hS (lv_sub hl [0, 1, 2, 3, 4, 5] rfl)
                              exact lp41 (pl37 + 1) pl37  F31 _ _ _ (by omega) (by omega) (hI.mono (by omega)) hU  hP hD hS hl
                      exact lp30 (n + 1) 0  F22 V26 _ _ _ (by omega) (by omega) (hI.mono (by omega)) hU hV (⟨0, by omega, (by rw [eV26, va_up_ne _ _ (by decide)]; exact (by rw [eV25]; exact va_up_self V23 38 _))⟩) hP hD hS hl
                    · replace c24 : ¬ (n ≤ i18) := fun q9 => c24 ((nI_leI (a := n) (b := i18) (by omega) (by omega)).mpr q9)
                      refine lv_iconst (v := 0) hx hb dX9_plan_70 (by decide) ?_
                      refine lv_istore (lv' := [(5, .int 0), (4, .int (nI i18)), (3, .int r7), (0, .ref h), (1, .int p0), (2, .int (nI j6))]) hx hb dX9_plan_71 hl (by decide) rfl (fun ls hl => ?_)
                      have lp90 : ∀ (fu88 i87 : Nat)  (F91 : Nat → Nat → Int32) (V92 : Nat → Int32) (H : Heap) (locs : List Loc) (ls : Array Slot), n < i87 + fu88 → i87 ≤ n → StM n (b) F V F91 V92 → (∀ j : Nat, j ∉ ([27, 28, 29, 30, 31, 32, 34, 35, 36, 37, 40, 41] : List Nat) → F91 j = F j) → (∀ j : Nat, j ∉ ([33, 38, 39] : List Nat) → V92 j = V j) → va_P (dC, dI) vwCl (mW h a k F91 V92) H → va_D A (mW h a k F91 V92) → va_S A s.heap H locs → lv_has ls 6 [(5, .int (nI i87)), (4, .int (nI i18)), (3, .int r7), (0, .ref h), (1, .int p0), (2, .int (nI j6))] → W p l e (headSpec wq_m_plan rm_m_plan).room s m ([.ref h, .int p0, .int (nI j6)] : List Value).toArray below meth c H locs 0 0 Q0 (F0 m 73 ls []) := by
                        intro fu88
                        induction fu88 with
                        | zero =>
                          intro i87  F91 V92 H locs ls hf hi
                          exact absurd hf (by omega)
                        | succ fu88 ih89 =>
                          intro i87  F91 V92 H locs ls hfi87 hii87 hI hU hV hP hD hS hl
                          refine lv_iload hx hb dX9_plan_73 (lv_at hl 0 rfl) ?_
                          refine lv_aload_n hx hb dX9_plan_75 rfl (lv_at hl 3 rfl) ?_
                          refine va_get (D := (dC, dI)) (ci := 10) (v := .int (V92 21)) (C := RX9) (T := TX9) (N := 46) hx hb hts in_m_plan_X9 hown hK hP 0 rfl rfl 21 (by decide) (hts (.fieldLink RX9 126 "ServiceTreeModel" "services" "I") (by decide +kernel)) (fun _ h9 => h9) rfl dX9_plan_76 ?_
                          refine p1_topr (v := .int (nI n)) (congrArg Value.int hI.1.2.1) ?_
                          refine lv_icmp_ge (tgt := 114) hx hb dX9_plan_79 (by decide) (fun c93 => ?_) (fun c93 => ?_)
                          · replace c93 : n ≤ i87 := (nI_leI (a := n) (b := i87) (by omega) (by omega)).mp c93
                            refine lv_iinc (v := nI (i18 + 1)) (lv' := [(4, .int (nI (i18 + 1))), (5, .int (nI i87)), (3, .int r7), (0, .ref h), (1, .int p0), (2, .int (nI j6))]) hx hb dX9_plan_114 hl (k := 1) rfl (nI_add i18 1) (by decide) rfl (fun ls hl => ?_)
                            refine lv_goto (tgt := 61) hx hb dX9_plan_117 (by decide) ?_
                            exact ih20 (i18 + 1)  F91 V92 _ _ _ (by omega) (by omega) (hI.mono (by omega)) hU hV  hP hD hS (lv_sub hl [0, 2, 3, 4, 5] rfl)
                          · replace c93 : ¬ (n ≤ i87) := fun q9 => c93 ((nI_leI (a := n) (b := i87) (by omega) (by omega)).mpr q9)
                            refine lv_aload_n hx hb dX9_plan_82 rfl (lv_at hl 3 rfl) ?_
                            refine va_get (D := (dC, dI)) (ci := 10) (v := .ref (a 30)) (C := RX9) (T := TX9) (N := 46) hx hb hts in_m_plan_X9 hown hK hP 0 rfl rfl 30 (by decide) (hts (.fieldLink RX9 86 "ServiceTreeModel" "newJob" "[I") (by decide +kernel)) (fun _ h9 => h9) rfl dX9_plan_83 ?_
                            refine lv_iload hx hb dX9_plan_86 (lv_at hl 0 rfl) ?_
                            refine va_iald (n := 40) (f := F91 30) hx hb hK hP 26 25 rfl rfl (vp_in_nI (n := i87) (by omega) (by decide)) dX9_plan_88 ?_
                            refine lv_topi (fun x94 ex94 => ?_)
                            refine lv_if_eq (tgt := 108) hx hb dX9_plan_89 (by decide) (fun c95 => ?_) (fun c95 => ?_)
                            · refine lv_iinc (v := nI (i87 + 1)) (lv' := [(5, .int (nI (i87 + 1))), (4, .int (nI i18)), (3, .int r7), (0, .ref h), (1, .int p0), (2, .int (nI j6))]) hx hb dX9_plan_108 hl (k := 0) rfl (nI_add i87 1) (by decide) rfl (fun ls hl => ?_)
                              refine lv_goto (tgt := 73) hx hb dX9_plan_111 (by decide) ?_
                              exact ih89 (i87 + 1)  F91 V92 _ _ _ (by omega) (by omega) (hI.mono (by omega)) hU hV  hP hD hS (lv_sub hl [0, 1, 2, 3, 4, 5] rfl)
                            · refine lv_aload_n hx hb dX9_plan_92 rfl (lv_at hl 3 rfl) ?_
                              refine va_get (D := (dC, dI)) (ci := 10) (v := .ref (a 40)) (C := RX9) (T := TX9) (N := 46) hx hb hts in_m_plan_X9 hown hK hP 0 rfl rfl 40 (by decide) (hts (.fieldLink RX9 111 "ServiceTreeModel" "ends" "[I") (by decide +kernel)) (fun _ h9 => h9) rfl dX9_plan_93 ?_
                              refine lv_iload hx hb dX9_plan_96 (lv_at hl 0 rfl) ?_
                              refine va_iald (n := 40) (f := F91 40) hx hb hK hP 33 32 rfl rfl (vp_in_nI (n := i87) (by omega) (by decide)) dX9_plan_98 ?_
                              refine lv_topi (fun x96 ex96 => ?_)
                              refine lv_if_ge (tgt := 108) hx hb dX9_plan_99 (by decide) (fun c97 => ?_) (fun c97 => ?_)
                              · refine lv_iinc (v := nI (i87 + 1)) (lv' := [(5, .int (nI (i87 + 1))), (4, .int (nI i18)), (3, .int r7), (0, .ref h), (1, .int p0), (2, .int (nI j6))]) hx hb dX9_plan_108 hl (k := 0) rfl (nI_add i87 1) (by decide) rfl (fun ls hl => ?_)
                                refine lv_goto (tgt := 73) hx hb dX9_plan_111 (by decide) ?_
                                exact ih89 (i87 + 1)  F91 V92 _ _ _ (by omega) (by omega) (hI.mono (by omega)) hU hV  hP hD hS (lv_sub hl [0, 1, 2, 3, 4, 5] rfl)
                              · refine lv_aload_n hx hb dX9_plan_102 rfl (lv_at hl 3 rfl) ?_
                                refine lv_iload hx hb dX9_plan_103 (lv_at hl 0 rfl) ?_
                                have hFc := mw_free hD hS hA
                                refine va_callv (va_runV (As := [.int (nI i87)]) (rest := []) ⟨hx, hb, hml, hown, hts⟩ (c_m_reckon l dC dI h a k F91 V92 n (b) i87 H.size hI.1 (by omega) (by omega)) (cwV 1 hts wc_m_plan_m_reckon_255 rfl rfl rfl (by decide +kernel) ⟨Nat.le_of_ble_eq_true rfl, Nat.le_of_ble_eq_true rfl⟩) ⟨fun a9 U g mk q => by obtain ⟨q0, q1, qP, qK, qD⟩ := q; exact ⟨q0, q1, qP, va_K.moved (u := U) (U := U.calling g mk a9) (Vm.Alike.refl U.vm) qK, qD⟩, va_recv hK hP (ci := 10) (q0 := 0) rfl rfl, fun U hU hW => ⟨rfl, by rw [hU], by rw [hU]; exact hP, va_K.moved hW.alike hK, hD.weaken (fun _ _ _ _ => trivial)⟩⟩ rfl rfl hl.1 rfl (lv_room (Nat.le_of_ble_eq_true rfl)) dX9_plan_105 ⟨Nat.le_of_ble_eq_true rfl, Nat.le_of_ble_eq_true rfl⟩) hS (fun q _ h => hFc q h) hFc (fun u t H1 locs ht hvm hw hB hz1 hk1 hS => ?_)
                                obtain ⟨F99, V100⟩ := u
                                replace hP := hB.1
                                rw [ht] at hP
                                replace hD : va_D A (mW h a k F99 V100) := hB.2.weaken (fun _ q _ h9 => hFc q.1 h9)
                                clear hB
                                generalize H1 = H at hP hS ⊢
                                replace hP : va_P (dC, dI) vwCl (mW h a k F99 V100) H := hP
                                obtain ⟨hwI, hwU, hwV, hw⟩ := hw
                                replace hU : ∀ j : Nat, j ∉ ([27, 28, 29, 30, 31, 32, 34, 35, 36, 37, 40, 41] : List Nat) → F99 j = F j := mw_tr (by decide) hwU hU
                                replace hV : ∀ j : Nat, j ∉ ([33, 38, 39] : List Nat) → V100 j = V j := mw_tr (by decide) hwV hV
                                replace hI : StM n (b + 0) F V F99 V100 := hI.trans hwI
                                replace hI : StM n (b) F V F99 V100 := hI
                                refine lv_iinc (v := nI (i87 + 1)) (lv' := [(5, .int (nI (i87 + 1))), (4, .int (nI i18)), (3, .int r7), (0, .ref h), (1, .int p0), (2, .int (nI j6))]) hx hb dX9_plan_108 hl (k := 0) rfl (nI_add i87 1) (by decide) rfl (fun ls hl => ?_)
                                refine lv_goto (tgt := 73) hx hb dX9_plan_111 (by decide) ?_
                                exact ih89 (i87 + 1)  F99 V100 _ _ _ (by omega) (by omega) (hI.mono (by omega)) hU hV  hP hD hS (lv_sub hl [0, 1, 2, 3, 4, 5] rfl)
                      exact lp90 (n + 1) 0  F22 V23 _ _ _ (by omega) (by omega) (hI.mono (by omega)) hU hV  hP hD hS hl
                exact lp21 (n + 1) 0  F15 V16 _ _ _ (by omega) (by omega) (hI.mono (by omega)) hU hV  hP hD hS hl
              · replace c17 : ¬ (n ≤ i11) := fun q9 => c17 ((nI_leI (a := n) (b := i11) (by omega) (by omega)).mpr q9)
                refine lv_aload_n hx hb dX9_plan_44 rfl (lv_at hl 2 rfl) ?_
                refine va_get (D := (dC, dI)) (ci := 10) (v := .ref (a 40)) (C := RX9) (T := TX9) (N := 46) hx hb hts in_m_plan_X9 hown hK hP 0 rfl rfl 40 (by decide) (hts (.fieldLink RX9 111 "ServiceTreeModel" "ends" "[I") (by decide +kernel)) (fun _ h9 => h9) rfl dX9_plan_45 ?_
                refine lv_iload hx hb dX9_plan_48 (lv_at hl 0 rfl) ?_
                refine lv_iconst (v := (-1)) hx hb dX9_plan_50 (by decide) ?_
                refine va_iast (n := 40) (f := F15 40) hx hb hK hP hD hS 33 32 rfl rfl (vp_in_nI (n := i11) (by omega) (by decide)) dX9_plan_51 (fun H locs hP hD hS => ?_)
                rw [mW_set_40] at hP hD
                obtain ⟨F101, eF101⟩ : ∃ f9 : Nat → Nat → Int32, f9 = va_up F15 40 (upd (F15 40) (nI i11).toNatClampNeg (-1)) := ⟨_, rfl⟩
                rw [← eF101] at hP hD
                replace hI : StM n (b) F V F101 V16 := ⟨by rw [eF101]; exact hI.1.setF (by decide), trivial⟩
                replace hU : ∀ j : Nat, j ∉ ([27, 28, 29, 30, 31, 32, 34, 35, 36, 37, 40, 41] : List Nat) → F101 j = F j := by rw [eF101]; exact mw_up (by decide) hU
                refine lv_iinc (v := nI (i11 + 1)) (lv' := [(4, .int (nI (i11 + 1))), (3, .int r7), (0, .ref h), (1, .int p0), (2, .int (nI j6))]) hx hb dX9_plan_52 hl (k := 0) rfl (nI_add i11 1) (by decide) rfl (fun ls hl => ?_)
                refine lv_goto (tgt := 35) hx hb dX9_plan_55 (by decide) ?_
                exact ih13 (i11 + 1)  F101 V16 _ _ _ (by omega) (by omega) (hI.mono (by omega)) hU hV  hP hD hS (lv_sub hl [0, 1, 2, 3, 4] rfl)
          exact lp14 (n + 1) 0  F8 V9 _ _ _ (by omega) (by omega) (hI.mono (by omega)) hU hV  hP hD hS hl
        · refine lv_iload_n hx hb dX9_plan_30 rfl (lv_at hl 0 rfl) ?_
          rw [hQ]
          exact W.iret (v := r7) hx hb hr (fun t ht hW => ⟨⟨r7, (F8, V9), rfl, ⟨hI.mono (by omega), hU, hV, trivial⟩, by rw [ht]; exact hP, hD⟩, hS.F ht⟩) hS.2.2 dX9_plan_31
      · refine lv_if_ne (tgt := 19) hx hb dX9_plan_14 (by decide) (fun c9 => absurd (by decide) c9) (fun _ => ?_)
        refine lv_iconst (v := (-1)) hx hb dX9_plan_17 (by decide) ?_
        rw [hQ]
        exact W.iret (v := (-1)) hx hb hr (fun t ht hW => ⟨⟨(-1), (F, V), rfl, ⟨hI.mono (by omega), hU, hV, trivial⟩, by rw [ht]; exact hP, hD⟩, hS.F ht⟩) hS.2.2 dX9_plan_18
