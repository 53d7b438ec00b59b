theorem dX9_clash_0 : decode cX9_clash 0 = .ok (.iconst 0, 1) := by decide +kernel
theorem dX9_clash_1 : decode cX9_clash 1 = .ok (.istore_n 2, 1) := by decide +kernel
theorem dX9_clash_2 : decode cX9_clash 2 = .ok (.iconst 0, 1) := by decide +kernel
theorem dX9_clash_3 : decode cX9_clash 3 = .ok (.istore_n 3, 1) := by decide +kernel
theorem dX9_clash_4 : decode cX9_clash 4 = .ok (.iload_n 3, 1) := by decide +kernel
theorem dX9_clash_5 : decode cX9_clash 5 = .ok (.aload_n 0, 1) := by decide +kernel
theorem dX9_clash_6 : decode cX9_clash 6 = .ok (.getfield 126, 3) := by decide +kernel
theorem dX9_clash_9 : decode cX9_clash 9 = .ok (.if_icmp .ge 61, 3) := by decide +kernel
theorem dX9_clash_12 : decode cX9_clash 12 = .ok (.iconst 0, 1) := by decide +kernel
theorem dX9_clash_13 : decode cX9_clash 13 = .ok (.istore 4, 2) := by decide +kernel
theorem dX9_clash_15 : decode cX9_clash 15 = .ok (.iload 4, 2) := by decide +kernel
theorem dX9_clash_17 : decode cX9_clash 17 = .ok (.aload_n 0, 1) := by decide +kernel
theorem dX9_clash_18 : decode cX9_clash 18 = .ok (.getfield 126, 3) := by decide +kernel
theorem dX9_clash_21 : decode cX9_clash 21 = .ok (.if_icmp .ge 43, 3) := by decide +kernel
theorem dX9_clash_24 : decode cX9_clash 24 = .ok (.iload_n 2, 1) := by decide +kernel
theorem dX9_clash_25 : decode cX9_clash 25 = .ok (.ifCond .ne 27, 3) := by decide +kernel
theorem dX9_clash_28 : decode cX9_clash 28 = .ok (.aload_n 1, 1) := by decide +kernel
theorem dX9_clash_29 : decode cX9_clash 29 = .ok (.iload_n 3, 1) := by decide +kernel
theorem dX9_clash_30 : decode cX9_clash 30 = .ok (.baload, 1) := by decide +kernel
theorem dX9_clash_31 : decode cX9_clash 31 = .ok (.ifCond .eq 25, 3) := by decide +kernel
theorem dX9_clash_34 : decode cX9_clash 34 = .ok (.aload_n 1, 1) := by decide +kernel
theorem dX9_clash_35 : decode cX9_clash 35 = .ok (.iload 4, 2) := by decide +kernel
theorem dX9_clash_37 : decode cX9_clash 37 = .ok (.baload, 1) := by decide +kernel
theorem dX9_clash_38 : decode cX9_clash 38 = .ok (.ifCond .eq 18, 3) := by decide +kernel
theorem dX9_clash_41 : decode cX9_clash 41 = .ok (.aload_n 0, 1) := by decide +kernel
theorem dX9_clash_42 : decode cX9_clash 42 = .ok (.iconst 3, 1) := by decide +kernel
theorem dX9_clash_43 : decode cX9_clash 43 = .ok (.iload_n 3, 1) := by decide +kernel
theorem dX9_clash_44 : decode cX9_clash 44 = .ok (.iload 4, 2) := by decide +kernel
theorem dX9_clash_46 : decode cX9_clash 46 = .ok (.invokevirtual 150, 3) := by decide +kernel
theorem dX9_clash_49 : decode cX9_clash 49 = .ok (.ifCond .eq 7, 3) := by decide +kernel
theorem dX9_clash_52 : decode cX9_clash 52 = .ok (.iconst 1, 1) := by decide +kernel
theorem dX9_clash_53 : decode cX9_clash 53 = .ok (.goto 4, 3) := by decide +kernel
theorem dX9_clash_56 : decode cX9_clash 56 = .ok (.iconst 0, 1) := by decide +kernel
theorem dX9_clash_57 : decode cX9_clash 57 = .ok (.istore_n 2, 1) := by decide +kernel
theorem dX9_clash_58 : decode cX9_clash 58 = .ok (.iinc 4 1, 3) := by decide +kernel
theorem dX9_clash_61 : decode cX9_clash 61 = .ok (.goto (-46), 3) := by decide +kernel
theorem dX9_clash_64 : decode cX9_clash 64 = .ok (.iinc 3 1, 3) := by decide +kernel
theorem dX9_clash_67 : decode cX9_clash 67 = .ok (.goto (-63), 3) := by decide +kernel
theorem dX9_clash_70 : decode cX9_clash 70 = .ok (.iload_n 2, 1) := by decide +kernel
theorem dX9_clash_71 : decode cX9_clash 71 = .ok (.ireturn, 1) := by decide +kernel
theorem dX9_waitsAmong_0 : decode cX9_waitsAmong 0 = .ok (.aload_n 1, 1) := by decide +kernel
theorem dX9_waitsAmong_1 : decode cX9_waitsAmong 1 = .ok (.iload_n 2, 1) := by decide +kernel
theorem dX9_waitsAmong_2 : decode cX9_waitsAmong 2 = .ok (.iaload, 1) := by decide +kernel
theorem dX9_waitsAmong_3 : decode cX9_waitsAmong 3 = .ok (.aload_n 1, 1) := by decide +kernel
theorem dX9_waitsAmong_4 : decode cX9_waitsAmong 4 = .ok (.iload_n 3, 1) := by decide +kernel
theorem dX9_waitsAmong_5 : decode cX9_waitsAmong 5 = .ok (.iaload, 1) := by decide +kernel
theorem dX9_waitsAmong_6 : decode cX9_waitsAmong 6 = .ok (.invokestatic 163, 3) := by decide +kernel
theorem dX9_waitsAmong_9 : decode cX9_waitsAmong 9 = .ok (.ifCond .eq 8, 3) := by decide +kernel
theorem dX9_waitsAmong_12 : decode cX9_waitsAmong 12 = .ok (.iload_n 2, 1) := by decide +kernel
theorem dX9_waitsAmong_13 : decode cX9_waitsAmong 13 = .ok (.iload_n 3, 1) := by decide +kernel
theorem dX9_waitsAmong_14 : decode cX9_waitsAmong 14 = .ok (.if_icmp .ne 5, 3) := by decide +kernel
theorem dX9_waitsAmong_17 : decode cX9_waitsAmong 17 = .ok (.iconst 0, 1) := by decide +kernel
theorem dX9_waitsAmong_18 : decode cX9_waitsAmong 18 = .ok (.ireturn, 1) := by decide +kernel
theorem dX9_waitsAmong_19 : decode cX9_waitsAmong 19 = .ok (.aload_n 1, 1) := by decide +kernel
theorem dX9_waitsAmong_20 : decode cX9_waitsAmong 20 = .ok (.iload_n 2, 1) := by decide +kernel
theorem dX9_waitsAmong_21 : decode cX9_waitsAmong 21 = .ok (.iaload, 1) := by decide +kernel
theorem dX9_waitsAmong_22 : decode cX9_waitsAmong 22 = .ok (.iconst 1, 1) := by decide +kernel
theorem dX9_waitsAmong_23 : decode cX9_waitsAmong 23 = .ok (.if_icmp .ne 46, 3) := by decide +kernel
theorem dX9_waitsAmong_26 : decode cX9_waitsAmong 26 = .ok (.aload_n 1, 1) := by decide +kernel
theorem dX9_waitsAmong_27 : decode cX9_waitsAmong 27 = .ok (.iload_n 3, 1) := by decide +kernel
theorem dX9_waitsAmong_28 : decode cX9_waitsAmong 28 = .ok (.iaload, 1) := by decide +kernel
theorem dX9_waitsAmong_29 : decode cX9_waitsAmong 29 = .ok (.iconst 1, 1) := by decide +kernel
theorem dX9_waitsAmong_30 : decode cX9_waitsAmong 30 = .ok (.if_icmp .ne 31, 3) := by decide +kernel
theorem dX9_waitsAmong_33 : decode cX9_waitsAmong 33 = .ok (.aload_n 0, 1) := by decide +kernel
theorem dX9_waitsAmong_34 : decode cX9_waitsAmong 34 = .ok (.iconst 0, 1) := by decide +kernel
theorem dX9_waitsAmong_35 : decode cX9_waitsAmong 35 = .ok (.iload_n 2, 1) := by decide +kernel
theorem dX9_waitsAmong_36 : decode cX9_waitsAmong 36 = .ok (.iload_n 3, 1) := by decide +kernel
theorem dX9_waitsAmong_37 : decode cX9_waitsAmong 37 = .ok (.invokevirtual 150, 3) := by decide +kernel
theorem dX9_waitsAmong_40 : decode cX9_waitsAmong 40 = .ok (.ifCond .ne 13, 3) := by decide +kernel
theorem dX9_waitsAmong_43 : decode cX9_waitsAmong 43 = .ok (.aload_n 0, 1) := by decide +kernel
theorem dX9_waitsAmong_44 : decode cX9_waitsAmong 44 = .ok (.iconst 2, 1) := by decide +kernel
theorem dX9_waitsAmong_45 : decode cX9_waitsAmong 45 = .ok (.iload_n 2, 1) := by decide +kernel
theorem dX9_waitsAmong_46 : decode cX9_waitsAmong 46 = .ok (.iload_n 3, 1) := by decide +kernel
theorem dX9_waitsAmong_47 : decode cX9_waitsAmong 47 = .ok (.invokevirtual 150, 3) := by decide +kernel
theorem dX9_waitsAmong_50 : decode cX9_waitsAmong 50 = .ok (.ifCond .eq 7, 3) := by decide +kernel
theorem dX9_waitsAmong_53 : decode cX9_waitsAmong 53 = .ok (.iconst 1, 1) := by decide +kernel
theorem dX9_waitsAmong_54 : decode cX9_waitsAmong 54 = .ok (.goto 14, 3) := by decide +kernel
theorem dX9_waitsAmong_57 : decode cX9_waitsAmong 57 = .ok (.iconst 0, 1) := by decide +kernel
theorem dX9_waitsAmong_58 : decode cX9_waitsAmong 58 = .ok (.goto 10, 3) := by decide +kernel
theorem dX9_waitsAmong_61 : decode cX9_waitsAmong 61 = .ok (.aload_n 0, 1) := by decide +kernel
theorem dX9_waitsAmong_62 : decode cX9_waitsAmong 62 = .ok (.iconst 3, 1) := by decide +kernel
theorem dX9_waitsAmong_63 : decode cX9_waitsAmong 63 = .ok (.iload_n 2, 1) := by decide +kernel
theorem dX9_waitsAmong_64 : decode cX9_waitsAmong 64 = .ok (.iload_n 3, 1) := by decide +kernel
theorem dX9_waitsAmong_65 : decode cX9_waitsAmong 65 = .ok (.invokevirtual 150, 3) := by decide +kernel
theorem dX9_waitsAmong_68 : decode cX9_waitsAmong 68 = .ok (.ireturn, 1) := by decide +kernel
theorem dX9_waitsAmong_69 : decode cX9_waitsAmong 69 = .ok (.aload_n 1, 1) := by decide +kernel
theorem dX9_waitsAmong_70 : decode cX9_waitsAmong 70 = .ok (.iload_n 3, 1) := by decide +kernel
theorem dX9_waitsAmong_71 : decode cX9_waitsAmong 71 = .ok (.iaload, 1) := by decide +kernel
theorem dX9_waitsAmong_72 : decode cX9_waitsAmong 72 = .ok (.iconst 2, 1) := by decide +kernel
theorem dX9_waitsAmong_73 : decode cX9_waitsAmong 73 = .ok (.if_icmp .ne 27, 3) := by decide +kernel
theorem dX9_waitsAmong_76 : decode cX9_waitsAmong 76 = .ok (.aload_n 0, 1) := by decide +kernel
theorem dX9_waitsAmong_77 : decode cX9_waitsAmong 77 = .ok (.iconst 0, 1) := by decide +kernel
theorem dX9_waitsAmong_78 : decode cX9_waitsAmong 78 = .ok (.iload_n 3, 1) := by decide +kernel
theorem dX9_waitsAmong_79 : decode cX9_waitsAmong 79 = .ok (.iload_n 2, 1) := by decide +kernel
theorem dX9_waitsAmong_80 : decode cX9_waitsAmong 80 = .ok (.invokevirtual 150, 3) := by decide +kernel
theorem dX9_waitsAmong_83 : decode cX9_waitsAmong 83 = .ok (.ifCond .ne 13, 3) := by decide +kernel
theorem dX9_waitsAmong_86 : decode cX9_waitsAmong 86 = .ok (.aload_n 0, 1) := by decide +kernel
theorem dX9_waitsAmong_87 : decode cX9_waitsAmong 87 = .ok (.iconst 2, 1) := by decide +kernel
theorem dX9_waitsAmong_88 : decode cX9_waitsAmong 88 = .ok (.iload_n 3, 1) := by decide +kernel
theorem dX9_waitsAmong_89 : decode cX9_waitsAmong 89 = .ok (.iload_n 2, 1) := by decide +kernel
theorem dX9_waitsAmong_90 : decode cX9_waitsAmong 90 = .ok (.invokevirtual 150, 3) := by decide +kernel
theorem dX9_waitsAmong_93 : decode cX9_waitsAmong 93 = .ok (.ifCond .eq 7, 3) := by decide +kernel
theorem dX9_waitsAmong_96 : decode cX9_waitsAmong 96 = .ok (.iconst 1, 1) := by decide +kernel
theorem dX9_waitsAmong_97 : decode cX9_waitsAmong 97 = .ok (.goto 4, 3) := by decide +kernel
theorem dX9_waitsAmong_100 : decode cX9_waitsAmong 100 = .ok (.iconst 0, 1) := by decide +kernel
theorem dX9_waitsAmong_101 : decode cX9_waitsAmong 101 = .ok (.ireturn, 1) := by decide +kernel
theorem dX9_isUpOrWaiting_0 : decode cX9_isUpOrWaiting 0 = .ok (.aload_n 0, 1) := by decide +kernel
theorem dX9_isUpOrWaiting_1 : decode cX9_isUpOrWaiting 1 = .ok (.getfield 31, 3) := by decide +kernel
theorem dX9_isUpOrWaiting_4 : decode cX9_isUpOrWaiting 4 = .ok (.iload_n 1, 1) := by decide +kernel
theorem dX9_isUpOrWaiting_5 : decode cX9_isUpOrWaiting 5 = .ok (.iaload, 1) := by decide +kernel
theorem dX9_isUpOrWaiting_6 : decode cX9_isUpOrWaiting 6 = .ok (.iconst 2, 1) := by decide +kernel
theorem dX9_isUpOrWaiting_7 : decode cX9_isUpOrWaiting 7 = .ok (.if_icmp .eq 13, 3) := by decide +kernel
theorem dX9_isUpOrWaiting_10 : decode cX9_isUpOrWaiting 10 = .ok (.aload_n 0, 1) := by decide +kernel
theorem dX9_isUpOrWaiting_11 : decode cX9_isUpOrWaiting 11 = .ok (.getfield 31, 3) := by decide +kernel
theorem dX9_isUpOrWaiting_14 : decode cX9_isUpOrWaiting 14 = .ok (.iload_n 1, 1) := by decide +kernel
theorem dX9_isUpOrWaiting_15 : decode cX9_isUpOrWaiting 15 = .ok (.iaload, 1) := by decide +kernel
theorem dX9_isUpOrWaiting_16 : decode cX9_isUpOrWaiting 16 = .ok (.iconst 5, 1) := by decide +kernel
theorem dX9_isUpOrWaiting_17 : decode cX9_isUpOrWaiting 17 = .ok (.if_icmp .ne 7, 3) := by decide +kernel
theorem dX9_isUpOrWaiting_20 : decode cX9_isUpOrWaiting 20 = .ok (.iconst 1, 1) := by decide +kernel
theorem dX9_isUpOrWaiting_21 : decode cX9_isUpOrWaiting 21 = .ok (.goto 4, 3) := by decide +kernel
theorem dX9_isUpOrWaiting_24 : decode cX9_isUpOrWaiting 24 = .ok (.iconst 0, 1) := by decide +kernel
theorem dX9_isUpOrWaiting_25 : decode cX9_isUpOrWaiting 25 = .ok (.ireturn, 1) := by decide +kernel
theorem dX9_many_0 : decode cX9_many 0 = .ok (.iconst 0, 1) := by decide +kernel
theorem dX9_many_1 : decode cX9_many 1 = .ok (.istore_n 2, 1) := by decide +kernel
theorem dX9_many_2 : decode cX9_many 2 = .ok (.iconst 0, 1) := by decide +kernel
theorem dX9_many_3 : decode cX9_many 3 = .ok (.istore_n 3, 1) := by decide +kernel
theorem dX9_many_4 : decode cX9_many 4 = .ok (.iload_n 3, 1) := by decide +kernel
theorem dX9_many_5 : decode cX9_many 5 = .ok (.iload_n 1, 1) := by decide +kernel
theorem dX9_many_6 : decode cX9_many 6 = .ok (.if_icmp .ge 23, 3) := by decide +kernel
theorem dX9_many_9 : decode cX9_many 9 = .ok (.iload_n 2, 1) := by decide +kernel
theorem dX9_many_10 : decode cX9_many 10 = .ok (.aload_n 0, 1) := by decide +kernel
theorem dX9_many_11 : decode cX9_many 11 = .ok (.iload_n 3, 1) := by decide +kernel
theorem dX9_many_12 : decode cX9_many 12 = .ok (.iaload, 1) := by decide +kernel
theorem dX9_many_13 : decode cX9_many 13 = .ok (.ifCond .eq 7, 3) := by decide +kernel
theorem dX9_many_16 : decode cX9_many 16 = .ok (.iconst 1, 1) := by decide +kernel
theorem dX9_many_17 : decode cX9_many 17 = .ok (.goto 4, 3) := by decide +kernel
theorem dX9_many_20 : decode cX9_many 20 = .ok (.iconst 0, 1) := by decide +kernel
theorem dX9_many_21 : decode cX9_many 21 = .ok (.iadd, 1) := by decide +kernel
theorem dX9_many_22 : decode cX9_many 22 = .ok (.istore_n 2, 1) := by decide +kernel
theorem dX9_many_23 : decode cX9_many 23 = .ok (.iinc 3 1, 3) := by decide +kernel
theorem dX9_many_26 : decode cX9_many 26 = .ok (.goto (-22), 3) := by decide +kernel
theorem dX9_many_29 : decode cX9_many 29 = .ok (.iload_n 2, 1) := by decide +kernel
theorem dX9_many_30 : decode cX9_many 30 = .ok (.ireturn, 1) := by decide +kernel
theorem dX9_waitsForAny_0 : decode cX9_waitsForAny 0 = .ok (.iconst 0, 1) := by decide +kernel
theorem dX9_waitsForAny_1 : decode cX9_waitsForAny 1 = .ok (.istore_n 2, 1) := by decide +kernel
theorem dX9_waitsForAny_2 : decode cX9_waitsForAny 2 = .ok (.iconst 0, 1) := by decide +kernel
theorem dX9_waitsForAny_3 : decode cX9_waitsForAny 3 = .ok (.istore_n 3, 1) := by decide +kernel
theorem dX9_waitsForAny_4 : decode cX9_waitsForAny 4 = .ok (.iload_n 3, 1) := by decide +kernel
theorem dX9_waitsForAny_5 : decode cX9_waitsForAny 5 = .ok (.aload_n 0, 1) := by decide +kernel
theorem dX9_waitsForAny_6 : decode cX9_waitsForAny 6 = .ok (.getfield 126, 3) := by decide +kernel
theorem dX9_waitsForAny_9 : decode cX9_waitsForAny 9 = .ok (.if_icmp .ge 32, 3) := by decide +kernel
theorem dX9_waitsForAny_12 : decode cX9_waitsForAny 12 = .ok (.iload_n 2, 1) := by decide +kernel
theorem dX9_waitsForAny_13 : decode cX9_waitsForAny 13 = .ok (.ifCond .ne 16, 3) := by decide +kernel
theorem dX9_waitsForAny_16 : decode cX9_waitsForAny 16 = .ok (.aload_n 0, 1) := by decide +kernel
theorem dX9_waitsForAny_17 : decode cX9_waitsForAny 17 = .ok (.aload_n 0, 1) := by decide +kernel
theorem dX9_waitsForAny_18 : decode cX9_waitsForAny 18 = .ok (.getfield 71, 3) := by decide +kernel
theorem dX9_waitsForAny_21 : decode cX9_waitsForAny 21 = .ok (.iload_n 1, 1) := by decide +kernel
theorem dX9_waitsForAny_22 : decode cX9_waitsForAny 22 = .ok (.iload_n 3, 1) := by decide +kernel
theorem dX9_waitsForAny_23 : decode cX9_waitsForAny 23 = .ok (.invokevirtual 167, 3) := by decide +kernel
theorem dX9_waitsForAny_26 : decode cX9_waitsForAny 26 = .ok (.ifCond .eq 7, 3) := by decide +kernel
theorem dX9_waitsForAny_29 : decode cX9_waitsForAny 29 = .ok (.iconst 1, 1) := by decide +kernel
theorem dX9_waitsForAny_30 : decode cX9_waitsForAny 30 = .ok (.goto 4, 3) := by decide +kernel
theorem dX9_waitsForAny_33 : decode cX9_waitsForAny 33 = .ok (.iconst 0, 1) := by decide +kernel
theorem dX9_waitsForAny_34 : decode cX9_waitsForAny 34 = .ok (.istore_n 2, 1) := by decide +kernel
theorem dX9_waitsForAny_35 : decode cX9_waitsForAny 35 = .ok (.iinc 3 1, 3) := by decide +kernel
theorem dX9_waitsForAny_38 : decode cX9_waitsForAny 38 = .ok (.goto (-34), 3) := by decide +kernel
theorem dX9_waitsForAny_41 : decode cX9_waitsForAny 41 = .ok (.iload_n 2, 1) := by decide +kernel
theorem dX9_waitsForAny_42 : decode cX9_waitsForAny 42 = .ok (.ireturn, 1) := by decide +kernel
theorem dX9_hasNeeds_0 : decode cX9_hasNeeds 0 = .ok (.iconst 1, 1) := by decide +kernel
theorem dX9_hasNeeds_1 : decode cX9_hasNeeds 1 = .ok (.istore_n 2, 1) := by decide +kernel
theorem dX9_hasNeeds_2 : decode cX9_hasNeeds 2 = .ok (.iconst 0, 1) := by decide +kernel
theorem dX9_hasNeeds_3 : decode cX9_hasNeeds 3 = .ok (.istore_n 3, 1) := by decide +kernel
theorem dX9_hasNeeds_4 : decode cX9_hasNeeds 4 = .ok (.iload_n 3, 1) := by decide +kernel
theorem dX9_hasNeeds_5 : decode cX9_hasNeeds 5 = .ok (.aload_n 0, 1) := by decide +kernel
theorem dX9_hasNeeds_6 : decode cX9_hasNeeds 6 = .ok (.getfield 126, 3) := by decide +kernel
theorem dX9_hasNeeds_9 : decode cX9_hasNeeds 9 = .ok (.if_icmp .ge 39, 3) := by decide +kernel
theorem dX9_hasNeeds_12 : decode cX9_hasNeeds 12 = .ok (.iload_n 2, 1) := by decide +kernel
theorem dX9_hasNeeds_13 : decode cX9_hasNeeds 13 = .ok (.ifCond .eq 27, 3) := by decide +kernel
theorem dX9_hasNeeds_16 : decode cX9_hasNeeds 16 = .ok (.aload_n 0, 1) := by decide +kernel
theorem dX9_hasNeeds_17 : decode cX9_hasNeeds 17 = .ok (.iconst 0, 1) := by decide +kernel
theorem dX9_hasNeeds_18 : decode cX9_hasNeeds 18 = .ok (.iload_n 1, 1) := by decide +kernel
theorem dX9_hasNeeds_19 : decode cX9_hasNeeds 19 = .ok (.iload_n 3, 1) := by decide +kernel
theorem dX9_hasNeeds_20 : decode cX9_hasNeeds 20 = .ok (.invokevirtual 150, 3) := by decide +kernel
theorem dX9_hasNeeds_23 : decode cX9_hasNeeds 23 = .ok (.ifCond .eq 13, 3) := by decide +kernel
theorem dX9_hasNeeds_26 : decode cX9_hasNeeds 26 = .ok (.aload_n 0, 1) := by decide +kernel
theorem dX9_hasNeeds_27 : decode cX9_hasNeeds 27 = .ok (.getfield 31, 3) := by decide +kernel
theorem dX9_hasNeeds_30 : decode cX9_hasNeeds 30 = .ok (.iload_n 3, 1) := by decide +kernel
theorem dX9_hasNeeds_31 : decode cX9_hasNeeds 31 = .ok (.iaload, 1) := by decide +kernel
theorem dX9_hasNeeds_32 : decode cX9_hasNeeds 32 = .ok (.iconst 2, 1) := by decide +kernel
theorem dX9_hasNeeds_33 : decode cX9_hasNeeds 33 = .ok (.if_icmp .ne 7, 3) := by decide +kernel
theorem dX9_hasNeeds_36 : decode cX9_hasNeeds 36 = .ok (.iconst 1, 1) := by decide +kernel
theorem dX9_hasNeeds_37 : decode cX9_hasNeeds 37 = .ok (.goto 4, 3) := by decide +kernel
theorem dX9_hasNeeds_40 : decode cX9_hasNeeds 40 = .ok (.iconst 0, 1) := by decide +kernel
theorem dX9_hasNeeds_41 : decode cX9_hasNeeds 41 = .ok (.istore_n 2, 1) := by decide +kernel
theorem dX9_hasNeeds_42 : decode cX9_hasNeeds 42 = .ok (.iinc 3 1, 3) := by decide +kernel
theorem dX9_hasNeeds_45 : decode cX9_hasNeeds 45 = .ok (.goto (-41), 3) := by decide +kernel
theorem dX9_hasNeeds_48 : decode cX9_hasNeeds 48 = .ok (.iload_n 2, 1) := by decide +kernel
theorem dX9_hasNeeds_49 : decode cX9_hasNeeds 49 = .ok (.ireturn, 1) := by decide +kernel
theorem dX9_in_0 : decode cX9_in 0 = .ok (.iload_n 1, 1) := by decide +kernel
theorem dX9_in_1 : decode cX9_in 1 = .ok (.ifCond .lt 8, 3) := by decide +kernel
theorem dX9_in_4 : decode cX9_in 4 = .ok (.iload_n 1, 1) := by decide +kernel
theorem dX9_in_5 : decode cX9_in 5 = .ok (.iconst 5, 1) := by decide +kernel
theorem dX9_in_6 : decode cX9_in 6 = .ok (.if_icmp .le 5, 3) := by decide +kernel
theorem dX9_in_9 : decode cX9_in 9 = .ok (.iconst (-1), 1) := by decide +kernel
theorem dX9_in_10 : decode cX9_in 10 = .ok (.ireturn, 1) := by decide +kernel
theorem dX9_in_11 : decode cX9_in 11 = .ok (.iconst 0, 1) := by decide +kernel
theorem dX9_in_12 : decode cX9_in 12 = .ok (.istore_n 2, 1) := by decide +kernel
theorem dX9_in_13 : decode cX9_in 13 = .ok (.iconst 0, 1) := by decide +kernel
theorem dX9_in_14 : decode cX9_in 14 = .ok (.istore_n 3, 1) := by decide +kernel
theorem dX9_in_15 : decode cX9_in 15 = .ok (.iload_n 3, 1) := by decide +kernel
theorem dX9_in_16 : decode cX9_in 16 = .ok (.aload_n 0, 1) := by decide +kernel
theorem dX9_in_17 : decode cX9_in 17 = .ok (.getfield 126, 3) := by decide +kernel
theorem dX9_in_20 : decode cX9_in 20 = .ok (.if_icmp .ge 27, 3) := by decide +kernel
theorem dX9_in_23 : decode cX9_in 23 = .ok (.iload_n 2, 1) := by decide +kernel
theorem dX9_in_24 : decode cX9_in 24 = .ok (.aload_n 0, 1) := by decide +kernel
theorem dX9_in_25 : decode cX9_in 25 = .ok (.getfield 31, 3) := by decide +kernel
theorem dX9_in_28 : decode cX9_in 28 = .ok (.iload_n 3, 1) := by decide +kernel
theorem dX9_in_29 : decode cX9_in 29 = .ok (.iaload, 1) := by decide +kernel
theorem dX9_in_30 : decode cX9_in 30 = .ok (.iload_n 1, 1) := by decide +kernel
theorem dX9_in_31 : decode cX9_in 31 = .ok (.if_icmp .ne 7, 3) := by decide +kernel
theorem dX9_in_34 : decode cX9_in 34 = .ok (.iconst 1, 1) := by decide +kernel
theorem dX9_in_35 : decode cX9_in 35 = .ok (.goto 4, 3) := by decide +kernel
theorem dX9_in_38 : decode cX9_in 38 = .ok (.iconst 0, 1) := by decide +kernel
theorem dX9_in_39 : decode cX9_in 39 = .ok (.iadd, 1) := by decide +kernel
theorem dX9_in_40 : decode cX9_in 40 = .ok (.istore_n 2, 1) := by decide +kernel
theorem dX9_in_41 : decode cX9_in 41 = .ok (.iinc 3 1, 3) := by decide +kernel
theorem dX9_in_44 : decode cX9_in 44 = .ok (.goto (-29), 3) := by decide +kernel
theorem dX9_in_47 : decode cX9_in 47 = .ok (.iload_n 2, 1) := by decide +kernel
theorem dX9_in_48 : decode cX9_in 48 = .ok (.ireturn, 1) := by decide +kernel
def wq_m_clash_member : List Cond := [.code yX9_clash cX9_clash 5 (some .boolean), .fieldLink RX9 126 "ServiceTreeModel" "services" "I", .methodLink RX9 150 yX9_has, .instanceMethod yX9_has, .selects RX9 yX9_has yX9_has, .initialized RX9] ++ (wsX90 ++ (wq_m_has))
theorem in_m_clash_member_X9 : ∀ w ∈ wsX90, w ∈ wq_m_clash_member := fun _ h => List.mem_append_right _ (List.mem_append_left _ (h))
set_option maxRecDepth 20000 in
theorem wi_m_clash_member : ∀ w ∈ wq_m_clash_member, w ∈ lw_tbl := List.forall_mem_append.mpr ⟨(by decide +kernel), List.forall_mem_append.mpr ⟨inKX9, wi_m_has⟩⟩
set_option maxRecDepth 20000 in
theorem wg_m_clash_member : GoodIn wq_m_clash_member wq_m_clash_member := goodIn_sub (fun _ h => h) (by decide +kernel)
set_option maxRecDepth 20000 in
theorem wc_m_clash_member_m_has_150 : GoodIn wq_m_clash_member (wsV RX9 150 RX9 yX9_has wq_m_has) := goodIn_app (goodIn_of _ (by decide +kernel)) (fun w h => ⟨List.mem_append_right _ (List.mem_append_right _ (h)), (wg_m_has w h).2⟩)
def rm_m_clash_member : Room := { frames := 1, cells := 0, slots := 0, locals := 23 }
set_option maxHeartbeats 4000000 in
set_option maxRecDepth 100000 in
theorem c_m_clash_member (l : Launch) (dC : Nat → ClassId) (dI : Nat → Nat → Nat) (h : Nat) (a : Nat → Nat) (k : Nat → ClassId) (F : Nat → Nat → Int32) (V : Nat → Int32) (n b : Nat)  (sz : Nat) (hI0 : InvM n b F V) (hb0 : b + 0 < 2147483648)  : Met l yX9_clash wq_m_clash_member rm_m_clash_member (va_Pc [.ref h, .ref (a 27)] (fun U => U.heap.size = sz ∧ va_P (dC, dI) vwCl (mW h a k F V) U.heap ∧ va_K (dC, dI) vwCl (mT k) U ∧ va_D (fun _ => True) (mW h a k F V))) (va_Qi (fun (r : Int32) (u : (Nat → Nat → Int32) × (Nat → Int32)) => u.1 = F ∧ u.2 = V ∧ (r = 0 ∨ r = 1)) (fun (u : (Nat → Nat → Int32) × (Nat → Int32)) (t : State) => va_P (dC, dI) vwCl (mW h a k u.1 u.2) t.heap ∧ va_D (va_A (mW h a k F V) sz) (mW h a k u.1 u.2)) (va_A (mW h a k F V) sz)) 0 0 (va_A (mW h a k F V) sz) := by
  have hn : n ≤ 40 := hI0.1
  have hI : StM n b F V F V := StM.rf hI0
  have hU : ∀ j : Nat, j ∉ ([] : List Nat) → F j = F j := fun _ _ => rfl
  have hV : ∀ j : Nat, j ∉ ([] : List Nat) → V j = V j := fun _ _ => rfl
  refine Met.ofW (cc := cX9_clash) (maxL := 5) (ret := (some .boolean)) (by decide) rfl ?_
  intro p e s m args below meth c s₁ B hml hv
  obtain ⟨rfl, hsz, hP, hK, hD0⟩ := hv
  have hx := B.exec
  have hb := B.bytes
  have hr := B.returns
  have hts := atoms_spec (ws := wq_m_clash_member) B.pre
  have hown : s.vm.findClass RX9 = some m.cls := findClass_of_methodNamed B.named
  have hlocks := B.notSynchronized
  subst hsz
  have hD := hD0.self (sz := s.heap.size)
  generalize hAe : va_A (mW h a k F V) s.heap.size = A at hD ⊢
  have hA : ∀ q : Nat, s.heap.size ≤ q → A q := fun q h => by rw [← hAe]; exact Or.inr h
  have hS : va_S A s.heap s.heap [] := va_S.rf
  have hl := lv_entry ([.ref h, .ref (a 27)]) (n := 5) (Nat.le_of_ble_eq_true rfl)
  rw [lg_entry_eq]
  generalize (lg_sl ([.ref h, .ref (a 27)]) ++ List.replicate (5 - (lg_sl ([.ref h, .ref (a 27)])).length) Slot.unset).toArray = ls at hl ⊢
  have hl : lv_has ls 5 [(0, .ref h), (1, .ref (a 27))] := hl
  refine mw_Q (fun Q0 hQ => ?_)
  refine lv_iconst (v := 0) hx hb dX9_clash_0 (by decide) ?_
  refine lv_istore_n (lv' := [(2, .int 0), (0, .ref h), (1, .ref (a 27))]) hx hb dX9_clash_1 rfl hl (by decide) rfl (fun ls hl => ?_)
  refine lv_iconst (v := 0) hx hb dX9_clash_2 (by decide) ?_
  refine lv_istore_n (lv' := [(3, .int 0), (2, .int 0), (0, .ref h), (1, .ref (a 27))]) hx hb dX9_clash_3 rfl hl (by decide) rfl (fun ls hl => ?_)
  have lp4 : ∀ (fu2 i1 : Nat) (y5 : Int32) (H : Heap) (locs : List Loc) (ls : Array Slot), n < i1 + fu2 → i1 ≤ n → (y5 = 0 ∨ y5 = 1) → va_P (dC, dI) vwCl (mW h a k F V) H → va_D A (mW h a k F V) → va_S A s.heap H locs → lv_has ls 5 [(3, .int (nI i1)), (2, .int y5), (0, .ref h), (1, .ref (a 27))] → W p l e (headSpec wq_m_clash_member rm_m_clash_member).room s m ([.ref h, .ref (a 27)] : List Value).toArray below meth c H locs 0 0 Q0 (F0 m 4 ls []) := by
    intro fu2
    induction fu2 with
    | zero =>
      intro i1 y5 H locs ls hf hi
      exact absurd hf (by omega)
    | succ fu2 ih3 =>
      intro i1 y5 H locs ls hfi1 hii1 hb2_i1 hP hD hS hl
      refine lv_iload_n hx hb dX9_clash_4 rfl (lv_at hl 0 rfl) ?_
      refine lv_aload_n hx hb dX9_clash_5 rfl (lv_at hl 2 rfl) ?_
      refine va_get (D := (dC, dI)) (ci := 10) (v := .int (V 21)) (C := RX9) (T := TX9) (N := 46) hx hb hts in_m_clash_member_X9 hown hK hP 0 rfl rfl 21 (by decide) (hts (.fieldLink RX9 126 "ServiceTreeModel" "services" "I") (by decide +kernel)) (fun _ h9 => h9) rfl dX9_clash_6 ?_
      refine p1_topr (v := .int (nI n)) (congrArg Value.int hI.1.2.1) ?_
      refine lv_icmp_ge (tgt := 70) hx hb dX9_clash_9 (by decide) (fun c6 => ?_) (fun c6 => ?_)
      · replace c6 : n ≤ i1 := (nI_leI (a := n) (b := i1) (by omega) (by omega)).mp c6
        refine lv_iload_n hx hb dX9_clash_70 rfl (lv_at hl 1 rfl) ?_
        rw [hQ]
        exact W.zret (v := y5) hx hb hr (mw_nb hb2_i1) (fun t ht hW => ⟨⟨y5, (F, V), rfl, ⟨rfl, rfl, hb2_i1⟩, by rw [ht]; exact hP, hD⟩, hS.F ht⟩) hS.2.2 dX9_clash_71
      · replace c6 : ¬ (n ≤ i1) := fun q9 => c6 ((nI_leI (a := n) (b := i1) (by omega) (by omega)).mpr q9)
        refine lv_iconst (v := 0) hx hb dX9_clash_12 (by decide) ?_
        refine lv_istore (lv' := [(4, .int 0), (3, .int (nI i1)), (2, .int y5), (0, .ref h), (1, .ref (a 27))]) hx hb dX9_clash_13 hl (by decide) rfl (fun ls hl => ?_)
        have lp10 : ∀ (fu8 i7 : Nat) (y11 : Int32) (H : Heap) (locs : List Loc) (ls : Array Slot), n < i7 + fu8 → i7 ≤ n → (y11 = 0 ∨ y11 = 1) → va_P (dC, dI) vwCl (mW h a k F V) H → va_D A (mW h a k F V) → va_S A s.heap H locs → lv_has ls 5 [(4, .int (nI i7)), (3, .int (nI i1)), (2, .int y11), (0, .ref h), (1, .ref (a 27))] → W p l e (headSpec wq_m_clash_member rm_m_clash_member).room s m ([.ref h, .ref (a 27)] : List Value).toArray below meth c H locs 0 0 Q0 (F0 m 15 ls []) := by
          intro fu8
          induction fu8 with
          | zero =>
            intro i7 y11 H locs ls hf hi
            exact absurd hf (by omega)
          | succ fu8 ih9 =>
            intro i7 y11 H locs ls hfi7 hii7 hb2_i7 hP hD hS hl
            refine lv_iload hx hb dX9_clash_15 (lv_at hl 0 rfl) ?_
            refine lv_aload_n hx hb dX9_clash_17 rfl (lv_at hl 3 rfl) ?_
            refine va_get (D := (dC, dI)) (ci := 10) (v := .int (V 21)) (C := RX9) (T := TX9) (N := 46) hx hb hts in_m_clash_member_X9 hown hK hP 0 rfl rfl 21 (by decide) (hts (.fieldLink RX9 126 "ServiceTreeModel" "services" "I") (by decide +kernel)) (fun _ h9 => h9) rfl dX9_clash_18 ?_
            refine p1_topr (v := .int (nI n)) (congrArg Value.int hI.1.2.1) ?_
            refine lv_icmp_ge (tgt := 64) hx hb dX9_clash_21 (by decide) (fun c12 => ?_) (fun c12 => ?_)
            · replace c12 : n ≤ i7 := (nI_leI (a := n) (b := i7) (by omega) (by omega)).mp c12
              refine lv_iinc (v := nI (i1 + 1)) (lv' := [(3, .int (nI (i1 + 1))), (4, .int (nI i7)), (2, .int y11), (0, .ref h), (1, .ref (a 27))]) hx hb dX9_clash_64 hl (k := 1) rfl (nI_add i1 1) (by decide) rfl (fun ls hl => ?_)
              refine lv_goto (tgt := 4) hx hb dX9_clash_67 (by decide) ?_
              exact ih3 (i1 + 1) y11 _ _ _ (by omega) (by omega) hb2_i7 hP hD hS (lv_sub hl [0, 2, 3, 4] rfl)
            · replace c12 : ¬ (n ≤ i7) := fun q9 => c12 ((nI_leI (a := n) (b := i7) (by omega) (by omega)).mpr q9)
              refine lv_iload_n hx hb dX9_clash_24 rfl (lv_at hl 2 rfl) ?_
              refine lv_if_ne (tgt := 52) hx hb dX9_clash_25 (by decide) (fun c13 => ?_) (fun c13 => ?_)
              · refine lv_iconst (v := 1) hx hb dX9_clash_52 (by decide) ?_
                refine lv_goto (tgt := 57) hx hb dX9_clash_53 (by decide) ?_
                refine lv_istore_n (lv' := [(2, .int 1), (4, .int (nI i7)), (3, .int (nI i1)), (0, .ref h), (1, .ref (a 27))]) hx hb dX9_clash_57 rfl hl (by decide) rfl (fun ls hl => ?_)
                refine lv_iinc (v := nI (i7 + 1)) (lv' := [(4, .int (nI (i7 + 1))), (2, .int 1), (3, .int (nI i1)), (0, .ref h), (1, .ref (a 27))]) hx hb dX9_clash_58 hl (k := 1) rfl (nI_add i7 1) (by decide) rfl (fun ls hl => ?_)
                refine lv_goto (tgt := 15) hx hb dX9_clash_61 (by decide) ?_
                exact ih9 (i7 + 1) 1 _ _ _ (by omega) (by omega) (Or.inr rfl) hP hD hS (lv_sub hl [0, 2, 1, 3, 4] rfl)
              · refine lv_aload_n hx hb dX9_clash_28 rfl (lv_at hl 4 rfl) ?_
                refine lv_iload_n hx hb dX9_clash_29 rfl (lv_at hl 1 rfl) ?_
                refine va_zald (n := 40) (f := F 27) hx hb hK hP 23 22 rfl rfl (vp_in_nI (n := i1) (by omega) (by decide)) dX9_clash_30 ?_
                refine lv_topi (fun x14 ex14 => ?_)
                refine lv_if_eq (tgt := 56) hx hb dX9_clash_31 (by decide) (fun c15 => ?_) (fun c15 => ?_)
                · refine lv_iconst (v := 0) hx hb dX9_clash_56 (by decide) ?_
                  refine lv_istore_n (lv' := [(2, .int 0), (4, .int (nI i7)), (3, .int (nI i1)), (0, .ref h), (1, .ref (a 27))]) hx hb dX9_clash_57 rfl hl (by decide) rfl (fun ls hl => ?_)
                  refine lv_iinc (v := nI (i7 + 1)) (lv' := [(4, .int (nI (i7 + 1))), (2, .int 0), (3, .int (nI i1)), (0, .ref h), (1, .ref (a 27))]) hx hb dX9_clash_58 hl (k := 1) rfl (nI_add i7 1) (by decide) rfl (fun ls hl => ?_)
                  refine lv_goto (tgt := 15) hx hb dX9_clash_61 (by decide) ?_
                  exact ih9 (i7 + 1) 0 _ _ _ (by omega) (by omega) (Or.inl rfl) hP hD hS (lv_sub hl [0, 2, 1, 3, 4] rfl)
                · refine lv_aload_n hx hb dX9_clash_34 rfl (lv_at hl 4 rfl) ?_
                  refine lv_iload hx hb dX9_clash_35 (lv_at hl 0 rfl) ?_
                  refine va_zald (n := 40) (f := F 27) hx hb hK hP 23 22 rfl rfl (vp_in_nI (n := i7) (by omega) (by decide)) dX9_clash_37 ?_
                  refine lv_topi (fun x16 ex16 => ?_)
                  refine lv_if_eq (tgt := 56) hx hb dX9_clash_38 (by decide) (fun c17 => ?_) (fun c17 => ?_)
                  · refine lv_iconst (v := 0) hx hb dX9_clash_56 (by decide) ?_
                    refine lv_istore_n (lv' := [(2, .int 0), (4, .int (nI i7)), (3, .int (nI i1)), (0, .ref h), (1, .ref (a 27))]) hx hb dX9_clash_57 rfl hl (by decide) rfl (fun ls hl => ?_)
                    refine lv_iinc (v := nI (i7 + 1)) (lv' := [(4, .int (nI (i7 + 1))), (2, .int 0), (3, .int (nI i1)), (0, .ref h), (1, .ref (a 27))]) hx hb dX9_clash_58 hl (k := 1) rfl (nI_add i7 1) (by decide) rfl (fun ls hl => ?_)
                    refine lv_goto (tgt := 15) hx hb dX9_clash_61 (by decide) ?_
                    exact ih9 (i7 + 1) 0 _ _ _ (by omega) (by omega) (Or.inl rfl) hP hD hS (lv_sub hl [0, 2, 1, 3, 4] rfl)
                  · refine lv_aload_n hx hb dX9_clash_41 rfl (lv_at hl 3 rfl) ?_
                    refine lv_iconst (v := 3) hx hb dX9_clash_42 (by decide) ?_
                    refine lv_iload_n hx hb dX9_clash_43 rfl (lv_at hl 1 rfl) ?_
                    refine lv_iload hx hb dX9_clash_44 (lv_at hl 0 rfl) ?_
                    have hFc := mw_free hD hS hA
                    refine va_calli (va_runV (As := [.int 3, .int (nI i1), .int (nI i7)]) (rest := []) ⟨hx, hb, hml, hown, hts⟩ (c_m_has l dC dI h a k F V n (b) 3 i1 i7 H.size hI.1 (by omega) (by omega) (by omega) (by omega)) (cwV 3 hts wc_m_clash_member_m_has_150 rfl rfl rfl (by decide +kernel) ⟨Nat.le_of_ble_eq_true rfl, Nat.le_of_ble_eq_true rfl⟩) ⟨fun a9 U g mk q => by obtain ⟨q0, q1, qP, qK, qD⟩ := q; exact ⟨q0, q1, qP, va_K.moved (u := U) (U := U.calling g mk a9) (Vm.Alike.refl U.vm) qK, qD⟩, va_recv hK hP (ci := 10) (q0 := 0) rfl rfl, fun U hU hW => ⟨rfl, by rw [hU], by rw [hU]; exact hP, va_K.moved hW.alike hK, hD.weaken (fun _ _ _ _ => trivial)⟩⟩ rfl rfl hl.1 rfl (lv_room (Nat.le_of_ble_eq_true rfl)) dX9_clash_46 ⟨Nat.le_of_ble_eq_true rfl, Nat.le_of_ble_eq_true rfl⟩) hS (fun q _ h => hFc q h) hFc (fun r18 u t H1 locs ht hvm hw hB hz1 hk1 hS => ?_)
                    obtain ⟨F19, V20⟩ := u
                    replace hP := hB.1
                    rw [ht] at hP
                    replace hD : va_D A (mW h a k F19 V20) := hB.2.weaken (fun _ q _ h9 => hFc q.1 h9)
                    clear hB
                    generalize H1 = H at hP hS ⊢
                    replace hP : va_P (dC, dI) vwCl (mW h a k F19 V20) H := hP
                    obtain ⟨hwF, hwV, hw⟩ : F19 = F ∧ V20 = V ∧ _ := hw
                    rw [hwF, hwV] at hP hD
                    have br18 := hw
                    refine lv_if_eq (tgt := 56) hx hb dX9_clash_49 (by decide) (fun c21 => ?_) (fun c21 => ?_)
                    · refine lv_iconst (v := 0) hx hb dX9_clash_56 (by decide) ?_
                      refine lv_istore_n (lv' := [(2, .int 0), (4, .int (nI i7)), (3, .int (nI i1)), (0, .ref h), (1, .ref (a 27))]) hx hb dX9_clash_57 rfl hl (by decide) rfl (fun ls hl => ?_)
                      refine lv_iinc (v := nI (i7 + 1)) (lv' := [(4, .int (nI (i7 + 1))), (2, .int 0), (3, .int (nI i1)), (0, .ref h), (1, .ref (a 27))]) hx hb dX9_clash_58 hl (k := 1) rfl (nI_add i7 1) (by decide) rfl (fun ls hl => ?_)
                      refine lv_goto (tgt := 15) hx hb dX9_clash_61 (by decide) ?_
                      exact ih9 (i7 + 1) 0 _ _ _ (by omega) (by omega) (Or.inl rfl) hP hD hS (lv_sub hl [0, 2, 1, 3, 4] rfl)
                    · refine lv_iconst (v := 1) hx hb dX9_clash_52 (by decide) ?_
                      refine lv_goto (tgt := 57) hx hb dX9_clash_53 (by decide) ?_
                      refine lv_istore_n (lv' := [(2, .int 1), (4, .int (nI i7)), (3, .int (nI i1)), (0, .ref h), (1, .ref (a 27))]) hx hb dX9_clash_57 rfl hl (by decide) rfl (fun ls hl => ?_)
                      refine lv_iinc (v := nI (i7 + 1)) (lv' := [(4, .int (nI (i7 + 1))), (2, .int 1), (3, .int (nI i1)), (0, .ref h), (1, .ref (a 27))]) hx hb dX9_clash_58 hl (k := 1) rfl (nI_add i7 1) (by decide) rfl (fun ls hl => ?_)
                      refine lv_goto (tgt := 15) hx hb dX9_clash_61 (by decide) ?_
                      exact ih9 (i7 + 1) 1 _ _ _ (by omega) (by omega) (Or.inr rfl) hP hD hS (lv_sub hl [0, 2, 1, 3, 4] rfl)
        exact lp10 (n + 1) 0 y5 _ _ _ (by omega) (by omega) hb2_i1 hP hD hS hl
  exact lp4 (n + 1) 0 0 _ _ _ (by omega) (by omega) (Or.inl rfl) hP hD hS hl
def wq_m_clash_more : List Cond := [.code yX9_clash cX9_clash 5 (some .boolean), .fieldLink RX9 126 "ServiceTreeModel" "services" "I", .methodLink RX9 150 yX9_has, .instanceMethod yX9_has, .selects RX9 yX9_has yX9_has, .initialized RX9] ++ (wsX90 ++ (wq_m_has))
theorem in_m_clash_more_X9 : ∀ w ∈ wsX90, w ∈ wq_m_clash_more := fun _ h => List.mem_append_right _ (List.mem_append_left _ (h))
set_option maxRecDepth 20000 in
theorem wi_m_clash_more : ∀ w ∈ wq_m_clash_more, w ∈ lw_tbl := List.forall_mem_append.mpr ⟨(by decide +kernel), List.forall_mem_append.mpr ⟨inKX9, wi_m_has⟩⟩
set_option maxRecDepth 20000 in
theorem wg_m_clash_more : GoodIn wq_m_clash_more wq_m_clash_more := goodIn_sub (fun _ h => h) (by decide +kernel)
set_option maxRecDepth 20000 in
theorem wc_m_clash_more_m_has_150 : GoodIn wq_m_clash_more (wsV RX9 150 RX9 yX9_has wq_m_has) := goodIn_app (goodIn_of _ (by decide +kernel)) (fun w h => ⟨List.mem_append_right _ (List.mem_append_right _ (h)), (wg_m_has w h).2⟩)
def rm_m_clash_more : Room := { frames := 1, cells := 0, slots := 0, locals := 23 }
set_option maxHeartbeats 4000000 in
set_option maxRecDepth 100000 in
theorem c_m_clash_more (l : Launch) (dC : Nat → ClassId) (dI : Nat → Nat → Nat) (h : Nat) (a : Nat → Nat) (k : Nat → ClassId) (F : Nat → Nat → Int32) (V : Nat → Int32) (n b : Nat)  (sz : Nat) (hI0 : InvM n b F V) (hb0 : b + 0 < 2147483648)  : Met l yX9_clash wq_m_clash_more rm_m_clash_more (va_Pc [.ref h, .ref (a 28)] (fun U => U.heap.size = sz ∧ va_P (dC, dI) vwCl (mW h a k F V) U.heap ∧ va_K (dC, dI) vwCl (mT k) U ∧ va_D (fun _ => True) (mW h a k F V))) (va_Qi (fun (r : Int32) (u : (Nat → Nat → Int32) × (Nat → Int32)) => u.1 = F ∧ u.2 = V ∧ (r = 0 ∨ r = 1)) (fun (u : (Nat → Nat → Int32) × (Nat → Int32)) (t : State) => va_P (dC, dI) vwCl (mW h a k u.1 u.2) t.heap ∧ va_D (va_A (mW h a k F V) sz) (mW h a k u.1 u.2)) (va_A (mW h a k F V) sz)) 0 0 (va_A (mW h a k F V) sz) := by
  have hn : n ≤ 40 := hI0.1
  have hI : StM n b F V F V := StM.rf hI0
  have hU : ∀ j : Nat, j ∉ ([] : List Nat) → F j = F j := fun _ _ => rfl
  have hV : ∀ j : Nat, j ∉ ([] : List Nat) → V j = V j := fun _ _ => rfl
  refine Met.ofW (cc := cX9_clash) (maxL := 5) (ret := (some .boolean)) (by decide) rfl ?_
  intro p e s m args below meth c s₁ B hml hv
  obtain ⟨rfl, hsz, hP, hK, hD0⟩ := hv
  have hx := B.exec
  have hb := B.bytes
  have hr := B.returns
  have hts := atoms_spec (ws := wq_m_clash_more) B.pre
  have hown : s.vm.findClass RX9 = some m.cls := findClass_of_methodNamed B.named
  have hlocks := B.notSynchronized
  subst hsz
  have hD := hD0.self (sz := s.heap.size)
  generalize hAe : va_A (mW h a k F V) s.heap.size = A at hD ⊢
  have hA : ∀ q : Nat, s.heap.size ≤ q → A q := fun q h => by rw [← hAe]; exact Or.inr h
  have hS : va_S A s.heap s.heap [] := va_S.rf
  have hl := lv_entry ([.ref h, .ref (a 28)]) (n := 5) (Nat.le_of_ble_eq_true rfl)
  rw [lg_entry_eq]
  generalize (lg_sl ([.ref h, .ref (a 28)]) ++ List.replicate (5 - (lg_sl ([.ref h, .ref (a 28)])).length) Slot.unset).toArray = ls at hl ⊢
  have hl : lv_has ls 5 [(0, .ref h), (1, .ref (a 28))] := hl
  refine mw_Q (fun Q0 hQ => ?_)
  refine lv_iconst (v := 0) hx hb dX9_clash_0 (by decide) ?_
  refine lv_istore_n (lv' := [(2, .int 0), (0, .ref h), (1, .ref (a 28))]) hx hb dX9_clash_1 rfl hl (by decide) rfl (fun ls hl => ?_)
  refine lv_iconst (v := 0) hx hb dX9_clash_2 (by decide) ?_
  refine lv_istore_n (lv' := [(3, .int 0), (2, .int 0), (0, .ref h), (1, .ref (a 28))]) hx hb dX9_clash_3 rfl hl (by decide) rfl (fun ls hl => ?_)
  have lp4 : ∀ (fu2 i1 : Nat) (y5 : Int32) (H : Heap) (locs : List Loc) (ls : Array Slot), n < i1 + fu2 → i1 ≤ n → (y5 = 0 ∨ y5 = 1) → va_P (dC, dI) vwCl (mW h a k F V) H → va_D A (mW h a k F V) → va_S A s.heap H locs → lv_has ls 5 [(3, .int (nI i1)), (2, .int y5), (0, .ref h), (1, .ref (a 28))] → W p l e (headSpec wq_m_clash_more rm_m_clash_more).room s m ([.ref h, .ref (a 28)] : List Value).toArray below meth c H locs 0 0 Q0 (F0 m 4 ls []) := by
    intro fu2
    induction fu2 with
    | zero =>
      intro i1 y5 H locs ls hf hi
      exact absurd hf (by omega)
    | succ fu2 ih3 =>
      intro i1 y5 H locs ls hfi1 hii1 hb2_i1 hP hD hS hl
      refine lv_iload_n hx hb dX9_clash_4 rfl (lv_at hl 0 rfl) ?_
      refine lv_aload_n hx hb dX9_clash_5 rfl (lv_at hl 2 rfl) ?_
      refine va_get (D := (dC, dI)) (ci := 10) (v := .int (V 21)) (C := RX9) (T := TX9) (N := 46) hx hb hts in_m_clash_more_X9 hown hK hP 0 rfl rfl 21 (by decide) (hts (.fieldLink RX9 126 "ServiceTreeModel" "services" "I") (by decide +kernel)) (fun _ h9 => h9) rfl dX9_clash_6 ?_
      refine p1_topr (v := .int (nI n)) (congrArg Value.int hI.1.2.1) ?_
      refine lv_icmp_ge (tgt := 70) hx hb dX9_clash_9 (by decide) (fun c6 => ?_) (fun c6 => ?_)
      · replace c6 : n ≤ i1 := (nI_leI (a := n) (b := i1) (by omega) (by omega)).mp c6
        refine lv_iload_n hx hb dX9_clash_70 rfl (lv_at hl 1 rfl) ?_
        rw [hQ]
        exact W.zret (v := y5) hx hb hr (mw_nb hb2_i1) (fun t ht hW => ⟨⟨y5, (F, V), rfl, ⟨rfl, rfl, hb2_i1⟩, by rw [ht]; exact hP, hD⟩, hS.F ht⟩) hS.2.2 dX9_clash_71
      · replace c6 : ¬ (n ≤ i1) := fun q9 => c6 ((nI_leI (a := n) (b := i1) (by omega) (by omega)).mpr q9)
        refine lv_iconst (v := 0) hx hb dX9_clash_12 (by decide) ?_
        refine lv_istore (lv' := [(4, .int 0), (3, .int (nI i1)), (2, .int y5), (0, .ref h), (1, .ref (a 28))]) hx hb dX9_clash_13 hl (by decide) rfl (fun ls hl => ?_)
        have lp10 : ∀ (fu8 i7 : Nat) (y11 : Int32) (H : Heap) (locs : List Loc) (ls : Array Slot), n < i7 + fu8 → i7 ≤ n → (y11 = 0 ∨ y11 = 1) → va_P (dC, dI) vwCl (mW h a k F V) H → va_D A (mW h a k F V) → va_S A s.heap H locs → lv_has ls 5 [(4, .int (nI i7)), (3, .int (nI i1)), (2, .int y11), (0, .ref h), (1, .ref (a 28))] → W p l e (headSpec wq_m_clash_more rm_m_clash_more).room s m ([.ref h, .ref (a 28)] : List Value).toArray below meth c H locs 0 0 Q0 (F0 m 15 ls []) := by
          intro fu8
          induction fu8 with
          | zero =>
            intro i7 y11 H locs ls hf hi
            exact absurd hf (by omega)
          | succ fu8 ih9 =>
            intro i7 y11 H locs ls hfi7 hii7 hb2_i7 hP hD hS hl
            refine lv_iload hx hb dX9_clash_15 (lv_at hl 0 rfl) ?_
            refine lv_aload_n hx hb dX9_clash_17 rfl (lv_at hl 3 rfl) ?_
            refine va_get (D := (dC, dI)) (ci := 10) (v := .int (V 21)) (C := RX9) (T := TX9) (N := 46) hx hb hts in_m_clash_more_X9 hown hK hP 0 rfl rfl 21 (by decide) (hts (.fieldLink RX9 126 "ServiceTreeModel" "services" "I") (by decide +kernel)) (fun _ h9 => h9) rfl dX9_clash_18 ?_
            refine p1_topr (v := .int (nI n)) (congrArg Value.int hI.1.2.1) ?_
            refine lv_icmp_ge (tgt := 64) hx hb dX9_clash_21 (by decide) (fun c12 => ?_) (fun c12 => ?_)
            · replace c12 : n ≤ i7 := (nI_leI (a := n) (b := i7) (by omega) (by omega)).mp c12
              refine lv_iinc (v := nI (i1 + 1)) (lv' := [(3, .int (nI (i1 + 1))), (4, .int (nI i7)), (2, .int y11), (0, .ref h), (1, .ref (a 28))]) hx hb dX9_clash_64 hl (k := 1) rfl (nI_add i1 1) (by decide) rfl (fun ls hl => ?_)
              refine lv_goto (tgt := 4) hx hb dX9_clash_67 (by decide) ?_
              exact ih3 (i1 + 1) y11 _ _ _ (by omega) (by omega) hb2_i7 hP hD hS (lv_sub hl [0, 2, 3, 4] rfl)
            · replace c12 : ¬ (n ≤ i7) := fun q9 => c12 ((nI_leI (a := n) (b := i7) (by omega) (by omega)).mpr q9)
              refine lv_iload_n hx hb dX9_clash_24 rfl (lv_at hl 2 rfl) ?_
              refine lv_if_ne (tgt := 52) hx hb dX9_clash_25 (by decide) (fun c13 => ?_) (fun c13 => ?_)
              · refine lv_iconst (v := 1) hx hb dX9_clash_52 (by decide) ?_
                refine lv_goto (tgt := 57) hx hb dX9_clash_53 (by decide) ?_
                refine lv_istore_n (lv' := [(2, .int 1), (4, .int (nI i7)), (3, .int (nI i1)), (0, .ref h), (1, .ref (a 28))]) hx hb dX9_clash_57 rfl hl (by decide) rfl (fun ls hl => ?_)
                refine lv_iinc (v := nI (i7 + 1)) (lv' := [(4, .int (nI (i7 + 1))), (2, .int 1), (3, .int (nI i1)), (0, .ref h), (1, .ref (a 28))]) hx hb dX9_clash_58 hl (k := 1) rfl (nI_add i7 1) (by decide) rfl (fun ls hl => ?_)
                refine lv_goto (tgt := 15) hx hb dX9_clash_61 (by decide) ?_
                exact ih9 (i7 + 1) 1 _ _ _ (by omega) (by omega) (Or.inr rfl) hP hD hS (lv_sub hl [0, 2, 1, 3, 4] rfl)
              · refine lv_aload_n hx hb dX9_clash_28 rfl (lv_at hl 4 rfl) ?_
                refine lv_iload_n hx hb dX9_clash_29 rfl (lv_at hl 1 rfl) ?_
                refine va_zald (n := 40) (f := F 28) hx hb hK hP 24 23 rfl rfl (vp_in_nI (n := i1) (by omega) (by decide)) dX9_clash_30 ?_
                refine lv_topi (fun x14 ex14 => ?_)
                refine lv_if_eq (tgt := 56) hx hb dX9_clash_31 (by decide) (fun c15 => ?_) (fun c15 => ?_)
                · refine lv_iconst (v := 0) hx hb dX9_clash_56 (by decide) ?_
                  refine lv_istore_n (lv' := [(2, .int 0), (4, .int (nI i7)), (3, .int (nI i1)), (0, .ref h), (1, .ref (a 28))]) hx hb dX9_clash_57 rfl hl (by decide) rfl (fun ls hl => ?_)
                  refine lv_iinc (v := nI (i7 + 1)) (lv' := [(4, .int (nI (i7 + 1))), (2, .int 0), (3, .int (nI i1)), (0, .ref h), (1, .ref (a 28))]) hx hb dX9_clash_58 hl (k := 1) rfl (nI_add i7 1) (by decide) rfl (fun ls hl => ?_)
                  refine lv_goto (tgt := 15) hx hb dX9_clash_61 (by decide) ?_
                  exact ih9 (i7 + 1) 0 _ _ _ (by omega) (by omega) (Or.inl rfl) hP hD hS (lv_sub hl [0, 2, 1, 3, 4] rfl)
                · refine lv_aload_n hx hb dX9_clash_34 rfl (lv_at hl 4 rfl) ?_
                  refine lv_iload hx hb dX9_clash_35 (lv_at hl 0 rfl) ?_
                  refine va_zald (n := 40) (f := F 28) hx hb hK hP 24 23 rfl rfl (vp_in_nI (n := i7) (by omega) (by decide)) dX9_clash_37 ?_
                  refine lv_topi (fun x16 ex16 => ?_)
                  refine lv_if_eq (tgt := 56) hx hb dX9_clash_38 (by decide) (fun c17 => ?_) (fun c17 => ?_)
                  · refine lv_iconst (v := 0) hx hb dX9_clash_56 (by decide) ?_
                    refine lv_istore_n (lv' := [(2, .int 0), (4, .int (nI i7)), (3, .int (nI i1)), (0, .ref h), (1, .ref (a 28))]) hx hb dX9_clash_57 rfl hl (by decide) rfl (fun ls hl => ?_)
                    refine lv_iinc (v := nI (i7 + 1)) (lv' := [(4, .int (nI (i7 + 1))), (2, .int 0), (3, .int (nI i1)), (0, .ref h), (1, .ref (a 28))]) hx hb dX9_clash_58 hl (k := 1) rfl (nI_add i7 1) (by decide) rfl (fun ls hl => ?_)
                    refine lv_goto (tgt := 15) hx hb dX9_clash_61 (by decide) ?_
                    exact ih9 (i7 + 1) 0 _ _ _ (by omega) (by omega) (Or.inl rfl) hP hD hS (lv_sub hl [0, 2, 1, 3, 4] rfl)
                  · refine lv_aload_n hx hb dX9_clash_41 rfl (lv_at hl 3 rfl) ?_
                    refine lv_iconst (v := 3) hx hb dX9_clash_42 (by decide) ?_
                    refine lv_iload_n hx hb dX9_clash_43 rfl (lv_at hl 1 rfl) ?_
                    refine lv_iload hx hb dX9_clash_44 (lv_at hl 0 rfl) ?_
                    have hFc := mw_free hD hS hA
                    refine va_calli (va_runV (As := [.int 3, .int (nI i1), .int (nI i7)]) (rest := []) ⟨hx, hb, hml, hown, hts⟩ (c_m_has l dC dI h a k F V n (b) 3 i1 i7 H.size hI.1 (by omega) (by omega) (by omega) (by omega)) (cwV 3 hts wc_m_clash_more_m_has_150 rfl rfl rfl (by decide +kernel) ⟨Nat.le_of_ble_eq_true rfl, Nat.le_of_ble_eq_true rfl⟩) ⟨fun a9 U g mk q => by obtain ⟨q0, q1, qP, qK, qD⟩ := q; exact ⟨q0, q1, qP, va_K.moved (u := U) (U := U.calling g mk a9) (Vm.Alike.refl U.vm) qK, qD⟩, va_recv hK hP (ci := 10) (q0 := 0) rfl rfl, fun U hU hW => ⟨rfl, by rw [hU], by rw [hU]; exact hP, va_K.moved hW.alike hK, hD.weaken (fun _ _ _ _ => trivial)⟩⟩ rfl rfl hl.1 rfl (lv_room (Nat.le_of_ble_eq_true rfl)) dX9_clash_46 ⟨Nat.le_of_ble_eq_true rfl, Nat.le_of_ble_eq_true rfl⟩) hS (fun q _ h => hFc q h) hFc (fun r18 u t H1 locs ht hvm hw hB hz1 hk1 hS => ?_)
                    obtain ⟨F19, V20⟩ := u
                    replace hP := hB.1
                    rw [ht] at hP
                    replace hD : va_D A (mW h a k F19 V20) := hB.2.weaken (fun _ q _ h9 => hFc q.1 h9)
                    clear hB
                    generalize H1 = H at hP hS ⊢
                    replace hP : va_P (dC, dI) vwCl (mW h a k F19 V20) H := hP
                    obtain ⟨hwF, hwV, hw⟩ : F19 = F ∧ V20 = V ∧ _ := hw
                    rw [hwF, hwV] at hP hD
                    have br18 := hw
                    refine lv_if_eq (tgt := 56) hx hb dX9_clash_49 (by decide) (fun c21 => ?_) (fun c21 => ?_)
                    · refine lv_iconst (v := 0) hx hb dX9_clash_56 (by decide) ?_
                      refine lv_istore_n (lv' := [(2, .int 0), (4, .int (nI i7)), (3, .int (nI i1)), (0, .ref h), (1, .ref (a 28))]) hx hb dX9_clash_57 rfl hl (by decide) rfl (fun ls hl => ?_)
                      refine lv_iinc (v := nI (i7 + 1)) (lv' := [(4, .int (nI (i7 + 1))), (2, .int 0), (3, .int (nI i1)), (0, .ref h), (1, .ref (a 28))]) hx hb dX9_clash_58 hl (k := 1) rfl (nI_add i7 1) (by decide) rfl (fun ls hl => ?_)
                      refine lv_goto (tgt := 15) hx hb dX9_clash_61 (by decide) ?_
                      exact ih9 (i7 + 1) 0 _ _ _ (by omega) (by omega) (Or.inl rfl) hP hD hS (lv_sub hl [0, 2, 1, 3, 4] rfl)
                    · refine lv_iconst (v := 1) hx hb dX9_clash_52 (by decide) ?_
                      refine lv_goto (tgt := 57) hx hb dX9_clash_53 (by decide) ?_
                      refine lv_istore_n (lv' := [(2, .int 1), (4, .int (nI i7)), (3, .int (nI i1)), (0, .ref h), (1, .ref (a 28))]) hx hb dX9_clash_57 rfl hl (by decide) rfl (fun ls hl => ?_)
                      refine lv_iinc (v := nI (i7 + 1)) (lv' := [(4, .int (nI (i7 + 1))), (2, .int 1), (3, .int (nI i1)), (0, .ref h), (1, .ref (a 28))]) hx hb dX9_clash_58 hl (k := 1) rfl (nI_add i7 1) (by decide) rfl (fun ls hl => ?_)
                      refine lv_goto (tgt := 15) hx hb dX9_clash_61 (by decide) ?_
                      exact ih9 (i7 + 1) 1 _ _ _ (by omega) (by omega) (Or.inr rfl) hP hD hS (lv_sub hl [0, 2, 1, 3, 4] rfl)
        exact lp10 (n + 1) 0 y5 _ _ _ (by omega) (by omega) hb2_i1 hP hD hS hl
  exact lp4 (n + 1) 0 0 _ _ _ (by omega) (by omega) (Or.inl rfl) hP hD hS hl
def wq_m_hasNeeds : List Cond := [.code yX9_hasNeeds cX9_hasNeeds 4 (some .boolean), .fieldLink RX9 126 "ServiceTreeModel" "services" "I", .fieldLink RX9 31 "ServiceTreeModel" "state" "[I", .methodLink RX9 150 yX9_has, .instanceMethod yX9_has, .selects RX9 yX9_has yX9_has, .initialized RX9] ++ (wsX90 ++ (wq_m_has))
theorem in_m_hasNeeds_X9 : ∀ w ∈ wsX90, w ∈ wq_m_hasNeeds := fun _ h => List.mem_append_right _ (List.mem_append_left _ (h))
set_option maxRecDepth 20000 in
theorem wi_m_hasNeeds : ∀ w ∈ wq_m_hasNeeds, w ∈ lw_tbl := List.forall_mem_append.mpr ⟨(by decide +kernel), List.forall_mem_append.mpr ⟨inKX9, wi_m_has⟩⟩
set_option maxRecDepth 20000 in
theorem wg_m_hasNeeds : GoodIn wq_m_hasNeeds wq_m_hasNeeds := goodIn_sub (fun _ h => h) (by decide +kernel)
set_option maxRecDepth 20000 in
theorem wc_m_hasNeeds_m_has_150 : GoodIn wq_m_hasNeeds (wsV RX9 150 RX9 yX9_has wq_m_has) := goodIn_app (goodIn_of _ (by decide +kernel)) (fun w h => ⟨List.mem_append_right _ (List.mem_append_right _ (h)), (wg_m_has w h).2⟩)
def rm_m_hasNeeds : Room := { frames := 1, cells := 0, slots := 0, locals := 23 }
set_option maxHeartbeats 4000000 in
set_option maxRecDepth 100000 in
theorem c_m_hasNeeds (l : Launch) (dC : Nat → ClassId) (dI : Nat → Nat → Nat) (h : Nat) (a : Nat → Nat) (k : Nat → ClassId) (F : Nat → Nat → Int32) (V : Nat → Int32) (n b : Nat) (sv : Nat) (sz : Nat) (hI0 : InvM n b F V) (hb0 : b + 0 < 2147483648) (hp0 : sv < n) : Met l yX9_hasNeeds wq_m_hasNeeds rm_m_hasNeeds (va_Pc [.ref h, .int (nI sv)] (fun U => U.heap.size = sz ∧ va_P (dC, dI) vwCl (mW h a k F V) U.heap ∧ va_K (dC, dI) vwCl (mT k) U ∧ va_D (fun _ => True) (mW h a k F V))) (va_Qi (fun (r : Int32) (u : (Nat → Nat → Int32) × (Nat → Int32)) => u.1 = F ∧ u.2 = V ∧ (r = 0 ∨ r = 1)) (fun (u : (Nat → Nat → Int32) × (Nat → Int32)) (t : State) => va_P (dC, dI) vwCl (mW h a k u.1 u.2) t.heap ∧ va_D (va_A (mW h a k F V) sz) (mW h a k u.1 u.2)) (va_A (mW h a k F V) sz)) 0 0 (va_A (mW h a k F V) sz) := by
  have hn : n ≤ 40 := hI0.1
  have hI : StM n b F V F V := StM.rf hI0
  have hU : ∀ j : Nat, j ∉ ([] : List Nat) → F j = F j := fun _ _ => rfl
  have hV : ∀ j : Nat, j ∉ ([] : List Nat) → V j = V j := fun _ _ => rfl
  refine Met.ofW (cc := cX9_hasNeeds) (maxL := 4) (ret := (some .boolean)) (by decide) rfl ?_
  intro p e s m args below meth c s₁ B hml hv
  obtain ⟨rfl, hsz, hP, hK, hD0⟩ := hv
  have hx := B.exec
  have hb := B.bytes
  have hr := B.returns
  have hts := atoms_spec (ws := wq_m_hasNeeds) B.pre
  have hown : s.vm.findClass RX9 = some m.cls := findClass_of_methodNamed B.named
  have hlocks := B.notSynchronized
  subst hsz
  have hD := hD0.self (sz := s.heap.size)
  generalize hAe : va_A (mW h a k F V) s.heap.size = A at hD ⊢
  have hA : ∀ q : Nat, s.heap.size ≤ q → A q := fun q h => by rw [← hAe]; exact Or.inr h
  have hS : va_S A s.heap s.heap [] := va_S.rf
  have hl := lv_entry ([.ref h, .int (nI sv)]) (n := 4) (Nat.le_of_ble_eq_true rfl)
  rw [lg_entry_eq]
  generalize (lg_sl ([.ref h, .int (nI sv)]) ++ List.replicate (4 - (lg_sl ([.ref h, .int (nI sv)])).length) Slot.unset).toArray = ls at hl ⊢
  have hl : lv_has ls 4 [(0, .ref h), (1, .int (nI sv))] := hl
  refine mw_Q (fun Q0 hQ => ?_)
  refine lv_iconst (v := 1) hx hb dX9_hasNeeds_0 (by decide) ?_
  refine lv_istore_n (lv' := [(2, .int 1), (0, .ref h), (1, .int (nI sv))]) hx hb dX9_hasNeeds_1 rfl hl (by decide) rfl (fun ls hl => ?_)
  refine lv_iconst (v := 0) hx hb dX9_hasNeeds_2 (by decide) ?_
  refine lv_istore_n (lv' := [(3, .int 0), (2, .int 1), (0, .ref h), (1, .int (nI sv))]) hx hb dX9_hasNeeds_3 rfl hl (by decide) rfl (fun ls hl => ?_)
  have lp4 : ∀ (fu2 i1 : Nat) (y5 : Int32) (H : Heap) (locs : List Loc) (ls : Array Slot), n < i1 + fu2 → i1 ≤ n → (y5 = 0 ∨ y5 = 1) → va_P (dC, dI) vwCl (mW h a k F V) H → va_D A (mW h a k F V) → va_S A s.heap H locs → lv_has ls 4 [(3, .int (nI i1)), (2, .int y5), (0, .ref h), (1, .int (nI sv))] → W p l e (headSpec wq_m_hasNeeds rm_m_hasNeeds).room s m ([.ref h, .int (nI sv)] : List Value).toArray below meth c H locs 0 0 Q0 (F0 m 4 ls []) := by
    intro fu2
    induction fu2 with
    | zero =>
      intro i1 y5 H locs ls hf hi
      exact absurd hf (by omega)
    | succ fu2 ih3 =>
      intro i1 y5 H locs ls hfi1 hii1 hb2_i1 hP hD hS hl
      refine lv_iload_n hx hb dX9_hasNeeds_4 rfl (lv_at hl 0 rfl) ?_
      refine lv_aload_n hx hb dX9_hasNeeds_5 rfl (lv_at hl 2 rfl) ?_
      refine va_get (D := (dC, dI)) (ci := 10) (v := .int (V 21)) (C := RX9) (T := TX9) (N := 46) hx hb hts in_m_hasNeeds_X9 hown hK hP 0 rfl rfl 21 (by decide) (hts (.fieldLink RX9 126 "ServiceTreeModel" "services" "I") (by decide +kernel)) (fun _ h9 => h9) rfl dX9_hasNeeds_6 ?_
      refine p1_topr (v := .int (nI n)) (congrArg Value.int hI.1.2.1) ?_
      refine lv_icmp_ge (tgt := 48) hx hb dX9_hasNeeds_9 (by decide) (fun c6 => ?_) (fun c6 => ?_)
      · replace c6 : n ≤ i1 := (nI_leI (a := n) (b := i1) (by omega) (by omega)).mp c6
        refine lv_iload_n hx hb dX9_hasNeeds_48 rfl (lv_at hl 1 rfl) ?_
        rw [hQ]
        exact W.zret (v := y5) hx hb hr (mw_nb hb2_i1) (fun t ht hW => ⟨⟨y5, (F, V), rfl, ⟨rfl, rfl, hb2_i1⟩, by rw [ht]; exact hP, hD⟩, hS.F ht⟩) hS.2.2 dX9_hasNeeds_49
      · replace c6 : ¬ (n ≤ i1) := fun q9 => c6 ((nI_leI (a := n) (b := i1) (by omega) (by omega)).mpr q9)
        refine lv_iload_n hx hb dX9_hasNeeds_12 rfl (lv_at hl 1 rfl) ?_
        refine lv_if_eq (tgt := 40) hx hb dX9_hasNeeds_13 (by decide) (fun c7 => ?_) (fun c7 => ?_)
        · refine lv_iconst (v := 0) hx hb dX9_hasNeeds_40 (by decide) ?_
          refine lv_istore_n (lv' := [(2, .int 0), (3, .int (nI i1)), (0, .ref h), (1, .int (nI sv))]) hx hb dX9_hasNeeds_41 rfl hl (by decide) rfl (fun ls hl => ?_)
          refine lv_iinc (v := nI (i1 + 1)) (lv' := [(3, .int (nI (i1 + 1))), (2, .int 0), (0, .ref h), (1, .int (nI sv))]) hx hb dX9_hasNeeds_42 hl (k := 1) rfl (nI_add i1 1) (by decide) rfl (fun ls hl => ?_)
          refine lv_goto (tgt := 4) hx hb dX9_hasNeeds_45 (by decide) ?_
          exact ih3 (i1 + 1) 0 _ _ _ (by omega) (by omega) (Or.inl rfl) hP hD hS (lv_sub hl [0, 1, 2, 3] rfl)
        · refine lv_aload_n hx hb dX9_hasNeeds_16 rfl (lv_at hl 2 rfl) ?_
          refine lv_iconst (v := 0) hx hb dX9_hasNeeds_17 (by decide) ?_
          refine lv_iload_n hx hb dX9_hasNeeds_18 rfl (lv_at hl 3 rfl) ?_
          refine lv_iload_n hx hb dX9_hasNeeds_19 rfl (lv_at hl 0 rfl) ?_
          have hFc := mw_free hD hS hA
          refine va_calli (va_runV (As := [.int 0, .int (nI sv), .int (nI i1)]) (rest := []) ⟨hx, hb, hml, hown, hts⟩ (c_m_has l dC dI h a k F V n (b) 0 sv i1 H.size hI.1 (by omega) (by omega) (by omega) (by omega)) (cwV 3 hts wc_m_hasNeeds_m_has_150 rfl rfl rfl (by decide +kernel) ⟨Nat.le_of_ble_eq_true rfl, Nat.le_of_ble_eq_true rfl⟩) ⟨fun a9 U g mk q => by obtain ⟨q0, q1, qP, qK, qD⟩ := q; exact ⟨q0, q1, qP, va_K.moved (u := U) (U := U.calling g mk a9) (Vm.Alike.refl U.vm) qK, qD⟩, va_recv hK hP (ci := 10) (q0 := 0) rfl rfl, fun U hU hW => ⟨rfl, by rw [hU], by rw [hU]; exact hP, va_K.moved hW.alike hK, hD.weaken (fun _ _ _ _ => trivial)⟩⟩ rfl rfl hl.1 rfl (lv_room (Nat.le_of_ble_eq_true rfl)) dX9_hasNeeds_20 ⟨Nat.le_of_ble_eq_true rfl, Nat.le_of_ble_eq_true rfl⟩) hS (fun q _ h => hFc q h) hFc (fun r8 u t H1 locs ht hvm hw hB hz1 hk1 hS => ?_)
          obtain ⟨F9, V10⟩ := u
          replace hP := hB.1
          rw [ht] at hP
          replace hD : va_D A (mW h a k F9 V10) := hB.2.weaken (fun _ q _ h9 => hFc q.1 h9)
          clear hB
          generalize H1 = H at hP hS ⊢
          replace hP : va_P (dC, dI) vwCl (mW h a k F9 V10) H := hP
          obtain ⟨hwF, hwV, hw⟩ : F9 = F ∧ V10 = V ∧ _ := hw
          rw [hwF, hwV] at hP hD
          have br8 := hw
          refine lv_if_eq (tgt := 36) hx hb dX9_hasNeeds_23 (by decide) (fun c11 => ?_) (fun c11 => ?_)
          · refine lv_iconst (v := 1) hx hb dX9_hasNeeds_36 (by decide) ?_
            refine lv_goto (tgt := 41) hx hb dX9_hasNeeds_37 (by decide) ?_
            refine lv_istore_n (lv' := [(2, .int 1), (3, .int (nI i1)), (0, .ref h), (1, .int (nI sv))]) hx hb dX9_hasNeeds_41 rfl hl (by decide) rfl (fun ls hl => ?_)
            refine lv_iinc (v := nI (i1 + 1)) (lv' := [(3, .int (nI (i1 + 1))), (2, .int 1), (0, .ref h), (1, .int (nI sv))]) hx hb dX9_hasNeeds_42 hl (k := 1) rfl (nI_add i1 1) (by decide) rfl (fun ls hl => ?_)
            refine lv_goto (tgt := 4) hx hb dX9_hasNeeds_45 (by decide) ?_
            exact ih3 (i1 + 1) 1 _ _ _ (by omega) (by omega) (Or.inr rfl) hP hD hS (lv_sub hl [0, 1, 2, 3] rfl)
          · refine lv_aload_n hx hb dX9_hasNeeds_26 rfl (lv_at hl 2 rfl) ?_
            refine va_get (D := (dC, dI)) (ci := 10) (v := .ref (a 7)) (C := RX9) (T := TX9) (N := 46) hx hb hts in_m_hasNeeds_X9 hown hK hP 0 rfl rfl 7 (by decide) (hts (.fieldLink RX9 31 "ServiceTreeModel" "state" "[I") (by decide +kernel)) (fun _ h9 => h9) rfl dX9_hasNeeds_27 ?_
            refine lv_iload_n hx hb dX9_hasNeeds_30 rfl (lv_at hl 0 rfl) ?_
            refine va_iald (n := 40) (f := F 7) hx hb hK hP 8 7 rfl rfl (vp_in_nI (n := i1) (by omega) (by decide)) dX9_hasNeeds_31 ?_
            refine lv_topi (fun x12 ex12 => ?_)
            refine lv_iconst (v := 2) hx hb dX9_hasNeeds_32 (by decide) ?_
            refine lv_icmp_ne (tgt := 40) hx hb dX9_hasNeeds_33 (by decide) (fun c13 => ?_) (fun c13 => ?_)
            · refine lv_iconst (v := 0) hx hb dX9_hasNeeds_40 (by decide) ?_
              refine lv_istore_n (lv' := [(2, .int 0), (3, .int (nI i1)), (0, .ref h), (1, .int (nI sv))]) hx hb dX9_hasNeeds_41 rfl hl (by decide) rfl (fun ls hl => ?_)
              refine lv_iinc (v := nI (i1 + 1)) (lv' := [(3, .int (nI (i1 + 1))), (2, .int 0), (0, .ref h), (1, .int (nI sv))]) hx hb dX9_hasNeeds_42 hl (k := 1) rfl (nI_add i1 1) (by decide) rfl (fun ls hl => ?_)
              refine lv_goto (tgt := 4) hx hb dX9_hasNeeds_45 (by decide) ?_
              exact ih3 (i1 + 1) 0 _ _ _ (by omega) (by omega) (Or.inl rfl) hP hD hS (lv_sub hl [0, 1, 2, 3] rfl)
            · refine lv_iconst (v := 1) hx hb dX9_hasNeeds_36 (by decide) ?_
              refine lv_goto (tgt := 41) hx hb dX9_hasNeeds_37 (by decide) ?_
              refine lv_istore_n (lv' := [(2, .int 1), (3, .int (nI i1)), (0, .ref h), (1, .int (nI sv))]) hx hb dX9_hasNeeds_41 rfl hl (by decide) rfl (fun ls hl => ?_)
              refine lv_iinc (v := nI (i1 + 1)) (lv' := [(3, .int (nI (i1 + 1))), (2, .int 1), (0, .ref h), (1, .int (nI sv))]) hx hb dX9_hasNeeds_42 hl (k := 1) rfl (nI_add i1 1) (by decide) rfl (fun ls hl => ?_)
              refine lv_goto (tgt := 4) hx hb dX9_hasNeeds_45 (by decide) ?_
              exact ih3 (i1 + 1) 1 _ _ _ (by omega) (by omega) (Or.inr rfl) hP hD hS (lv_sub hl [0, 1, 2, 3] rfl)
  exact lp4 (n + 1) 0 1 _ _ _ (by omega) (by omega) (Or.inr rfl) hP hD hS hl
def wq_m_isUpOrWaiting : List Cond := [.code yX9_isUpOrWaiting cX9_isUpOrWaiting 2 (some .boolean), .fieldLink RX9 31 "ServiceTreeModel" "state" "[I"] ++ (wsX90)
theorem in_m_isUpOrWaiting_X9 : ∀ w ∈ wsX90, w ∈ wq_m_isUpOrWaiting := fun _ h => List.mem_append_right _ (h)
set_option maxRecDepth 20000 in
theorem wi_m_isUpOrWaiting : ∀ w ∈ wq_m_isUpOrWaiting, w ∈ lw_tbl := List.forall_mem_append.mpr ⟨(by decide +kernel), inKX9⟩
set_option maxRecDepth 20000 in
theorem wg_m_isUpOrWaiting : GoodIn wq_m_isUpOrWaiting wq_m_isUpOrWaiting := goodIn_sub (fun _ h => h) (by decide +kernel)
def rm_m_isUpOrWaiting : Room := { frames := 0, cells := 0, slots := 0, locals := 0 }
set_option maxHeartbeats 4000000 in
set_option maxRecDepth 100000 in
theorem c_m_isUpOrWaiting (l : Launch) (dC : Nat → ClassId) (dI : Nat → Nat → Nat) (h : Nat) (a : Nat → Nat) (k : Nat → ClassId) (F : Nat → Nat → Int32) (V : Nat → Int32) (n b : Nat) (sv : Nat) (sz : Nat) (hI0 : InvM n b F V) (hb0 : b + 0 < 2147483648) (hp0 : sv < n) : Met l yX9_isUpOrWaiting wq_m_isUpOrWaiting rm_m_isUpOrWaiting (va_Pc [.ref h, .int (nI sv)] (fun U => U.heap.size = sz ∧ va_P (dC, dI) vwCl (mW h a k F V) U.heap ∧ va_K (dC, dI) vwCl (mT k) U ∧ va_D (fun _ => True) (mW h a k F V))) (va_Qi (fun (r : Int32) (u : (Nat → Nat → Int32) × (Nat → Int32)) => u.1 = F ∧ u.2 = V ∧ (True)) (fun (u : (Nat → Nat → Int32) × (Nat → Int32)) (t : State) => va_P (dC, dI) vwCl (mW h a k u.1 u.2) t.heap ∧ va_D (va_A (mW h a k F V) sz) (mW h a k u.1 u.2)) (va_A (mW h a k F V) sz)) 0 0 (va_A (mW h a k F V) sz) := by
  have hn : n ≤ 40 := hI0.1
  have hI : StM n b F V F V := StM.rf hI0
  have hU : ∀ j : Nat, j ∉ ([] : List Nat) → F j = F j := fun _ _ => rfl
  have hV : ∀ j : Nat, j ∉ ([] : List Nat) → V j = V j := fun _ _ => rfl
  refine Met.ofW (cc := cX9_isUpOrWaiting) (maxL := 2) (ret := (some .boolean)) (by decide) rfl ?_
  intro p e s m args below meth c s₁ B hml hv
  obtain ⟨rfl, hsz, hP, hK, hD0⟩ := hv
  have hx := B.exec
  have hb := B.bytes
  have hr := B.returns
  have hts := atoms_spec (ws := wq_m_isUpOrWaiting) B.pre
  have hown : s.vm.findClass RX9 = some m.cls := findClass_of_methodNamed B.named
  have hlocks := B.notSynchronized
  subst hsz
  have hD := hD0.self (sz := s.heap.size)
  generalize hAe : va_A (mW h a k F V) s.heap.size = A at hD ⊢
  have hA : ∀ q : Nat, s.heap.size ≤ q → A q := fun q h => by rw [← hAe]; exact Or.inr h
  have hS : va_S A s.heap s.heap [] := va_S.rf
  have hl := lv_entry ([.ref h, .int (nI sv)]) (n := 2) (Nat.le_of_ble_eq_true rfl)
  rw [lg_entry_eq]
  generalize (lg_sl ([.ref h, .int (nI sv)]) ++ List.replicate (2 - (lg_sl ([.ref h, .int (nI sv)])).length) Slot.unset).toArray = ls at hl ⊢
  have hl : lv_has ls 2 [(0, .ref h), (1, .int (nI sv))] := hl
  refine lv_aload_n hx hb dX9_isUpOrWaiting_0 rfl (lv_at hl 0 rfl) ?_
  refine va_get (D := (dC, dI)) (ci := 10) (v := .ref (a 7)) (C := RX9) (T := TX9) (N := 46) hx hb hts in_m_isUpOrWaiting_X9 hown hK hP 0 rfl rfl 7 (by decide) (hts (.fieldLink RX9 31 "ServiceTreeModel" "state" "[I") (by decide +kernel)) (fun _ h9 => h9) rfl dX9_isUpOrWaiting_1 ?_
  refine lv_iload_n hx hb dX9_isUpOrWaiting_4 rfl (lv_at hl 1 rfl) ?_
  refine va_iald (n := 40) (f := F 7) hx hb hK hP 8 7 rfl rfl (vp_in_nI (n := sv) (by omega) (by decide)) dX9_isUpOrWaiting_5 ?_
  refine lv_topi (fun x1 ex1 => ?_)
  refine lv_iconst (v := 2) hx hb dX9_isUpOrWaiting_6 (by decide) ?_
  refine lv_icmp_eq (tgt := 20) hx hb dX9_isUpOrWaiting_7 (by decide) (fun c2 => ?_) (fun c2 => ?_)
  · refine lv_iconst (v := 1) hx hb dX9_isUpOrWaiting_20 (by decide) ?_
    refine lv_goto (tgt := 25) hx hb dX9_isUpOrWaiting_21 (by decide) ?_
    exact W.zret (v := 1) hx hb hr (by decide) (fun t ht hW => ⟨⟨1, (F, V), rfl, ⟨rfl, rfl, trivial⟩, by rw [ht]; exact hP, hD⟩, hS.F ht⟩) hS.2.2 dX9_isUpOrWaiting_25
  · refine lv_aload_n hx hb dX9_isUpOrWaiting_10 rfl (lv_at hl 0 rfl) ?_
    refine va_get (D := (dC, dI)) (ci := 10) (v := .ref (a 7)) (C := RX9) (T := TX9) (N := 46) hx hb hts in_m_isUpOrWaiting_X9 hown hK hP 0 rfl rfl 7 (by decide) (hts (.fieldLink RX9 31 "ServiceTreeModel" "state" "[I") (by decide +kernel)) (fun _ h9 => h9) rfl dX9_isUpOrWaiting_11 ?_
    refine lv_iload_n hx hb dX9_isUpOrWaiting_14 rfl (lv_at hl 1 rfl) ?_
    refine va_iald (n := 40) (f := F 7) hx hb hK hP 8 7 rfl rfl (vp_in_nI (n := sv) (by omega) (by decide)) dX9_isUpOrWaiting_15 ?_
    refine p1_topr (v := .int x1) (congrArg Value.int ex1.symm) ?_
    refine lv_iconst (v := 5) hx hb dX9_isUpOrWaiting_16 (by decide) ?_
    refine lv_icmp_ne (tgt := 24) hx hb dX9_isUpOrWaiting_17 (by decide) (fun c4 => ?_) (fun c4 => ?_)
    · refine lv_iconst (v := 0) hx hb dX9_isUpOrWaiting_24 (by decide) ?_
      exact W.zret (v := 0) hx hb hr (by decide) (fun t ht hW => ⟨⟨0, (F, V), rfl, ⟨rfl, rfl, trivial⟩, by rw [ht]; exact hP, hD⟩, hS.F ht⟩) hS.2.2 dX9_isUpOrWaiting_25
    · refine lv_iconst (v := 1) hx hb dX9_isUpOrWaiting_20 (by decide) ?_
      refine lv_goto (tgt := 25) hx hb dX9_isUpOrWaiting_21 (by decide) ?_
      exact W.zret (v := 1) hx hb hr (by decide) (fun t ht hW => ⟨⟨1, (F, V), rfl, ⟨rfl, rfl, trivial⟩, by rw [ht]; exact hP, hD⟩, hS.F ht⟩) hS.2.2 dX9_isUpOrWaiting_25
def wq_m_many : List Cond := [.code yX9_many cX9_many 4 (some .int)] ++ (wsX90)
theorem in_m_many_X9 : ∀ w ∈ wsX90, w ∈ wq_m_many := fun _ h => List.mem_append_right _ (h)
set_option maxRecDepth 20000 in
theorem wi_m_many : ∀ w ∈ wq_m_many, w ∈ lw_tbl := List.forall_mem_append.mpr ⟨(by decide +kernel), inKX9⟩
set_option maxRecDepth 20000 in
theorem wg_m_many : GoodIn wq_m_many wq_m_many := goodIn_sub (fun _ h => h) (by decide +kernel)
def rm_m_many : Room := { frames := 0, cells := 0, slots := 0, locals := 0 }
set_option maxHeartbeats 4000000 in
set_option maxRecDepth 100000 in
theorem c_m_many (l : Launch) (dC : Nat → ClassId) (dI : Nat → Nat → Nat) (h : Nat) (a : Nat → Nat) (k : Nat → ClassId) (F : Nat → Nat → Int32) (V : Nat → Int32) (n b : Nat) (nv : Nat) (sz : Nat) (hI0 : InvM n b F V) (hb0 : b + 0 < 2147483648) (hp0 : nv = n) : Met l yX9_many wq_m_many rm_m_many (va_Pc [.ref (a 30), .int (nI nv)] (fun U => U.heap.size = sz ∧ va_P (dC, dI) vwCl (mW h a k F V) U.heap ∧ va_K (dC, dI) vwCl (mT k) U ∧ va_D (fun _ => True) (mW h a k F V))) (va_Qi (fun (r : Int32) (u : (Nat → Nat → Int32) × (Nat → Int32)) => u.1 = F ∧ u.2 = V ∧ (True)) (fun (u : (Nat → Nat → Int32) × (Nat → Int32)) (t : State) => va_P (dC, dI) vwCl (mW h a k u.1 u.2) t.heap ∧ va_D (va_A (mW h a k F V) sz) (mW h a k u.1 u.2)) (va_A (mW h a k F V) sz)) 0 0 (va_A (mW h a k F V) sz) := by
  have hn : n ≤ 40 := hI0.1
  have hI : StM n b F V F V := StM.rf hI0
  have hU : ∀ j : Nat, j ∉ ([] : List Nat) → F j = F j := fun _ _ => rfl
  have hV : ∀ j : Nat, j ∉ ([] : List Nat) → V j = V j := fun _ _ => rfl
  refine Met.ofW (cc := cX9_many) (maxL := 4) (ret := (some .int)) (by decide) rfl ?_
  intro p e s m args below meth c s₁ B hml hv
  obtain ⟨rfl, hsz, hP, hK, hD0⟩ := hv
  have hx := B.exec
  have hb := B.bytes
  have hr := B.returns
  have hts := atoms_spec (ws := wq_m_many) B.pre
  have hown : s.vm.findClass RX9 = some m.cls := findClass_of_methodNamed B.named
  have hlocks := B.notSynchronized
  subst hsz
  have hD := hD0.self (sz := s.heap.size)
  generalize hAe : va_A (mW h a k F V) s.heap.size = A at hD ⊢
  have hA : ∀ q : Nat, s.heap.size ≤ q → A q := fun q h => by rw [← hAe]; exact Or.inr h
  have hS : va_S A s.heap s.heap [] := va_S.rf
  have hl := lv_entry ([.ref (a 30), .int (nI nv)]) (n := 4) (Nat.le_of_ble_eq_true rfl)
  rw [lg_entry_eq]
  generalize (lg_sl ([.ref (a 30), .int (nI nv)]) ++ List.replicate (4 - (lg_sl ([.ref (a 30), .int (nI nv)])).length) Slot.unset).toArray = ls at hl ⊢
  have hl : lv_has ls 4 [(0, .ref (a 30)), (1, .int (nI nv))] := hl
  refine mw_Q (fun Q0 hQ => ?_)
  refine lv_iconst (v := 0) hx hb dX9_many_0 (by decide) ?_
  refine lv_istore_n (lv' := [(2, .int 0), (0, .ref (a 30)), (1, .int (nI nv))]) hx hb dX9_many_1 rfl hl (by decide) rfl (fun ls hl => ?_)
  refine lv_iconst (v := 0) hx hb dX9_many_2 (by decide) ?_
  refine lv_istore_n (lv' := [(3, .int 0), (2, .int 0), (0, .ref (a 30)), (1, .int (nI nv))]) hx hb dX9_many_3 rfl hl (by decide) rfl (fun ls hl => ?_)
  have lp4 : ∀ (fu2 i1 : Nat) (y5 : Int32) (H : Heap) (locs : List Loc) (ls : Array Slot), nv < i1 + fu2 → i1 ≤ nv → va_P (dC, dI) vwCl (mW h a k F V) H → va_D A (mW h a k F V) → va_S A s.heap H locs → lv_has ls 4 [(3, .int (nI i1)), (2, .int y5), (0, .ref (a 30)), (1, .int (nI nv))] → W p l e (headSpec wq_m_many rm_m_many).room s m ([.ref (a 30), .int (nI nv)] : List Value).toArray below meth c H locs 0 0 Q0 (F0 m 4 ls []) := by
    intro fu2
    induction fu2 with
    | zero =>
      intro i1 y5 H locs ls hf hi
      exact absurd hf (by omega)
    | succ fu2 ih3 =>
      intro i1 y5 H locs ls hfi1 hii1 hP hD hS hl
      refine lv_iload_n hx hb dX9_many_4 rfl (lv_at hl 0 rfl) ?_
      refine lv_iload_n hx hb dX9_many_5 rfl (lv_at hl 3 rfl) ?_
      refine lv_icmp_ge (tgt := 29) hx hb dX9_many_6 (by decide) (fun c6 => ?_) (fun c6 => ?_)
      · replace c6 : nv ≤ i1 := (nI_leI (a := nv) (b := i1) (by omega) (by omega)).mp c6
        refine lv_iload_n hx hb dX9_many_29 rfl (lv_at hl 1 rfl) ?_
        rw [hQ]
        exact W.iret (v := y5) hx hb hr (fun t ht hW => ⟨⟨y5, (F, V), rfl, ⟨rfl, rfl, trivial⟩, by rw [ht]; exact hP, hD⟩, hS.F ht⟩) hS.2.2 dX9_many_30
      · replace c6 : ¬ (nv ≤ i1) := fun q9 => c6 ((nI_leI (a := nv) (b := i1) (by omega) (by omega)).mpr q9)
        refine lv_iload_n hx hb dX9_many_9 rfl (lv_at hl 1 rfl) ?_
        refine lv_aload_n hx hb dX9_many_10 rfl (lv_at hl 2 rfl) ?_
        refine lv_iload_n hx hb dX9_many_11 rfl (lv_at hl 0 rfl) ?_
        refine va_iald (n := 40) (f := F 30) hx hb hK hP 26 25 rfl rfl (vp_in_nI (n := i1) (by omega) (by decide)) dX9_many_12 ?_
        refine lv_topi (fun x7 ex7 => ?_)
        refine lv_if_eq (tgt := 20) hx hb dX9_many_13 (by decide) (fun c8 => ?_) (fun c8 => ?_)
        · refine lv_iconst (v := 0) hx hb dX9_many_20 (by decide) ?_
          refine lv_iadd hx hb dX9_many_21 ?_
          refine lv_topi (fun x9 ex9 => ?_)
          refine lv_istore_n (lv' := [(2, .int x9), (3, .int (nI i1)), (0, .ref (a 30)), (1, .int (nI nv))]) hx hb dX9_many_22 rfl hl (by decide) rfl (fun ls hl => ?_)
          refine lv_iinc (v := nI (i1 + 1)) (lv' := [(3, .int (nI (i1 + 1))), (2, .int x9), (0, .ref (a 30)), (1, .int (nI nv))]) hx hb dX9_many_23 hl (k := 1) rfl (nI_add i1 1) (by decide) rfl (fun ls hl => ?_)
          refine lv_goto (tgt := 4) hx hb dX9_many_26 (by decide) ?_
          exact ih3 (i1 + 1) x9 _ _ _ (by omega) (by omega)  hP hD hS (lv_sub hl [0, 1, 2, 3] rfl)
        · refine lv_iconst (v := 1) hx hb dX9_many_16 (by decide) ?_
          refine lv_goto (tgt := 21) hx hb dX9_many_17 (by decide) ?_
          refine lv_iadd hx hb dX9_many_21 ?_
          refine lv_topi (fun x10 ex10 => ?_)
          refine lv_istore_n (lv' := [(2, .int x10), (3, .int (nI i1)), (0, .ref (a 30)), (1, .int (nI nv))]) hx hb dX9_many_22 rfl hl (by decide) rfl (fun ls hl => ?_)
          refine lv_iinc (v := nI (i1 + 1)) (lv' := [(3, .int (nI (i1 + 1))), (2, .int x10), (0, .ref (a 30)), (1, .int (nI nv))]) hx hb dX9_many_23 hl (k := 1) rfl (nI_add i1 1) (by decide) rfl (fun ls hl => ?_)
          refine lv_goto (tgt := 4) hx hb dX9_many_26 (by decide) ?_
          exact ih3 (i1 + 1) x10 _ _ _ (by omega) (by omega)  hP hD hS (lv_sub hl [0, 1, 2, 3] rfl)
  exact lp4 (nv + 1) 0 0 _ _ _ (by omega) (by omega)  hP hD hS hl
def wq_m_waitsAmong_job : List Cond := [.code yX9_waitsAmong cX9_waitsAmong 4 (some .boolean), .methodLink RX9 163 yX9_waitsFor, .static yX9_waitsFor, .initialized RX9, .methodLink RX9 150 yX9_has, .instanceMethod yX9_has, .selects RX9 yX9_has yX9_has] ++ (wsX90 ++ (wq_m_waitsFor ++ (wq_m_has)))
theorem in_m_waitsAmong_job_X9 : ∀ w ∈ wsX90, w ∈ wq_m_waitsAmong_job := fun _ h => List.mem_append_right _ (List.mem_append_left _ (h))
set_option maxRecDepth 20000 in
theorem wi_m_waitsAmong_job : ∀ w ∈ wq_m_waitsAmong_job, w ∈ lw_tbl := List.forall_mem_append.mpr ⟨(by decide +kernel), List.forall_mem_append.mpr ⟨inKX9, List.forall_mem_append.mpr ⟨wi_m_waitsFor, wi_m_has⟩⟩⟩
set_option maxRecDepth 20000 in
theorem wg_m_waitsAmong_job : GoodIn wq_m_waitsAmong_job wq_m_waitsAmong_job := goodIn_sub (fun _ h => h) (by decide +kernel)
set_option maxRecDepth 20000 in
theorem wc_m_waitsAmong_job_m_waitsFor_163 : GoodIn wq_m_waitsAmong_job (va_wsS RX9 163 yX9_waitsFor wq_m_waitsFor) := goodIn_app (goodIn_of _ (by decide +kernel)) (fun w h => ⟨List.mem_append_right _ (List.mem_append_right _ (List.mem_append_left _ (h))), (wg_m_waitsFor w h).2⟩)
set_option maxRecDepth 20000 in
theorem wc_m_waitsAmong_job_m_has_150 : GoodIn wq_m_waitsAmong_job (wsV RX9 150 RX9 yX9_has wq_m_has) := goodIn_app (goodIn_of _ (by decide +kernel)) (fun w h => ⟨List.mem_append_right _ (List.mem_append_right _ (List.mem_append_right _ (h))), (wg_m_has w h).2⟩)
def rm_m_waitsAmong_job : Room := { frames := 1, cells := 0, slots := 0, locals := 23 }
set_option maxHeartbeats 4000000 in
set_option maxRecDepth 100000 in
theorem c_m_waitsAmong_job (l : Launch) (dC : Nat → ClassId) (dI : Nat → Nat → Nat) (h : Nat) (a : Nat → Nat) (k : Nat → ClassId) (F : Nat → Nat → Int32) (V : Nat → Int32) (n b : Nat) (av : Nat) (bv : Nat) (sz : Nat) (hI0 : InvM n b F V) (hb0 : b + 0 < 2147483648) (hp0 : av < n) (hp1 : bv < n) : Met l yX9_waitsAmong wq_m_waitsAmong_job rm_m_waitsAmong_job (va_Pc [.ref h, .ref (a 25), .int (nI av), .int (nI bv)] (fun U => U.heap.size = sz ∧ va_P (dC, dI) vwCl (mW h a k F V) U.heap ∧ va_K (dC, dI) vwCl (mT k) U ∧ va_D (fun _ => True) (mW h a k F V))) (va_Qi (fun (r : Int32) (u : (Nat → Nat → Int32) × (Nat → Int32)) => u.1 = F ∧ u.2 = V ∧ (r = 0 ∨ r = 1)) (fun (u : (Nat → Nat → Int32) × (Nat → Int32)) (t : State) => va_P (dC, dI) vwCl (mW h a k u.1 u.2) t.heap ∧ va_D (va_A (mW h a k F V) sz) (mW h a k u.1 u.2)) (va_A (mW h a k F V) sz)) 0 0 (va_A (mW h a k F V) sz) := by
  have hn : n ≤ 40 := hI0.1
  have hI : StM n b F V F V := StM.rf hI0
  have hU : ∀ j : Nat, j ∉ ([] : List Nat) → F j = F j := fun _ _ => rfl
  have hV : ∀ j : Nat, j ∉ ([] : List Nat) → V j = V j := fun _ _ => rfl
  refine Met.ofW (cc := cX9_waitsAmong) (maxL := 4) (ret := (some .boolean)) (by decide) rfl ?_
  intro p e s m args below meth c s₁ B hml hv
  obtain ⟨rfl, hsz, hP, hK, hD0⟩ := hv
  have hx := B.exec
  have hb := B.bytes
  have hr := B.returns
  have hts := atoms_spec (ws := wq_m_waitsAmong_job) B.pre
  have hown : s.vm.findClass RX9 = some m.cls := findClass_of_methodNamed B.named
  have hlocks := B.notSynchronized
  subst hsz
  have hD := hD0.self (sz := s.heap.size)
  generalize hAe : va_A (mW h a k F V) s.heap.size = A at hD ⊢
  have hA : ∀ q : Nat, s.heap.size ≤ q → A q := fun q h => by rw [← hAe]; exact Or.inr h
  have hS : va_S A s.heap s.heap [] := va_S.rf
  have hl := lv_entry ([.ref h, .ref (a 25), .int (nI av), .int (nI bv)]) (n := 4) (Nat.le_of_ble_eq_true rfl)
  rw [lg_entry_eq]
  generalize (lg_sl ([.ref h, .ref (a 25), .int (nI av), .int (nI bv)]) ++ List.replicate (4 - (lg_sl ([.ref h, .ref (a 25), .int (nI av), .int (nI bv)])).length) Slot.unset).toArray = ls at hl ⊢
  have hl : lv_has ls 4 [(0, .ref h), (1, .ref (a 25)), (2, .int (nI av)), (3, .int (nI bv))] := hl
  refine lv_aload_n hx hb dX9_waitsAmong_0 rfl (lv_at hl 1 rfl) ?_
  refine lv_iload_n hx hb dX9_waitsAmong_1 rfl (lv_at hl 2 rfl) ?_
  refine va_iald (n := 40) (f := F 25) hx hb hK hP 21 20 rfl rfl (vp_in_nI (n := av) (by omega) (by decide)) dX9_waitsAmong_2 ?_
  refine lv_topi (fun x1 ex1 => ?_)
  refine lv_aload_n hx hb dX9_waitsAmong_3 rfl (lv_at hl 1 rfl) ?_
  refine lv_iload_n hx hb dX9_waitsAmong_4 rfl (lv_at hl 3 rfl) ?_
  refine va_iald (n := 40) (f := F 25) hx hb hK hP 21 20 rfl rfl (vp_in_nI (n := bv) (by omega) (by decide)) dX9_waitsAmong_5 ?_
  refine lv_topi (fun x2 ex2 => ?_)
  have hFc := mw_free hD hS hA
  refine va_calli (va_runS (As := [.int x1, .int x2]) (rest := []) ⟨hx, hb, hml, hown, hts⟩ (c_m_waitsFor l dC dI h a k F V n (b) x1 x2 s.heap.size hI.1 (by omega) ) (va_cwS 2 hts wc_m_waitsAmong_job_m_waitsFor_163 rfl rfl rfl (by decide +kernel) ⟨Nat.le_of_ble_eq_true rfl, Nat.le_of_ble_eq_true rfl⟩) ⟨fun a9 U g mk q => by obtain ⟨q0, q1, qP, qK, qD⟩ := q; exact ⟨q0, q1, qP, va_K.moved (u := U) (U := U.calling g mk a9) (Vm.Alike.refl U.vm) qK, qD⟩, fun U hU hW => ⟨rfl, by rw [hU], by rw [hU]; exact hP, va_K.moved hW.alike hK, hD.weaken (fun _ _ _ _ => trivial)⟩⟩ rfl rfl hl.1 rfl (lv_room (Nat.le_of_ble_eq_true rfl)) dX9_waitsAmong_6 ⟨Nat.le_of_ble_eq_true rfl, Nat.le_of_ble_eq_true rfl⟩) hS (fun q _ h => hFc q h) hFc (fun r3 u t H1 locs ht hvm hw hB hz1 hk1 hS => ?_)
  obtain ⟨F4, V5⟩ := u
  replace hP := hB.1
  rw [ht] at hP
  replace hD : va_D A (mW h a k F4 V5) := hB.2.weaken (fun _ q _ h9 => hFc q.1 h9)
  clear hB
  generalize H1 = H at hP hS ⊢
  replace hP : va_P (dC, dI) vwCl (mW h a k F4 V5) H := hP
  obtain ⟨hwF, hwV, hw⟩ : F4 = F ∧ V5 = V ∧ _ := hw
  rw [hwF, hwV] at hP hD
  refine lv_if_eq (tgt := 17) hx hb dX9_waitsAmong_9 (by decide) (fun c6 => ?_) (fun c6 => ?_)
  · refine lv_iconst (v := 0) hx hb dX9_waitsAmong_17 (by decide) ?_
    exact W.zret (v := 0) hx hb hr (by decide) (fun t ht hW => ⟨⟨0, (F, V), rfl, ⟨rfl, rfl, Or.inl rfl⟩, by rw [ht]; exact hP, hD⟩, hS.F ht⟩) hS.2.2 dX9_waitsAmong_18
  · refine lv_iload_n hx hb dX9_waitsAmong_12 rfl (lv_at hl 2 rfl) ?_
    refine lv_iload_n hx hb dX9_waitsAmong_13 rfl (lv_at hl 3 rfl) ?_
    refine lv_icmp_ne (tgt := 19) hx hb dX9_waitsAmong_14 (by decide) (fun c7 => ?_) (fun c7 => ?_)
    · replace c7 : ¬ (av = bv) := fun q9 => c7 ((nI_eq (a := av) (b := bv) (by omega) (by omega)).mpr q9)
      refine lv_aload_n hx hb dX9_waitsAmong_19 rfl (lv_at hl 1 rfl) ?_
      refine lv_iload_n hx hb dX9_waitsAmong_20 rfl (lv_at hl 2 rfl) ?_
      refine va_iald (n := 40) (f := F 25) hx hb hK hP 21 20 rfl rfl (vp_in_nI (n := av) (by omega) (by decide)) dX9_waitsAmong_21 ?_
      refine p1_topr (v := .int x1) (congrArg Value.int ex1.symm) ?_
      refine lv_iconst (v := 1) hx hb dX9_waitsAmong_22 (by decide) ?_
      refine lv_icmp_ne (tgt := 69) hx hb dX9_waitsAmong_23 (by decide) (fun c9 => ?_) (fun c9 => ?_)
      · refine lv_aload_n hx hb dX9_waitsAmong_69 rfl (lv_at hl 1 rfl) ?_
        refine lv_iload_n hx hb dX9_waitsAmong_70 rfl (lv_at hl 3 rfl) ?_
        refine va_iald (n := 40) (f := F 25) hx hb hK hP 21 20 rfl rfl (vp_in_nI (n := bv) (by omega) (by decide)) dX9_waitsAmong_71 ?_
        refine p1_topr (v := .int x2) (congrArg Value.int ex2.symm) ?_
        refine lv_iconst (v := 2) hx hb dX9_waitsAmong_72 (by decide) ?_
        refine lv_icmp_ne (tgt := 100) hx hb dX9_waitsAmong_73 (by decide) (fun c11 => ?_) (fun c11 => ?_)
        · refine lv_iconst (v := 0) hx hb dX9_waitsAmong_100 (by decide) ?_
          exact W.zret (v := 0) hx hb hr (by decide) (fun t ht hW => ⟨⟨0, (F, V), rfl, ⟨rfl, rfl, Or.inl rfl⟩, by rw [ht]; exact hP, hD⟩, hS.F ht⟩) hS.2.2 dX9_waitsAmong_101
        · refine lv_aload_n hx hb dX9_waitsAmong_76 rfl (lv_at hl 0 rfl) ?_
          refine lv_iconst (v := 0) hx hb dX9_waitsAmong_77 (by decide) ?_
          refine lv_iload_n hx hb dX9_waitsAmong_78 rfl (lv_at hl 3 rfl) ?_
          refine lv_iload_n hx hb dX9_waitsAmong_79 rfl (lv_at hl 2 rfl) ?_
          have hFc := mw_free hD hS hA
          refine va_calli (va_runV (As := [.int 0, .int (nI bv), .int (nI av)]) (rest := []) ⟨hx, hb, hml, hown, hts⟩ (c_m_has l dC dI h a k F V n (b) 0 bv av H.size hI.1 (by omega) (by omega) (by omega) (by omega)) (cwV 3 hts wc_m_waitsAmong_job_m_has_150 rfl rfl rfl (by decide +kernel) ⟨Nat.le_of_ble_eq_true rfl, Nat.le_of_ble_eq_true rfl⟩) ⟨fun a9 U g mk q => by obtain ⟨q0, q1, qP, qK, qD⟩ := q; exact ⟨q0, q1, qP, va_K.moved (u := U) (U := U.calling g mk a9) (Vm.Alike.refl U.vm) qK, qD⟩, va_recv hK hP (ci := 10) (q0 := 0) rfl rfl, fun U hU hW => ⟨rfl, by rw [hU], by rw [hU]; exact hP, va_K.moved hW.alike hK, hD.weaken (fun _ _ _ _ => trivial)⟩⟩ rfl rfl hl.1 rfl (lv_room (Nat.le_of_ble_eq_true rfl)) dX9_waitsAmong_80 ⟨Nat.le_of_ble_eq_true rfl, Nat.le_of_ble_eq_true rfl⟩) hS (fun q _ h => hFc q h) hFc (fun r12 u t H1 locs ht hvm hw hB hz1 hk1 hS => ?_)
          obtain ⟨F13, V14⟩ := u
          replace hP := hB.1
          rw [ht] at hP
          replace hD : va_D A (mW h a k F13 V14) := hB.2.weaken (fun _ q _ h9 => hFc q.1 h9)
          clear hB
          generalize H1 = H at hP hS ⊢
          replace hP : va_P (dC, dI) vwCl (mW h a k F13 V14) H := hP
          obtain ⟨hwF, hwV, hw⟩ : F13 = F ∧ V14 = V ∧ _ := hw
          rw [hwF, hwV] at hP hD
          have br12 := hw
          refine lv_if_ne (tgt := 96) hx hb dX9_waitsAmong_83 (by decide) (fun c15 => ?_) (fun c15 => ?_)
          · refine lv_iconst (v := 1) hx hb dX9_waitsAmong_96 (by decide) ?_
            refine lv_goto (tgt := 101) hx hb dX9_waitsAmong_97 (by decide) ?_
            exact W.zret (v := 1) hx hb hr (by decide) (fun t ht hW => ⟨⟨1, (F, V), rfl, ⟨rfl, rfl, Or.inr rfl⟩, by rw [ht]; exact hP, hD⟩, hS.F ht⟩) hS.2.2 dX9_waitsAmong_101
          · refine lv_aload_n hx hb dX9_waitsAmong_86 rfl (lv_at hl 0 rfl) ?_
            refine lv_iconst (v := 2) hx hb dX9_waitsAmong_87 (by decide) ?_
            refine lv_iload_n hx hb dX9_waitsAmong_88 rfl (lv_at hl 3 rfl) ?_
            refine lv_iload_n hx hb dX9_waitsAmong_89 rfl (lv_at hl 2 rfl) ?_
            have hFc := mw_free hD hS hA
            refine va_calli (va_runV (As := [.int 2, .int (nI bv), .int (nI av)]) (rest := []) ⟨hx, hb, hml, hown, hts⟩ (c_m_has l dC dI h a k F V n (b) 2 bv av H.size hI.1 (by omega) (by omega) (by omega) (by omega)) (cwV 3 hts wc_m_waitsAmong_job_m_has_150 rfl rfl rfl (by decide +kernel) ⟨Nat.le_of_ble_eq_true rfl, Nat.le_of_ble_eq_true rfl⟩) ⟨fun a9 U g mk q => by obtain ⟨q0, q1, qP, qK, qD⟩ := q; exact ⟨q0, q1, qP, va_K.moved (u := U) (U := U.calling g mk a9) (Vm.Alike.refl U.vm) qK, qD⟩, va_recv hK hP (ci := 10) (q0 := 0) rfl rfl, fun U hU hW => ⟨rfl, by rw [hU], by rw [hU]; exact hP, va_K.moved hW.alike hK, hD.weaken (fun _ _ _ _ => trivial)⟩⟩ rfl rfl hl.1 rfl (lv_room (Nat.le_of_ble_eq_true rfl)) dX9_waitsAmong_90 ⟨Nat.le_of_ble_eq_true rfl, Nat.le_of_ble_eq_true rfl⟩) hS (fun q _ h => hFc q h) hFc (fun r16 u t H1 locs ht hvm hw hB hz1 hk1 hS => ?_)
            obtain ⟨F17, V18⟩ := u
            replace hP := hB.1
            rw [ht] at hP
            replace hD : va_D A (mW h a k F17 V18) := hB.2.weaken (fun _ q _ h9 => hFc q.1 h9)
            clear hB
            generalize H1 = H at hP hS ⊢
            replace hP : va_P (dC, dI) vwCl (mW h a k F17 V18) H := hP
            obtain ⟨hwF, hwV, hw⟩ : F17 = F ∧ V18 = V ∧ _ := hw
            rw [hwF, hwV] at hP hD
            have br16 := hw
            refine lv_if_eq (tgt := 100) hx hb dX9_waitsAmong_93 (by decide) (fun c19 => ?_) (fun c19 => ?_)
            · refine lv_iconst (v := 0) hx hb dX9_waitsAmong_100 (by decide) ?_
              exact W.zret (v := 0) hx hb hr (by decide) (fun t ht hW => ⟨⟨0, (F, V), rfl, ⟨rfl, rfl, Or.inl rfl⟩, by rw [ht]; exact hP, hD⟩, hS.F ht⟩) hS.2.2 dX9_waitsAmong_101
            · refine lv_iconst (v := 1) hx hb dX9_waitsAmong_96 (by decide) ?_
              refine lv_goto (tgt := 101) hx hb dX9_waitsAmong_97 (by decide) ?_
              exact W.zret (v := 1) hx hb hr (by decide) (fun t ht hW => ⟨⟨1, (F, V), rfl, ⟨rfl, rfl, Or.inr rfl⟩, by rw [ht]; exact hP, hD⟩, hS.F ht⟩) hS.2.2 dX9_waitsAmong_101
      · refine lv_aload_n hx hb dX9_waitsAmong_26 rfl (lv_at hl 1 rfl) ?_
        refine lv_iload_n hx hb dX9_waitsAmong_27 rfl (lv_at hl 3 rfl) ?_
        refine va_iald (n := 40) (f := F 25) hx hb hK hP 21 20 rfl rfl (vp_in_nI (n := bv) (by omega) (by decide)) dX9_waitsAmong_28 ?_
        refine p1_topr (v := .int x2) (congrArg Value.int ex2.symm) ?_
        refine lv_iconst (v := 1) hx hb dX9_waitsAmong_29 (by decide) ?_
        refine lv_icmp_ne (tgt := 61) hx hb dX9_waitsAmong_30 (by decide) (fun c21 => ?_) (fun c21 => ?_)
        · refine lv_aload_n hx hb dX9_waitsAmong_61 rfl (lv_at hl 0 rfl) ?_
          refine lv_iconst (v := 3) hx hb dX9_waitsAmong_62 (by decide) ?_
          refine lv_iload_n hx hb dX9_waitsAmong_63 rfl (lv_at hl 2 rfl) ?_
          refine lv_iload_n hx hb dX9_waitsAmong_64 rfl (lv_at hl 3 rfl) ?_
          have hFc := mw_free hD hS hA
          refine va_calli (va_runV (As := [.int 3, .int (nI av), .int (nI bv)]) (rest := []) ⟨hx, hb, hml, hown, hts⟩ (c_m_has l dC dI h a k F V n (b) 3 av bv H.size hI.1 (by omega) (by omega) (by omega) (by omega)) (cwV 3 hts wc_m_waitsAmong_job_m_has_150 rfl rfl rfl (by decide +kernel) ⟨Nat.le_of_ble_eq_true rfl, Nat.le_of_ble_eq_true rfl⟩) ⟨fun a9 U g mk q => by obtain ⟨q0, q1, qP, qK, qD⟩ := q; exact ⟨q0, q1, qP, va_K.moved (u := U) (U := U.calling g mk a9) (Vm.Alike.refl U.vm) qK, qD⟩, va_recv hK hP (ci := 10) (q0 := 0) rfl rfl, fun U hU hW => ⟨rfl, by rw [hU], by rw [hU]; exact hP, va_K.moved hW.alike hK, hD.weaken (fun _ _ _ _ => trivial)⟩⟩ rfl rfl hl.1 rfl (lv_room (Nat.le_of_ble_eq_true rfl)) dX9_waitsAmong_65 ⟨Nat.le_of_ble_eq_true rfl, Nat.le_of_ble_eq_true rfl⟩) hS (fun q _ h => hFc q h) hFc (fun r22 u t H1 locs ht hvm hw hB hz1 hk1 hS => ?_)
          obtain ⟨F23, V24⟩ := u
          replace hP := hB.1
          rw [ht] at hP
          replace hD : va_D A (mW h a k F23 V24) := hB.2.weaken (fun _ q _ h9 => hFc q.1 h9)
          clear hB
          generalize H1 = H at hP hS ⊢
          replace hP : va_P (dC, dI) vwCl (mW h a k F23 V24) H := hP
          obtain ⟨hwF, hwV, hw⟩ : F23 = F ∧ V24 = V ∧ _ := hw
          rw [hwF, hwV] at hP hD
          have br22 := hw
          exact W.zret (v := r22) hx hb hr (mw_nb br22) (fun t ht hW => ⟨⟨r22, (F, V), rfl, ⟨rfl, rfl, br22⟩, by rw [ht]; exact hP, hD⟩, hS.F ht⟩) hS.2.2 dX9_waitsAmong_68
        · refine lv_aload_n hx hb dX9_waitsAmong_33 rfl (lv_at hl 0 rfl) ?_
          refine lv_iconst (v := 0) hx hb dX9_waitsAmong_34 (by decide) ?_
          refine lv_iload_n hx hb dX9_waitsAmong_35 rfl (lv_at hl 2 rfl) ?_
          refine lv_iload_n hx hb dX9_waitsAmong_36 rfl (lv_at hl 3 rfl) ?_
          have hFc := mw_free hD hS hA
          refine va_calli (va_runV (As := [.int 0, .int (nI av), .int (nI bv)]) (rest := []) ⟨hx, hb, hml, hown, hts⟩ (c_m_has l dC dI h a k F V n (b) 0 av bv H.size hI.1 (by omega) (by omega) (by omega) (by omega)) (cwV 3 hts wc_m_waitsAmong_job_m_has_150 rfl rfl rfl (by decide +kernel) ⟨Nat.le_of_ble_eq_true rfl, Nat.le_of_ble_eq_true rfl⟩) ⟨fun a9 U g mk q => by obtain ⟨q0, q1, qP, qK, qD⟩ := q; exact ⟨q0, q1, qP, va_K.moved (u := U) (U := U.calling g mk a9) (Vm.Alike.refl U.vm) qK, qD⟩, va_recv hK hP (ci := 10) (q0 := 0) rfl rfl, fun U hU hW => ⟨rfl, by rw [hU], by rw [hU]; exact hP, va_K.moved hW.alike hK, hD.weaken (fun _ _ _ _ => trivial)⟩⟩ rfl rfl hl.1 rfl (lv_room (Nat.le_of_ble_eq_true rfl)) dX9_waitsAmong_37 ⟨Nat.le_of_ble_eq_true rfl, Nat.le_of_ble_eq_true rfl⟩) hS (fun q _ h => hFc q h) hFc (fun r25 u t H1 locs ht hvm hw hB hz1 hk1 hS => ?_)
          obtain ⟨F26, V27⟩ := u
          replace hP := hB.1
          rw [ht] at hP
          replace hD : va_D A (mW h a k F26 V27) := hB.2.weaken (fun _ q _ h9 => hFc q.1 h9)
          clear hB
          generalize H1 = H at hP hS ⊢
          replace hP : va_P (dC, dI) vwCl (mW h a k F26 V27) H := hP
          obtain ⟨hwF, hwV, hw⟩ : F26 = F ∧ V27 = V ∧ _ := hw
          rw [hwF, hwV] at hP hD
          have br25 := hw
          refine lv_if_ne (tgt := 53) hx hb dX9_waitsAmong_40 (by decide) (fun c28 => ?_) (fun c28 => ?_)
          · refine lv_iconst (v := 1) hx hb dX9_waitsAmong_53 (by decide) ?_
            refine lv_goto (tgt := 68) hx hb dX9_waitsAmong_54 (by decide) ?_
            exact W.zret (v := 1) hx hb hr (by decide) (fun t ht hW => ⟨⟨1, (F, V), rfl, ⟨rfl, rfl, Or.inr rfl⟩, by rw [ht]; exact hP, hD⟩, hS.F ht⟩) hS.2.2 dX9_waitsAmong_68
          · refine lv_aload_n hx hb dX9_waitsAmong_43 rfl (lv_at hl 0 rfl) ?_
            refine lv_iconst (v := 2) hx hb dX9_waitsAmong_44 (by decide) ?_
            refine lv_iload_n hx hb dX9_waitsAmong_45 rfl (lv_at hl 2 rfl) ?_
            refine lv_iload_n hx hb dX9_waitsAmong_46 rfl (lv_at hl 3 rfl) ?_
            have hFc := mw_free hD hS hA
            refine va_calli (va_runV (As := [.int 2, .int (nI av), .int (nI bv)]) (rest := []) ⟨hx, hb, hml, hown, hts⟩ (c_m_has l dC dI h a k F V n (b) 2 av bv H.size hI.1 (by omega) (by omega) (by omega) (by omega)) (cwV 3 hts wc_m_waitsAmong_job_m_has_150 rfl rfl rfl (by decide +kernel) ⟨Nat.le_of_ble_eq_true rfl, Nat.le_of_ble_eq_true rfl⟩) ⟨fun a9 U g mk q => by obtain ⟨q0, q1, qP, qK, qD⟩ := q; exact ⟨q0, q1, qP, va_K.moved (u := U) (U := U.calling g mk a9) (Vm.Alike.refl U.vm) qK, qD⟩, va_recv hK hP (ci := 10) (q0 := 0) rfl rfl, fun U hU hW => ⟨rfl, by rw [hU], by rw [hU]; exact hP, va_K.moved hW.alike hK, hD.weaken (fun _ _ _ _ => trivial)⟩⟩ rfl rfl hl.1 rfl (lv_room (Nat.le_of_ble_eq_true rfl)) dX9_waitsAmong_47 ⟨Nat.le_of_ble_eq_true rfl, Nat.le_of_ble_eq_true rfl⟩) hS (fun q _ h => hFc q h) hFc (fun r29 u t H1 locs ht hvm hw hB hz1 hk1 hS => ?_)
            obtain ⟨F30, V31⟩ := u
            replace hP := hB.1
            rw [ht] at hP
            replace hD : va_D A (mW h a k F30 V31) := hB.2.weaken (fun _ q _ h9 => hFc q.1 h9)
            clear hB
            generalize H1 = H at hP hS ⊢
            replace hP : va_P (dC, dI) vwCl (mW h a k F30 V31) H := hP
            obtain ⟨hwF, hwV, hw⟩ : F30 = F ∧ V31 = V ∧ _ := hw
            rw [hwF, hwV] at hP hD
            have br29 := hw
            refine lv_if_eq (tgt := 57) hx hb dX9_waitsAmong_50 (by decide) (fun c32 => ?_) (fun c32 => ?_)
            · refine lv_iconst (v := 0) hx hb dX9_waitsAmong_57 (by decide) ?_
              refine lv_goto (tgt := 68) hx hb dX9_waitsAmong_58 (by decide) ?_
              exact W.zret (v := 0) hx hb hr (by decide) (fun t ht hW => ⟨⟨0, (F, V), rfl, ⟨rfl, rfl, Or.inl rfl⟩, by rw [ht]; exact hP, hD⟩, hS.F ht⟩) hS.2.2 dX9_waitsAmong_68
            · refine lv_iconst (v := 1) hx hb dX9_waitsAmong_53 (by decide) ?_
              refine lv_goto (tgt := 68) hx hb dX9_waitsAmong_54 (by decide) ?_
              exact W.zret (v := 1) hx hb hr (by decide) (fun t ht hW => ⟨⟨1, (F, V), rfl, ⟨rfl, rfl, Or.inr rfl⟩, by rw [ht]; exact hP, hD⟩, hS.F ht⟩) hS.2.2 dX9_waitsAmong_68
    · replace c7 : av = bv := (nI_eq (a := av) (b := bv) (by omega) (by omega)).mp c7
      refine lv_iconst (v := 0) hx hb dX9_waitsAmong_17 (by decide) ?_
      exact W.zret (v := 0) hx hb hr (by decide) (fun t ht hW => ⟨⟨0, (F, V), rfl, ⟨rfl, rfl, Or.inl rfl⟩, by rw [ht]; exact hP, hD⟩, hS.F ht⟩) hS.2.2 dX9_waitsAmong_18
def wq_m_waitsAmong_newJob : List Cond := [.code yX9_waitsAmong cX9_waitsAmong 4 (some .boolean), .methodLink RX9 163 yX9_waitsFor, .static yX9_waitsFor, .initialized RX9, .methodLink RX9 150 yX9_has, .instanceMethod yX9_has, .selects RX9 yX9_has yX9_has] ++ (wsX90 ++ (wq_m_waitsFor ++ (wq_m_has)))
theorem in_m_waitsAmong_newJob_X9 : ∀ w ∈ wsX90, w ∈ wq_m_waitsAmong_newJob := fun _ h => List.mem_append_right _ (List.mem_append_left _ (h))
set_option maxRecDepth 20000 in
theorem wi_m_waitsAmong_newJob : ∀ w ∈ wq_m_waitsAmong_newJob, w ∈ lw_tbl := List.forall_mem_append.mpr ⟨(by decide +kernel), List.forall_mem_append.mpr ⟨inKX9, List.forall_mem_append.mpr ⟨wi_m_waitsFor, wi_m_has⟩⟩⟩
set_option maxRecDepth 20000 in
theorem wg_m_waitsAmong_newJob : GoodIn wq_m_waitsAmong_newJob wq_m_waitsAmong_newJob := goodIn_sub (fun _ h => h) (by decide +kernel)
set_option maxRecDepth 20000 in
theorem wc_m_waitsAmong_newJob_m_waitsFor_163 : GoodIn wq_m_waitsAmong_newJob (va_wsS RX9 163 yX9_waitsFor wq_m_waitsFor) := goodIn_app (goodIn_of _ (by decide +kernel)) (fun w h => ⟨List.mem_append_right _ (List.mem_append_right _ (List.mem_append_left _ (h))), (wg_m_waitsFor w h).2⟩)
set_option maxRecDepth 20000 in
theorem wc_m_waitsAmong_newJob_m_has_150 : GoodIn wq_m_waitsAmong_newJob (wsV RX9 150 RX9 yX9_has wq_m_has) := goodIn_app (goodIn_of _ (by decide +kernel)) (fun w h => ⟨List.mem_append_right _ (List.mem_append_right _ (List.mem_append_right _ (h))), (wg_m_has w h).2⟩)
def rm_m_waitsAmong_newJob : Room := { frames := 1, cells := 0, slots := 0, locals := 23 }
set_option maxHeartbeats 4000000 in
set_option maxRecDepth 100000 in
theorem c_m_waitsAmong_newJob (l : Launch) (dC : Nat → ClassId) (dI : Nat → Nat → Nat) (h : Nat) (a : Nat → Nat) (k : Nat → ClassId) (F : Nat → Nat → Int32) (V : Nat → Int32) (n b : Nat) (av : Nat) (bv : Nat) (sz : Nat) (hI0 : InvM n b F V) (hb0 : b + 0 < 2147483648) (hp0 : av < n) (hp1 : bv < n) : Met l yX9_waitsAmong wq_m_waitsAmong_newJob rm_m_waitsAmong_newJob (va_Pc [.ref h, .ref (a 30), .int (nI av), .int (nI bv)] (fun U => U.heap.size = sz ∧ va_P (dC, dI) vwCl (mW h a k F V) U.heap ∧ va_K (dC, dI) vwCl (mT k) U ∧ va_D (fun _ => True) (mW h a k F V))) (va_Qi (fun (r : Int32) (u : (Nat → Nat → Int32) × (Nat → Int32)) => u.1 = F ∧ u.2 = V ∧ (r = 0 ∨ r = 1)) (fun (u : (Nat → Nat → Int32) × (Nat → Int32)) (t : State) => va_P (dC, dI) vwCl (mW h a k u.1 u.2) t.heap ∧ va_D (va_A (mW h a k F V) sz) (mW h a k u.1 u.2)) (va_A (mW h a k F V) sz)) 0 0 (va_A (mW h a k F V) sz) := by
  have hn : n ≤ 40 := hI0.1
  have hI : StM n b F V F V := StM.rf hI0
  have hU : ∀ j : Nat, j ∉ ([] : List Nat) → F j = F j := fun _ _ => rfl
  have hV : ∀ j : Nat, j ∉ ([] : List Nat) → V j = V j := fun _ _ => rfl
  refine Met.ofW (cc := cX9_waitsAmong) (maxL := 4) (ret := (some .boolean)) (by decide) rfl ?_
  intro p e s m args below meth c s₁ B hml hv
  obtain ⟨rfl, hsz, hP, hK, hD0⟩ := hv
  have hx := B.exec
  have hb := B.bytes
  have hr := B.returns
  have hts := atoms_spec (ws := wq_m_waitsAmong_newJob) B.pre
  have hown : s.vm.findClass RX9 = some m.cls := findClass_of_methodNamed B.named
  have hlocks := B.notSynchronized
  subst hsz
  have hD := hD0.self (sz := s.heap.size)
  generalize hAe : va_A (mW h a k F V) s.heap.size = A at hD ⊢
  have hA : ∀ q : Nat, s.heap.size ≤ q → A q := fun q h => by rw [← hAe]; exact Or.inr h
  have hS : va_S A s.heap s.heap [] := va_S.rf
  have hl := lv_entry ([.ref h, .ref (a 30), .int (nI av), .int (nI bv)]) (n := 4) (Nat.le_of_ble_eq_true rfl)
  rw [lg_entry_eq]
  generalize (lg_sl ([.ref h, .ref (a 30), .int (nI av), .int (nI bv)]) ++ List.replicate (4 - (lg_sl ([.ref h, .ref (a 30), .int (nI av), .int (nI bv)])).length) Slot.unset).toArray = ls at hl ⊢
  have hl : lv_has ls 4 [(0, .ref h), (1, .ref (a 30)), (2, .int (nI av)), (3, .int (nI bv))] := hl
  refine lv_aload_n hx hb dX9_waitsAmong_0 rfl (lv_at hl 1 rfl) ?_
  refine lv_iload_n hx hb dX9_waitsAmong_1 rfl (lv_at hl 2 rfl) ?_
  refine va_iald (n := 40) (f := F 30) hx hb hK hP 26 25 rfl rfl (vp_in_nI (n := av) (by omega) (by decide)) dX9_waitsAmong_2 ?_
  refine lv_topi (fun x1 ex1 => ?_)
  refine lv_aload_n hx hb dX9_waitsAmong_3 rfl (lv_at hl 1 rfl) ?_
  refine lv_iload_n hx hb dX9_waitsAmong_4 rfl (lv_at hl 3 rfl) ?_
  refine va_iald (n := 40) (f := F 30) hx hb hK hP 26 25 rfl rfl (vp_in_nI (n := bv) (by omega) (by decide)) dX9_waitsAmong_5 ?_
  refine lv_topi (fun x2 ex2 => ?_)
  have hFc := mw_free hD hS hA
  refine va_calli (va_runS (As := [.int x1, .int x2]) (rest := []) ⟨hx, hb, hml, hown, hts⟩ (c_m_waitsFor l dC dI h a k F V n (b) x1 x2 s.heap.size hI.1 (by omega) ) (va_cwS 2 hts wc_m_waitsAmong_newJob_m_waitsFor_163 rfl rfl rfl (by decide +kernel) ⟨Nat.le_of_ble_eq_true rfl, Nat.le_of_ble_eq_true rfl⟩) ⟨fun a9 U g mk q => by obtain ⟨q0, q1, qP, qK, qD⟩ := q; exact ⟨q0, q1, qP, va_K.moved (u := U) (U := U.calling g mk a9) (Vm.Alike.refl U.vm) qK, qD⟩, fun U hU hW => ⟨rfl, by rw [hU], by rw [hU]; exact hP, va_K.moved hW.alike hK, hD.weaken (fun _ _ _ _ => trivial)⟩⟩ rfl rfl hl.1 rfl (lv_room (Nat.le_of_ble_eq_true rfl)) dX9_waitsAmong_6 ⟨Nat.le_of_ble_eq_true rfl, Nat.le_of_ble_eq_true rfl⟩) hS (fun q _ h => hFc q h) hFc (fun r3 u t H1 locs ht hvm hw hB hz1 hk1 hS => ?_)
  obtain ⟨F4, V5⟩ := u
  replace hP := hB.1
  rw [ht] at hP
  replace hD : va_D A (mW h a k F4 V5) := hB.2.weaken (fun _ q _ h9 => hFc q.1 h9)
  clear hB
  generalize H1 = H at hP hS ⊢
  replace hP : va_P (dC, dI) vwCl (mW h a k F4 V5) H := hP
  obtain ⟨hwF, hwV, hw⟩ : F4 = F ∧ V5 = V ∧ _ := hw
  rw [hwF, hwV] at hP hD
  refine lv_if_eq (tgt := 17) hx hb dX9_waitsAmong_9 (by decide) (fun c6 => ?_) (fun c6 => ?_)
  · refine lv_iconst (v := 0) hx hb dX9_waitsAmong_17 (by decide) ?_
    exact W.zret (v := 0) hx hb hr (by decide) (fun t ht hW => ⟨⟨0, (F, V), rfl, ⟨rfl, rfl, Or.inl rfl⟩, by rw [ht]; exact hP, hD⟩, hS.F ht⟩) hS.2.2 dX9_waitsAmong_18
  · refine lv_iload_n hx hb dX9_waitsAmong_12 rfl (lv_at hl 2 rfl) ?_
    refine lv_iload_n hx hb dX9_waitsAmong_13 rfl (lv_at hl 3 rfl) ?_
    refine lv_icmp_ne (tgt := 19) hx hb dX9_waitsAmong_14 (by decide) (fun c7 => ?_) (fun c7 => ?_)
    · replace c7 : ¬ (av = bv) := fun q9 => c7 ((nI_eq (a := av) (b := bv) (by omega) (by omega)).mpr q9)
      refine lv_aload_n hx hb dX9_waitsAmong_19 rfl (lv_at hl 1 rfl) ?_
      refine lv_iload_n hx hb dX9_waitsAmong_20 rfl (lv_at hl 2 rfl) ?_
      refine va_iald (n := 40) (f := F 30) hx hb hK hP 26 25 rfl rfl (vp_in_nI (n := av) (by omega) (by decide)) dX9_waitsAmong_21 ?_
      refine p1_topr (v := .int x1) (congrArg Value.int ex1.symm) ?_
      refine lv_iconst (v := 1) hx hb dX9_waitsAmong_22 (by decide) ?_
      refine lv_icmp_ne (tgt := 69) hx hb dX9_waitsAmong_23 (by decide) (fun c9 => ?_) (fun c9 => ?_)
      · refine lv_aload_n hx hb dX9_waitsAmong_69 rfl (lv_at hl 1 rfl) ?_
        refine lv_iload_n hx hb dX9_waitsAmong_70 rfl (lv_at hl 3 rfl) ?_
        refine va_iald (n := 40) (f := F 30) hx hb hK hP 26 25 rfl rfl (vp_in_nI (n := bv) (by omega) (by decide)) dX9_waitsAmong_71 ?_
        refine p1_topr (v := .int x2) (congrArg Value.int ex2.symm) ?_
        refine lv_iconst (v := 2) hx hb dX9_waitsAmong_72 (by decide) ?_
        refine lv_icmp_ne (tgt := 100) hx hb dX9_waitsAmong_73 (by decide) (fun c11 => ?_) (fun c11 => ?_)
        · refine lv_iconst (v := 0) hx hb dX9_waitsAmong_100 (by decide) ?_
          exact W.zret (v := 0) hx hb hr (by decide) (fun t ht hW => ⟨⟨0, (F, V), rfl, ⟨rfl, rfl, Or.inl rfl⟩, by rw [ht]; exact hP, hD⟩, hS.F ht⟩) hS.2.2 dX9_waitsAmong_101
        · refine lv_aload_n hx hb dX9_waitsAmong_76 rfl (lv_at hl 0 rfl) ?_
          refine lv_iconst (v := 0) hx hb dX9_waitsAmong_77 (by decide) ?_
          refine lv_iload_n hx hb dX9_waitsAmong_78 rfl (lv_at hl 3 rfl) ?_
          refine lv_iload_n hx hb dX9_waitsAmong_79 rfl (lv_at hl 2 rfl) ?_
          have hFc := mw_free hD hS hA
          refine va_calli (va_runV (As := [.int 0, .int (nI bv), .int (nI av)]) (rest := []) ⟨hx, hb, hml, hown, hts⟩ (c_m_has l dC dI h a k F V n (b) 0 bv av H.size hI.1 (by omega) (by omega) (by omega) (by omega)) (cwV 3 hts wc_m_waitsAmong_newJob_m_has_150 rfl rfl rfl (by decide +kernel) ⟨Nat.le_of_ble_eq_true rfl, Nat.le_of_ble_eq_true rfl⟩) ⟨fun a9 U g mk q => by obtain ⟨q0, q1, qP, qK, qD⟩ := q; exact ⟨q0, q1, qP, va_K.moved (u := U) (U := U.calling g mk a9) (Vm.Alike.refl U.vm) qK, qD⟩, va_recv hK hP (ci := 10) (q0 := 0) rfl rfl, fun U hU hW => ⟨rfl, by rw [hU], by rw [hU]; exact hP, va_K.moved hW.alike hK, hD.weaken (fun _ _ _ _ => trivial)⟩⟩ rfl rfl hl.1 rfl (lv_room (Nat.le_of_ble_eq_true rfl)) dX9_waitsAmong_80 ⟨Nat.le_of_ble_eq_true rfl, Nat.le_of_ble_eq_true rfl⟩) hS (fun q _ h => hFc q h) hFc (fun r12 u t H1 locs ht hvm hw hB hz1 hk1 hS => ?_)
          obtain ⟨F13, V14⟩ := u
          replace hP := hB.1
          rw [ht] at hP
          replace hD : va_D A (mW h a k F13 V14) := hB.2.weaken (fun _ q _ h9 => hFc q.1 h9)
          clear hB
          generalize H1 = H at hP hS ⊢
          replace hP : va_P (dC, dI) vwCl (mW h a k F13 V14) H := hP
          obtain ⟨hwF, hwV, hw⟩ : F13 = F ∧ V14 = V ∧ _ := hw
          rw [hwF, hwV] at hP hD
          have br12 := hw
          refine lv_if_ne (tgt := 96) hx hb dX9_waitsAmong_83 (by decide) (fun c15 => ?_) (fun c15 => ?_)
          · refine lv_iconst (v := 1) hx hb dX9_waitsAmong_96 (by decide) ?_
            refine lv_goto (tgt := 101) hx hb dX9_waitsAmong_97 (by decide) ?_
            exact W.zret (v := 1) hx hb hr (by decide) (fun t ht hW => ⟨⟨1, (F, V), rfl, ⟨rfl, rfl, Or.inr rfl⟩, by rw [ht]; exact hP, hD⟩, hS.F ht⟩) hS.2.2 dX9_waitsAmong_101
          · refine lv_aload_n hx hb dX9_waitsAmong_86 rfl (lv_at hl 0 rfl) ?_
            refine lv_iconst (v := 2) hx hb dX9_waitsAmong_87 (by decide) ?_
            refine lv_iload_n hx hb dX9_waitsAmong_88 rfl (lv_at hl 3 rfl) ?_
            refine lv_iload_n hx hb dX9_waitsAmong_89 rfl (lv_at hl 2 rfl) ?_
            have hFc := mw_free hD hS hA
            refine va_calli (va_runV (As := [.int 2, .int (nI bv), .int (nI av)]) (rest := []) ⟨hx, hb, hml, hown, hts⟩ (c_m_has l dC dI h a k F V n (b) 2 bv av H.size hI.1 (by omega) (by omega) (by omega) (by omega)) (cwV 3 hts wc_m_waitsAmong_newJob_m_has_150 rfl rfl rfl (by decide +kernel) ⟨Nat.le_of_ble_eq_true rfl, Nat.le_of_ble_eq_true rfl⟩) ⟨fun a9 U g mk q => by obtain ⟨q0, q1, qP, qK, qD⟩ := q; exact ⟨q0, q1, qP, va_K.moved (u := U) (U := U.calling g mk a9) (Vm.Alike.refl U.vm) qK, qD⟩, va_recv hK hP (ci := 10) (q0 := 0) rfl rfl, fun U hU hW => ⟨rfl, by rw [hU], by rw [hU]; exact hP, va_K.moved hW.alike hK, hD.weaken (fun _ _ _ _ => trivial)⟩⟩ rfl rfl hl.1 rfl (lv_room (Nat.le_of_ble_eq_true rfl)) dX9_waitsAmong_90 ⟨Nat.le_of_ble_eq_true rfl, Nat.le_of_ble_eq_true rfl⟩) hS (fun q _ h => hFc q h) hFc (fun r16 u t H1 locs ht hvm hw hB hz1 hk1 hS => ?_)
            obtain ⟨F17, V18⟩ := u
            replace hP := hB.1
            rw [ht] at hP
            replace hD : va_D A (mW h a k F17 V18) := hB.2.weaken (fun _ q _ h9 => hFc q.1 h9)
            clear hB
            generalize H1 = H at hP hS ⊢
            replace hP : va_P (dC, dI) vwCl (mW h a k F17 V18) H := hP
            obtain ⟨hwF, hwV, hw⟩ : F17 = F ∧ V18 = V ∧ _ := hw
            rw [hwF, hwV] at hP hD
            have br16 := hw
            refine lv_if_eq (tgt := 100) hx hb dX9_waitsAmong_93 (by decide) (fun c19 => ?_) (fun c19 => ?_)
            · refine lv_iconst (v := 0) hx hb dX9_waitsAmong_100 (by decide) ?_
              exact W.zret (v := 0) hx hb hr (by decide) (fun t ht hW => ⟨⟨0, (F, V), rfl, ⟨rfl, rfl, Or.inl rfl⟩, by rw [ht]; exact hP, hD⟩, hS.F ht⟩) hS.2.2 dX9_waitsAmong_101
            · refine lv_iconst (v := 1) hx hb dX9_waitsAmong_96 (by decide) ?_
              refine lv_goto (tgt := 101) hx hb dX9_waitsAmong_97 (by decide) ?_
              exact W.zret (v := 1) hx hb hr (by decide) (fun t ht hW => ⟨⟨1, (F, V), rfl, ⟨rfl, rfl, Or.inr rfl⟩, by rw [ht]; exact hP, hD⟩, hS.F ht⟩) hS.2.2 dX9_waitsAmong_101
      · refine lv_aload_n hx hb dX9_waitsAmong_26 rfl (lv_at hl 1 rfl) ?_
        refine lv_iload_n hx hb dX9_waitsAmong_27 rfl (lv_at hl 3 rfl) ?_
        refine va_iald (n := 40) (f := F 30) hx hb hK hP 26 25 rfl rfl (vp_in_nI (n := bv) (by omega) (by decide)) dX9_waitsAmong_28 ?_
        refine p1_topr (v := .int x2) (congrArg Value.int ex2.symm) ?_
        refine lv_iconst (v := 1) hx hb dX9_waitsAmong_29 (by decide) ?_
        refine lv_icmp_ne (tgt := 61) hx hb dX9_waitsAmong_30 (by decide) (fun c21 => ?_) (fun c21 => ?_)
        · refine lv_aload_n hx hb dX9_waitsAmong_61 rfl (lv_at hl 0 rfl) ?_
          refine lv_iconst (v := 3) hx hb dX9_waitsAmong_62 (by decide) ?_
          refine lv_iload_n hx hb dX9_waitsAmong_63 rfl (lv_at hl 2 rfl) ?_
          refine lv_iload_n hx hb dX9_waitsAmong_64 rfl (lv_at hl 3 rfl) ?_
          have hFc := mw_free hD hS hA
          refine va_calli (va_runV (As := [.int 3, .int (nI av), .int (nI bv)]) (rest := []) ⟨hx, hb, hml, hown, hts⟩ (c_m_has l dC dI h a k F V n (b) 3 av bv H.size hI.1 (by omega) (by omega) (by omega) (by omega)) (cwV 3 hts wc_m_waitsAmong_newJob_m_has_150 rfl rfl rfl (by decide +kernel) ⟨Nat.le_of_ble_eq_true rfl, Nat.le_of_ble_eq_true rfl⟩) ⟨fun a9 U g mk q => by obtain ⟨q0, q1, qP, qK, qD⟩ := q; exact ⟨q0, q1, qP, va_K.moved (u := U) (U := U.calling g mk a9) (Vm.Alike.refl U.vm) qK, qD⟩, va_recv hK hP (ci := 10) (q0 := 0) rfl rfl, fun U hU hW => ⟨rfl, by rw [hU], by rw [hU]; exact hP, va_K.moved hW.alike hK, hD.weaken (fun _ _ _ _ => trivial)⟩⟩ rfl rfl hl.1 rfl (lv_room (Nat.le_of_ble_eq_true rfl)) dX9_waitsAmong_65 ⟨Nat.le_of_ble_eq_true rfl, Nat.le_of_ble_eq_true rfl⟩) hS (fun q _ h => hFc q h) hFc (fun r22 u t H1 locs ht hvm hw hB hz1 hk1 hS => ?_)
          obtain ⟨F23, V24⟩ := u
          replace hP := hB.1
          rw [ht] at hP
          replace hD : va_D A (mW h a k F23 V24) := hB.2.weaken (fun _ q _ h9 => hFc q.1 h9)
          clear hB
          generalize H1 = H at hP hS ⊢
          replace hP : va_P (dC, dI) vwCl (mW h a k F23 V24) H := hP
          obtain ⟨hwF, hwV, hw⟩ : F23 = F ∧ V24 = V ∧ _ := hw
          rw [hwF, hwV] at hP hD
          have br22 := hw
          exact W.zret (v := r22) hx hb hr (mw_nb br22) (fun t ht hW => ⟨⟨r22, (F, V), rfl, ⟨rfl, rfl, br22⟩, by rw [ht]; exact hP, hD⟩, hS.F ht⟩) hS.2.2 dX9_waitsAmong_68
        · refine lv_aload_n hx hb dX9_waitsAmong_33 rfl (lv_at hl 0 rfl) ?_
          refine lv_iconst (v := 0) hx hb dX9_waitsAmong_34 (by decide) ?_
          refine lv_iload_n hx hb dX9_waitsAmong_35 rfl (lv_at hl 2 rfl) ?_
          refine lv_iload_n hx hb dX9_waitsAmong_36 rfl (lv_at hl 3 rfl) ?_
          have hFc := mw_free hD hS hA
          refine va_calli (va_runV (As := [.int 0, .int (nI av), .int (nI bv)]) (rest := []) ⟨hx, hb, hml, hown, hts⟩ (c_m_has l dC dI h a k F V n (b) 0 av bv H.size hI.1 (by omega) (by omega) (by omega) (by omega)) (cwV 3 hts wc_m_waitsAmong_newJob_m_has_150 rfl rfl rfl (by decide +kernel) ⟨Nat.le_of_ble_eq_true rfl, Nat.le_of_ble_eq_true rfl⟩) ⟨fun a9 U g mk q => by obtain ⟨q0, q1, qP, qK, qD⟩ := q; exact ⟨q0, q1, qP, va_K.moved (u := U) (U := U.calling g mk a9) (Vm.Alike.refl U.vm) qK, qD⟩, va_recv hK hP (ci := 10) (q0 := 0) rfl rfl, fun U hU hW => ⟨rfl, by rw [hU], by rw [hU]; exact hP, va_K.moved hW.alike hK, hD.weaken (fun _ _ _ _ => trivial)⟩⟩ rfl rfl hl.1 rfl (lv_room (Nat.le_of_ble_eq_true rfl)) dX9_waitsAmong_37 ⟨Nat.le_of_ble_eq_true rfl, Nat.le_of_ble_eq_true rfl⟩) hS (fun q _ h => hFc q h) hFc (fun r25 u t H1 locs ht hvm hw hB hz1 hk1 hS => ?_)
          obtain ⟨F26, V27⟩ := u
          replace hP := hB.1
          rw [ht] at hP
          replace hD : va_D A (mW h a k F26 V27) := hB.2.weaken (fun _ q _ h9 => hFc q.1 h9)
          clear hB
          generalize H1 = H at hP hS ⊢
          replace hP : va_P (dC, dI) vwCl (mW h a k F26 V27) H := hP
          obtain ⟨hwF, hwV, hw⟩ : F26 = F ∧ V27 = V ∧ _ := hw
          rw [hwF, hwV] at hP hD
          have br25 := hw
          refine lv_if_ne (tgt := 53) hx hb dX9_waitsAmong_40 (by decide) (fun c28 => ?_) (fun c28 => ?_)
          · refine lv_iconst (v := 1) hx hb dX9_waitsAmong_53 (by decide) ?_
            refine lv_goto (tgt := 68) hx hb dX9_waitsAmong_54 (by decide) ?_
            exact W.zret (v := 1) hx hb hr (by decide) (fun t ht hW => ⟨⟨1, (F, V), rfl, ⟨rfl, rfl, Or.inr rfl⟩, by rw [ht]; exact hP, hD⟩, hS.F ht⟩) hS.2.2 dX9_waitsAmong_68
          · refine lv_aload_n hx hb dX9_waitsAmong_43 rfl (lv_at hl 0 rfl) ?_
            refine lv_iconst (v := 2) hx hb dX9_waitsAmong_44 (by decide) ?_
            refine lv_iload_n hx hb dX9_waitsAmong_45 rfl (lv_at hl 2 rfl) ?_
            refine lv_iload_n hx hb dX9_waitsAmong_46 rfl (lv_at hl 3 rfl) ?_
            have hFc := mw_free hD hS hA
            refine va_calli (va_runV (As := [.int 2, .int (nI av), .int (nI bv)]) (rest := []) ⟨hx, hb, hml, hown, hts⟩ (c_m_has l dC dI h a k F V n (b) 2 av bv H.size hI.1 (by omega) (by omega) (by omega) (by omega)) (cwV 3 hts wc_m_waitsAmong_newJob_m_has_150 rfl rfl rfl (by decide +kernel) ⟨Nat.le_of_ble_eq_true rfl, Nat.le_of_ble_eq_true rfl⟩) ⟨fun a9 U g mk q => by obtain ⟨q0, q1, qP, qK, qD⟩ := q; exact ⟨q0, q1, qP, va_K.moved (u := U) (U := U.calling g mk a9) (Vm.Alike.refl U.vm) qK, qD⟩, va_recv hK hP (ci := 10) (q0 := 0) rfl rfl, fun U hU hW => ⟨rfl, by rw [hU], by rw [hU]; exact hP, va_K.moved hW.alike hK, hD.weaken (fun _ _ _ _ => trivial)⟩⟩ rfl rfl hl.1 rfl (lv_room (Nat.le_of_ble_eq_true rfl)) dX9_waitsAmong_47 ⟨Nat.le_of_ble_eq_true rfl, Nat.le_of_ble_eq_true rfl⟩) hS (fun q _ h => hFc q h) hFc (fun r29 u t H1 locs ht hvm hw hB hz1 hk1 hS => ?_)
            obtain ⟨F30, V31⟩ := u
            replace hP := hB.1
            rw [ht] at hP
            replace hD : va_D A (mW h a k F30 V31) := hB.2.weaken (fun _ q _ h9 => hFc q.1 h9)
            clear hB
            generalize H1 = H at hP hS ⊢
            replace hP : va_P (dC, dI) vwCl (mW h a k F30 V31) H := hP
            obtain ⟨hwF, hwV, hw⟩ : F30 = F ∧ V31 = V ∧ _ := hw
            rw [hwF, hwV] at hP hD
            have br29 := hw
            refine lv_if_eq (tgt := 57) hx hb dX9_waitsAmong_50 (by decide) (fun c32 => ?_) (fun c32 => ?_)
            · refine lv_iconst (v := 0) hx hb dX9_waitsAmong_57 (by decide) ?_
              refine lv_goto (tgt := 68) hx hb dX9_waitsAmong_58 (by decide) ?_
              exact W.zret (v := 0) hx hb hr (by decide) (fun t ht hW => ⟨⟨0, (F, V), rfl, ⟨rfl, rfl, Or.inl rfl⟩, by rw [ht]; exact hP, hD⟩, hS.F ht⟩) hS.2.2 dX9_waitsAmong_68
            · refine lv_iconst (v := 1) hx hb dX9_waitsAmong_53 (by decide) ?_
              refine lv_goto (tgt := 68) hx hb dX9_waitsAmong_54 (by decide) ?_
              exact W.zret (v := 1) hx hb hr (by decide) (fun t ht hW => ⟨⟨1, (F, V), rfl, ⟨rfl, rfl, Or.inr rfl⟩, by rw [ht]; exact hP, hD⟩, hS.F ht⟩) hS.2.2 dX9_waitsAmong_68
    · replace c7 : av = bv := (nI_eq (a := av) (b := bv) (by omega) (by omega)).mp c7
      refine lv_iconst (v := 0) hx hb dX9_waitsAmong_17 (by decide) ?_
      exact W.zret (v := 0) hx hb hr (by decide) (fun t ht hW => ⟨⟨0, (F, V), rfl, ⟨rfl, rfl, Or.inl rfl⟩, by rw [ht]; exact hP, hD⟩, hS.F ht⟩) hS.2.2 dX9_waitsAmong_18
def wq_m_waitsForAny : List Cond := [.code yX9_waitsForAny cX9_waitsForAny 4 (some .boolean), .fieldLink RX9 126 "ServiceTreeModel" "services" "I", .fieldLink RX9 71 "ServiceTreeModel" "job" "[I", .methodLink RX9 167 yX9_waitsAmong, .instanceMethod yX9_waitsAmong, .selects RX9 yX9_waitsAmong yX9_waitsAmong, .initialized RX9] ++ (wsX90 ++ (wq_m_waitsAmong_job))
theorem in_m_waitsForAny_X9 : ∀ w ∈ wsX90, w ∈ wq_m_waitsForAny := fun _ h => List.mem_append_right _ (List.mem_append_left _ (h))
set_option maxRecDepth 20000 in
theorem wi_m_waitsForAny : ∀ w ∈ wq_m_waitsForAny, w ∈ lw_tbl := List.forall_mem_append.mpr ⟨(by decide +kernel), List.forall_mem_append.mpr ⟨inKX9, wi_m_waitsAmong_job⟩⟩
set_option maxRecDepth 20000 in
theorem wg_m_waitsForAny : GoodIn wq_m_waitsForAny wq_m_waitsForAny := goodIn_sub (fun _ h => h) (by decide +kernel)
set_option maxRecDepth 20000 in
theorem wc_m_waitsForAny_m_waitsAmong_job_167 : GoodIn wq_m_waitsForAny (wsV RX9 167 RX9 yX9_waitsAmong wq_m_waitsAmong_job) := goodIn_app (goodIn_of _ (by decide +kernel)) (fun w h => ⟨List.mem_append_right _ (List.mem_append_right _ (h)), (wg_m_waitsAmong_job w h).2⟩)
def rm_m_waitsForAny : Room := { frames := 2, cells := 0, slots := 0, locals := 46 }
set_option maxHeartbeats 4000000 in
set_option maxRecDepth 100000 in
theorem c_m_waitsForAny (l : Launch) (dC : Nat → ClassId) (dI : Nat → Nat → Nat) (h : Nat) (a : Nat → Nat) (k : Nat → ClassId) (F : Nat → Nat → Int32) (V : Nat → Int32) (n b : Nat) (sv : Nat) (sz : Nat) (hI0 : InvM n b F V) (hb0 : b + 0 < 2147483648) (hp0 : sv < n) : Met l yX9_waitsForAny wq_m_waitsForAny rm_m_waitsForAny (va_Pc [.ref h, .int (nI sv)] (fun U => U.heap.size = sz ∧ va_P (dC, dI) vwCl (mW h a k F V) U.heap ∧ va_K (dC, dI) vwCl (mT k) U ∧ va_D (fun _ => True) (mW h a k F V))) (va_Qi (fun (r : Int32) (u : (Nat → Nat → Int32) × (Nat → Int32)) => u.1 = F ∧ u.2 = V ∧ (r = 0 ∨ r = 1)) (fun (u : (Nat → Nat → Int32) × (Nat → Int32)) (t : State) => va_P (dC, dI) vwCl (mW h a k u.1 u.2) t.heap ∧ va_D (va_A (mW h a k F V) sz) (mW h a k u.1 u.2)) (va_A (mW h a k F V) sz)) 0 0 (va_A (mW h a k F V) sz) := by
  have hn : n ≤ 40 := hI0.1
  have hI : StM n b F V F V := StM.rf hI0
  have hU : ∀ j : Nat, j ∉ ([] : List Nat) → F j = F j := fun _ _ => rfl
  have hV : ∀ j : Nat, j ∉ ([] : List Nat) → V j = V j := fun _ _ => rfl
  refine Met.ofW (cc := cX9_waitsForAny) (maxL := 4) (ret := (some .boolean)) (by decide) rfl ?_
  intro p e s m args below meth c s₁ B hml hv
  obtain ⟨rfl, hsz, hP, hK, hD0⟩ := hv
  have hx := B.exec
  have hb := B.bytes
  have hr := B.returns
  have hts := atoms_spec (ws := wq_m_waitsForAny) B.pre
  have hown : s.vm.findClass RX9 = some m.cls := findClass_of_methodNamed B.named
  have hlocks := B.notSynchronized
  subst hsz
  have hD := hD0.self (sz := s.heap.size)
  generalize hAe : va_A (mW h a k F V) s.heap.size = A at hD ⊢
  have hA : ∀ q : Nat, s.heap.size ≤ q → A q := fun q h => by rw [← hAe]; exact Or.inr h
  have hS : va_S A s.heap s.heap [] := va_S.rf
  have hl := lv_entry ([.ref h, .int (nI sv)]) (n := 4) (Nat.le_of_ble_eq_true rfl)
  rw [lg_entry_eq]
  generalize (lg_sl ([.ref h, .int (nI sv)]) ++ List.replicate (4 - (lg_sl ([.ref h, .int (nI sv)])).length) Slot.unset).toArray = ls at hl ⊢
  have hl : lv_has ls 4 [(0, .ref h), (1, .int (nI sv))] := hl
  refine mw_Q (fun Q0 hQ => ?_)
  refine lv_iconst (v := 0) hx hb dX9_waitsForAny_0 (by decide) ?_
  refine lv_istore_n (lv' := [(2, .int 0), (0, .ref h), (1, .int (nI sv))]) hx hb dX9_waitsForAny_1 rfl hl (by decide) rfl (fun ls hl => ?_)
  refine lv_iconst (v := 0) hx hb dX9_waitsForAny_2 (by decide) ?_
  refine lv_istore_n (lv' := [(3, .int 0), (2, .int 0), (0, .ref h), (1, .int (nI sv))]) hx hb dX9_waitsForAny_3 rfl hl (by decide) rfl (fun ls hl => ?_)
  have lp4 : ∀ (fu2 i1 : Nat) (y5 : Int32) (H : Heap) (locs : List Loc) (ls : Array Slot), n < i1 + fu2 → i1 ≤ n → (y5 = 0 ∨ y5 = 1) → va_P (dC, dI) vwCl (mW h a k F V) H → va_D A (mW h a k F V) → va_S A s.heap H locs → lv_has ls 4 [(3, .int (nI i1)), (2, .int y5), (0, .ref h), (1, .int (nI sv))] → W p l e (headSpec wq_m_waitsForAny rm_m_waitsForAny).room s m ([.ref h, .int (nI sv)] : List Value).toArray below meth c H locs 0 0 Q0 (F0 m 4 ls []) := by
    intro fu2
    induction fu2 with
    | zero =>
      intro i1 y5 H locs ls hf hi
      exact absurd hf (by omega)
    | succ fu2 ih3 =>
      intro i1 y5 H locs ls hfi1 hii1 hb2_i1 hP hD hS hl
      refine lv_iload_n hx hb dX9_waitsForAny_4 rfl (lv_at hl 0 rfl) ?_
      refine lv_aload_n hx hb dX9_waitsForAny_5 rfl (lv_at hl 2 rfl) ?_
      refine va_get (D := (dC, dI)) (ci := 10) (v := .int (V 21)) (C := RX9) (T := TX9) (N := 46) hx hb hts in_m_waitsForAny_X9 hown hK hP 0 rfl rfl 21 (by decide) (hts (.fieldLink RX9 126 "ServiceTreeModel" "services" "I") (by decide +kernel)) (fun _ h9 => h9) rfl dX9_waitsForAny_6 ?_
      refine p1_topr (v := .int (nI n)) (congrArg Value.int hI.1.2.1) ?_
      refine lv_icmp_ge (tgt := 41) hx hb dX9_waitsForAny_9 (by decide) (fun c6 => ?_) (fun c6 => ?_)
      · replace c6 : n ≤ i1 := (nI_leI (a := n) (b := i1) (by omega) (by omega)).mp c6
        refine lv_iload_n hx hb dX9_waitsForAny_41 rfl (lv_at hl 1 rfl) ?_
        rw [hQ]
        exact W.zret (v := y5) hx hb hr (mw_nb hb2_i1) (fun t ht hW => ⟨⟨y5, (F, V), rfl, ⟨rfl, rfl, hb2_i1⟩, by rw [ht]; exact hP, hD⟩, hS.F ht⟩) hS.2.2 dX9_waitsForAny_42
      · replace c6 : ¬ (n ≤ i1) := fun q9 => c6 ((nI_leI (a := n) (b := i1) (by omega) (by omega)).mpr q9)
        refine lv_iload_n hx hb dX9_waitsForAny_12 rfl (lv_at hl 1 rfl) ?_
        refine lv_if_ne (tgt := 29) hx hb dX9_waitsForAny_13 (by decide) (fun c7 => ?_) (fun c7 => ?_)
        · refine lv_iconst (v := 1) hx hb dX9_waitsForAny_29 (by decide) ?_
          refine lv_goto (tgt := 34) hx hb dX9_waitsForAny_30 (by decide) ?_
          refine lv_istore_n (lv' := [(2, .int 1), (3, .int (nI i1)), (0, .ref h), (1, .int (nI sv))]) hx hb dX9_waitsForAny_34 rfl hl (by decide) rfl (fun ls hl => ?_)
          refine lv_iinc (v := nI (i1 + 1)) (lv' := [(3, .int (nI (i1 + 1))), (2, .int 1), (0, .ref h), (1, .int (nI sv))]) hx hb dX9_waitsForAny_35 hl (k := 1) rfl (nI_add i1 1) (by decide) rfl (fun ls hl => ?_)
          refine lv_goto (tgt := 4) hx hb dX9_waitsForAny_38 (by decide) ?_
          exact ih3 (i1 + 1) 1 _ _ _ (by omega) (by omega) (Or.inr rfl) hP hD hS (lv_sub hl [0, 1, 2, 3] rfl)
        · refine lv_aload_n hx hb dX9_waitsForAny_16 rfl (lv_at hl 2 rfl) ?_
          refine lv_aload_n hx hb dX9_waitsForAny_17 rfl (lv_at hl 2 rfl) ?_
          refine va_get (D := (dC, dI)) (ci := 10) (v := .ref (a 25)) (C := RX9) (T := TX9) (N := 46) hx hb hts in_m_waitsForAny_X9 hown hK hP 0 rfl rfl 25 (by decide) (hts (.fieldLink RX9 71 "ServiceTreeModel" "job" "[I") (by decide +kernel)) (fun _ h9 => h9) rfl dX9_waitsForAny_18 ?_
          refine lv_iload_n hx hb dX9_waitsForAny_21 rfl (lv_at hl 3 rfl) ?_
          refine lv_iload_n hx hb dX9_waitsForAny_22 rfl (lv_at hl 0 rfl) ?_
          have hFc := mw_free hD hS hA
          refine va_calli (va_runV (As := [.ref (a 25), .int (nI sv), .int (nI i1)]) (rest := []) ⟨hx, hb, hml, hown, hts⟩ (c_m_waitsAmong_job l dC dI h a k F V n (b) sv i1 H.size hI.1 (by omega) (by omega) (by omega)) (cwV 3 hts wc_m_waitsForAny_m_waitsAmong_job_167 rfl rfl rfl (by decide +kernel) ⟨Nat.le_of_ble_eq_true rfl, Nat.le_of_ble_eq_true rfl⟩) ⟨fun a9 U g mk q => by obtain ⟨q0, q1, qP, qK, qD⟩ := q; exact ⟨q0, q1, qP, va_K.moved (u := U) (U := U.calling g mk a9) (Vm.Alike.refl U.vm) qK, qD⟩, va_recv hK hP (ci := 10) (q0 := 0) rfl rfl, fun U hU hW => ⟨rfl, by rw [hU], by rw [hU]; exact hP, va_K.moved hW.alike hK, hD.weaken (fun _ _ _ _ => trivial)⟩⟩ rfl rfl hl.1 rfl (lv_room (Nat.le_of_ble_eq_true rfl)) dX9_waitsForAny_23 ⟨Nat.le_of_ble_eq_true rfl, Nat.le_of_ble_eq_true rfl⟩) hS (fun q _ h => hFc q h) hFc (fun r8 u t H1 locs ht hvm hw hB hz1 hk1 hS => ?_)
          obtain ⟨F9, V10⟩ := u
          replace hP := hB.1
          rw [ht] at hP
          replace hD : va_D A (mW h a k F9 V10) := hB.2.weaken (fun _ q _ h9 => hFc q.1 h9)
          clear hB
          generalize H1 = H at hP hS ⊢
          replace hP : va_P (dC, dI) vwCl (mW h a k F9 V10) H := hP
          obtain ⟨hwF, hwV, hw⟩ : F9 = F ∧ V10 = V ∧ _ := hw
          rw [hwF, hwV] at hP hD
          have br8 := hw
          refine lv_if_eq (tgt := 33) hx hb dX9_waitsForAny_26 (by decide) (fun c11 => ?_) (fun c11 => ?_)
          · refine lv_iconst (v := 0) hx hb dX9_waitsForAny_33 (by decide) ?_
            refine lv_istore_n (lv' := [(2, .int 0), (3, .int (nI i1)), (0, .ref h), (1, .int (nI sv))]) hx hb dX9_waitsForAny_34 rfl hl (by decide) rfl (fun ls hl => ?_)
            refine lv_iinc (v := nI (i1 + 1)) (lv' := [(3, .int (nI (i1 + 1))), (2, .int 0), (0, .ref h), (1, .int (nI sv))]) hx hb dX9_waitsForAny_35 hl (k := 1) rfl (nI_add i1 1) (by decide) rfl (fun ls hl => ?_)
            refine lv_goto (tgt := 4) hx hb dX9_waitsForAny_38 (by decide) ?_
            exact ih3 (i1 + 1) 0 _ _ _ (by omega) (by omega) (Or.inl rfl) hP hD hS (lv_sub hl [0, 1, 2, 3] rfl)
          · refine lv_iconst (v := 1) hx hb dX9_waitsForAny_29 (by decide) ?_
            refine lv_goto (tgt := 34) hx hb dX9_waitsForAny_30 (by decide) ?_
            refine lv_istore_n (lv' := [(2, .int 1), (3, .int (nI i1)), (0, .ref h), (1, .int (nI sv))]) hx hb dX9_waitsForAny_34 rfl hl (by decide) rfl (fun ls hl => ?_)
            refine lv_iinc (v := nI (i1 + 1)) (lv' := [(3, .int (nI (i1 + 1))), (2, .int 1), (0, .ref h), (1, .int (nI sv))]) hx hb dX9_waitsForAny_35 hl (k := 1) rfl (nI_add i1 1) (by decide) rfl (fun ls hl => ?_)
            refine lv_goto (tgt := 4) hx hb dX9_waitsForAny_38 (by decide) ?_
            exact ih3 (i1 + 1) 1 _ _ _ (by omega) (by omega) (Or.inr rfl) hP hD hS (lv_sub hl [0, 1, 2, 3] rfl)
  exact lp4 (n + 1) 0 0 _ _ _ (by omega) (by omega) (Or.inl rfl) hP hD hS hl
def wq_m_in : List Cond := [.code yX9_in cX9_in 4 (some .int), .fieldLink RX9 126 "ServiceTreeModel" "services" "I", .fieldLink RX9 31 "ServiceTreeModel" "state" "[I"] ++ (wsX90)
theorem in_m_in_X9 : ∀ w ∈ wsX90, w ∈ wq_m_in := fun _ h => List.mem_append_right _ (h)
set_option maxRecDepth 20000 in
theorem wi_m_in : ∀ w ∈ wq_m_in, w ∈ lw_tbl := List.forall_mem_append.mpr ⟨(by decide +kernel), inKX9⟩
set_option maxRecDepth 20000 in
theorem wg_m_in : GoodIn wq_m_in wq_m_in := goodIn_sub (fun _ h => h) (by decide +kernel)
def rm_m_in : Room := { frames := 0, cells := 0, slots := 0, locals := 0 }
set_option maxHeartbeats 4000000 in
set_option maxRecDepth 100000 in
theorem c_m_in (l : Launch) (dC : Nat → ClassId) (dI : Nat → Nat → Nat) (h : Nat) (a : Nat → Nat) (k : Nat → ClassId) (F : Nat → Nat → Int32) (V : Nat → Int32) (n b : Nat) (p0 : Int32) (sz : Nat) (hI0 : InvM n b F V) (hb0 : b + 0 < 2147483648)  : Met l yX9_in wq_m_in rm_m_in (va_Pc [.ref h, .int p0] (fun U => U.heap.size = sz ∧ va_P (dC, dI) vwCl (mW h a k F V) U.heap ∧ va_K (dC, dI) vwCl (mT k) U ∧ va_D (fun _ => True) (mW h a k F V))) (va_Qi (fun (r : Int32) (u : (Nat → Nat → Int32) × (Nat → Int32)) => u.1 = F ∧ u.2 = V ∧ (True)) (fun (u : (Nat → Nat → Int32) × (Nat → Int32)) (t : State) => va_P (dC, dI) vwCl (mW h a k u.1 u.2) t.heap ∧ va_D (va_A (mW h a k F V) sz) (mW h a k u.1 u.2)) (va_A (mW h a k F V) sz)) 0 0 (va_A (mW h a k F V) sz) := by
  have hn : n ≤ 40 := hI0.1
  have hI : StM n b F V F V := StM.rf hI0
  have hU : ∀ j : Nat, j ∉ ([] : List Nat) → F j = F j := fun _ _ => rfl
  have hV : ∀ j : Nat, j ∉ ([] : List Nat) → V j = V j := fun _ _ => rfl
  refine Met.ofW (cc := cX9_in) (maxL := 4) (ret := (some .int)) (by decide) rfl ?_
  intro p e s m args below meth c s₁ B hml hv
  obtain ⟨rfl, hsz, hP, hK, hD0⟩ := hv
  have hx := B.exec
  have hb := B.bytes
  have hr := B.returns
  have hts := atoms_spec (ws := wq_m_in) B.pre
  have hown : s.vm.findClass RX9 = some m.cls := findClass_of_methodNamed B.named
  have hlocks := B.notSynchronized
  subst hsz
  have hD := hD0.self (sz := s.heap.size)
  generalize hAe : va_A (mW h a k F V) s.heap.size = A at hD ⊢
  have hA : ∀ q : Nat, s.heap.size ≤ q → A q := fun q h => by rw [← hAe]; exact Or.inr h
  have hS : va_S A s.heap s.heap [] := va_S.rf
  have hl := lv_entry ([.ref h, .int p0]) (n := 4) (Nat.le_of_ble_eq_true rfl)
  rw [lg_entry_eq]
  generalize (lg_sl ([.ref h, .int p0]) ++ List.replicate (4 - (lg_sl ([.ref h, .int p0])).length) Slot.unset).toArray = ls at hl ⊢
  have hl : lv_has ls 4 [(0, .ref h), (1, .int p0)] := hl
  refine mw_Q (fun Q0 hQ => ?_)
  refine lv_iload_n hx hb dX9_in_0 rfl (lv_at hl 1 rfl) ?_
  refine lv_if_lt (tgt := 9) hx hb dX9_in_1 (by decide) (fun c1 => ?_) (fun c1 => ?_)
  · refine lv_iconst (v := (-1)) hx hb dX9_in_9 (by decide) ?_
    rw [hQ]
    exact W.iret (v := (-1)) hx hb hr (fun t ht hW => ⟨⟨(-1), (F, V), rfl, ⟨rfl, rfl, trivial⟩, by rw [ht]; exact hP, hD⟩, hS.F ht⟩) hS.2.2 dX9_in_10
  · refine lv_iload_n hx hb dX9_in_4 rfl (lv_at hl 1 rfl) ?_
    refine lv_iconst (v := 5) hx hb dX9_in_5 (by decide) ?_
    refine lv_icmp_le (tgt := 11) hx hb dX9_in_6 (by decide) (fun c2 => ?_) (fun c2 => ?_)
    · refine lv_iconst (v := 0) hx hb dX9_in_11 (by decide) ?_
      refine lv_istore_n (lv' := [(2, .int 0), (0, .ref h), (1, .int p0)]) hx hb dX9_in_12 rfl hl (by decide) rfl (fun ls hl => ?_)
      refine lv_iconst (v := 0) hx hb dX9_in_13 (by decide) ?_
      refine lv_istore_n (lv' := [(3, .int 0), (2, .int 0), (0, .ref h), (1, .int p0)]) hx hb dX9_in_14 rfl hl (by decide) rfl (fun ls hl => ?_)
      have lp6 : ∀ (fu4 i3 : Nat) (y7 : Int32) (H : Heap) (locs : List Loc) (ls : Array Slot), n < i3 + fu4 → i3 ≤ n → va_P (dC, dI) vwCl (mW h a k F V) H → va_D A (mW h a k F V) → va_S A s.heap H locs → lv_has ls 4 [(3, .int (nI i3)), (2, .int y7), (0, .ref h), (1, .int p0)] → W p l e (headSpec wq_m_in rm_m_in).room s m ([.ref h, .int p0] : List Value).toArray below meth c H locs 0 0 Q0 (F0 m 15 ls []) := by
        intro fu4
        induction fu4 with
        | zero =>
          intro i3 y7 H locs ls hf hi
          exact absurd hf (by omega)
        | succ fu4 ih5 =>
          intro i3 y7 H locs ls hfi3 hii3 hP hD hS hl
          refine lv_iload_n hx hb dX9_in_15 rfl (lv_at hl 0 rfl) ?_
          refine lv_aload_n hx hb dX9_in_16 rfl (lv_at hl 2 rfl) ?_
          refine va_get (D := (dC, dI)) (ci := 10) (v := .int (V 21)) (C := RX9) (T := TX9) (N := 46) hx hb hts in_m_in_X9 hown hK hP 0 rfl rfl 21 (by decide) (hts (.fieldLink RX9 126 "ServiceTreeModel" "services" "I") (by decide +kernel)) (fun _ h9 => h9) rfl dX9_in_17 ?_
          refine p1_topr (v := .int (nI n)) (congrArg Value.int hI.1.2.1) ?_
          refine lv_icmp_ge (tgt := 47) hx hb dX9_in_20 (by decide) (fun c8 => ?_) (fun c8 => ?_)
          · replace c8 : n ≤ i3 := (nI_leI (a := n) (b := i3) (by omega) (by omega)).mp c8
            refine lv_iload_n hx hb dX9_in_47 rfl (lv_at hl 1 rfl) ?_
            rw [hQ]
            exact W.iret (v := y7) hx hb hr (fun t ht hW => ⟨⟨y7, (F, V), rfl, ⟨rfl, rfl, trivial⟩, by rw [ht]; exact hP, hD⟩, hS.F ht⟩) hS.2.2 dX9_in_48
          · replace c8 : ¬ (n ≤ i3) := fun q9 => c8 ((nI_leI (a := n) (b := i3) (by omega) (by omega)).mpr q9)
            refine lv_iload_n hx hb dX9_in_23 rfl (lv_at hl 1 rfl) ?_
            refine lv_aload_n hx hb dX9_in_24 rfl (lv_at hl 2 rfl) ?_
            refine va_get (D := (dC, dI)) (ci := 10) (v := .ref (a 7)) (C := RX9) (T := TX9) (N := 46) hx hb hts in_m_in_X9 hown hK hP 0 rfl rfl 7 (by decide) (hts (.fieldLink RX9 31 "ServiceTreeModel" "state" "[I") (by decide +kernel)) (fun _ h9 => h9) rfl dX9_in_25 ?_
            refine lv_iload_n hx hb dX9_in_28 rfl (lv_at hl 0 rfl) ?_
            refine va_iald (n := 40) (f := F 7) hx hb hK hP 8 7 rfl rfl (vp_in_nI (n := i3) (by omega) (by decide)) dX9_in_29 ?_
            refine lv_topi (fun x9 ex9 => ?_)
            refine lv_iload_n hx hb dX9_in_30 rfl (lv_at hl 3 rfl) ?_
            refine lv_icmp_ne (tgt := 38) hx hb dX9_in_31 (by decide) (fun c10 => ?_) (fun c10 => ?_)
            · refine lv_iconst (v := 0) hx hb dX9_in_38 (by decide) ?_
              refine lv_iadd hx hb dX9_in_39 ?_
              refine lv_topi (fun x11 ex11 => ?_)
              refine lv_istore_n (lv' := [(2, .int x11), (3, .int (nI i3)), (0, .ref h), (1, .int p0)]) hx hb dX9_in_40 rfl hl (by decide) rfl (fun ls hl => ?_)
              refine lv_iinc (v := nI (i3 + 1)) (lv' := [(3, .int (nI (i3 + 1))), (2, .int x11), (0, .ref h), (1, .int p0)]) hx hb dX9_in_41 hl (k := 1) rfl (nI_add i3 1) (by decide) rfl (fun ls hl => ?_)
              refine lv_goto (tgt := 15) hx hb dX9_in_44 (by decide) ?_
              exact ih5 (i3 + 1) x11 _ _ _ (by omega) (by omega)  hP hD hS (lv_sub hl [0, 1, 2, 3] rfl)
            · refine lv_iconst (v := 1) hx hb dX9_in_34 (by decide) ?_
              refine lv_goto (tgt := 39) hx hb dX9_in_35 (by decide) ?_
              refine lv_iadd hx hb dX9_in_39 ?_
              refine lv_topi (fun x12 ex12 => ?_)
              refine lv_istore_n (lv' := [(2, .int x12), (3, .int (nI i3)), (0, .ref h), (1, .int p0)]) hx hb dX9_in_40 rfl hl (by decide) rfl (fun ls hl => ?_)
              refine lv_iinc (v := nI (i3 + 1)) (lv' := [(3, .int (nI (i3 + 1))), (2, .int x12), (0, .ref h), (1, .int p0)]) hx hb dX9_in_41 hl (k := 1) rfl (nI_add i3 1) (by decide) rfl (fun ls hl => ?_)
              refine lv_goto (tgt := 15) hx hb dX9_in_44 (by decide) ?_
              exact ih5 (i3 + 1) x12 _ _ _ (by omega) (by omega)  hP hD hS (lv_sub hl [0, 1, 2, 3] rfl)
      exact lp6 (n + 1) 0 0 _ _ _ (by omega) (by omega)  hP hD hS hl
    · refine lv_iconst (v := (-1)) hx hb dX9_in_9 (by decide) ?_
      rw [hQ]
      exact W.iret (v := (-1)) hx hb hr (fun t ht hW => ⟨⟨(-1), (F, V), rfl, ⟨rfl, rfl, trivial⟩, by rw [ht]; exact hP, hD⟩, hS.F ht⟩) hS.2.2 dX9_in_10
