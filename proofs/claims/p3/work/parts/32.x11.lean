theorem dX8_carryOutDraft_0 : decode cX8_carryOutDraft 0 = .ok (.aload_n 0, 1) := by decide +kernel
theorem dX8_carryOutDraft_1 : decode cX8_carryOutDraft 1 = .ok (.getfield 28, 3) := by decide +kernel
theorem dX8_carryOutDraft_4 : decode cX8_carryOutDraft 4 = .ok (.getfield 247, 3) := by decide +kernel
theorem dX8_carryOutDraft_7 : decode cX8_carryOutDraft 7 = .ok (.aload_n 0, 1) := by decide +kernel
theorem dX8_carryOutDraft_8 : decode cX8_carryOutDraft 8 = .ok (.getfield 53, 3) := by decide +kernel
theorem dX8_carryOutDraft_11 : decode cX8_carryOutDraft 11 = .ok (.iconst 5, 1) := by decide +kernel
theorem dX8_carryOutDraft_12 : decode cX8_carryOutDraft 12 = .ok (.laload, 1) := by decide +kernel
theorem dX8_carryOutDraft_13 : decode cX8_carryOutDraft 13 = .ok (.land, 1) := by decide +kernel
theorem dX8_carryOutDraft_14 : decode cX8_carryOutDraft 14 = .ok (.lstore_n 1, 1) := by decide +kernel
theorem dX8_carryOutDraft_15 : decode cX8_carryOutDraft 15 = .ok (.iconst 0, 1) := by decide +kernel
theorem dX8_carryOutDraft_16 : decode cX8_carryOutDraft 16 = .ok (.istore_n 3, 1) := by decide +kernel
theorem dX8_carryOutDraft_17 : decode cX8_carryOutDraft 17 = .ok (.iload_n 3, 1) := by decide +kernel
theorem dX8_carryOutDraft_18 : decode cX8_carryOutDraft 18 = .ok (.aload_n 0, 1) := by decide +kernel
theorem dX8_carryOutDraft_19 : decode cX8_carryOutDraft 19 = .ok (.getfield 10, 3) := by decide +kernel
theorem dX8_carryOutDraft_22 : decode cX8_carryOutDraft 22 = .ok (.invokevirtual 61, 3) := by decide +kernel
theorem dX8_carryOutDraft_25 : decode cX8_carryOutDraft 25 = .ok (.if_icmp .ge 23, 3) := by decide +kernel
theorem dX8_carryOutDraft_28 : decode cX8_carryOutDraft 28 = .ok (.lload_n 1, 1) := by decide +kernel
theorem dX8_carryOutDraft_29 : decode cX8_carryOutDraft 29 = .ok (.iload_n 3, 1) := by decide +kernel
theorem dX8_carryOutDraft_30 : decode cX8_carryOutDraft 30 = .ok (.invokestatic 114, 3) := by decide +kernel
theorem dX8_carryOutDraft_33 : decode cX8_carryOutDraft 33 = .ok (.ifCond .eq 9, 3) := by decide +kernel
theorem dX8_carryOutDraft_36 : decode cX8_carryOutDraft 36 = .ok (.aload_n 0, 1) := by decide +kernel
theorem dX8_carryOutDraft_37 : decode cX8_carryOutDraft 37 = .ok (.iload_n 3, 1) := by decide +kernel
theorem dX8_carryOutDraft_38 : decode cX8_carryOutDraft 38 = .ok (.iconst 0, 1) := by decide +kernel
theorem dX8_carryOutDraft_39 : decode cX8_carryOutDraft 39 = .ok (.invokevirtual 249, 3) := by decide +kernel
theorem dX8_carryOutDraft_42 : decode cX8_carryOutDraft 42 = .ok (.iinc 3 1, 3) := by decide +kernel
theorem dX8_carryOutDraft_45 : decode cX8_carryOutDraft 45 = .ok (.goto (-28), 3) := by decide +kernel
theorem dX8_carryOutDraft_48 : decode cX8_carryOutDraft 48 = .ok (.aload_n 0, 1) := by decide +kernel
theorem dX8_carryOutDraft_49 : decode cX8_carryOutDraft 49 = .ok (.getfield 35, 3) := by decide +kernel
theorem dX8_carryOutDraft_52 : decode cX8_carryOutDraft 52 = .ok (.aload_n 0, 1) := by decide +kernel
theorem dX8_carryOutDraft_53 : decode cX8_carryOutDraft 53 = .ok (.getfield 28, 3) := by decide +kernel
theorem dX8_carryOutDraft_56 : decode cX8_carryOutDraft 56 = .ok (.getfield 247, 3) := by decide +kernel
theorem dX8_carryOutDraft_59 : decode cX8_carryOutDraft 59 = .ok (.aload_n 0, 1) := by decide +kernel
theorem dX8_carryOutDraft_60 : decode cX8_carryOutDraft 60 = .ok (.getfield 28, 3) := by decide +kernel
theorem dX8_carryOutDraft_63 : decode cX8_carryOutDraft 63 = .ok (.getfield 253, 3) := by decide +kernel
theorem dX8_carryOutDraft_66 : decode cX8_carryOutDraft 66 = .ok (.invokevirtual 256, 3) := by decide +kernel
theorem dX8_carryOutDraft_69 : decode cX8_carryOutDraft 69 = .ok (.aload_n 0, 1) := by decide +kernel
theorem dX8_carryOutDraft_70 : decode cX8_carryOutDraft 70 = .ok (.invokevirtual 260, 3) := by decide +kernel
theorem dX8_carryOutDraft_73 : decode cX8_carryOutDraft 73 = .ok (.return_, 1) := by decide +kernel
theorem dX8_beginJobs_0 : decode cX8_beginJobs 0 = .ok (.aload_n 0, 1) := by decide +kernel
theorem dX8_beginJobs_1 : decode cX8_beginJobs 1 = .ok (.getfield 35, 3) := by decide +kernel
theorem dX8_beginJobs_4 : decode cX8_beginJobs 4 = .ok (.invokevirtual 110, 3) := by decide +kernel
theorem dX8_beginJobs_7 : decode cX8_beginJobs 7 = .ok (.lconst 0, 1) := by decide +kernel
theorem dX8_beginJobs_8 : decode cX8_beginJobs 8 = .ok (.lcmp, 1) := by decide +kernel
theorem dX8_beginJobs_9 : decode cX8_beginJobs 9 = .ok (.ifCond .ne 4, 3) := by decide +kernel
theorem dX8_beginJobs_12 : decode cX8_beginJobs 12 = .ok (.return_, 1) := by decide +kernel
theorem dX8_beginJobs_13 : decode cX8_beginJobs 13 = .ok (.iconst 0, 1) := by decide +kernel
theorem dX8_beginJobs_14 : decode cX8_beginJobs 14 = .ok (.istore_n 1, 1) := by decide +kernel
theorem dX8_beginJobs_15 : decode cX8_beginJobs 15 = .ok (.iload_n 1, 1) := by decide +kernel
theorem dX8_beginJobs_16 : decode cX8_beginJobs 16 = .ok (.bipush 40, 2) := by decide +kernel
theorem dX8_beginJobs_18 : decode cX8_beginJobs 18 = .ok (.if_icmp .ge 53, 3) := by decide +kernel
theorem dX8_beginJobs_21 : decode cX8_beginJobs 21 = .ok (.aload_n 0, 1) := by decide +kernel
theorem dX8_beginJobs_22 : decode cX8_beginJobs 22 = .ok (.getfield 35, 3) := by decide +kernel
theorem dX8_beginJobs_25 : decode cX8_beginJobs 25 = .ok (.invokevirtual 289, 3) := by decide +kernel
theorem dX8_beginJobs_28 : decode cX8_beginJobs 28 = .ok (.istore_n 2, 1) := by decide +kernel
theorem dX8_beginJobs_29 : decode cX8_beginJobs 29 = .ok (.aload_n 0, 1) := by decide +kernel
theorem dX8_beginJobs_30 : decode cX8_beginJobs 30 = .ok (.iload_n 2, 1) := by decide +kernel
theorem dX8_beginJobs_31 : decode cX8_beginJobs 31 = .ok (.invokevirtual 82, 3) := by decide +kernel
theorem dX8_beginJobs_34 : decode cX8_beginJobs 34 = .ok (.ifCond .ne 4, 3) := by decide +kernel
theorem dX8_beginJobs_37 : decode cX8_beginJobs 37 = .ok (.return_, 1) := by decide +kernel
theorem dX8_beginJobs_38 : decode cX8_beginJobs 38 = .ok (.aload_n 0, 1) := by decide +kernel
theorem dX8_beginJobs_39 : decode cX8_beginJobs 39 = .ok (.getfield 35, 3) := by decide +kernel
theorem dX8_beginJobs_42 : decode cX8_beginJobs 42 = .ok (.getfield 292, 3) := by decide +kernel
theorem dX8_beginJobs_45 : decode cX8_beginJobs 45 = .ok (.iload_n 2, 1) := by decide +kernel
theorem dX8_beginJobs_46 : decode cX8_beginJobs 46 = .ok (.invokestatic 114, 3) := by decide +kernel
theorem dX8_beginJobs_49 : decode cX8_beginJobs 49 = .ok (.ifCond .eq 11, 3) := by decide +kernel
theorem dX8_beginJobs_52 : decode cX8_beginJobs 52 = .ok (.aload_n 0, 1) := by decide +kernel
theorem dX8_beginJobs_53 : decode cX8_beginJobs 53 = .ok (.iload_n 2, 1) := by decide +kernel
theorem dX8_beginJobs_54 : decode cX8_beginJobs 54 = .ok (.invokevirtual 293, 3) := by decide +kernel
theorem dX8_beginJobs_57 : decode cX8_beginJobs 57 = .ok (.goto 8, 3) := by decide +kernel
theorem dX8_beginJobs_60 : decode cX8_beginJobs 60 = .ok (.aload_n 0, 1) := by decide +kernel
theorem dX8_beginJobs_61 : decode cX8_beginJobs 61 = .ok (.iload_n 2, 1) := by decide +kernel
theorem dX8_beginJobs_62 : decode cX8_beginJobs 62 = .ok (.invokevirtual 296, 3) := by decide +kernel
theorem dX8_beginJobs_65 : decode cX8_beginJobs 65 = .ok (.iinc 1 1, 3) := by decide +kernel
theorem dX8_beginJobs_68 : decode cX8_beginJobs 68 = .ok (.goto (-53), 3) := by decide +kernel
theorem dX8_beginJobs_71 : decode cX8_beginJobs 71 = .ok (.return_, 1) := by decide +kernel
theorem dX8_beginStart_0 : decode cX8_beginStart 0 = .ok (.aload_n 0, 1) := by decide +kernel
theorem dX8_beginStart_1 : decode cX8_beginStart 1 = .ok (.iload_n 1, 1) := by decide +kernel
theorem dX8_beginStart_2 : decode cX8_beginStart 2 = .ok (.invokevirtual 231, 3) := by decide +kernel
theorem dX8_beginStart_5 : decode cX8_beginStart 5 = .ok (.ifCond .ne 12, 3) := by decide +kernel
theorem dX8_beginStart_8 : decode cX8_beginStart 8 = .ok (.aload_n 0, 1) := by decide +kernel
theorem dX8_beginStart_9 : decode cX8_beginStart 9 = .ok (.getfield 35, 3) := by decide +kernel
theorem dX8_beginStart_12 : decode cX8_beginStart 12 = .ok (.iload_n 1, 1) := by decide +kernel
theorem dX8_beginStart_13 : decode cX8_beginStart 13 = .ok (.invokevirtual 299, 3) := by decide +kernel
theorem dX8_beginStart_16 : decode cX8_beginStart 16 = .ok (.return_, 1) := by decide +kernel
theorem dX8_beginStart_17 : decode cX8_beginStart 17 = .ok (.aload_n 0, 1) := by decide +kernel
theorem dX8_beginStart_18 : decode cX8_beginStart 18 = .ok (.getfield 35, 3) := by decide +kernel
theorem dX8_beginStart_21 : decode cX8_beginStart 21 = .ok (.iload_n 1, 1) := by decide +kernel
theorem dX8_beginStart_22 : decode cX8_beginStart 22 = .ok (.invokevirtual 302, 3) := by decide +kernel
theorem dX8_beginStart_25 : decode cX8_beginStart 25 = .ok (.aload_n 0, 1) := by decide +kernel
theorem dX8_beginStart_26 : decode cX8_beginStart 26 = .ok (.iload_n 1, 1) := by decide +kernel
theorem dX8_beginStart_27 : decode cX8_beginStart 27 = .ok (.aload_n 0, 1) := by decide +kernel
theorem dX8_beginStart_28 : decode cX8_beginStart 28 = .ok (.getfield 10, 3) := by decide +kernel
theorem dX8_beginStart_31 : decode cX8_beginStart 31 = .ok (.iload_n 1, 1) := by decide +kernel
theorem dX8_beginStart_32 : decode cX8_beginStart 32 = .ok (.invokevirtual 86, 3) := by decide +kernel
theorem dX8_beginStart_35 : decode cX8_beginStart 35 = .ok (.checkcast 65, 3) := by decide +kernel
theorem dX8_beginStart_38 : decode cX8_beginStart 38 = .ok (.invokevirtual 305, 3) := by decide +kernel
theorem dX8_beginStart_41 : decode cX8_beginStart 41 = .ok (.invokevirtual 249, 3) := by decide +kernel
theorem dX8_beginStart_44 : decode cX8_beginStart 44 = .ok (.return_, 1) := by decide +kernel
theorem dX8_beginStop_0 : decode cX8_beginStop 0 = .ok (.aload_n 0, 1) := by decide +kernel
theorem dX8_beginStop_1 : decode cX8_beginStop 1 = .ok (.getfield 10, 3) := by decide +kernel
theorem dX8_beginStop_4 : decode cX8_beginStop 4 = .ok (.iload_n 1, 1) := by decide +kernel
theorem dX8_beginStop_5 : decode cX8_beginStop 5 = .ok (.invokevirtual 86, 3) := by decide +kernel
theorem dX8_beginStop_8 : decode cX8_beginStop 8 = .ok (.checkcast 65, 3) := by decide +kernel
theorem dX8_beginStop_11 : decode cX8_beginStop 11 = .ok (.astore_n 2, 1) := by decide +kernel
theorem dX8_beginStop_12 : decode cX8_beginStop 12 = .ok (.aload_n 2, 1) := by decide +kernel
theorem dX8_beginStop_13 : decode cX8_beginStop 13 = .ok (.getfield 162, 3) := by decide +kernel
theorem dX8_beginStop_16 : decode cX8_beginStop 16 = .ok (.ifCond .eq 11, 3) := by decide +kernel
theorem dX8_beginStop_19 : decode cX8_beginStop 19 = .ok (.aload_n 2, 1) := by decide +kernel
theorem dX8_beginStop_20 : decode cX8_beginStop 20 = .ok (.getfield 162, 3) := by decide +kernel
theorem dX8_beginStop_23 : decode cX8_beginStop 23 = .ok (.iconst 4, 1) := by decide +kernel
theorem dX8_beginStop_24 : decode cX8_beginStop 24 = .ok (.if_icmp .ne 12, 3) := by decide +kernel
theorem dX8_beginStop_27 : decode cX8_beginStop 27 = .ok (.aload_n 0, 1) := by decide +kernel
theorem dX8_beginStop_28 : decode cX8_beginStop 28 = .ok (.getfield 35, 3) := by decide +kernel
theorem dX8_beginStop_31 : decode cX8_beginStop 31 = .ok (.iload_n 1, 1) := by decide +kernel
theorem dX8_beginStop_32 : decode cX8_beginStop 32 = .ok (.invokevirtual 299, 3) := by decide +kernel
theorem dX8_beginStop_35 : decode cX8_beginStop 35 = .ok (.return_, 1) := by decide +kernel
theorem dX8_beginStop_36 : decode cX8_beginStop 36 = .ok (.aload_n 0, 1) := by decide +kernel
theorem dX8_beginStop_37 : decode cX8_beginStop 37 = .ok (.getfield 35, 3) := by decide +kernel
theorem dX8_beginStop_40 : decode cX8_beginStop 40 = .ok (.iload_n 1, 1) := by decide +kernel
theorem dX8_beginStop_41 : decode cX8_beginStop 41 = .ok (.invokevirtual 302, 3) := by decide +kernel
theorem dX8_beginStop_44 : decode cX8_beginStop 44 = .ok (.aload_n 2, 1) := by decide +kernel
theorem dX8_beginStop_45 : decode cX8_beginStop 45 = .ok (.getfield 162, 3) := by decide +kernel
theorem dX8_beginStop_48 : decode cX8_beginStop 48 = .ok (.iconst 3, 1) := by decide +kernel
theorem dX8_beginStop_49 : decode cX8_beginStop 49 = .ok (.if_icmp .ne 4, 3) := by decide +kernel
theorem dX8_beginStop_52 : decode cX8_beginStop 52 = .ok (.return_, 1) := by decide +kernel
theorem dX8_beginStop_53 : decode cX8_beginStop 53 = .ok (.aload_n 0, 1) := by decide +kernel
theorem dX8_beginStop_54 : decode cX8_beginStop 54 = .ok (.iload_n 1, 1) := by decide +kernel
theorem dX8_beginStop_55 : decode cX8_beginStop 55 = .ok (.aload_n 2, 1) := by decide +kernel
theorem dX8_beginStop_56 : decode cX8_beginStop 56 = .ok (.getfield 162, 3) := by decide +kernel
theorem dX8_beginStop_59 : decode cX8_beginStop 59 = .ok (.iconst 5, 1) := by decide +kernel
theorem dX8_beginStop_60 : decode cX8_beginStop 60 = .ok (.if_icmp .ne 7, 3) := by decide +kernel
theorem dX8_beginStop_63 : decode cX8_beginStop 63 = .ok (.iconst 0, 1) := by decide +kernel
theorem dX8_beginStop_64 : decode cX8_beginStop 64 = .ok (.goto 7, 3) := by decide +kernel
theorem dX8_beginStop_67 : decode cX8_beginStop 67 = .ok (.aload_n 2, 1) := by decide +kernel
theorem dX8_beginStop_68 : decode cX8_beginStop 68 = .ok (.invokevirtual 308, 3) := by decide +kernel
theorem dX8_beginStop_71 : decode cX8_beginStop 71 = .ok (.invokevirtual 249, 3) := by decide +kernel
theorem dX8_beginStop_74 : decode cX8_beginStop 74 = .ok (.return_, 1) := by decide +kernel
theorem dX8_enter_0 : decode cX8_enter 0 = .ok (.aload_n 0, 1) := by decide +kernel
theorem dX8_enter_1 : decode cX8_enter 1 = .ok (.getfield 10, 3) := by decide +kernel
theorem dX8_enter_4 : decode cX8_enter 4 = .ok (.iload_n 1, 1) := by decide +kernel
theorem dX8_enter_5 : decode cX8_enter 5 = .ok (.invokevirtual 86, 3) := by decide +kernel
theorem dX8_enter_8 : decode cX8_enter 8 = .ok (.checkcast 65, 3) := by decide +kernel
theorem dX8_enter_11 : decode cX8_enter 11 = .ok (.astore_n 3, 1) := by decide +kernel
theorem dX8_enter_12 : decode cX8_enter 12 = .ok (.iload_n 1, 1) := by decide +kernel
theorem dX8_enter_13 : decode cX8_enter 13 = .ok (.invokestatic 78, 3) := by decide +kernel
theorem dX8_enter_16 : decode cX8_enter 16 = .ok (.lstore 4, 2) := by decide +kernel
theorem dX8_enter_18 : decode cX8_enter 18 = .ok (.aload_n 0, 1) := by decide +kernel
theorem dX8_enter_19 : decode cX8_enter 19 = .ok (.getfield 53, 3) := by decide +kernel
theorem dX8_enter_22 : decode cX8_enter 22 = .ok (.aload_n 3, 1) := by decide +kernel
theorem dX8_enter_23 : decode cX8_enter 23 = .ok (.getfield 162, 3) := by decide +kernel
theorem dX8_enter_26 : decode cX8_enter 26 = .ok (.dup2, 1) := by decide +kernel
theorem dX8_enter_27 : decode cX8_enter 27 = .ok (.laload, 1) := by decide +kernel
theorem dX8_enter_28 : decode cX8_enter 28 = .ok (.lload 4, 2) := by decide +kernel
theorem dX8_enter_30 : decode cX8_enter 30 = .ok (.ldc2_w 238, 3) := by decide +kernel
theorem dX8_enter_33 : decode cX8_enter 33 = .ok (.lxor, 1) := by decide +kernel
theorem dX8_enter_34 : decode cX8_enter 34 = .ok (.land, 1) := by decide +kernel
theorem dX8_enter_35 : decode cX8_enter 35 = .ok (.lastore, 1) := by decide +kernel
theorem dX8_enter_36 : decode cX8_enter 36 = .ok (.aload_n 0, 1) := by decide +kernel
theorem dX8_enter_37 : decode cX8_enter 37 = .ok (.getfield 53, 3) := by decide +kernel
theorem dX8_enter_40 : decode cX8_enter 40 = .ok (.iload_n 2, 1) := by decide +kernel
theorem dX8_enter_41 : decode cX8_enter 41 = .ok (.dup2, 1) := by decide +kernel
theorem dX8_enter_42 : decode cX8_enter 42 = .ok (.laload, 1) := by decide +kernel
theorem dX8_enter_43 : decode cX8_enter 43 = .ok (.lload 4, 2) := by decide +kernel
theorem dX8_enter_45 : decode cX8_enter 45 = .ok (.lor, 1) := by decide +kernel
theorem dX8_enter_46 : decode cX8_enter 46 = .ok (.lastore, 1) := by decide +kernel
theorem dX8_enter_47 : decode cX8_enter 47 = .ok (.aload_n 3, 1) := by decide +kernel
theorem dX8_enter_48 : decode cX8_enter 48 = .ok (.iload_n 2, 1) := by decide +kernel
theorem dX8_enter_49 : decode cX8_enter 49 = .ok (.aload_n 0, 1) := by decide +kernel
theorem dX8_enter_50 : decode cX8_enter 50 = .ok (.getfield 67, 3) := by decide +kernel
theorem dX8_enter_53 : decode cX8_enter 53 = .ok (.invokevirtual 341, 3) := by decide +kernel
theorem dX8_enter_56 : decode cX8_enter 56 = .ok (.aload_n 3, 1) := by decide +kernel
theorem dX8_enter_57 : decode cX8_enter 57 = .ok (.getfield 342, 3) := by decide +kernel
theorem dX8_enter_60 : decode cX8_enter 60 = .ok (.ifCond .le 17, 3) := by decide +kernel
theorem dX8_enter_63 : decode cX8_enter 63 = .ok (.aload_n 0, 1) := by decide +kernel
theorem dX8_enter_64 : decode cX8_enter 64 = .ok (.dup, 1) := by decide +kernel
theorem dX8_enter_65 : decode cX8_enter 65 = .ok (.getfield 311, 3) := by decide +kernel
theorem dX8_enter_68 : decode cX8_enter 68 = .ok (.lload 4, 2) := by decide +kernel
theorem dX8_enter_70 : decode cX8_enter 70 = .ok (.lor, 1) := by decide +kernel
theorem dX8_enter_71 : decode cX8_enter 71 = .ok (.putfield 311, 3) := by decide +kernel
theorem dX8_enter_74 : decode cX8_enter 74 = .ok (.goto 18, 3) := by decide +kernel
theorem dX8_enter_77 : decode cX8_enter 77 = .ok (.aload_n 0, 1) := by decide +kernel
theorem dX8_enter_78 : decode cX8_enter 78 = .ok (.dup, 1) := by decide +kernel
theorem dX8_enter_79 : decode cX8_enter 79 = .ok (.getfield 311, 3) := by decide +kernel
theorem dX8_enter_82 : decode cX8_enter 82 = .ok (.lload 4, 2) := by decide +kernel
theorem dX8_enter_84 : decode cX8_enter 84 = .ok (.ldc2_w 238, 3) := by decide +kernel
theorem dX8_enter_87 : decode cX8_enter 87 = .ok (.lxor, 1) := by decide +kernel
theorem dX8_enter_88 : decode cX8_enter 88 = .ok (.land, 1) := by decide +kernel
theorem dX8_enter_89 : decode cX8_enter 89 = .ok (.putfield 311, 3) := by decide +kernel
theorem dX8_enter_92 : decode cX8_enter 92 = .ok (.aload_n 0, 1) := by decide +kernel
theorem dX8_enter_93 : decode cX8_enter 93 = .ok (.getfield 49, 3) := by decide +kernel
theorem dX8_enter_96 : decode cX8_enter 96 = .ok (.aload_n 0, 1) := by decide +kernel
theorem dX8_enter_97 : decode cX8_enter 97 = .ok (.getfield 67, 3) := by decide +kernel
theorem dX8_enter_100 : decode cX8_enter 100 = .ok (.iload_n 1, 1) := by decide +kernel
theorem dX8_enter_101 : decode cX8_enter 101 = .ok (.iload_n 2, 1) := by decide +kernel
theorem dX8_enter_102 : decode cX8_enter 102 = .ok (.invokevirtual 345, 3) := by decide +kernel
theorem dX8_enter_105 : decode cX8_enter 105 = .ok (.aload_n 0, 1) := by decide +kernel
theorem dX8_enter_106 : decode cX8_enter 106 = .ok (.getfield 35, 3) := by decide +kernel
theorem dX8_enter_109 : decode cX8_enter 109 = .ok (.iload_n 1, 1) := by decide +kernel
theorem dX8_enter_110 : decode cX8_enter 110 = .ok (.iload_n 2, 1) := by decide +kernel
theorem dX8_enter_111 : decode cX8_enter 111 = .ok (.invokevirtual 346, 3) := by decide +kernel
theorem dX8_enter_114 : decode cX8_enter 114 = .ok (.return_, 1) := by decide +kernel
def wq_x_enter : List Cond := [.code yX8_enter cX8_enter 6 none, .fieldLink RX8 10 "ServiceTree" "services" "Ljava/util/ArrayList;", .classLink RX8 65 RX7, .fieldLink RX8 53 "ServiceTree" "inState" "[J", .constantLong RX8 238 (-1), .fieldLink RX8 67 "ServiceTree" "now" "I", .fieldLink RX8 311 "ServiceTree" "living" "J", .fieldLink RX8 49 "ServiceTree" "history" "LServiceTree$History;", .fieldLink RX8 35 "ServiceTree" "jobs" "LServiceTree$Jobs;", .methodLink RX8 86 yJx4a65c_get_915e3, .instanceMethod yJx4a65c_get_915e3, .selects RJx4a65c yJx4a65c_get_915e3 yJx4a65c_get_915e3, .initialized RJx4a65c, .methodLink RX8 78 yX8_only, .static yX8_only, .initialized RX8, .methodLink RX8 341 yX7_enter, .instanceMethod yX7_enter, .selects RX7 yX7_enter yX7_enter, .initialized RX7, .methodLink RX8 345 yX2_add, .instanceMethod yX2_add, .selects RX2 yX2_add yX2_add, .initialized RX2, .methodLink RX8 346 yX3_noteState, .instanceMethod yX3_noteState, .selects RX3 yX3_noteState yX3_noteState, .initialized RX3] ++ (wsX70 ++ (wsX80 ++ (wq_x_get ++ (wq_x_only ++ (wq_x_senter ++ (wq_x_hadd ++ (wq_x_noteState)))))))
theorem in_x_enter_X7 : ∀ w ∈ wsX70, w ∈ wq_x_enter := fun _ h => List.mem_append_right _ (List.mem_append_left _ (h))
theorem in_x_enter_X8 : ∀ w ∈ wsX80, w ∈ wq_x_enter := fun _ h => List.mem_append_right _ (List.mem_append_right _ (List.mem_append_left _ (h)))
set_option maxRecDepth 20000 in
theorem wi_x_enter : ∀ w ∈ wq_x_enter, w ∈ lw_tbl := List.forall_mem_append.mpr ⟨(by decide +kernel), List.forall_mem_append.mpr ⟨inKX7, List.forall_mem_append.mpr ⟨inKX8, List.forall_mem_append.mpr ⟨wi_x_get, List.forall_mem_append.mpr ⟨wi_x_only, List.forall_mem_append.mpr ⟨wi_x_senter, List.forall_mem_append.mpr ⟨wi_x_hadd, wi_x_noteState⟩⟩⟩⟩⟩⟩⟩
set_option maxRecDepth 20000 in
theorem wg_x_enter : GoodIn wq_x_enter wq_x_enter := goodIn_sub (fun _ h => h) (by decide +kernel)
set_option maxRecDepth 20000 in
theorem wc_x_enter_x_get_86 : GoodIn wq_x_enter (wsV RX8 86 RJx4a65c yJx4a65c_get_915e3 wq_x_get) := goodIn_app (goodIn_of _ (by decide +kernel)) (fun w h => ⟨List.mem_append_right _ (List.mem_append_right _ (List.mem_append_right _ (List.mem_append_left _ (h)))), (wg_x_get w h).2⟩)
set_option maxRecDepth 20000 in
theorem wc_x_enter_x_only_78 : GoodIn wq_x_enter (va_wsS RX8 78 yX8_only wq_x_only) := goodIn_app (goodIn_of _ (by decide +kernel)) (fun w h => ⟨List.mem_append_right _ (List.mem_append_right _ (List.mem_append_right _ (List.mem_append_right _ (List.mem_append_left _ (h))))), (wg_x_only w h).2⟩)
set_option maxRecDepth 20000 in
theorem wc_x_enter_x_senter_341 : GoodIn wq_x_enter (wsV RX8 341 RX7 yX7_enter wq_x_senter) := goodIn_app (goodIn_of _ (by decide +kernel)) (fun w h => ⟨List.mem_append_right _ (List.mem_append_right _ (List.mem_append_right _ (List.mem_append_right _ (List.mem_append_right _ (List.mem_append_left _ (h)))))), (wg_x_senter w h).2⟩)
set_option maxRecDepth 20000 in
theorem wc_x_enter_x_hadd_345 : GoodIn wq_x_enter (wsV RX8 345 RX2 yX2_add wq_x_hadd) := goodIn_app (goodIn_of _ (by decide +kernel)) (fun w h => ⟨List.mem_append_right _ (List.mem_append_right _ (List.mem_append_right _ (List.mem_append_right _ (List.mem_append_right _ (List.mem_append_right _ (List.mem_append_left _ (h))))))), (wg_x_hadd w h).2⟩)
set_option maxRecDepth 20000 in
theorem wc_x_enter_x_noteState_346 : GoodIn wq_x_enter (wsV RX8 346 RX3 yX3_noteState wq_x_noteState) := goodIn_app (goodIn_of _ (by decide +kernel)) (fun w h => ⟨List.mem_append_right _ (List.mem_append_right _ (List.mem_append_right _ (List.mem_append_right _ (List.mem_append_right _ (List.mem_append_right _ (List.mem_append_right _ (h))))))), (wg_x_noteState w h).2⟩)
def rm_x_enter : Room := { frames := 3, cells := 0, slots := 0, locals := 64 }
set_option maxHeartbeats 4000000 in
set_option maxRecDepth 100000 in
theorem c_x_enter (l : Launch) (dC : Nat → ClassId) (dI : Nat → Nat → Nat) (h : Nat) (a : Nat → Nat) (e : Nat) (cI cJ cO cE : ClassId) (L : Nat → Int64) (I : Nat → Int32) (M : Nat → Nat → Int64) (J : Nat → Nat → Int32) (n cap : Nat) (fE : Nat → Option Nat) (sd : Nat → Nat → Nat) (si : Nat → Nat → Int32) (sa : Nat → Nat → Nat → Int32) (dl : Nat → Nat) (b : Nat) (sv : Nat) (tv : Nat) (sz : Nat) (hX0 : InvX n cap fE sd dl b I J si) (hb0 : b + 1 < 2147483648) (hp0 : sv < n) (hp1 : tv ≤ 5) : Met l yX8_enter wq_x_enter rm_x_enter (va_Pc [.ref h, .int (nI sv), .int (nI tv)] (fun U => U.heap.size = sz ∧ va_P (dC, dI) vwCl (xW h a e cI cJ cO cE L I M J n cap fE sd si sa dl) U.heap ∧ va_K (dC, dI) vwCl (xT cI cJ cO cE) U ∧ va_D (fun _ => True) (xW h a e cI cJ cO cE L I M J n cap fE sd si sa dl) ∧ pw_N U)) (va_Qv (fun (u : (Nat → Int64) × (Nat → Int32) × (Nat → Nat → Int64) × (Nat → Nat → Int32) × (Nat → Nat → Nat → Int32)) => InvX n cap fE sd dl (b + 1) u.2.1 J u.2.2.2.1 ∧ (∀ j9 : Nat, j9 ∉ ([0, 5, 6, 7] : List Nat) → u.1 j9 = L j9) ∧ (∀ j9 : Nat, j9 ∉ ([12] : List Nat) → u.2.1 j9 = I j9) ∧ (∀ j9 : Nat, j9 ∉ ([8, 9] : List Nat) → u.2.2.1 j9 = M j9) ∧ (∀ s9 q9 : Nat, q9 ∉ ([6, 7, 8, 9, 10, 11, 21, 22] : List Nat) → u.2.2.2.1 s9 q9 = si s9 q9) ∧ (∀ s9 q9 : Nat, q9 ∉ ([3] : List Nat) → u.2.2.2.2 s9 q9 = sa s9 q9) ∧ (True)) (fun (u : (Nat → Int64) × (Nat → Int32) × (Nat → Nat → Int64) × (Nat → Nat → Int32) × (Nat → Nat → Nat → Int32)) (t : State) => va_P (dC, dI) vwCl (xW h a e cI cJ cO cE u.1 u.2.1 u.2.2.1 J n cap fE sd u.2.2.2.1 u.2.2.2.2 dl) t.heap ∧ va_D (va_A (xW h a e cI cJ cO cE L I M J n cap fE sd si sa dl) sz) (xW h a e cI cJ cO cE u.1 u.2.1 u.2.2.1 J n cap fE sd u.2.2.2.1 u.2.2.2.2 dl)) (va_A (xW h a e cI cJ cO cE L I M J n cap fE sd si sa dl) sz)) 0 0 (va_A (xW h a e cI cJ cO cE L I M J n cap fE sd si sa dl) sz) := by
  have hn : n ≤ 40 := hX0.1.1
  have hX := hX0
  have hUL : ∀ j9 : Nat, j9 ∉ ([0, 5, 6, 7] : List Nat) → L j9 = L j9 := fun _ _ => rfl
  have hUI : ∀ j9 : Nat, j9 ∉ ([12] : List Nat) → I j9 = I j9 := fun _ _ => rfl
  have hUM : ∀ j9 : Nat, j9 ∉ ([8, 9] : List Nat) → M j9 = M j9 := fun _ _ => rfl
  have hUsi : ∀ s9 q9 : Nat, q9 ∉ ([6, 7, 8, 9, 10, 11, 21, 22] : List Nat) → si s9 q9 = si s9 q9 := fun _ _ _ => rfl
  have hUsa : ∀ s9 q9 : Nat, q9 ∉ ([3] : List Nat) → sa s9 q9 = sa s9 q9 := fun _ _ _ => rfl
  refine Met.ofW (cc := cX8_enter) (maxL := 6) (ret := none) (by decide) rfl ?_
  intro p e9 s m args below meth c s₁ B hml hv
  obtain ⟨rfl, hsz, hP, hK, hD0, hN⟩ := hv
  have hx := B.exec
  have hb := B.bytes
  have hr := B.returns
  have hts := atoms_spec (ws := wq_x_enter) B.pre
  have hown : s.vm.findClass RX8 = some m.cls := findClass_of_methodNamed B.named
  have hlocks := B.notSynchronized
  subst hsz
  have hD := hD0.self (sz := s.heap.size)
  generalize hAe : va_A (xW h a e cI cJ cO cE L I M J n cap fE sd si sa dl) s.heap.size = A at hD ⊢
  have hA : ∀ q : Nat, s.heap.size ≤ q → A q := fun q h => by rw [← hAe]; exact Or.inr h
  have hS : va_S A s.heap s.heap [] := va_S.rf
  have hl := lv_entry ([.ref h, .int (nI sv), .int (nI tv)]) (n := 6) (Nat.le_of_ble_eq_true rfl)
  rw [lg_entry_eq]
  generalize (lg_sl ([.ref h, .int (nI sv), .int (nI tv)]) ++ List.replicate (6 - (lg_sl ([.ref h, .int (nI sv), .int (nI tv)])).length) Slot.unset).toArray = ls at hl ⊢
  have hl : lv_has ls 6 [(0, .ref h), (1, .int (nI sv)), (2, .int (nI tv))] := hl
  refine lv_aload_n hx hb dX8_enter_0 rfl (lv_at hl 0 rfl) ?_
  refine va_get (D := (dC, dI)) (ci := 9) (v := .ref (a 0)) (C := RX8) (T := TX8) (N := 14) hx hb hts in_x_enter_X8 hown hK hP 0 rfl rfl 0 (by decide) (hts (.fieldLink RX8 10 "ServiceTree" "services" "Ljava/util/ArrayList;") (by decide +kernel)) (fun _ h9 => h9) rfl dX8_enter_1 ?_
  refine lv_iload_n hx hb dX8_enter_4 rfl (lv_at hl 1 rfl) ?_
  have hFc := mw_free hD hS hA
  refine va_callr (va_runV (As := [.int (nI sv)]) (rest := []) ⟨hx, hb, hml, hown, hts⟩ (c_x_get l dC dI h a e cI cJ cO cE L I M J n cap fE sd si sa dl (b) sv s.heap.size hX (by omega) (by omega)) (cwV 1 hts wc_x_enter_x_get_86 rfl rfl rfl (by decide +kernel) ⟨Nat.le_of_ble_eq_true rfl, Nat.le_of_ble_eq_true rfl⟩) ⟨fun a9 U g mk q => by obtain ⟨q0, q1, qP, qK, qD, qN⟩ := q; exact ⟨q0, q1, qP, va_K.moved (u := U) (U := U.calling g mk a9) (Vm.Alike.refl U.vm) qK, qD, pw_N.same (u := U) (U := U.calling g mk a9) rfl qN⟩, va_recv hK hP (ci := 0) (q0 := 1) rfl rfl, fun U hU hW => ⟨rfl, by rw [hU], by rw [hU]; exact hP, va_K.moved hW.alike hK, hD.weaken (fun _ _ _ _ => trivial), pw_N.warm hW hN⟩⟩ rfl rfl hl.1 rfl (lv_room (Nat.le_of_ble_eq_true rfl)) dX8_enter_5 ⟨Nat.le_of_ble_eq_true rfl, Nat.le_of_ble_eq_true rfl⟩) hS (fun q _ h => hFc q h) hFc (fun u r1 t H1 locs ht hvm hw hB hz1 hk1 hS => ?_)
  obtain ⟨hra, hB⟩ := hB
  replace hP := hB.1
  rw [ht] at hP
  replace hD : va_D A (xW h a e cI cJ cO cE L I M J n cap fE sd si sa dl) := hB.2.weaken (fun _ q _ h9 => hFc q.1 h9)
  clear hB
  generalize H1 = H at hP hS ⊢
  replace hP : va_P (dC, dI) vwCl (xW h a e cI cJ cO cE L I M J n cap fE sd si sa dl) H := hP
  subst hra
  refine va_castS hx hb hown (hts (.classLink RX8 65 RX7) (by decide +kernel)) (hK.1 8 _ rfl).2 (va_recv hK hP (ci := 8) (q0 := (22 + (6 * sv + 0))) rfl (xAt_0 h a e cI cJ cO cE L I M J n cap fE sd si sa dl (s := sv) (by omega))) dX8_enter_8 ?_
  refine lv_astore_n (lv' := [(3, .ref (sd sv 0)), (0, .ref h), (1, .int (nI sv)), (2, .int (nI tv))]) hx hb dX8_enter_11 rfl hl (by decide) rfl (fun ls hl => ?_)
  refine lv_iload_n hx hb dX8_enter_12 rfl (lv_at hl 2 rfl) ?_
  have hFc := mw_free hD hS hA
  refine va_calll (va_runS (As := [.int (nI sv)]) (rest := []) ⟨hx, hb, hml, hown, hts⟩ (c_x_only l dC dI h a e cI cJ cO cE L I M J n cap fE sd si sa dl (b) (nI sv) H.size hX (by omega) ) (va_cwS 1 hts wc_x_enter_x_only_78 rfl rfl rfl (by decide +kernel) ⟨Nat.le_of_ble_eq_true rfl, Nat.le_of_ble_eq_true rfl⟩) ⟨fun a9 U g mk q => by obtain ⟨q0, q1, qP, qK, qD, qN⟩ := q; exact ⟨q0, q1, qP, va_K.moved (u := U) (U := U.calling g mk a9) (Vm.Alike.refl U.vm) qK, qD, pw_N.same (u := U) (U := U.calling g mk a9) rfl qN⟩, fun U hU hW => ⟨rfl, by rw [hU], by rw [hU]; exact hP, va_K.moved hW.alike hK, hD.weaken (fun _ _ _ _ => trivial), pw_N.warm hW hN⟩⟩ rfl rfl hl.1 rfl (lv_room (Nat.le_of_ble_eq_true rfl)) dX8_enter_13 ⟨Nat.le_of_ble_eq_true rfl, Nat.le_of_ble_eq_true rfl⟩) hS (fun q _ h => hFc q h) hFc (fun r2 u t H1 locs ht hvm hw hB hz1 hk1 hS => ?_)
  replace hP := hB.1
  rw [ht] at hP
  replace hD : va_D A (xW h a e cI cJ cO cE L I M J n cap fE sd si sa dl) := hB.2.weaken (fun _ q _ h9 => hFc q.1 h9)
  clear hB
  generalize H1 = H at hP hS ⊢
  replace hP : va_P (dC, dI) vwCl (xW h a e cI cJ cO cE L I M J n cap fE sd si sa dl) H := hP
  refine lv_lstore (lv' := [(4, .long r2), (3, .ref (sd sv 0)), (0, .ref h), (1, .int (nI sv)), (2, .int (nI tv))]) hx hb dX8_enter_16 hl (by decide) rfl (fun ls hl => ?_)
  refine lv_aload_n hx hb dX8_enter_18 rfl (lv_at hl 2 rfl) ?_
  refine va_get (D := (dC, dI)) (ci := 9) (v := .ref (a 6)) (C := RX8) (T := TX8) (N := 14) hx hb hts in_x_enter_X8 hown hK hP 0 rfl rfl 6 (by decide) (hts (.fieldLink RX8 53 "ServiceTree" "inState" "[J") (by decide +kernel)) (fun _ h9 => h9) rfl dX8_enter_19 ?_
  refine lv_aload_n hx hb dX8_enter_22 rfl (lv_at hl 1 rfl) ?_
  refine va_getN (D := (dC, dI)) (ci := 8) (v := .int (si sv 6)) (C := RX7) (T := TX7) (N := 12) hx hb hts in_x_enter_X7 hown hK hP (22 + (6 * sv + 0)) (xAt_0 h a e cI cJ cO cE L I M J n cap fE sd si sa dl (s := sv) (by omega)) rfl 6 (by decide) (va_Nw.use rfl (hN (.fieldLinkNest RX8 162 "ServiceTree$Service" "state" "I" "ServiceTree") (by decide +kernel))) (fun _ h9 => h9) rfl dX8_enter_23 ?_
  obtain ⟨z3, hz3, ez3⟩ := hX.2.2.2.1 sv
  refine p1_topr (v := .int (nI z3)) (congrArg Value.int ez3) ?_
  refine lv_dup2_11 hx hb dX8_enter_26 rfl rfl ?_
  refine va_lald (n := 6) (f := M 9) hx hb hK hP 21 1 rfl rfl (vp_in_nI (n := z3) (by omega) (by omega)) dX8_enter_27 ?_
  refine lv_topl (fun x4 ex4 => ?_)
  refine lv_lload hx hb dX8_enter_28 (lv_at hl 0 rfl) ?_
  refine lv_ldc2 (v := (-1)) hx hb hown (hts (.constantLong RX8 238 (-1)) (by decide +kernel)) dX8_enter_30 ?_
  refine lv_lxor hx hb dX8_enter_33 ?_
  refine lv_topl (fun x5 ex5 => ?_)
  refine lv_land hx hb dX8_enter_34 ?_
  refine lv_topl (fun x6 ex6 => ?_)
  refine va_last (n := 6) (f := M 9) hx hb hK hP hD hS 21 1 rfl rfl (vp_in_nI (n := z3) (by omega) (by omega)) dX8_enter_35 (fun H locs hP hD hS => ?_)
  rw [xM_9] at hP hD
  obtain ⟨M7, eM7⟩ : ∃ f9 : Nat → Nat → Int64, f9 = va_up M 9 (vp_updL (M 9) (nI z3).toNatClampNeg x6) := ⟨_, rfl⟩
  rw [← eM7] at hP hD
  replace hUM : ∀ j9 : Nat, j9 ∉ ([8, 9] : List Nat) → M7 j9 = M j9 := by rw [eM7]; exact mw_up (by decide) hUM
  refine lv_aload_n hx hb dX8_enter_36 rfl (lv_at hl 2 rfl) ?_
  refine va_get (D := (dC, dI)) (ci := 9) (v := .ref (a 6)) (C := RX8) (T := TX8) (N := 14) hx hb hts in_x_enter_X8 hown hK hP 0 rfl rfl 6 (by decide) (hts (.fieldLink RX8 53 "ServiceTree" "inState" "[J") (by decide +kernel)) (fun _ h9 => h9) rfl dX8_enter_37 ?_
  refine lv_iload_n hx hb dX8_enter_40 rfl (lv_at hl 4 rfl) ?_
  refine lv_dup2_11 hx hb dX8_enter_41 rfl rfl ?_
  refine va_lald (n := 6) (f := M7 9) hx hb hK hP 21 1 rfl rfl (vp_in_nI (n := tv) (by omega) (by omega)) dX8_enter_42 ?_
  refine lv_topl (fun x8 ex8 => ?_)
  refine lv_lload hx hb dX8_enter_43 (lv_at hl 0 rfl) ?_
  refine lv_lor hx hb dX8_enter_45 ?_
  refine lv_topl (fun x9 ex9 => ?_)
  refine va_last (n := 6) (f := M7 9) hx hb hK hP hD hS 21 1 rfl rfl (vp_in_nI (n := tv) (by omega) (by omega)) dX8_enter_46 (fun H locs hP hD hS => ?_)
  rw [xM_9] at hP hD
  obtain ⟨M10, eM10⟩ : ∃ f9 : Nat → Nat → Int64, f9 = va_up M7 9 (vp_updL (M7 9) (nI tv).toNatClampNeg x9) := ⟨_, rfl⟩
  rw [← eM10] at hP hD
  replace hUM : ∀ j9 : Nat, j9 ∉ ([8, 9] : List Nat) → M10 j9 = M j9 := by rw [eM10]; exact mw_up (by decide) hUM
  refine lv_aload_n hx hb dX8_enter_47 rfl (lv_at hl 1 rfl) ?_
  refine lv_iload_n hx hb dX8_enter_48 rfl (lv_at hl 4 rfl) ?_
  refine lv_aload_n hx hb dX8_enter_49 rfl (lv_at hl 2 rfl) ?_
  refine va_get (D := (dC, dI)) (ci := 9) (v := .int (I 0)) (C := RX8) (T := TX8) (N := 14) hx hb hts in_x_enter_X8 hown hK hP 0 rfl rfl 9 (by decide) (hts (.fieldLink RX8 67 "ServiceTree" "now" "I") (by decide +kernel)) (fun _ h9 => h9) rfl dX8_enter_50 ?_
  refine lv_topi (fun x11 ex11 => ?_)
  have hFc := mw_free hD hS hA
  refine va_callv (va_runV (As := [.int (nI tv), .int x11]) (rest := []) ⟨hx, hb, hml, hown, hts⟩ (c_x_senter l dC dI h a e cI cJ cO cE L I M10 J n cap fE sd si sa dl (b) sv tv x11 H.size hX (by omega) (by omega) (by omega)) (cwV 2 hts wc_x_enter_x_senter_341 rfl rfl rfl (by decide +kernel) ⟨Nat.le_of_ble_eq_true rfl, Nat.le_of_ble_eq_true rfl⟩) ⟨fun a9 U g mk q => by obtain ⟨q0, q1, qP, qK, qD, qN⟩ := q; exact ⟨q0, q1, qP, va_K.moved (u := U) (U := U.calling g mk a9) (Vm.Alike.refl U.vm) qK, qD, pw_N.same (u := U) (U := U.calling g mk a9) rfl qN⟩, va_recv hK hP (ci := 8) (q0 := (22 + (6 * sv + 0))) rfl (xAt_0 h a e cI cJ cO cE L I M10 J n cap fE sd si sa dl (s := sv) (by omega)), fun U hU hW => ⟨rfl, by rw [hU], by rw [hU]; exact hP, va_K.moved hW.alike hK, hD.weaken (fun _ _ _ _ => trivial), pw_N.warm hW hN⟩⟩ rfl rfl hl.1 rfl (lv_room (Nat.le_of_ble_eq_true rfl)) dX8_enter_53 ⟨Nat.le_of_ble_eq_true rfl, Nat.le_of_ble_eq_true rfl⟩) hS (fun q _ h => hFc q h) hFc (fun u t H1 locs ht hvm hw hB hz1 hk1 hS => ?_)
  obtain ⟨si13, sa14⟩ := u
  replace hP := hB.1
  rw [ht] at hP
  replace hD : va_D A (xW h a e cI cJ cO cE L I M10 J n cap fE sd si13 sa14 dl) := hB.2.weaken (fun _ q _ h9 => hFc q.1 h9)
  clear hB
  generalize H1 = H at hP hS ⊢
  replace hP : va_P (dC, dI) vwCl (xW h a e cI cJ cO cE L I M10 J n cap fE sd si13 sa14 dl) H := hP
  obtain ⟨hwX, whUsi, whUsa, hw⟩ := hw
  replace hX : InvX n cap fE sd dl (b) I J si13 := hwX
  replace hUsi : ∀ s9 q9 : Nat, q9 ∉ ([6, 7, 8, 9, 10, 11, 21, 22] : List Nat) → si13 s9 q9 = si s9 q9 := xw_tr2 (by decide) whUsi hUsi
  replace hUsa : ∀ s9 q9 : Nat, q9 ∉ ([3] : List Nat) → sa14 s9 q9 = sa s9 q9 := xw_tr2 (by decide) whUsa hUsa
  refine lv_aload_n hx hb dX8_enter_56 rfl (lv_at hl 1 rfl) ?_
  refine va_getN (D := (dC, dI)) (ci := 8) (v := .int (si13 sv 10)) (C := RX7) (T := TX7) (N := 12) hx hb hts in_x_enter_X7 hown hK hP (22 + (6 * sv + 0)) (xAt_0 h a e cI cJ cO cE L I M10 J n cap fE sd si13 sa14 dl (s := sv) (by omega)) rfl 10 (by decide) (va_Nw.use rfl (hN (.fieldLinkNest RX8 342 "ServiceTree$Service" "life" "I" "ServiceTree") (by decide +kernel))) (fun _ h9 => h9) rfl dX8_enter_57 ?_
  refine lv_topi (fun x15 ex15 => ?_)
  refine lv_if_le (tgt := 77) hx hb dX8_enter_60 (by decide) (fun c16 => ?_) (fun c16 => ?_)
  · refine lv_aload_n hx hb dX8_enter_77 rfl (lv_at hl 2 rfl) ?_
    refine lv_dup hx hb dX8_enter_78 rfl ?_
    refine va_get (D := (dC, dI)) (ci := 9) (v := .long (L 0)) (C := RX8) (T := TX8) (N := 14) hx hb hts in_x_enter_X8 hown hK hP 0 rfl rfl 7 (by decide) (hts (.fieldLink RX8 311 "ServiceTree" "living" "J") (by decide +kernel)) (fun _ h9 => h9) rfl dX8_enter_79 ?_
    refine lv_topl (fun x17 ex17 => ?_)
    refine lv_lload hx hb dX8_enter_82 (lv_at hl 0 rfl) ?_
    refine lv_ldc2 (v := (-1)) hx hb hown (hts (.constantLong RX8 238 (-1)) (by decide +kernel)) dX8_enter_84 ?_
    refine lv_lxor hx hb dX8_enter_87 ?_
    refine lv_topl (fun x18 ex18 => ?_)
    refine lv_land hx hb dX8_enter_88 ?_
    refine lv_topl (fun x19 ex19 => ?_)
    refine va_put (D := (dC, dI)) (ci := 9) (fs := [.ref (a 0), .ref (a 1), .ref (a 2), .ref (a 3), .ref (a 4), .ref (a 5), .ref (a 6), .long (L 0), .long (L 1), .int (I 0), .int (I 1), .int (I 2), .int (I 3), .int (I 4)]) (v := .long x19) (ty := .long) (C := RX8) (T := TX8) (N := 14) hx hb hts in_x_enter_X8 tyX8 tyX8_ok nmX8 hown hK hP hD hS 0 rfl rfl 7 (by decide) (hts (.fieldLink RX8 311 "ServiceTree" "living" "J") (by decide +kernel)) (fun _ h9 => h9) rfl (by decide +kernel) rfl rfl (Nat.le_of_ble_eq_true rfl) dX8_enter_89 (fun H locs hP hD hS => ?_)
    replace hP : va_P (dC, dI) vwCl ((xW h a e cI cJ cO cE L I M10 J n cap fE sd si13 sa14 dl).set 0 (h, .inr (9, [.ref (a 0), .ref (a 1), .ref (a 2), .ref (a 3), .ref (a 4), .ref (a 5), .ref (a 6), .long x19, .long (L 1), .int (I 0), .int (I 1), .int (I 2), .int (I 3), .int (I 4)]))) H := hP
    replace hD : va_D A ((xW h a e cI cJ cO cE L I M10 J n cap fE sd si13 sa14 dl).set 0 (h, .inr (9, [.ref (a 0), .ref (a 1), .ref (a 2), .ref (a 3), .ref (a 4), .ref (a 5), .ref (a 6), .long x19, .long (L 1), .int (I 0), .int (I 1), .int (I 2), .int (I 3), .int (I 4)]))) := hD
    rw [xF_L0] at hP hD
    obtain ⟨L20, eL20⟩ : ∃ f9 : Nat → Int64, f9 = va_up L 0 x19 := ⟨_, rfl⟩
    rw [← eL20] at hP hD
    replace hUL : ∀ j9 : Nat, j9 ∉ ([0, 5, 6, 7] : List Nat) → L20 j9 = L j9 := by rw [eL20]; exact mw_up (by decide) hUL
    refine lv_aload_n hx hb dX8_enter_92 rfl (lv_at hl 2 rfl) ?_
    refine va_get (D := (dC, dI)) (ci := 9) (v := .ref (a 5)) (C := RX8) (T := TX8) (N := 14) hx hb hts in_x_enter_X8 hown hK hP 0 rfl rfl 5 (by decide) (hts (.fieldLink RX8 49 "ServiceTree" "history" "LServiceTree$History;") (by decide +kernel)) (fun _ h9 => h9) rfl dX8_enter_93 ?_
    refine lv_aload_n hx hb dX8_enter_96 rfl (lv_at hl 2 rfl) ?_
    refine va_get (D := (dC, dI)) (ci := 9) (v := .int (I 0)) (C := RX8) (T := TX8) (N := 14) hx hb hts in_x_enter_X8 hown hK hP 0 rfl rfl 9 (by decide) (hts (.fieldLink RX8 67 "ServiceTree" "now" "I") (by decide +kernel)) (fun _ h9 => h9) rfl dX8_enter_97 ?_
    refine p1_topr (v := .int x11) (congrArg Value.int ex11.symm) ?_
    refine lv_iload_n hx hb dX8_enter_100 rfl (lv_at hl 3 rfl) ?_
    refine lv_iload_n hx hb dX8_enter_101 rfl (lv_at hl 4 rfl) ?_
    have hFc := mw_free hD hS hA
    refine va_callv (va_runV (As := [.int x11, .int (nI sv), .int (nI tv)]) (rest := []) ⟨hx, hb, hml, hown, hts⟩ (c_x_hadd l dC dI h a e cI cJ cO cE L20 I M10 J n cap fE sd si13 sa14 dl (b) x11 (nI sv) (nI tv) H.size hX (by omega) ) (cwV 3 hts wc_x_enter_x_hadd_345 rfl rfl rfl (by decide +kernel) ⟨Nat.le_of_ble_eq_true rfl, Nat.le_of_ble_eq_true rfl⟩) ⟨fun a9 U g mk q => by obtain ⟨q0, q1, qP, qK, qD, qN⟩ := q; exact ⟨q0, q1, qP, va_K.moved (u := U) (U := U.calling g mk a9) (Vm.Alike.refl U.vm) qK, qD, pw_N.same (u := U) (U := U.calling g mk a9) rfl qN⟩, va_recv hK hP (ci := 3) (q0 := 19) rfl rfl, fun U hU hW => ⟨rfl, by rw [hU], by rw [hU]; exact hP, va_K.moved hW.alike hK, hD.weaken (fun _ _ _ _ => trivial), pw_N.warm hW hN⟩⟩ rfl rfl hl.1 rfl (lv_room (Nat.le_of_ble_eq_true rfl)) dX8_enter_102 ⟨Nat.le_of_ble_eq_true rfl, Nat.le_of_ble_eq_true rfl⟩) hS (fun q _ h => hFc q h) hFc (fun u t H1 locs ht hvm hw hB hz1 hk1 hS => ?_)
    obtain ⟨I22, M23⟩ := u
    replace hP := hB.1
    rw [ht] at hP
    replace hD : va_D A (xW h a e cI cJ cO cE L20 I22 M23 J n cap fE sd si13 sa14 dl) := hB.2.weaken (fun _ q _ h9 => hFc q.1 h9)
    clear hB
    generalize H1 = H at hP hS ⊢
    replace hP : va_P (dC, dI) vwCl (xW h a e cI cJ cO cE L20 I22 M23 J n cap fE sd si13 sa14 dl) H := hP
    obtain ⟨hwX, whUI, whUM, hw⟩ := hw
    replace hX : InvX n cap fE sd dl (b + 1) I22 J si13 := hwX
    replace hUI : ∀ j9 : Nat, j9 ∉ ([12] : List Nat) → I22 j9 = I j9 := mw_tr (by decide) whUI hUI
    replace hUM : ∀ j9 : Nat, j9 ∉ ([8, 9] : List Nat) → M23 j9 = M j9 := mw_tr (by decide) whUM hUM
    refine lv_aload_n hx hb dX8_enter_105 rfl (lv_at hl 2 rfl) ?_
    refine va_get (D := (dC, dI)) (ci := 9) (v := .ref (a 3)) (C := RX8) (T := TX8) (N := 14) hx hb hts in_x_enter_X8 hown hK hP 0 rfl rfl 3 (by decide) (hts (.fieldLink RX8 35 "ServiceTree" "jobs" "LServiceTree$Jobs;") (by decide +kernel)) (fun _ h9 => h9) rfl dX8_enter_106 ?_
    refine lv_iload_n hx hb dX8_enter_109 rfl (lv_at hl 3 rfl) ?_
    refine lv_iload_n hx hb dX8_enter_110 rfl (lv_at hl 4 rfl) ?_
    have hFc := mw_free hD hS hA
    refine va_callv (va_runV (As := [.int (nI sv), .int (nI tv)]) (rest := []) ⟨hx, hb, hml, hown, hts⟩ (c_x_noteState l dC dI h a e cI cJ cO cE L20 I22 M23 J n cap fE sd si13 sa14 dl (b + 1) (nI sv) (nI tv) H.size hX (by omega) ) (cwV 2 hts wc_x_enter_x_noteState_346 rfl rfl rfl (by decide +kernel) ⟨Nat.le_of_ble_eq_true rfl, Nat.le_of_ble_eq_true rfl⟩) ⟨fun a9 U g mk q => by obtain ⟨q0, q1, qP, qK, qD, qN⟩ := q; exact ⟨q0, q1, qP, va_K.moved (u := U) (U := U.calling g mk a9) (Vm.Alike.refl U.vm) qK, qD, pw_N.same (u := U) (U := U.calling g mk a9) rfl qN⟩, va_recv hK hP (ci := 4) (q0 := 14) rfl rfl, fun U hU hW => ⟨rfl, by rw [hU], by rw [hU]; exact hP, va_K.moved hW.alike hK, hD.weaken (fun _ _ _ _ => trivial), pw_N.warm hW hN⟩⟩ rfl rfl hl.1 rfl (lv_room (Nat.le_of_ble_eq_true rfl)) dX8_enter_111 ⟨Nat.le_of_ble_eq_true rfl, Nat.le_of_ble_eq_true rfl⟩) hS (fun q _ h => hFc q h) hFc (fun u t H1 locs ht hvm hw hB hz1 hk1 hS => ?_)
    obtain ⟨L25, rfl⟩ : ∃ z9, z9 = u := ⟨_, rfl⟩
    replace hP := hB.1
    rw [ht] at hP
    replace hD : va_D A (xW h a e cI cJ cO cE L25 I22 M23 J n cap fE sd si13 sa14 dl) := hB.2.weaken (fun _ q _ h9 => hFc q.1 h9)
    clear hB
    generalize H1 = H at hP hS ⊢
    replace hP : va_P (dC, dI) vwCl (xW h a e cI cJ cO cE L25 I22 M23 J n cap fE sd si13 sa14 dl) H := hP
    obtain ⟨hwX, whUL, hw⟩ := hw
    replace hX : InvX n cap fE sd dl (b + 1) I22 J si13 := hwX
    replace hUL : ∀ j9 : Nat, j9 ∉ ([0, 5, 6, 7] : List Nat) → L25 j9 = L j9 := mw_tr (by decide) whUL hUL
    exact W.vret hx hb hr (fun t ht hW => ⟨⟨(L25, I22, M23, si13, sa14), rfl, ⟨hX.mono (by omega), hUL, hUI, hUM, hUsi, hUsa, trivial⟩, by rw [ht]; exact hP, hD⟩, hS.F ht⟩) hS.2.2 dX8_enter_114
  · refine lv_aload_n hx hb dX8_enter_63 rfl (lv_at hl 2 rfl) ?_
    refine lv_dup hx hb dX8_enter_64 rfl ?_
    refine va_get (D := (dC, dI)) (ci := 9) (v := .long (L 0)) (C := RX8) (T := TX8) (N := 14) hx hb hts in_x_enter_X8 hown hK hP 0 rfl rfl 7 (by decide) (hts (.fieldLink RX8 311 "ServiceTree" "living" "J") (by decide +kernel)) (fun _ h9 => h9) rfl dX8_enter_65 ?_
    refine lv_topl (fun x26 ex26 => ?_)
    refine lv_lload hx hb dX8_enter_68 (lv_at hl 0 rfl) ?_
    refine lv_lor hx hb dX8_enter_70 ?_
    refine lv_topl (fun x27 ex27 => ?_)
    refine va_put (D := (dC, dI)) (ci := 9) (fs := [.ref (a 0), .ref (a 1), .ref (a 2), .ref (a 3), .ref (a 4), .ref (a 5), .ref (a 6), .long (L 0), .long (L 1), .int (I 0), .int (I 1), .int (I 2), .int (I 3), .int (I 4)]) (v := .long x27) (ty := .long) (C := RX8) (T := TX8) (N := 14) hx hb hts in_x_enter_X8 tyX8 tyX8_ok nmX8 hown hK hP hD hS 0 rfl rfl 7 (by decide) (hts (.fieldLink RX8 311 "ServiceTree" "living" "J") (by decide +kernel)) (fun _ h9 => h9) rfl (by decide +kernel) rfl rfl (Nat.le_of_ble_eq_true rfl) dX8_enter_71 (fun H locs hP hD hS => ?_)
    replace hP : va_P (dC, dI) vwCl ((xW h a e cI cJ cO cE L I M10 J n cap fE sd si13 sa14 dl).set 0 (h, .inr (9, [.ref (a 0), .ref (a 1), .ref (a 2), .ref (a 3), .ref (a 4), .ref (a 5), .ref (a 6), .long x27, .long (L 1), .int (I 0), .int (I 1), .int (I 2), .int (I 3), .int (I 4)]))) H := hP
    replace hD : va_D A ((xW h a e cI cJ cO cE L I M10 J n cap fE sd si13 sa14 dl).set 0 (h, .inr (9, [.ref (a 0), .ref (a 1), .ref (a 2), .ref (a 3), .ref (a 4), .ref (a 5), .ref (a 6), .long x27, .long (L 1), .int (I 0), .int (I 1), .int (I 2), .int (I 3), .int (I 4)]))) := hD
    rw [xF_L0] at hP hD
    obtain ⟨L28, eL28⟩ : ∃ f9 : Nat → Int64, f9 = va_up L 0 x27 := ⟨_, rfl⟩
    rw [← eL28] at hP hD
    replace hUL : ∀ j9 : Nat, j9 ∉ ([0, 5, 6, 7] : List Nat) → L28 j9 = L j9 := by rw [eL28]; exact mw_up (by decide) hUL
    refine lv_goto (tgt := 92) hx hb dX8_enter_74 (by decide) ?_
    refine lv_aload_n hx hb dX8_enter_92 rfl (lv_at hl 2 rfl) ?_
    refine va_get (D := (dC, dI)) (ci := 9) (v := .ref (a 5)) (C := RX8) (T := TX8) (N := 14) hx hb hts in_x_enter_X8 hown hK hP 0 rfl rfl 5 (by decide) (hts (.fieldLink RX8 49 "ServiceTree" "history" "LServiceTree$History;") (by decide +kernel)) (fun _ h9 => h9) rfl dX8_enter_93 ?_
    refine lv_aload_n hx hb dX8_enter_96 rfl (lv_at hl 2 rfl) ?_
    refine va_get (D := (dC, dI)) (ci := 9) (v := .int (I 0)) (C := RX8) (T := TX8) (N := 14) hx hb hts in_x_enter_X8 hown hK hP 0 rfl rfl 9 (by decide) (hts (.fieldLink RX8 67 "ServiceTree" "now" "I") (by decide +kernel)) (fun _ h9 => h9) rfl dX8_enter_97 ?_
    refine p1_topr (v := .int x11) (congrArg Value.int ex11.symm) ?_
    refine lv_iload_n hx hb dX8_enter_100 rfl (lv_at hl 3 rfl) ?_
    refine lv_iload_n hx hb dX8_enter_101 rfl (lv_at hl 4 rfl) ?_
    have hFc := mw_free hD hS hA
    refine va_callv (va_runV (As := [.int x11, .int (nI sv), .int (nI tv)]) (rest := []) ⟨hx, hb, hml, hown, hts⟩ (c_x_hadd l dC dI h a e cI cJ cO cE L28 I M10 J n cap fE sd si13 sa14 dl (b) x11 (nI sv) (nI tv) H.size hX (by omega) ) (cwV 3 hts wc_x_enter_x_hadd_345 rfl rfl rfl (by decide +kernel) ⟨Nat.le_of_ble_eq_true rfl, Nat.le_of_ble_eq_true rfl⟩) ⟨fun a9 U g mk q => by obtain ⟨q0, q1, qP, qK, qD, qN⟩ := q; exact ⟨q0, q1, qP, va_K.moved (u := U) (U := U.calling g mk a9) (Vm.Alike.refl U.vm) qK, qD, pw_N.same (u := U) (U := U.calling g mk a9) rfl qN⟩, va_recv hK hP (ci := 3) (q0 := 19) rfl rfl, fun U hU hW => ⟨rfl, by rw [hU], by rw [hU]; exact hP, va_K.moved hW.alike hK, hD.weaken (fun _ _ _ _ => trivial), pw_N.warm hW hN⟩⟩ rfl rfl hl.1 rfl (lv_room (Nat.le_of_ble_eq_true rfl)) dX8_enter_102 ⟨Nat.le_of_ble_eq_true rfl, Nat.le_of_ble_eq_true rfl⟩) hS (fun q _ h => hFc q h) hFc (fun u t H1 locs ht hvm hw hB hz1 hk1 hS => ?_)
    obtain ⟨I30, M31⟩ := u
    replace hP := hB.1
    rw [ht] at hP
    replace hD : va_D A (xW h a e cI cJ cO cE L28 I30 M31 J n cap fE sd si13 sa14 dl) := hB.2.weaken (fun _ q _ h9 => hFc q.1 h9)
    clear hB
    generalize H1 = H at hP hS ⊢
    replace hP : va_P (dC, dI) vwCl (xW h a e cI cJ cO cE L28 I30 M31 J n cap fE sd si13 sa14 dl) H := hP
    obtain ⟨hwX, whUI, whUM, hw⟩ := hw
    replace hX : InvX n cap fE sd dl (b + 1) I30 J si13 := hwX
    replace hUI : ∀ j9 : Nat, j9 ∉ ([12] : List Nat) → I30 j9 = I j9 := mw_tr (by decide) whUI hUI
    replace hUM : ∀ j9 : Nat, j9 ∉ ([8, 9] : List Nat) → M31 j9 = M j9 := mw_tr (by decide) whUM hUM
    refine lv_aload_n hx hb dX8_enter_105 rfl (lv_at hl 2 rfl) ?_
    refine va_get (D := (dC, dI)) (ci := 9) (v := .ref (a 3)) (C := RX8) (T := TX8) (N := 14) hx hb hts in_x_enter_X8 hown hK hP 0 rfl rfl 3 (by decide) (hts (.fieldLink RX8 35 "ServiceTree" "jobs" "LServiceTree$Jobs;") (by decide +kernel)) (fun _ h9 => h9) rfl dX8_enter_106 ?_
    refine lv_iload_n hx hb dX8_enter_109 rfl (lv_at hl 3 rfl) ?_
    refine lv_iload_n hx hb dX8_enter_110 rfl (lv_at hl 4 rfl) ?_
    have hFc := mw_free hD hS hA
    refine va_callv (va_runV (As := [.int (nI sv), .int (nI tv)]) (rest := []) ⟨hx, hb, hml, hown, hts⟩ (c_x_noteState l dC dI h a e cI cJ cO cE L28 I30 M31 J n cap fE sd si13 sa14 dl (b + 1) (nI sv) (nI tv) H.size hX (by omega) ) (cwV 2 hts wc_x_enter_x_noteState_346 rfl rfl rfl (by decide +kernel) ⟨Nat.le_of_ble_eq_true rfl, Nat.le_of_ble_eq_true rfl⟩) ⟨fun a9 U g mk q => by obtain ⟨q0, q1, qP, qK, qD, qN⟩ := q; exact ⟨q0, q1, qP, va_K.moved (u := U) (U := U.calling g mk a9) (Vm.Alike.refl U.vm) qK, qD, pw_N.same (u := U) (U := U.calling g mk a9) rfl qN⟩, va_recv hK hP (ci := 4) (q0 := 14) rfl rfl, fun U hU hW => ⟨rfl, by rw [hU], by rw [hU]; exact hP, va_K.moved hW.alike hK, hD.weaken (fun _ _ _ _ => trivial), pw_N.warm hW hN⟩⟩ rfl rfl hl.1 rfl (lv_room (Nat.le_of_ble_eq_true rfl)) dX8_enter_111 ⟨Nat.le_of_ble_eq_true rfl, Nat.le_of_ble_eq_true rfl⟩) hS (fun q _ h => hFc q h) hFc (fun u t H1 locs ht hvm hw hB hz1 hk1 hS => ?_)
    obtain ⟨L33, rfl⟩ : ∃ z9, z9 = u := ⟨_, rfl⟩
    replace hP := hB.1
    rw [ht] at hP
    replace hD : va_D A (xW h a e cI cJ cO cE L33 I30 M31 J n cap fE sd si13 sa14 dl) := hB.2.weaken (fun _ q _ h9 => hFc q.1 h9)
    clear hB
    generalize H1 = H at hP hS ⊢
    replace hP : va_P (dC, dI) vwCl (xW h a e cI cJ cO cE L33 I30 M31 J n cap fE sd si13 sa14 dl) H := hP
    obtain ⟨hwX, whUL, hw⟩ := hw
    replace hX : InvX n cap fE sd dl (b + 1) I30 J si13 := hwX
    replace hUL : ∀ j9 : Nat, j9 ∉ ([0, 5, 6, 7] : List Nat) → L33 j9 = L j9 := mw_tr (by decide) whUL hUL
    exact W.vret hx hb hr (fun t ht hW => ⟨⟨(L33, I30, M31, si13, sa14), rfl, ⟨hX.mono (by omega), hUL, hUI, hUM, hUsi, hUsa, trivial⟩, by rw [ht]; exact hP, hD⟩, hS.F ht⟩) hS.2.2 dX8_enter_114
def wq_x_beginStart : List Cond := [.code yX8_beginStart cX8_beginStart 2 none, .fieldLink RX8 35 "ServiceTree" "jobs" "LServiceTree$Jobs;", .fieldLink RX8 10 "ServiceTree" "services" "Ljava/util/ArrayList;", .classLink RX8 65 RX7, .methodLink RX8 231 yX8_hasItsNeeds, .instanceMethod yX8_hasItsNeeds, .selects RX8 yX8_hasItsNeeds yX8_hasItsNeeds, .initialized RX8, .methodLink RX8 302 yX3_begin, .instanceMethod yX3_begin, .selects RX3 yX3_begin yX3_begin, .initialized RX3, .methodLink RX8 86 yJx4a65c_get_915e3, .instanceMethod yJx4a65c_get_915e3, .selects RJx4a65c yJx4a65c_get_915e3 yJx4a65c_get_915e3, .initialized RJx4a65c, .methodLink RX8 305 yX7_firstStateOfStart, .instanceMethod yX7_firstStateOfStart, .selects RX7 yX7_firstStateOfStart yX7_firstStateOfStart, .initialized RX7, .methodLink RX8 249 yX8_enter, .instanceMethod yX8_enter, .selects RX8 yX8_enter yX8_enter, .methodLink RX8 299 yX3_end, .instanceMethod yX3_end, .selects RX3 yX3_end yX3_end] ++ (wsX80 ++ (wq_x_hasItsNeeds ++ (wq_x_jbegin ++ (wq_x_get ++ (wq_x_fss ++ (wq_x_enter ++ (wq_x_jend)))))))
theorem in_x_beginStart_X8 : ∀ w ∈ wsX80, w ∈ wq_x_beginStart := fun _ h => List.mem_append_right _ (List.mem_append_left _ (h))
set_option maxRecDepth 20000 in
theorem wi_x_beginStart : ∀ w ∈ wq_x_beginStart, w ∈ lw_tbl := List.forall_mem_append.mpr ⟨(by decide +kernel), List.forall_mem_append.mpr ⟨inKX8, List.forall_mem_append.mpr ⟨wi_x_hasItsNeeds, List.forall_mem_append.mpr ⟨wi_x_jbegin, List.forall_mem_append.mpr ⟨wi_x_get, List.forall_mem_append.mpr ⟨wi_x_fss, List.forall_mem_append.mpr ⟨wi_x_enter, wi_x_jend⟩⟩⟩⟩⟩⟩⟩
set_option maxRecDepth 20000 in
theorem wg_x_beginStart : GoodIn wq_x_beginStart wq_x_beginStart := goodIn_sub (fun _ h => h) (by decide +kernel)
set_option maxRecDepth 20000 in
theorem wc_x_beginStart_x_hasItsNeeds_231 : GoodIn wq_x_beginStart (wsV RX8 231 RX8 yX8_hasItsNeeds wq_x_hasItsNeeds) := goodIn_app (goodIn_of _ (by decide +kernel)) (fun w h => ⟨List.mem_append_right _ (List.mem_append_right _ (List.mem_append_left _ (h))), (wg_x_hasItsNeeds w h).2⟩)
set_option maxRecDepth 20000 in
theorem wc_x_beginStart_x_jbegin_302 : GoodIn wq_x_beginStart (wsV RX8 302 RX3 yX3_begin wq_x_jbegin) := goodIn_app (goodIn_of _ (by decide +kernel)) (fun w h => ⟨List.mem_append_right _ (List.mem_append_right _ (List.mem_append_right _ (List.mem_append_left _ (h)))), (wg_x_jbegin w h).2⟩)
set_option maxRecDepth 20000 in
theorem wc_x_beginStart_x_get_86 : GoodIn wq_x_beginStart (wsV RX8 86 RJx4a65c yJx4a65c_get_915e3 wq_x_get) := goodIn_app (goodIn_of _ (by decide +kernel)) (fun w h => ⟨List.mem_append_right _ (List.mem_append_right _ (List.mem_append_right _ (List.mem_append_right _ (List.mem_append_left _ (h))))), (wg_x_get w h).2⟩)
set_option maxRecDepth 20000 in
theorem wc_x_beginStart_x_fss_305 : GoodIn wq_x_beginStart (wsV RX8 305 RX7 yX7_firstStateOfStart wq_x_fss) := goodIn_app (goodIn_of _ (by decide +kernel)) (fun w h => ⟨List.mem_append_right _ (List.mem_append_right _ (List.mem_append_right _ (List.mem_append_right _ (List.mem_append_right _ (List.mem_append_left _ (h)))))), (wg_x_fss w h).2⟩)
set_option maxRecDepth 20000 in
theorem wc_x_beginStart_x_enter_249 : GoodIn wq_x_beginStart (wsV RX8 249 RX8 yX8_enter wq_x_enter) := goodIn_app (goodIn_of _ (by decide +kernel)) (fun w h => ⟨List.mem_append_right _ (List.mem_append_right _ (List.mem_append_right _ (List.mem_append_right _ (List.mem_append_right _ (List.mem_append_right _ (List.mem_append_left _ (h))))))), (wg_x_enter w h).2⟩)
set_option maxRecDepth 20000 in
theorem wc_x_beginStart_x_jend_299 : GoodIn wq_x_beginStart (wsV RX8 299 RX3 yX3_end wq_x_jend) := goodIn_app (goodIn_of _ (by decide +kernel)) (fun w h => ⟨List.mem_append_right _ (List.mem_append_right _ (List.mem_append_right _ (List.mem_append_right _ (List.mem_append_right _ (List.mem_append_right _ (List.mem_append_right _ (h))))))), (wg_x_jend w h).2⟩)
def rm_x_beginStart : Room := { frames := 4, cells := 0, slots := 0, locals := 89 }
set_option maxHeartbeats 4000000 in
set_option maxRecDepth 100000 in
theorem c_x_beginStart (l : Launch) (dC : Nat → ClassId) (dI : Nat → Nat → Nat) (h : Nat) (a : Nat → Nat) (e : Nat) (cI cJ cO cE : ClassId) (L : Nat → Int64) (I : Nat → Int32) (M : Nat → Nat → Int64) (J : Nat → Nat → Int32) (n cap : Nat) (fE : Nat → Option Nat) (sd : Nat → Nat → Nat) (si : Nat → Nat → Int32) (sa : Nat → Nat → Nat → Int32) (dl : Nat → Nat) (b : Nat) (sv : Nat) (sz : Nat) (hX0 : InvX n cap fE sd dl b I J si) (hb0 : b + 1 < 2147483648) (hp0 : sv < n) : Met l yX8_beginStart wq_x_beginStart rm_x_beginStart (va_Pc [.ref h, .int (nI sv)] (fun U => U.heap.size = sz ∧ va_P (dC, dI) vwCl (xW h a e cI cJ cO cE L I M J n cap fE sd si sa dl) U.heap ∧ va_K (dC, dI) vwCl (xT cI cJ cO cE) U ∧ va_D (fun _ => True) (xW h a e cI cJ cO cE L I M J n cap fE sd si sa dl) ∧ pw_N U)) (va_Qv (fun (u : (Nat → Int64) × (Nat → Int32) × (Nat → Nat → Int64) × (Nat → Nat → Int32) × (Nat → Nat → Nat → Int32)) => InvX n cap fE sd dl (b + 1) u.2.1 J u.2.2.2.1 ∧ (∀ j9 : Nat, j9 ∉ ([0, 5, 6, 7] : List Nat) → u.1 j9 = L j9) ∧ (∀ j9 : Nat, j9 ∉ ([12] : List Nat) → u.2.1 j9 = I j9) ∧ (∀ j9 : Nat, j9 ∉ ([8, 9] : List Nat) → u.2.2.1 j9 = M j9) ∧ (∀ s9 q9 : Nat, q9 ∉ ([6, 7, 8, 9, 10, 11, 21, 22] : List Nat) → u.2.2.2.1 s9 q9 = si s9 q9) ∧ (∀ s9 q9 : Nat, q9 ∉ ([3] : List Nat) → u.2.2.2.2 s9 q9 = sa s9 q9) ∧ (True)) (fun (u : (Nat → Int64) × (Nat → Int32) × (Nat → Nat → Int64) × (Nat → Nat → Int32) × (Nat → Nat → Nat → Int32)) (t : State) => va_P (dC, dI) vwCl (xW h a e cI cJ cO cE u.1 u.2.1 u.2.2.1 J n cap fE sd u.2.2.2.1 u.2.2.2.2 dl) t.heap ∧ va_D (va_A (xW h a e cI cJ cO cE L I M J n cap fE sd si sa dl) sz) (xW h a e cI cJ cO cE u.1 u.2.1 u.2.2.1 J n cap fE sd u.2.2.2.1 u.2.2.2.2 dl)) (va_A (xW h a e cI cJ cO cE L I M J n cap fE sd si sa dl) sz)) 0 0 (va_A (xW h a e cI cJ cO cE L I M J n cap fE sd si sa dl) sz) := by
  have hn : n ≤ 40 := hX0.1.1
  have hX := hX0
  have hUL : ∀ j9 : Nat, j9 ∉ ([0, 5, 6, 7] : List Nat) → L j9 = L j9 := fun _ _ => rfl
  have hUI : ∀ j9 : Nat, j9 ∉ ([12] : List Nat) → I j9 = I j9 := fun _ _ => rfl
  have hUM : ∀ j9 : Nat, j9 ∉ ([8, 9] : List Nat) → M j9 = M j9 := fun _ _ => rfl
  have hUsi : ∀ s9 q9 : Nat, q9 ∉ ([6, 7, 8, 9, 10, 11, 21, 22] : List Nat) → si s9 q9 = si s9 q9 := fun _ _ _ => rfl
  have hUsa : ∀ s9 q9 : Nat, q9 ∉ ([3] : List Nat) → sa s9 q9 = sa s9 q9 := fun _ _ _ => rfl
  refine Met.ofW (cc := cX8_beginStart) (maxL := 2) (ret := none) (by decide) rfl ?_
  intro p e9 s m args below meth c s₁ B hml hv
  obtain ⟨rfl, hsz, hP, hK, hD0, hN⟩ := hv
  have hx := B.exec
  have hb := B.bytes
  have hr := B.returns
  have hts := atoms_spec (ws := wq_x_beginStart) B.pre
  have hown : s.vm.findClass RX8 = some m.cls := findClass_of_methodNamed B.named
  have hlocks := B.notSynchronized
  subst hsz
  have hD := hD0.self (sz := s.heap.size)
  generalize hAe : va_A (xW h a e cI cJ cO cE L I M J n cap fE sd si sa dl) s.heap.size = A at hD ⊢
  have hA : ∀ q : Nat, s.heap.size ≤ q → A q := fun q h => by rw [← hAe]; exact Or.inr h
  have hS : va_S A s.heap s.heap [] := va_S.rf
  have hl := lv_entry ([.ref h, .int (nI sv)]) (n := 2) (Nat.le_of_ble_eq_true rfl)
  rw [lg_entry_eq]
  generalize (lg_sl ([.ref h, .int (nI sv)]) ++ List.replicate (2 - (lg_sl ([.ref h, .int (nI sv)])).length) Slot.unset).toArray = ls at hl ⊢
  have hl : lv_has ls 2 [(0, .ref h), (1, .int (nI sv))] := hl
  refine lv_aload_n hx hb dX8_beginStart_0 rfl (lv_at hl 0 rfl) ?_
  refine lv_iload_n hx hb dX8_beginStart_1 rfl (lv_at hl 1 rfl) ?_
  have hFc := mw_free hD hS hA
  refine va_calli (va_runV (As := [.int (nI sv)]) (rest := []) ⟨hx, hb, hml, hown, hts⟩ (c_x_hasItsNeeds l dC dI h a e cI cJ cO cE L I M J n cap fE sd si sa dl (b) sv s.heap.size hX (by omega) (by omega)) (cwV 1 hts wc_x_beginStart_x_hasItsNeeds_231 rfl rfl rfl (by decide +kernel) ⟨Nat.le_of_ble_eq_true rfl, Nat.le_of_ble_eq_true rfl⟩) ⟨fun a9 U g mk q => by obtain ⟨q0, q1, qP, qK, qD, qN⟩ := q; exact ⟨q0, q1, qP, va_K.moved (u := U) (U := U.calling g mk a9) (Vm.Alike.refl U.vm) qK, qD, pw_N.same (u := U) (U := U.calling g mk a9) rfl qN⟩, va_recv hK hP (ci := 9) (q0 := 0) rfl rfl, fun U hU hW => ⟨rfl, by rw [hU], by rw [hU]; exact hP, va_K.moved hW.alike hK, hD.weaken (fun _ _ _ _ => trivial), pw_N.warm hW hN⟩⟩ rfl rfl hl.1 rfl (lv_room (Nat.le_of_ble_eq_true rfl)) dX8_beginStart_2 ⟨Nat.le_of_ble_eq_true rfl, Nat.le_of_ble_eq_true rfl⟩) hS (fun q _ h => hFc q h) hFc (fun r1 u t H1 locs ht hvm hw hB hz1 hk1 hS => ?_)
  replace hP := hB.1
  rw [ht] at hP
  replace hD : va_D A (xW h a e cI cJ cO cE L I M J n cap fE sd si sa dl) := hB.2.weaken (fun _ q _ h9 => hFc q.1 h9)
  clear hB
  generalize H1 = H at hP hS ⊢
  replace hP : va_P (dC, dI) vwCl (xW h a e cI cJ cO cE L I M J n cap fE sd si sa dl) H := hP
  have br1 := hw
  refine lv_if_ne (tgt := 17) hx hb dX8_beginStart_5 (by decide) (fun c2 => ?_) (fun c2 => ?_)
  · refine lv_aload_n hx hb dX8_beginStart_17 rfl (lv_at hl 0 rfl) ?_
    refine va_get (D := (dC, dI)) (ci := 9) (v := .ref (a 3)) (C := RX8) (T := TX8) (N := 14) hx hb hts in_x_beginStart_X8 hown hK hP 0 rfl rfl 3 (by decide) (hts (.fieldLink RX8 35 "ServiceTree" "jobs" "LServiceTree$Jobs;") (by decide +kernel)) (fun _ h9 => h9) rfl dX8_beginStart_18 ?_
    refine lv_iload_n hx hb dX8_beginStart_21 rfl (lv_at hl 1 rfl) ?_
    have hFc := mw_free hD hS hA
    refine va_callv (va_runV (As := [.int (nI sv)]) (rest := []) ⟨hx, hb, hml, hown, hts⟩ (c_x_jbegin l dC dI h a e cI cJ cO cE L I M J n cap fE sd si sa dl (b) (nI sv) H.size hX (by omega) ) (cwV 1 hts wc_x_beginStart_x_jbegin_302 rfl rfl rfl (by decide +kernel) ⟨Nat.le_of_ble_eq_true rfl, Nat.le_of_ble_eq_true rfl⟩) ⟨fun a9 U g mk q => by obtain ⟨q0, q1, qP, qK, qD, qN⟩ := q; exact ⟨q0, q1, qP, va_K.moved (u := U) (U := U.calling g mk a9) (Vm.Alike.refl U.vm) qK, qD, pw_N.same (u := U) (U := U.calling g mk a9) rfl qN⟩, va_recv hK hP (ci := 4) (q0 := 14) rfl rfl, fun U hU hW => ⟨rfl, by rw [hU], by rw [hU]; exact hP, va_K.moved hW.alike hK, hD.weaken (fun _ _ _ _ => trivial), pw_N.warm hW hN⟩⟩ rfl rfl hl.1 rfl (lv_room (Nat.le_of_ble_eq_true rfl)) dX8_beginStart_22 ⟨Nat.le_of_ble_eq_true rfl, Nat.le_of_ble_eq_true rfl⟩) hS (fun q _ h => hFc q h) hFc (fun u t H1 locs ht hvm hw hB hz1 hk1 hS => ?_)
    obtain ⟨L4, rfl⟩ : ∃ z9, z9 = u := ⟨_, rfl⟩
    replace hP := hB.1
    rw [ht] at hP
    replace hD : va_D A (xW h a e cI cJ cO cE L4 I M J n cap fE sd si sa dl) := hB.2.weaken (fun _ q _ h9 => hFc q.1 h9)
    clear hB
    generalize H1 = H at hP hS ⊢
    replace hP : va_P (dC, dI) vwCl (xW h a e cI cJ cO cE L4 I M J n cap fE sd si sa dl) H := hP
    obtain ⟨hwX, whUL, hw⟩ := hw
    replace hX : InvX n cap fE sd dl (b) I J si := hwX
    replace hUL : ∀ j9 : Nat, j9 ∉ ([0, 5, 6, 7] : List Nat) → L4 j9 = L j9 := mw_tr (by decide) whUL hUL
    refine lv_aload_n hx hb dX8_beginStart_25 rfl (lv_at hl 0 rfl) ?_
    refine lv_iload_n hx hb dX8_beginStart_26 rfl (lv_at hl 1 rfl) ?_
    refine lv_aload_n hx hb dX8_beginStart_27 rfl (lv_at hl 0 rfl) ?_
    refine va_get (D := (dC, dI)) (ci := 9) (v := .ref (a 0)) (C := RX8) (T := TX8) (N := 14) hx hb hts in_x_beginStart_X8 hown hK hP 0 rfl rfl 0 (by decide) (hts (.fieldLink RX8 10 "ServiceTree" "services" "Ljava/util/ArrayList;") (by decide +kernel)) (fun _ h9 => h9) rfl dX8_beginStart_28 ?_
    refine lv_iload_n hx hb dX8_beginStart_31 rfl (lv_at hl 1 rfl) ?_
    have hFc := mw_free hD hS hA
    refine va_callr (va_runV (As := [.int (nI sv)]) (rest := [.int (nI sv), .ref h]) ⟨hx, hb, hml, hown, hts⟩ (c_x_get l dC dI h a e cI cJ cO cE L4 I M J n cap fE sd si sa dl (b) sv H.size hX (by omega) (by omega)) (cwV 1 hts wc_x_beginStart_x_get_86 rfl rfl rfl (by decide +kernel) ⟨Nat.le_of_ble_eq_true rfl, Nat.le_of_ble_eq_true rfl⟩) ⟨fun a9 U g mk q => by obtain ⟨q0, q1, qP, qK, qD, qN⟩ := q; exact ⟨q0, q1, qP, va_K.moved (u := U) (U := U.calling g mk a9) (Vm.Alike.refl U.vm) qK, qD, pw_N.same (u := U) (U := U.calling g mk a9) rfl qN⟩, va_recv hK hP (ci := 0) (q0 := 1) rfl rfl, fun U hU hW => ⟨rfl, by rw [hU], by rw [hU]; exact hP, va_K.moved hW.alike hK, hD.weaken (fun _ _ _ _ => trivial), pw_N.warm hW hN⟩⟩ rfl rfl hl.1 rfl (lv_room (Nat.le_of_ble_eq_true rfl)) dX8_beginStart_32 ⟨Nat.le_of_ble_eq_true rfl, Nat.le_of_ble_eq_true rfl⟩) hS (fun q _ h => hFc q h) hFc (fun u r5 t H1 locs ht hvm hw hB hz1 hk1 hS => ?_)
    obtain ⟨hra, hB⟩ := hB
    replace hP := hB.1
    rw [ht] at hP
    replace hD : va_D A (xW h a e cI cJ cO cE L4 I M J n cap fE sd si sa dl) := hB.2.weaken (fun _ q _ h9 => hFc q.1 h9)
    clear hB
    generalize H1 = H at hP hS ⊢
    replace hP : va_P (dC, dI) vwCl (xW h a e cI cJ cO cE L4 I M J n cap fE sd si sa dl) H := hP
    subst hra
    refine va_castS hx hb hown (hts (.classLink RX8 65 RX7) (by decide +kernel)) (hK.1 8 _ rfl).2 (va_recv hK hP (ci := 8) (q0 := (22 + (6 * sv + 0))) rfl (xAt_0 h a e cI cJ cO cE L4 I M J n cap fE sd si sa dl (s := sv) (by omega))) dX8_beginStart_35 ?_
    have hFc := mw_free hD hS hA
    refine va_calli (va_runV (As := []) (rest := [.int (nI sv), .ref h]) ⟨hx, hb, hml, hown, hts⟩ (c_x_fss l dC dI h a e cI cJ cO cE L4 I M J n cap fE sd si sa dl (b) sv H.size hX (by omega) (by omega)) (cwV 0 hts wc_x_beginStart_x_fss_305 rfl rfl rfl (by decide +kernel) ⟨Nat.le_of_ble_eq_true rfl, Nat.le_of_ble_eq_true rfl⟩) ⟨fun a9 U g mk q => by obtain ⟨q0, q1, qP, qK, qD, qN⟩ := q; exact ⟨q0, q1, qP, va_K.moved (u := U) (U := U.calling g mk a9) (Vm.Alike.refl U.vm) qK, qD, pw_N.same (u := U) (U := U.calling g mk a9) rfl qN⟩, va_recv hK hP (ci := 8) (q0 := (22 + (6 * sv + 0))) rfl (xAt_0 h a e cI cJ cO cE L4 I M J n cap fE sd si sa dl (s := sv) (by omega)), fun U hU hW => ⟨rfl, by rw [hU], by rw [hU]; exact hP, va_K.moved hW.alike hK, hD.weaken (fun _ _ _ _ => trivial), pw_N.warm hW hN⟩⟩ rfl rfl hl.1 rfl (lv_room (Nat.le_of_ble_eq_true rfl)) dX8_beginStart_38 ⟨Nat.le_of_ble_eq_true rfl, Nat.le_of_ble_eq_true rfl⟩) hS (fun q _ h => hFc q h) hFc (fun r6 u t H1 locs ht hvm hw hB hz1 hk1 hS => ?_)
    replace hP := hB.1
    rw [ht] at hP
    replace hD : va_D A (xW h a e cI cJ cO cE L4 I M J n cap fE sd si sa dl) := hB.2.weaken (fun _ q _ h9 => hFc q.1 h9)
    clear hB
    generalize H1 = H at hP hS ⊢
    replace hP : va_P (dC, dI) vwCl (xW h a e cI cJ cO cE L4 I M J n cap fE sd si sa dl) H := hP
    obtain ⟨j7, hj7, rfl⟩ := hw
    have hFc := mw_free hD hS hA
    refine va_callv (va_runV (As := [.int (nI sv), .int (nI j7)]) (rest := []) ⟨hx, hb, hml, hown, hts⟩ (c_x_enter l dC dI h a e cI cJ cO cE L4 I M J n cap fE sd si sa dl (b) sv j7 H.size hX (by omega) (by omega) (by omega)) (cwV 2 hts wc_x_beginStart_x_enter_249 rfl rfl rfl (by decide +kernel) ⟨Nat.le_of_ble_eq_true rfl, Nat.le_of_ble_eq_true rfl⟩) ⟨fun a9 U g mk q => by obtain ⟨q0, q1, qP, qK, qD, qN⟩ := q; exact ⟨q0, q1, qP, va_K.moved (u := U) (U := U.calling g mk a9) (Vm.Alike.refl U.vm) qK, qD, pw_N.same (u := U) (U := U.calling g mk a9) rfl qN⟩, va_recv hK hP (ci := 9) (q0 := 0) rfl rfl, fun U hU hW => ⟨rfl, by rw [hU], by rw [hU]; exact hP, va_K.moved hW.alike hK, hD.weaken (fun _ _ _ _ => trivial), pw_N.warm hW hN⟩⟩ rfl rfl hl.1 rfl (lv_room (Nat.le_of_ble_eq_true rfl)) dX8_beginStart_41 ⟨Nat.le_of_ble_eq_true rfl, Nat.le_of_ble_eq_true rfl⟩) hS (fun q _ h => hFc q h) hFc (fun u t H1 locs ht hvm hw hB hz1 hk1 hS => ?_)
    obtain ⟨L9, I10, M11, si12, sa13⟩ := u
    replace hP := hB.1
    rw [ht] at hP
    replace hD : va_D A (xW h a e cI cJ cO cE L9 I10 M11 J n cap fE sd si12 sa13 dl) := hB.2.weaken (fun _ q _ h9 => hFc q.1 h9)
    clear hB
    generalize H1 = H at hP hS ⊢
    replace hP : va_P (dC, dI) vwCl (xW h a e cI cJ cO cE L9 I10 M11 J n cap fE sd si12 sa13 dl) H := hP
    obtain ⟨hwX, whUL, whUI, whUM, whUsi, whUsa, hw⟩ := hw
    replace hX : InvX n cap fE sd dl (b + 1) I10 J si12 := hwX
    replace hUL : ∀ j9 : Nat, j9 ∉ ([0, 5, 6, 7] : List Nat) → L9 j9 = L j9 := mw_tr (by decide) whUL hUL
    replace hUI : ∀ j9 : Nat, j9 ∉ ([12] : List Nat) → I10 j9 = I j9 := mw_tr (by decide) whUI hUI
    replace hUM : ∀ j9 : Nat, j9 ∉ ([8, 9] : List Nat) → M11 j9 = M j9 := mw_tr (by decide) whUM hUM
    replace hUsi : ∀ s9 q9 : Nat, q9 ∉ ([6, 7, 8, 9, 10, 11, 21, 22] : List Nat) → si12 s9 q9 = si s9 q9 := xw_tr2 (by decide) whUsi hUsi
    replace hUsa : ∀ s9 q9 : Nat, q9 ∉ ([3] : List Nat) → sa13 s9 q9 = sa s9 q9 := xw_tr2 (by decide) whUsa hUsa
    exact W.vret hx hb hr (fun t ht hW => ⟨⟨(L9, I10, M11, si12, sa13), rfl, ⟨hX.mono (by omega), hUL, hUI, hUM, hUsi, hUsa, trivial⟩, by rw [ht]; exact hP, hD⟩, hS.F ht⟩) hS.2.2 dX8_beginStart_44
  · refine lv_aload_n hx hb dX8_beginStart_8 rfl (lv_at hl 0 rfl) ?_
    refine va_get (D := (dC, dI)) (ci := 9) (v := .ref (a 3)) (C := RX8) (T := TX8) (N := 14) hx hb hts in_x_beginStart_X8 hown hK hP 0 rfl rfl 3 (by decide) (hts (.fieldLink RX8 35 "ServiceTree" "jobs" "LServiceTree$Jobs;") (by decide +kernel)) (fun _ h9 => h9) rfl dX8_beginStart_9 ?_
    refine lv_iload_n hx hb dX8_beginStart_12 rfl (lv_at hl 1 rfl) ?_
    have hFc := mw_free hD hS hA
    refine va_callv (va_runV (As := [.int (nI sv)]) (rest := []) ⟨hx, hb, hml, hown, hts⟩ (c_x_jend l dC dI h a e cI cJ cO cE L I M J n cap fE sd si sa dl (b) (nI sv) H.size hX (by omega) ) (cwV 1 hts wc_x_beginStart_x_jend_299 rfl rfl rfl (by decide +kernel) ⟨Nat.le_of_ble_eq_true rfl, Nat.le_of_ble_eq_true rfl⟩) ⟨fun a9 U g mk q => by obtain ⟨q0, q1, qP, qK, qD, qN⟩ := q; exact ⟨q0, q1, qP, va_K.moved (u := U) (U := U.calling g mk a9) (Vm.Alike.refl U.vm) qK, qD, pw_N.same (u := U) (U := U.calling g mk a9) rfl qN⟩, va_recv hK hP (ci := 4) (q0 := 14) rfl rfl, fun U hU hW => ⟨rfl, by rw [hU], by rw [hU]; exact hP, va_K.moved hW.alike hK, hD.weaken (fun _ _ _ _ => trivial), pw_N.warm hW hN⟩⟩ rfl rfl hl.1 rfl (lv_room (Nat.le_of_ble_eq_true rfl)) dX8_beginStart_13 ⟨Nat.le_of_ble_eq_true rfl, Nat.le_of_ble_eq_true rfl⟩) hS (fun q _ h => hFc q h) hFc (fun u t H1 locs ht hvm hw hB hz1 hk1 hS => ?_)
    obtain ⟨L15, rfl⟩ : ∃ z9, z9 = u := ⟨_, rfl⟩
    replace hP := hB.1
    rw [ht] at hP
    replace hD : va_D A (xW h a e cI cJ cO cE L15 I M J n cap fE sd si sa dl) := hB.2.weaken (fun _ q _ h9 => hFc q.1 h9)
    clear hB
    generalize H1 = H at hP hS ⊢
    replace hP : va_P (dC, dI) vwCl (xW h a e cI cJ cO cE L15 I M J n cap fE sd si sa dl) H := hP
    obtain ⟨hwX, whUL, hw⟩ := hw
    replace hX : InvX n cap fE sd dl (b) I J si := hwX
    replace hUL : ∀ j9 : Nat, j9 ∉ ([0, 5, 6, 7] : List Nat) → L15 j9 = L j9 := mw_tr (by decide) whUL hUL
    exact W.vret hx hb hr (fun t ht hW => ⟨⟨(L15, I, M, si, sa), rfl, ⟨hX.mono (by omega), hUL, hUI, hUM, hUsi, hUsa, trivial⟩, by rw [ht]; exact hP, hD⟩, hS.F ht⟩) hS.2.2 dX8_beginStart_16
def wq_x_beginStop : List Cond := [.code yX8_beginStop cX8_beginStop 3 none, .fieldLink RX8 10 "ServiceTree" "services" "Ljava/util/ArrayList;", .classLink RX8 65 RX7, .fieldLink RX8 35 "ServiceTree" "jobs" "LServiceTree$Jobs;", .methodLink RX8 86 yJx4a65c_get_915e3, .instanceMethod yJx4a65c_get_915e3, .selects RJx4a65c yJx4a65c_get_915e3 yJx4a65c_get_915e3, .initialized RJx4a65c, .methodLink RX8 299 yX3_end, .instanceMethod yX3_end, .selects RX3 yX3_end yX3_end, .initialized RX3, .methodLink RX8 302 yX3_begin, .instanceMethod yX3_begin, .selects RX3 yX3_begin yX3_begin, .methodLink RX8 308 yX7_firstStateOfStop, .instanceMethod yX7_firstStateOfStop, .selects RX7 yX7_firstStateOfStop yX7_firstStateOfStop, .initialized RX7, .methodLink RX8 249 yX8_enter, .instanceMethod yX8_enter, .selects RX8 yX8_enter yX8_enter, .initialized RX8] ++ (wsX70 ++ (wsX80 ++ (wq_x_get ++ (wq_x_jend ++ (wq_x_jbegin ++ (wq_x_fsp ++ (wq_x_enter)))))))
theorem in_x_beginStop_X7 : ∀ w ∈ wsX70, w ∈ wq_x_beginStop := fun _ h => List.mem_append_right _ (List.mem_append_left _ (h))
theorem in_x_beginStop_X8 : ∀ w ∈ wsX80, w ∈ wq_x_beginStop := fun _ h => List.mem_append_right _ (List.mem_append_right _ (List.mem_append_left _ (h)))
set_option maxRecDepth 20000 in
theorem wi_x_beginStop : ∀ w ∈ wq_x_beginStop, w ∈ lw_tbl := List.forall_mem_append.mpr ⟨(by decide +kernel), List.forall_mem_append.mpr ⟨inKX7, List.forall_mem_append.mpr ⟨inKX8, List.forall_mem_append.mpr ⟨wi_x_get, List.forall_mem_append.mpr ⟨wi_x_jend, List.forall_mem_append.mpr ⟨wi_x_jbegin, List.forall_mem_append.mpr ⟨wi_x_fsp, wi_x_enter⟩⟩⟩⟩⟩⟩⟩
set_option maxRecDepth 20000 in
theorem wg_x_beginStop : GoodIn wq_x_beginStop wq_x_beginStop := goodIn_sub (fun _ h => h) (by decide +kernel)
set_option maxRecDepth 20000 in
theorem wc_x_beginStop_x_get_86 : GoodIn wq_x_beginStop (wsV RX8 86 RJx4a65c yJx4a65c_get_915e3 wq_x_get) := goodIn_app (goodIn_of _ (by decide +kernel)) (fun w h => ⟨List.mem_append_right _ (List.mem_append_right _ (List.mem_append_right _ (List.mem_append_left _ (h)))), (wg_x_get w h).2⟩)
set_option maxRecDepth 20000 in
theorem wc_x_beginStop_x_jend_299 : GoodIn wq_x_beginStop (wsV RX8 299 RX3 yX3_end wq_x_jend) := goodIn_app (goodIn_of _ (by decide +kernel)) (fun w h => ⟨List.mem_append_right _ (List.mem_append_right _ (List.mem_append_right _ (List.mem_append_right _ (List.mem_append_left _ (h))))), (wg_x_jend w h).2⟩)
set_option maxRecDepth 20000 in
theorem wc_x_beginStop_x_jbegin_302 : GoodIn wq_x_beginStop (wsV RX8 302 RX3 yX3_begin wq_x_jbegin) := goodIn_app (goodIn_of _ (by decide +kernel)) (fun w h => ⟨List.mem_append_right _ (List.mem_append_right _ (List.mem_append_right _ (List.mem_append_right _ (List.mem_append_right _ (List.mem_append_left _ (h)))))), (wg_x_jbegin w h).2⟩)
set_option maxRecDepth 20000 in
theorem wc_x_beginStop_x_fsp_308 : GoodIn wq_x_beginStop (wsV RX8 308 RX7 yX7_firstStateOfStop wq_x_fsp) := goodIn_app (goodIn_of _ (by decide +kernel)) (fun w h => ⟨List.mem_append_right _ (List.mem_append_right _ (List.mem_append_right _ (List.mem_append_right _ (List.mem_append_right _ (List.mem_append_right _ (List.mem_append_left _ (h))))))), (wg_x_fsp w h).2⟩)
set_option maxRecDepth 20000 in
theorem wc_x_beginStop_x_enter_249 : GoodIn wq_x_beginStop (wsV RX8 249 RX8 yX8_enter wq_x_enter) := goodIn_app (goodIn_of _ (by decide +kernel)) (fun w h => ⟨List.mem_append_right _ (List.mem_append_right _ (List.mem_append_right _ (List.mem_append_right _ (List.mem_append_right _ (List.mem_append_right _ (List.mem_append_right _ (h))))))), (wg_x_enter w h).2⟩)
def rm_x_beginStop : Room := { frames := 4, cells := 0, slots := 0, locals := 89 }
set_option maxHeartbeats 4000000 in
set_option maxRecDepth 100000 in
theorem c_x_beginStop (l : Launch) (dC : Nat → ClassId) (dI : Nat → Nat → Nat) (h : Nat) (a : Nat → Nat) (e : Nat) (cI cJ cO cE : ClassId) (L : Nat → Int64) (I : Nat → Int32) (M : Nat → Nat → Int64) (J : Nat → Nat → Int32) (n cap : Nat) (fE : Nat → Option Nat) (sd : Nat → Nat → Nat) (si : Nat → Nat → Int32) (sa : Nat → Nat → Nat → Int32) (dl : Nat → Nat) (b : Nat) (sv : Nat) (sz : Nat) (hX0 : InvX n cap fE sd dl b I J si) (hb0 : b + 1 < 2147483648) (hp0 : sv < n) : Met l yX8_beginStop wq_x_beginStop rm_x_beginStop (va_Pc [.ref h, .int (nI sv)] (fun U => U.heap.size = sz ∧ va_P (dC, dI) vwCl (xW h a e cI cJ cO cE L I M J n cap fE sd si sa dl) U.heap ∧ va_K (dC, dI) vwCl (xT cI cJ cO cE) U ∧ va_D (fun _ => True) (xW h a e cI cJ cO cE L I M J n cap fE sd si sa dl) ∧ pw_N U)) (va_Qv (fun (u : (Nat → Int64) × (Nat → Int32) × (Nat → Nat → Int64) × (Nat → Nat → Int32) × (Nat → Nat → Nat → Int32)) => InvX n cap fE sd dl (b + 1) u.2.1 J u.2.2.2.1 ∧ (∀ j9 : Nat, j9 ∉ ([0, 5, 6, 7] : List Nat) → u.1 j9 = L j9) ∧ (∀ j9 : Nat, j9 ∉ ([12] : List Nat) → u.2.1 j9 = I j9) ∧ (∀ j9 : Nat, j9 ∉ ([8, 9] : List Nat) → u.2.2.1 j9 = M j9) ∧ (∀ s9 q9 : Nat, q9 ∉ ([6, 7, 8, 9, 10, 11, 21, 22] : List Nat) → u.2.2.2.1 s9 q9 = si s9 q9) ∧ (∀ s9 q9 : Nat, q9 ∉ ([3] : List Nat) → u.2.2.2.2 s9 q9 = sa s9 q9) ∧ (True)) (fun (u : (Nat → Int64) × (Nat → Int32) × (Nat → Nat → Int64) × (Nat → Nat → Int32) × (Nat → Nat → Nat → Int32)) (t : State) => va_P (dC, dI) vwCl (xW h a e cI cJ cO cE u.1 u.2.1 u.2.2.1 J n cap fE sd u.2.2.2.1 u.2.2.2.2 dl) t.heap ∧ va_D (va_A (xW h a e cI cJ cO cE L I M J n cap fE sd si sa dl) sz) (xW h a e cI cJ cO cE u.1 u.2.1 u.2.2.1 J n cap fE sd u.2.2.2.1 u.2.2.2.2 dl)) (va_A (xW h a e cI cJ cO cE L I M J n cap fE sd si sa dl) sz)) 0 0 (va_A (xW h a e cI cJ cO cE L I M J n cap fE sd si sa dl) sz) := by
  have hn : n ≤ 40 := hX0.1.1
  have hX := hX0
  have hUL : ∀ j9 : Nat, j9 ∉ ([0, 5, 6, 7] : List Nat) → L j9 = L j9 := fun _ _ => rfl
  have hUI : ∀ j9 : Nat, j9 ∉ ([12] : List Nat) → I j9 = I j9 := fun _ _ => rfl
  have hUM : ∀ j9 : Nat, j9 ∉ ([8, 9] : List Nat) → M j9 = M j9 := fun _ _ => rfl
  have hUsi : ∀ s9 q9 : Nat, q9 ∉ ([6, 7, 8, 9, 10, 11, 21, 22] : List Nat) → si s9 q9 = si s9 q9 := fun _ _ _ => rfl
  have hUsa : ∀ s9 q9 : Nat, q9 ∉ ([3] : List Nat) → sa s9 q9 = sa s9 q9 := fun _ _ _ => rfl
  refine Met.ofW (cc := cX8_beginStop) (maxL := 3) (ret := none) (by decide) rfl ?_
  intro p e9 s m args below meth c s₁ B hml hv
  obtain ⟨rfl, hsz, hP, hK, hD0, hN⟩ := hv
  have hx := B.exec
  have hb := B.bytes
  have hr := B.returns
  have hts := atoms_spec (ws := wq_x_beginStop) B.pre
  have hown : s.vm.findClass RX8 = some m.cls := findClass_of_methodNamed B.named
  have hlocks := B.notSynchronized
  subst hsz
  have hD := hD0.self (sz := s.heap.size)
  generalize hAe : va_A (xW h a e cI cJ cO cE L I M J n cap fE sd si sa dl) s.heap.size = A at hD ⊢
  have hA : ∀ q : Nat, s.heap.size ≤ q → A q := fun q h => by rw [← hAe]; exact Or.inr h
  have hS : va_S A s.heap s.heap [] := va_S.rf
  have hl := lv_entry ([.ref h, .int (nI sv)]) (n := 3) (Nat.le_of_ble_eq_true rfl)
  rw [lg_entry_eq]
  generalize (lg_sl ([.ref h, .int (nI sv)]) ++ List.replicate (3 - (lg_sl ([.ref h, .int (nI sv)])).length) Slot.unset).toArray = ls at hl ⊢
  have hl : lv_has ls 3 [(0, .ref h), (1, .int (nI sv))] := hl
  refine lv_aload_n hx hb dX8_beginStop_0 rfl (lv_at hl 0 rfl) ?_
  refine va_get (D := (dC, dI)) (ci := 9) (v := .ref (a 0)) (C := RX8) (T := TX8) (N := 14) hx hb hts in_x_beginStop_X8 hown hK hP 0 rfl rfl 0 (by decide) (hts (.fieldLink RX8 10 "ServiceTree" "services" "Ljava/util/ArrayList;") (by decide +kernel)) (fun _ h9 => h9) rfl dX8_beginStop_1 ?_
  refine lv_iload_n hx hb dX8_beginStop_4 rfl (lv_at hl 1 rfl) ?_
  have hFc := mw_free hD hS hA
  refine va_callr (va_runV (As := [.int (nI sv)]) (rest := []) ⟨hx, hb, hml, hown, hts⟩ (c_x_get l dC dI h a e cI cJ cO cE L I M J n cap fE sd si sa dl (b) sv s.heap.size hX (by omega) (by omega)) (cwV 1 hts wc_x_beginStop_x_get_86 rfl rfl rfl (by decide +kernel) ⟨Nat.le_of_ble_eq_true rfl, Nat.le_of_ble_eq_true rfl⟩) ⟨fun a9 U g mk q => by obtain ⟨q0, q1, qP, qK, qD, qN⟩ := q; exact ⟨q0, q1, qP, va_K.moved (u := U) (U := U.calling g mk a9) (Vm.Alike.refl U.vm) qK, qD, pw_N.same (u := U) (U := U.calling g mk a9) rfl qN⟩, va_recv hK hP (ci := 0) (q0 := 1) rfl rfl, fun U hU hW => ⟨rfl, by rw [hU], by rw [hU]; exact hP, va_K.moved hW.alike hK, hD.weaken (fun _ _ _ _ => trivial), pw_N.warm hW hN⟩⟩ rfl rfl hl.1 rfl (lv_room (Nat.le_of_ble_eq_true rfl)) dX8_beginStop_5 ⟨Nat.le_of_ble_eq_true rfl, Nat.le_of_ble_eq_true rfl⟩) hS (fun q _ h => hFc q h) hFc (fun u r1 t H1 locs ht hvm hw hB hz1 hk1 hS => ?_)
  obtain ⟨hra, hB⟩ := hB
  replace hP := hB.1
  rw [ht] at hP
  replace hD : va_D A (xW h a e cI cJ cO cE L I M J n cap fE sd si sa dl) := hB.2.weaken (fun _ q _ h9 => hFc q.1 h9)
  clear hB
  generalize H1 = H at hP hS ⊢
  replace hP : va_P (dC, dI) vwCl (xW h a e cI cJ cO cE L I M J n cap fE sd si sa dl) H := hP
  subst hra
  refine va_castS hx hb hown (hts (.classLink RX8 65 RX7) (by decide +kernel)) (hK.1 8 _ rfl).2 (va_recv hK hP (ci := 8) (q0 := (22 + (6 * sv + 0))) rfl (xAt_0 h a e cI cJ cO cE L I M J n cap fE sd si sa dl (s := sv) (by omega))) dX8_beginStop_8 ?_
  refine lv_astore_n (lv' := [(2, .ref (sd sv 0)), (0, .ref h), (1, .int (nI sv))]) hx hb dX8_beginStop_11 rfl hl (by decide) rfl (fun ls hl => ?_)
  refine lv_aload_n hx hb dX8_beginStop_12 rfl (lv_at hl 0 rfl) ?_
  refine va_getN (D := (dC, dI)) (ci := 8) (v := .int (si sv 6)) (C := RX7) (T := TX7) (N := 12) hx hb hts in_x_beginStop_X7 hown hK hP (22 + (6 * sv + 0)) (xAt_0 h a e cI cJ cO cE L I M J n cap fE sd si sa dl (s := sv) (by omega)) rfl 6 (by decide) (va_Nw.use rfl (hN (.fieldLinkNest RX8 162 "ServiceTree$Service" "state" "I" "ServiceTree") (by decide +kernel))) (fun _ h9 => h9) rfl dX8_beginStop_13 ?_
  obtain ⟨z2, hz2, ez2⟩ := hX.2.2.2.1 sv
  refine p1_topr (v := .int (nI z2)) (congrArg Value.int ez2) ?_
  refine lv_if_eq (tgt := 27) hx hb dX8_beginStop_16 (by decide) (fun c3 => ?_) (fun c3 => ?_)
  · replace c3 : z2 = 0 := (nI_eq (a := z2) (b := 0) (by omega) (by omega)).mp c3
    refine lv_aload_n hx hb dX8_beginStop_27 rfl (lv_at hl 1 rfl) ?_
    refine va_get (D := (dC, dI)) (ci := 9) (v := .ref (a 3)) (C := RX8) (T := TX8) (N := 14) hx hb hts in_x_beginStop_X8 hown hK hP 0 rfl rfl 3 (by decide) (hts (.fieldLink RX8 35 "ServiceTree" "jobs" "LServiceTree$Jobs;") (by decide +kernel)) (fun _ h9 => h9) rfl dX8_beginStop_28 ?_
    refine lv_iload_n hx hb dX8_beginStop_31 rfl (lv_at hl 2 rfl) ?_
    have hFc := mw_free hD hS hA
    refine va_callv (va_runV (As := [.int (nI sv)]) (rest := []) ⟨hx, hb, hml, hown, hts⟩ (c_x_jend l dC dI h a e cI cJ cO cE L I M J n cap fE sd si sa dl (b) (nI sv) H.size hX (by omega) ) (cwV 1 hts wc_x_beginStop_x_jend_299 rfl rfl rfl (by decide +kernel) ⟨Nat.le_of_ble_eq_true rfl, Nat.le_of_ble_eq_true rfl⟩) ⟨fun a9 U g mk q => by obtain ⟨q0, q1, qP, qK, qD, qN⟩ := q; exact ⟨q0, q1, qP, va_K.moved (u := U) (U := U.calling g mk a9) (Vm.Alike.refl U.vm) qK, qD, pw_N.same (u := U) (U := U.calling g mk a9) rfl qN⟩, va_recv hK hP (ci := 4) (q0 := 14) rfl rfl, fun U hU hW => ⟨rfl, by rw [hU], by rw [hU]; exact hP, va_K.moved hW.alike hK, hD.weaken (fun _ _ _ _ => trivial), pw_N.warm hW hN⟩⟩ rfl rfl hl.1 rfl (lv_room (Nat.le_of_ble_eq_true rfl)) dX8_beginStop_32 ⟨Nat.le_of_ble_eq_true rfl, Nat.le_of_ble_eq_true rfl⟩) hS (fun q _ h => hFc q h) hFc (fun u t H1 locs ht hvm hw hB hz1 hk1 hS => ?_)
    obtain ⟨L5, rfl⟩ : ∃ z9, z9 = u := ⟨_, rfl⟩
    replace hP := hB.1
    rw [ht] at hP
    replace hD : va_D A (xW h a e cI cJ cO cE L5 I M J n cap fE sd si sa dl) := hB.2.weaken (fun _ q _ h9 => hFc q.1 h9)
    clear hB
    generalize H1 = H at hP hS ⊢
    replace hP : va_P (dC, dI) vwCl (xW h a e cI cJ cO cE L5 I M J n cap fE sd si sa dl) H := hP
    obtain ⟨hwX, whUL, hw⟩ := hw
    replace hX : InvX n cap fE sd dl (b) I J si := hwX
    replace hUL : ∀ j9 : Nat, j9 ∉ ([0, 5, 6, 7] : List Nat) → L5 j9 = L j9 := mw_tr (by decide) whUL hUL
    exact W.vret hx hb hr (fun t ht hW => ⟨⟨(L5, I, M, si, sa), rfl, ⟨hX.mono (by omega), hUL, hUI, hUM, hUsi, hUsa, trivial⟩, by rw [ht]; exact hP, hD⟩, hS.F ht⟩) hS.2.2 dX8_beginStop_35
  · replace c3 : ¬ (z2 = 0) := fun q9 => c3 ((nI_eq (a := z2) (b := 0) (by omega) (by omega)).mpr q9)
    refine lv_aload_n hx hb dX8_beginStop_19 rfl (lv_at hl 0 rfl) ?_
    refine va_getN (D := (dC, dI)) (ci := 8) (v := .int (si sv 6)) (C := RX7) (T := TX7) (N := 12) hx hb hts in_x_beginStop_X7 hown hK hP (22 + (6 * sv + 0)) (xAt_0 h a e cI cJ cO cE L I M J n cap fE sd si sa dl (s := sv) (by omega)) rfl 6 (by decide) (va_Nw.use rfl (hN (.fieldLinkNest RX8 162 "ServiceTree$Service" "state" "I" "ServiceTree") (by decide +kernel))) (fun _ h9 => h9) rfl dX8_beginStop_20 ?_
    refine p1_topr (v := .int (nI z2)) (congrArg Value.int ez2) ?_
    refine lv_iconst (v := 4) hx hb dX8_beginStop_23 (by decide) ?_
    refine lv_icmp_ne (tgt := 36) hx hb dX8_beginStop_24 (by decide) (fun c6 => ?_) (fun c6 => ?_)
    · replace c6 : ¬ (z2 = 4) := fun q9 => c6 ((nI_eq (a := z2) (b := 4) (by omega) (by omega)).mpr q9)
      refine lv_aload_n hx hb dX8_beginStop_36 rfl (lv_at hl 1 rfl) ?_
      refine va_get (D := (dC, dI)) (ci := 9) (v := .ref (a 3)) (C := RX8) (T := TX8) (N := 14) hx hb hts in_x_beginStop_X8 hown hK hP 0 rfl rfl 3 (by decide) (hts (.fieldLink RX8 35 "ServiceTree" "jobs" "LServiceTree$Jobs;") (by decide +kernel)) (fun _ h9 => h9) rfl dX8_beginStop_37 ?_
      refine lv_iload_n hx hb dX8_beginStop_40 rfl (lv_at hl 2 rfl) ?_
      have hFc := mw_free hD hS hA
      refine va_callv (va_runV (As := [.int (nI sv)]) (rest := []) ⟨hx, hb, hml, hown, hts⟩ (c_x_jbegin l dC dI h a e cI cJ cO cE L I M J n cap fE sd si sa dl (b) (nI sv) H.size hX (by omega) ) (cwV 1 hts wc_x_beginStop_x_jbegin_302 rfl rfl rfl (by decide +kernel) ⟨Nat.le_of_ble_eq_true rfl, Nat.le_of_ble_eq_true rfl⟩) ⟨fun a9 U g mk q => by obtain ⟨q0, q1, qP, qK, qD, qN⟩ := q; exact ⟨q0, q1, qP, va_K.moved (u := U) (U := U.calling g mk a9) (Vm.Alike.refl U.vm) qK, qD, pw_N.same (u := U) (U := U.calling g mk a9) rfl qN⟩, va_recv hK hP (ci := 4) (q0 := 14) rfl rfl, fun U hU hW => ⟨rfl, by rw [hU], by rw [hU]; exact hP, va_K.moved hW.alike hK, hD.weaken (fun _ _ _ _ => trivial), pw_N.warm hW hN⟩⟩ rfl rfl hl.1 rfl (lv_room (Nat.le_of_ble_eq_true rfl)) dX8_beginStop_41 ⟨Nat.le_of_ble_eq_true rfl, Nat.le_of_ble_eq_true rfl⟩) hS (fun q _ h => hFc q h) hFc (fun u t H1 locs ht hvm hw hB hz1 hk1 hS => ?_)
      obtain ⟨L8, rfl⟩ : ∃ z9, z9 = u := ⟨_, rfl⟩
      replace hP := hB.1
      rw [ht] at hP
      replace hD : va_D A (xW h a e cI cJ cO cE L8 I M J n cap fE sd si sa dl) := hB.2.weaken (fun _ q _ h9 => hFc q.1 h9)
      clear hB
      generalize H1 = H at hP hS ⊢
      replace hP : va_P (dC, dI) vwCl (xW h a e cI cJ cO cE L8 I M J n cap fE sd si sa dl) H := hP
      obtain ⟨hwX, whUL, hw⟩ := hw
      replace hX : InvX n cap fE sd dl (b) I J si := hwX
      replace hUL : ∀ j9 : Nat, j9 ∉ ([0, 5, 6, 7] : List Nat) → L8 j9 = L j9 := mw_tr (by decide) whUL hUL
      refine lv_aload_n hx hb dX8_beginStop_44 rfl (lv_at hl 0 rfl) ?_
      refine va_getN (D := (dC, dI)) (ci := 8) (v := .int (si sv 6)) (C := RX7) (T := TX7) (N := 12) hx hb hts in_x_beginStop_X7 hown hK hP (22 + (6 * sv + 0)) (xAt_0 h a e cI cJ cO cE L8 I M J n cap fE sd si sa dl (s := sv) (by omega)) rfl 6 (by decide) (va_Nw.use rfl (hN (.fieldLinkNest RX8 162 "ServiceTree$Service" "state" "I" "ServiceTree") (by decide +kernel))) (fun _ h9 => h9) rfl dX8_beginStop_45 ?_
      refine p1_topr (v := .int (nI z2)) (congrArg Value.int ez2) ?_
      refine lv_iconst (v := 3) hx hb dX8_beginStop_48 (by decide) ?_
      refine lv_icmp_ne (tgt := 53) hx hb dX8_beginStop_49 (by decide) (fun c9 => ?_) (fun c9 => ?_)
      · replace c9 : ¬ (z2 = 3) := fun q9 => c9 ((nI_eq (a := z2) (b := 3) (by omega) (by omega)).mpr q9)
        refine lv_aload_n hx hb dX8_beginStop_53 rfl (lv_at hl 1 rfl) ?_
        refine lv_iload_n hx hb dX8_beginStop_54 rfl (lv_at hl 2 rfl) ?_
        refine lv_aload_n hx hb dX8_beginStop_55 rfl (lv_at hl 0 rfl) ?_
        refine va_getN (D := (dC, dI)) (ci := 8) (v := .int (si sv 6)) (C := RX7) (T := TX7) (N := 12) hx hb hts in_x_beginStop_X7 hown hK hP (22 + (6 * sv + 0)) (xAt_0 h a e cI cJ cO cE L8 I M J n cap fE sd si sa dl (s := sv) (by omega)) rfl 6 (by decide) (va_Nw.use rfl (hN (.fieldLinkNest RX8 162 "ServiceTree$Service" "state" "I" "ServiceTree") (by decide +kernel))) (fun _ h9 => h9) rfl dX8_beginStop_56 ?_
        refine p1_topr (v := .int (nI z2)) (congrArg Value.int ez2) ?_
        refine lv_iconst (v := 5) hx hb dX8_beginStop_59 (by decide) ?_
        refine lv_icmp_ne (tgt := 67) hx hb dX8_beginStop_60 (by decide) (fun c10 => ?_) (fun c10 => ?_)
        · replace c10 : ¬ (z2 = 5) := fun q9 => c10 ((nI_eq (a := z2) (b := 5) (by omega) (by omega)).mpr q9)
          refine lv_aload_n hx hb dX8_beginStop_67 rfl (lv_at hl 0 rfl) ?_
          have hFc := mw_free hD hS hA
          refine va_calli (va_runV (As := []) (rest := [.int (nI sv), .ref h]) ⟨hx, hb, hml, hown, hts⟩ (c_x_fsp l dC dI h a e cI cJ cO cE L8 I M J n cap fE sd si sa dl (b) sv H.size hX (by omega) (by omega)) (cwV 0 hts wc_x_beginStop_x_fsp_308 rfl rfl rfl (by decide +kernel) ⟨Nat.le_of_ble_eq_true rfl, Nat.le_of_ble_eq_true rfl⟩) ⟨fun a9 U g mk q => by obtain ⟨q0, q1, qP, qK, qD, qN⟩ := q; exact ⟨q0, q1, qP, va_K.moved (u := U) (U := U.calling g mk a9) (Vm.Alike.refl U.vm) qK, qD, pw_N.same (u := U) (U := U.calling g mk a9) rfl qN⟩, va_recv hK hP (ci := 8) (q0 := (22 + (6 * sv + 0))) rfl (xAt_0 h a e cI cJ cO cE L8 I M J n cap fE sd si sa dl (s := sv) (by omega)), fun U hU hW => ⟨rfl, by rw [hU], by rw [hU]; exact hP, va_K.moved hW.alike hK, hD.weaken (fun _ _ _ _ => trivial), pw_N.warm hW hN⟩⟩ rfl rfl hl.1 rfl (lv_room (Nat.le_of_ble_eq_true rfl)) dX8_beginStop_68 ⟨Nat.le_of_ble_eq_true rfl, Nat.le_of_ble_eq_true rfl⟩) hS (fun q _ h => hFc q h) hFc (fun r11 u t H1 locs ht hvm hw hB hz1 hk1 hS => ?_)
          replace hP := hB.1
          rw [ht] at hP
          replace hD : va_D A (xW h a e cI cJ cO cE L8 I M J n cap fE sd si sa dl) := hB.2.weaken (fun _ q _ h9 => hFc q.1 h9)
          clear hB
          generalize H1 = H at hP hS ⊢
          replace hP : va_P (dC, dI) vwCl (xW h a e cI cJ cO cE L8 I M J n cap fE sd si sa dl) H := hP
          obtain ⟨j12, hj12, rfl⟩ := hw
          have hFc := mw_free hD hS hA
          refine va_callv (va_runV (As := [.int (nI sv), .int (nI j12)]) (rest := []) ⟨hx, hb, hml, hown, hts⟩ (c_x_enter l dC dI h a e cI cJ cO cE L8 I M J n cap fE sd si sa dl (b) sv j12 H.size hX (by omega) (by omega) (by omega)) (cwV 2 hts wc_x_beginStop_x_enter_249 rfl rfl rfl (by decide +kernel) ⟨Nat.le_of_ble_eq_true rfl, Nat.le_of_ble_eq_true rfl⟩) ⟨fun a9 U g mk q => by obtain ⟨q0, q1, qP, qK, qD, qN⟩ := q; exact ⟨q0, q1, qP, va_K.moved (u := U) (U := U.calling g mk a9) (Vm.Alike.refl U.vm) qK, qD, pw_N.same (u := U) (U := U.calling g mk a9) rfl qN⟩, va_recv hK hP (ci := 9) (q0 := 0) rfl rfl, fun U hU hW => ⟨rfl, by rw [hU], by rw [hU]; exact hP, va_K.moved hW.alike hK, hD.weaken (fun _ _ _ _ => trivial), pw_N.warm hW hN⟩⟩ rfl rfl hl.1 rfl (lv_room (Nat.le_of_ble_eq_true rfl)) dX8_beginStop_71 ⟨Nat.le_of_ble_eq_true rfl, Nat.le_of_ble_eq_true rfl⟩) hS (fun q _ h => hFc q h) hFc (fun u t H1 locs ht hvm hw hB hz1 hk1 hS => ?_)
          obtain ⟨L14, I15, M16, si17, sa18⟩ := u
          replace hP := hB.1
          rw [ht] at hP
          replace hD : va_D A (xW h a e cI cJ cO cE L14 I15 M16 J n cap fE sd si17 sa18 dl) := hB.2.weaken (fun _ q _ h9 => hFc q.1 h9)
          clear hB
          generalize H1 = H at hP hS ⊢
          replace hP : va_P (dC, dI) vwCl (xW h a e cI cJ cO cE L14 I15 M16 J n cap fE sd si17 sa18 dl) H := hP
          obtain ⟨hwX, whUL, whUI, whUM, whUsi, whUsa, hw⟩ := hw
          replace hX : InvX n cap fE sd dl (b + 1) I15 J si17 := hwX
          replace hUL : ∀ j9 : Nat, j9 ∉ ([0, 5, 6, 7] : List Nat) → L14 j9 = L j9 := mw_tr (by decide) whUL hUL
          replace hUI : ∀ j9 : Nat, j9 ∉ ([12] : List Nat) → I15 j9 = I j9 := mw_tr (by decide) whUI hUI
          replace hUM : ∀ j9 : Nat, j9 ∉ ([8, 9] : List Nat) → M16 j9 = M j9 := mw_tr (by decide) whUM hUM
          replace hUsi : ∀ s9 q9 : Nat, q9 ∉ ([6, 7, 8, 9, 10, 11, 21, 22] : List Nat) → si17 s9 q9 = si s9 q9 := xw_tr2 (by decide) whUsi hUsi
          replace hUsa : ∀ s9 q9 : Nat, q9 ∉ ([3] : List Nat) → sa18 s9 q9 = sa s9 q9 := xw_tr2 (by decide) whUsa hUsa
          exact W.vret hx hb hr (fun t ht hW => ⟨⟨(L14, I15, M16, si17, sa18), rfl, ⟨hX.mono (by omega), hUL, hUI, hUM, hUsi, hUsa, trivial⟩, by rw [ht]; exact hP, hD⟩, hS.F ht⟩) hS.2.2 dX8_beginStop_74
        · replace c10 : z2 = 5 := (nI_eq (a := z2) (b := 5) (by omega) (by omega)).mp c10
          refine lv_iconst (v := 0) hx hb dX8_beginStop_63 (by decide) ?_
          refine lv_goto (tgt := 71) hx hb dX8_beginStop_64 (by decide) ?_
          have hFc := mw_free hD hS hA
          refine va_callv (va_runV (As := [.int (nI sv), .int 0]) (rest := []) ⟨hx, hb, hml, hown, hts⟩ (c_x_enter l dC dI h a e cI cJ cO cE L8 I M J n cap fE sd si sa dl (b) sv 0 H.size hX (by omega) (by omega) (by omega)) (cwV 2 hts wc_x_beginStop_x_enter_249 rfl rfl rfl (by decide +kernel) ⟨Nat.le_of_ble_eq_true rfl, Nat.le_of_ble_eq_true rfl⟩) ⟨fun a9 U g mk q => by obtain ⟨q0, q1, qP, qK, qD, qN⟩ := q; exact ⟨q0, q1, qP, va_K.moved (u := U) (U := U.calling g mk a9) (Vm.Alike.refl U.vm) qK, qD, pw_N.same (u := U) (U := U.calling g mk a9) rfl qN⟩, va_recv hK hP (ci := 9) (q0 := 0) rfl rfl, fun U hU hW => ⟨rfl, by rw [hU], by rw [hU]; exact hP, va_K.moved hW.alike hK, hD.weaken (fun _ _ _ _ => trivial), pw_N.warm hW hN⟩⟩ rfl rfl hl.1 rfl (lv_room (Nat.le_of_ble_eq_true rfl)) dX8_beginStop_71 ⟨Nat.le_of_ble_eq_true rfl, Nat.le_of_ble_eq_true rfl⟩) hS (fun q _ h => hFc q h) hFc (fun u t H1 locs ht hvm hw hB hz1 hk1 hS => ?_)
          obtain ⟨L20, I21, M22, si23, sa24⟩ := u
          replace hP := hB.1
          rw [ht] at hP
          replace hD : va_D A (xW h a e cI cJ cO cE L20 I21 M22 J n cap fE sd si23 sa24 dl) := hB.2.weaken (fun _ q _ h9 => hFc q.1 h9)
          clear hB
          generalize H1 = H at hP hS ⊢
          replace hP : va_P (dC, dI) vwCl (xW h a e cI cJ cO cE L20 I21 M22 J n cap fE sd si23 sa24 dl) H := hP
          obtain ⟨hwX, whUL, whUI, whUM, whUsi, whUsa, hw⟩ := hw
          replace hX : InvX n cap fE sd dl (b + 1) I21 J si23 := hwX
          replace hUL : ∀ j9 : Nat, j9 ∉ ([0, 5, 6, 7] : List Nat) → L20 j9 = L j9 := mw_tr (by decide) whUL hUL
          replace hUI : ∀ j9 : Nat, j9 ∉ ([12] : List Nat) → I21 j9 = I j9 := mw_tr (by decide) whUI hUI
          replace hUM : ∀ j9 : Nat, j9 ∉ ([8, 9] : List Nat) → M22 j9 = M j9 := mw_tr (by decide) whUM hUM
          replace hUsi : ∀ s9 q9 : Nat, q9 ∉ ([6, 7, 8, 9, 10, 11, 21, 22] : List Nat) → si23 s9 q9 = si s9 q9 := xw_tr2 (by decide) whUsi hUsi
          replace hUsa : ∀ s9 q9 : Nat, q9 ∉ ([3] : List Nat) → sa24 s9 q9 = sa s9 q9 := xw_tr2 (by decide) whUsa hUsa
          exact W.vret hx hb hr (fun t ht hW => ⟨⟨(L20, I21, M22, si23, sa24), rfl, ⟨hX.mono (by omega), hUL, hUI, hUM, hUsi, hUsa, trivial⟩, by rw [ht]; exact hP, hD⟩, hS.F ht⟩) hS.2.2 dX8_beginStop_74
      · replace c9 : z2 = 3 := (nI_eq (a := z2) (b := 3) (by omega) (by omega)).mp c9
        exact W.vret hx hb hr (fun t ht hW => ⟨⟨(L8, I, M, si, sa), rfl, ⟨hX.mono (by omega), hUL, hUI, hUM, hUsi, hUsa, trivial⟩, by rw [ht]; exact hP, hD⟩, hS.F ht⟩) hS.2.2 dX8_beginStop_52
    · replace c6 : z2 = 4 := (nI_eq (a := z2) (b := 4) (by omega) (by omega)).mp c6
      refine lv_aload_n hx hb dX8_beginStop_27 rfl (lv_at hl 1 rfl) ?_
      refine va_get (D := (dC, dI)) (ci := 9) (v := .ref (a 3)) (C := RX8) (T := TX8) (N := 14) hx hb hts in_x_beginStop_X8 hown hK hP 0 rfl rfl 3 (by decide) (hts (.fieldLink RX8 35 "ServiceTree" "jobs" "LServiceTree$Jobs;") (by decide +kernel)) (fun _ h9 => h9) rfl dX8_beginStop_28 ?_
      refine lv_iload_n hx hb dX8_beginStop_31 rfl (lv_at hl 2 rfl) ?_
      have hFc := mw_free hD hS hA
      refine va_callv (va_runV (As := [.int (nI sv)]) (rest := []) ⟨hx, hb, hml, hown, hts⟩ (c_x_jend l dC dI h a e cI cJ cO cE L I M J n cap fE sd si sa dl (b) (nI sv) H.size hX (by omega) ) (cwV 1 hts wc_x_beginStop_x_jend_299 rfl rfl rfl (by decide +kernel) ⟨Nat.le_of_ble_eq_true rfl, Nat.le_of_ble_eq_true rfl⟩) ⟨fun a9 U g mk q => by obtain ⟨q0, q1, qP, qK, qD, qN⟩ := q; exact ⟨q0, q1, qP, va_K.moved (u := U) (U := U.calling g mk a9) (Vm.Alike.refl U.vm) qK, qD, pw_N.same (u := U) (U := U.calling g mk a9) rfl qN⟩, va_recv hK hP (ci := 4) (q0 := 14) rfl rfl, fun U hU hW => ⟨rfl, by rw [hU], by rw [hU]; exact hP, va_K.moved hW.alike hK, hD.weaken (fun _ _ _ _ => trivial), pw_N.warm hW hN⟩⟩ rfl rfl hl.1 rfl (lv_room (Nat.le_of_ble_eq_true rfl)) dX8_beginStop_32 ⟨Nat.le_of_ble_eq_true rfl, Nat.le_of_ble_eq_true rfl⟩) hS (fun q _ h => hFc q h) hFc (fun u t H1 locs ht hvm hw hB hz1 hk1 hS => ?_)
      obtain ⟨L26, rfl⟩ : ∃ z9, z9 = u := ⟨_, rfl⟩
      replace hP := hB.1
      rw [ht] at hP
      replace hD : va_D A (xW h a e cI cJ cO cE L26 I M J n cap fE sd si sa dl) := hB.2.weaken (fun _ q _ h9 => hFc q.1 h9)
      clear hB
      generalize H1 = H at hP hS ⊢
      replace hP : va_P (dC, dI) vwCl (xW h a e cI cJ cO cE L26 I M J n cap fE sd si sa dl) H := hP
      obtain ⟨hwX, whUL, hw⟩ := hw
      replace hX : InvX n cap fE sd dl (b) I J si := hwX
      replace hUL : ∀ j9 : Nat, j9 ∉ ([0, 5, 6, 7] : List Nat) → L26 j9 = L j9 := mw_tr (by decide) whUL hUL
      exact W.vret hx hb hr (fun t ht hW => ⟨⟨(L26, I, M, si, sa), rfl, ⟨hX.mono (by omega), hUL, hUI, hUM, hUsi, hUsa, trivial⟩, by rw [ht]; exact hP, hD⟩, hS.F ht⟩) hS.2.2 dX8_beginStop_35
def wq_x_beginJobs : List Cond := [.code yX8_beginJobs cX8_beginJobs 3 none, .fieldLink RX8 35 "ServiceTree" "jobs" "LServiceTree$Jobs;", .methodLink RX8 110 yX3_left, .instanceMethod yX3_left, .selects RX3 yX3_left yX3_left, .initialized RX3, .methodLink RX8 289 yX3_leastReady, .instanceMethod yX3_leastReady, .selects RX3 yX3_leastReady yX3_leastReady, .methodLink RX8 82 yX8_exists, .instanceMethod yX8_exists, .selects RX8 yX8_exists yX8_exists, .initialized RX8, .methodLink RX8 114 yX8_holds, .static yX8_holds, .methodLink RX8 296 yX8_beginStop, .instanceMethod yX8_beginStop, .selects RX8 yX8_beginStop yX8_beginStop, .methodLink RX8 293 yX8_beginStart, .instanceMethod yX8_beginStart, .selects RX8 yX8_beginStart yX8_beginStart] ++ (wsX30 ++ (wsX80 ++ (wq_x_left ++ (wq_x_leastReady ++ (wq_x_exists ++ (wq_x_holds ++ (wq_x_beginStop ++ (wq_x_beginStart))))))))
theorem in_x_beginJobs_X3 : ∀ w ∈ wsX30, w ∈ wq_x_beginJobs := fun _ h => List.mem_append_right _ (List.mem_append_left _ (h))
theorem in_x_beginJobs_X8 : ∀ w ∈ wsX80, w ∈ wq_x_beginJobs := fun _ h => List.mem_append_right _ (List.mem_append_right _ (List.mem_append_left _ (h)))
set_option maxRecDepth 20000 in
theorem wi_x_beginJobs : ∀ w ∈ wq_x_beginJobs, w ∈ lw_tbl := List.forall_mem_append.mpr ⟨(by decide +kernel), List.forall_mem_append.mpr ⟨inKX3, List.forall_mem_append.mpr ⟨inKX8, List.forall_mem_append.mpr ⟨wi_x_left, List.forall_mem_append.mpr ⟨wi_x_leastReady, List.forall_mem_append.mpr ⟨wi_x_exists, List.forall_mem_append.mpr ⟨wi_x_holds, List.forall_mem_append.mpr ⟨wi_x_beginStop, wi_x_beginStart⟩⟩⟩⟩⟩⟩⟩⟩
set_option maxRecDepth 20000 in
theorem wg_x_beginJobs : GoodIn wq_x_beginJobs wq_x_beginJobs := goodIn_sub (fun _ h => h) (by decide +kernel)
set_option maxRecDepth 20000 in
theorem wc_x_beginJobs_x_left_110 : GoodIn wq_x_beginJobs (wsV RX8 110 RX3 yX3_left wq_x_left) := goodIn_app (goodIn_of _ (by decide +kernel)) (fun w h => ⟨List.mem_append_right _ (List.mem_append_right _ (List.mem_append_right _ (List.mem_append_left _ (h)))), (wg_x_left w h).2⟩)
set_option maxRecDepth 20000 in
theorem wc_x_beginJobs_x_leastReady_289 : GoodIn wq_x_beginJobs (wsV RX8 289 RX3 yX3_leastReady wq_x_leastReady) := goodIn_app (goodIn_of _ (by decide +kernel)) (fun w h => ⟨List.mem_append_right _ (List.mem_append_right _ (List.mem_append_right _ (List.mem_append_right _ (List.mem_append_left _ (h))))), (wg_x_leastReady w h).2⟩)
set_option maxRecDepth 20000 in
theorem wc_x_beginJobs_x_exists_82 : GoodIn wq_x_beginJobs (wsV RX8 82 RX8 yX8_exists wq_x_exists) := goodIn_app (goodIn_of _ (by decide +kernel)) (fun w h => ⟨List.mem_append_right _ (List.mem_append_right _ (List.mem_append_right _ (List.mem_append_right _ (List.mem_append_right _ (List.mem_append_left _ (h)))))), (wg_x_exists w h).2⟩)
set_option maxRecDepth 20000 in
theorem wc_x_beginJobs_x_holds_114 : GoodIn wq_x_beginJobs (va_wsS RX8 114 yX8_holds wq_x_holds) := goodIn_app (goodIn_of _ (by decide +kernel)) (fun w h => ⟨List.mem_append_right _ (List.mem_append_right _ (List.mem_append_right _ (List.mem_append_right _ (List.mem_append_right _ (List.mem_append_right _ (List.mem_append_left _ (h))))))), (wg_x_holds w h).2⟩)
set_option maxRecDepth 20000 in
theorem wc_x_beginJobs_x_beginStop_296 : GoodIn wq_x_beginJobs (wsV RX8 296 RX8 yX8_beginStop wq_x_beginStop) := goodIn_app (goodIn_of _ (by decide +kernel)) (fun w h => ⟨List.mem_append_right _ (List.mem_append_right _ (List.mem_append_right _ (List.mem_append_right _ (List.mem_append_right _ (List.mem_append_right _ (List.mem_append_right _ (List.mem_append_left _ (h)))))))), (wg_x_beginStop w h).2⟩)
set_option maxRecDepth 20000 in
theorem wc_x_beginJobs_x_beginStart_293 : GoodIn wq_x_beginJobs (wsV RX8 293 RX8 yX8_beginStart wq_x_beginStart) := goodIn_app (goodIn_of _ (by decide +kernel)) (fun w h => ⟨List.mem_append_right _ (List.mem_append_right _ (List.mem_append_right _ (List.mem_append_right _ (List.mem_append_right _ (List.mem_append_right _ (List.mem_append_right _ (List.mem_append_right _ (h)))))))), (wg_x_beginStart w h).2⟩)
def rm_x_beginJobs : Room := { frames := 5, cells := 0, slots := 0, locals := 111 }
set_option maxHeartbeats 4000000 in
set_option maxRecDepth 100000 in
theorem c_x_beginJobs (l : Launch) (dC : Nat → ClassId) (dI : Nat → Nat → Nat) (h : Nat) (a : Nat → Nat) (e : Nat) (cI cJ cO cE : ClassId) (L : Nat → Int64) (I : Nat → Int32) (M : Nat → Nat → Int64) (J : Nat → Nat → Int32) (n cap : Nat) (fE : Nat → Option Nat) (sd : Nat → Nat → Nat) (si : Nat → Nat → Int32) (sa : Nat → Nat → Nat → Int32) (dl : Nat → Nat) (b : Nat)  (sz : Nat) (hX0 : InvX n cap fE sd dl b I J si) (hb0 : b + 40 < 2147483648)  : Met l yX8_beginJobs wq_x_beginJobs rm_x_beginJobs (va_Pc [.ref h] (fun U => U.heap.size = sz ∧ va_P (dC, dI) vwCl (xW h a e cI cJ cO cE L I M J n cap fE sd si sa dl) U.heap ∧ va_K (dC, dI) vwCl (xT cI cJ cO cE) U ∧ va_D (fun _ => True) (xW h a e cI cJ cO cE L I M J n cap fE sd si sa dl) ∧ pw_N U)) (va_Qv (fun (u : (Nat → Int64) × (Nat → Int32) × (Nat → Nat → Int64) × (Nat → Nat → Int32) × (Nat → Nat → Nat → Int32)) => InvX n cap fE sd dl (b + 40) u.2.1 J u.2.2.2.1 ∧ (∀ j9 : Nat, j9 ∉ ([0, 5, 6, 7] : List Nat) → u.1 j9 = L j9) ∧ (∀ j9 : Nat, j9 ∉ ([12] : List Nat) → u.2.1 j9 = I j9) ∧ (∀ j9 : Nat, j9 ∉ ([8, 9] : List Nat) → u.2.2.1 j9 = M j9) ∧ (∀ s9 q9 : Nat, q9 ∉ ([6, 7, 8, 9, 10, 11, 21, 22] : List Nat) → u.2.2.2.1 s9 q9 = si s9 q9) ∧ (∀ s9 q9 : Nat, q9 ∉ ([3] : List Nat) → u.2.2.2.2 s9 q9 = sa s9 q9) ∧ (True)) (fun (u : (Nat → Int64) × (Nat → Int32) × (Nat → Nat → Int64) × (Nat → Nat → Int32) × (Nat → Nat → Nat → Int32)) (t : State) => va_P (dC, dI) vwCl (xW h a e cI cJ cO cE u.1 u.2.1 u.2.2.1 J n cap fE sd u.2.2.2.1 u.2.2.2.2 dl) t.heap ∧ va_D (va_A (xW h a e cI cJ cO cE L I M J n cap fE sd si sa dl) sz) (xW h a e cI cJ cO cE u.1 u.2.1 u.2.2.1 J n cap fE sd u.2.2.2.1 u.2.2.2.2 dl)) (va_A (xW h a e cI cJ cO cE L I M J n cap fE sd si sa dl) sz)) 0 0 (va_A (xW h a e cI cJ cO cE L I M J n cap fE sd si sa dl) sz) := by
  have hn : n ≤ 40 := hX0.1.1
  have hX := hX0
  have hUL : ∀ j9 : Nat, j9 ∉ ([0, 5, 6, 7] : List Nat) → L j9 = L j9 := fun _ _ => rfl
  have hUI : ∀ j9 : Nat, j9 ∉ ([12] : List Nat) → I j9 = I j9 := fun _ _ => rfl
  have hUM : ∀ j9 : Nat, j9 ∉ ([8, 9] : List Nat) → M j9 = M j9 := fun _ _ => rfl
  have hUsi : ∀ s9 q9 : Nat, q9 ∉ ([6, 7, 8, 9, 10, 11, 21, 22] : List Nat) → si s9 q9 = si s9 q9 := fun _ _ _ => rfl
  have hUsa : ∀ s9 q9 : Nat, q9 ∉ ([3] : List Nat) → sa s9 q9 = sa s9 q9 := fun _ _ _ => rfl
  refine Met.ofW (cc := cX8_beginJobs) (maxL := 3) (ret := none) (by decide) rfl ?_
  intro p e9 s m args below meth c s₁ B hml hv
  obtain ⟨rfl, hsz, hP, hK, hD0, hN⟩ := hv
  have hx := B.exec
  have hb := B.bytes
  have hr := B.returns
  have hts := atoms_spec (ws := wq_x_beginJobs) B.pre
  have hown : s.vm.findClass RX8 = some m.cls := findClass_of_methodNamed B.named
  have hlocks := B.notSynchronized
  subst hsz
  have hD := hD0.self (sz := s.heap.size)
  generalize hAe : va_A (xW h a e cI cJ cO cE L I M J n cap fE sd si sa dl) s.heap.size = A at hD ⊢
  have hA : ∀ q : Nat, s.heap.size ≤ q → A q := fun q h => by rw [← hAe]; exact Or.inr h
  have hS : va_S A s.heap s.heap [] := va_S.rf
  have hl := lv_entry ([.ref h]) (n := 3) (Nat.le_of_ble_eq_true rfl)
  rw [lg_entry_eq]
  generalize (lg_sl ([.ref h]) ++ List.replicate (3 - (lg_sl ([.ref h])).length) Slot.unset).toArray = ls at hl ⊢
  have hl : lv_has ls 3 [(0, .ref h)] := hl
  refine mw_Q (fun Q0 hQ => ?_)
  refine lv_aload_n hx hb dX8_beginJobs_0 rfl (lv_at hl 0 rfl) ?_
  refine va_get (D := (dC, dI)) (ci := 9) (v := .ref (a 3)) (C := RX8) (T := TX8) (N := 14) hx hb hts in_x_beginJobs_X8 hown hK hP 0 rfl rfl 3 (by decide) (hts (.fieldLink RX8 35 "ServiceTree" "jobs" "LServiceTree$Jobs;") (by decide +kernel)) (fun _ h9 => h9) rfl dX8_beginJobs_1 ?_
  have hFc := mw_free hD hS hA
  refine va_calll (va_runV (As := []) (rest := []) ⟨hx, hb, hml, hown, hts⟩ (c_x_left l dC dI h a e cI cJ cO cE L I M J n cap fE sd si sa dl (b)  s.heap.size hX (by omega) ) (cwV 0 hts wc_x_beginJobs_x_left_110 rfl rfl rfl (by decide +kernel) ⟨Nat.le_of_ble_eq_true rfl, Nat.le_of_ble_eq_true rfl⟩) ⟨fun a9 U g mk q => by obtain ⟨q0, q1, qP, qK, qD, qN⟩ := q; exact ⟨q0, q1, qP, va_K.moved (u := U) (U := U.calling g mk a9) (Vm.Alike.refl U.vm) qK, qD, pw_N.same (u := U) (U := U.calling g mk a9) rfl qN⟩, va_recv hK hP (ci := 4) (q0 := 14) rfl rfl, fun U hU hW => ⟨rfl, by rw [hU], by rw [hU]; exact hP, va_K.moved hW.alike hK, hD.weaken (fun _ _ _ _ => trivial), pw_N.warm hW hN⟩⟩ rfl rfl hl.1 rfl (lv_room (Nat.le_of_ble_eq_true rfl)) dX8_beginJobs_4 ⟨Nat.le_of_ble_eq_true rfl, Nat.le_of_ble_eq_true rfl⟩) hS (fun q _ h => hFc q h) hFc (fun r1 u t H1 locs ht hvm hw hB hz1 hk1 hS => ?_)
  replace hP := hB.1
  rw [ht] at hP
  replace hD : va_D A (xW h a e cI cJ cO cE L I M J n cap fE sd si sa dl) := hB.2.weaken (fun _ q _ h9 => hFc q.1 h9)
  clear hB
  generalize H1 = H at hP hS ⊢
  replace hP : va_P (dC, dI) vwCl (xW h a e cI cJ cO cE L I M J n cap fE sd si sa dl) H := hP
  refine lv_lconst (v := 0) hx hb dX8_beginJobs_7 (by decide) ?_
  refine W.lcmp hx hb dX8_beginJobs_8 ?_
  refine lv_topi (fun x2 ex2 => ?_)
  refine lv_if_ne (tgt := 13) hx hb dX8_beginJobs_9 (by decide) (fun c3 => ?_) (fun c3 => ?_)
  · refine lv_iconst (v := 0) hx hb dX8_beginJobs_13 (by decide) ?_
    refine lv_istore_n (lv' := [(1, .int 0), (0, .ref h)]) hx hb dX8_beginJobs_14 rfl hl (by decide) rfl (fun ls hl => ?_)
    have lp7 : ∀ (fu5 i4 : Nat)  (L8 : Nat → Int64) (I9 : Nat → Int32) (M10 : Nat → Nat → Int64) (si11 : Nat → Nat → Int32) (sa12 : Nat → Nat → Nat → Int32) (H : Heap) (locs : List Loc) (ls : Array Slot), 40 < i4 + fu5 → i4 ≤ 40 → InvX n cap fE sd dl (b + 1 * i4) I9 J si11 → (∀ j9 : Nat, j9 ∉ ([0, 5, 6, 7] : List Nat) → L8 j9 = L j9) → (∀ j9 : Nat, j9 ∉ ([12] : List Nat) → I9 j9 = I j9) → (∀ j9 : Nat, j9 ∉ ([8, 9] : List Nat) → M10 j9 = M j9) → (∀ s9 q9 : Nat, q9 ∉ ([6, 7, 8, 9, 10, 11, 21, 22] : List Nat) → si11 s9 q9 = si s9 q9) → (∀ s9 q9 : Nat, q9 ∉ ([3] : List Nat) → sa12 s9 q9 = sa s9 q9) → va_P (dC, dI) vwCl (xW h a e cI cJ cO cE L8 I9 M10 J n cap fE sd si11 sa12 dl) H → va_D A (xW h a e cI cJ cO cE L8 I9 M10 J n cap fE sd si11 sa12 dl) → va_S A s.heap H locs → lv_has ls 3 [(1, .int (nI i4)), (0, .ref h)] → W p l e9 (headSpec wq_x_beginJobs rm_x_beginJobs).room s m ([.ref h] : List Value).toArray below meth c H locs 0 0 Q0 (F0 m 15 ls []) := by
      intro fu5
      induction fu5 with
      | zero =>
        intro i4  L8 I9 M10 si11 sa12 H locs ls hf hi
        exact absurd hf (by omega)
      | succ fu5 ih6 =>
        intro i4  L8 I9 M10 si11 sa12 H locs ls hfi4 hii4 hX hUL hUI hUM hUsi hUsa hP hD hS hl
        refine lv_iload_n hx hb dX8_beginJobs_15 rfl (lv_at hl 0 rfl) ?_
        refine lv_bipush (v := 40) hx hb dX8_beginJobs_16 (by decide) ?_
        refine lv_icmp_ge (tgt := 71) hx hb dX8_beginJobs_18 (by decide) (fun c13 => ?_) (fun c13 => ?_)
        · replace c13 : 40 ≤ i4 := (nI_leI (a := 40) (b := i4) (by omega) (by omega)).mp c13
          rw [hQ]
          exact W.vret hx hb hr (fun t ht hW => ⟨⟨(L8, I9, M10, si11, sa12), rfl, ⟨hX.mono (by omega), hUL, hUI, hUM, hUsi, hUsa, trivial⟩, by rw [ht]; exact hP, hD⟩, hS.F ht⟩) hS.2.2 dX8_beginJobs_71
        · replace c13 : ¬ (40 ≤ i4) := fun q9 => c13 ((nI_leI (a := 40) (b := i4) (by omega) (by omega)).mpr q9)
          refine lv_aload_n hx hb dX8_beginJobs_21 rfl (lv_at hl 1 rfl) ?_
          refine va_get (D := (dC, dI)) (ci := 9) (v := .ref (a 3)) (C := RX8) (T := TX8) (N := 14) hx hb hts in_x_beginJobs_X8 hown hK hP 0 rfl rfl 3 (by decide) (hts (.fieldLink RX8 35 "ServiceTree" "jobs" "LServiceTree$Jobs;") (by decide +kernel)) (fun _ h9 => h9) rfl dX8_beginJobs_22 ?_
          have hFc := mw_free hD hS hA
          refine va_calli (va_runV (As := []) (rest := []) ⟨hx, hb, hml, hown, hts⟩ (c_x_leastReady l dC dI h a e cI cJ cO cE L8 I9 M10 J n cap fE sd si11 sa12 dl (b + 1 * i4)  H.size hX (by omega) ) (cwV 0 hts wc_x_beginJobs_x_leastReady_289 rfl rfl rfl (by decide +kernel) ⟨Nat.le_of_ble_eq_true rfl, Nat.le_of_ble_eq_true rfl⟩) ⟨fun a9 U g mk q => by obtain ⟨q0, q1, qP, qK, qD, qN⟩ := q; exact ⟨q0, q1, qP, va_K.moved (u := U) (U := U.calling g mk a9) (Vm.Alike.refl U.vm) qK, qD, pw_N.same (u := U) (U := U.calling g mk a9) rfl qN⟩, va_recv hK hP (ci := 4) (q0 := 14) rfl rfl, fun U hU hW => ⟨rfl, by rw [hU], by rw [hU]; exact hP, va_K.moved hW.alike hK, hD.weaken (fun _ _ _ _ => trivial), pw_N.warm hW hN⟩⟩ rfl rfl hl.1 rfl (lv_room (Nat.le_of_ble_eq_true rfl)) dX8_beginJobs_25 ⟨Nat.le_of_ble_eq_true rfl, Nat.le_of_ble_eq_true rfl⟩) hS (fun q _ h => hFc q h) hFc (fun r14 u t H1 locs ht hvm hw hB hz1 hk1 hS => ?_)
          replace hP := hB.1
          rw [ht] at hP
          replace hD : va_D A (xW h a e cI cJ cO cE L8 I9 M10 J n cap fE sd si11 sa12 dl) := hB.2.weaken (fun _ q _ h9 => hFc q.1 h9)
          clear hB
          generalize H1 = H at hP hS ⊢
          replace hP : va_P (dC, dI) vwCl (xW h a e cI cJ cO cE L8 I9 M10 J n cap fE sd si11 sa12 dl) H := hP
          refine lv_istore_n (lv' := [(2, .int r14), (1, .int (nI i4)), (0, .ref h)]) hx hb dX8_beginJobs_28 rfl hl (by decide) rfl (fun ls hl => ?_)
          refine lv_aload_n hx hb dX8_beginJobs_29 rfl (lv_at hl 2 rfl) ?_
          refine lv_iload_n hx hb dX8_beginJobs_30 rfl (lv_at hl 0 rfl) ?_
          have hFc := mw_free hD hS hA
          refine va_calli (va_runV (As := [.int r14]) (rest := []) ⟨hx, hb, hml, hown, hts⟩ (c_x_exists l dC dI h a e cI cJ cO cE L8 I9 M10 J n cap fE sd si11 sa12 dl (b + 1 * i4) r14 H.size hX (by omega) ) (cwV 1 hts wc_x_beginJobs_x_exists_82 rfl rfl rfl (by decide +kernel) ⟨Nat.le_of_ble_eq_true rfl, Nat.le_of_ble_eq_true rfl⟩) ⟨fun a9 U g mk q => by obtain ⟨q0, q1, qP, qK, qD, qN⟩ := q; exact ⟨q0, q1, qP, va_K.moved (u := U) (U := U.calling g mk a9) (Vm.Alike.refl U.vm) qK, qD, pw_N.same (u := U) (U := U.calling g mk a9) rfl qN⟩, va_recv hK hP (ci := 9) (q0 := 0) rfl rfl, fun U hU hW => ⟨rfl, by rw [hU], by rw [hU]; exact hP, va_K.moved hW.alike hK, hD.weaken (fun _ _ _ _ => trivial), pw_N.warm hW hN⟩⟩ rfl rfl hl.1 rfl (lv_room (Nat.le_of_ble_eq_true rfl)) dX8_beginJobs_31 ⟨Nat.le_of_ble_eq_true rfl, Nat.le_of_ble_eq_true rfl⟩) hS (fun q _ h => hFc q h) hFc (fun r15 u t H1 locs ht hvm hw hB hz1 hk1 hS => ?_)
          replace hP := hB.1
          rw [ht] at hP
          replace hD : va_D A (xW h a e cI cJ cO cE L8 I9 M10 J n cap fE sd si11 sa12 dl) := hB.2.weaken (fun _ q _ h9 => hFc q.1 h9)
          clear hB
          generalize H1 = H at hP hS ⊢
          replace hP : va_P (dC, dI) vwCl (xW h a e cI cJ cO cE L8 I9 M10 J n cap fE sd si11 sa12 dl) H := hP
          rcases hw with ⟨rfl, j16, hj16, ej16⟩ | ⟨rfl, noj16⟩
          · subst ej16
            refine lv_if_ne (tgt := 38) hx hb dX8_beginJobs_34 (by decide) (fun _ => ?_) (fun c9 => absurd c9 (by decide))
            refine lv_aload_n hx hb dX8_beginJobs_38 rfl (lv_at hl 2 rfl) ?_
            refine va_get (D := (dC, dI)) (ci := 9) (v := .ref (a 3)) (C := RX8) (T := TX8) (N := 14) hx hb hts in_x_beginJobs_X8 hown hK hP 0 rfl rfl 3 (by decide) (hts (.fieldLink RX8 35 "ServiceTree" "jobs" "LServiceTree$Jobs;") (by decide +kernel)) (fun _ h9 => h9) rfl dX8_beginJobs_39 ?_
            refine va_getN (D := (dC, dI)) (ci := 4) (v := .long (L8 5)) (C := RX3) (T := TX3) (N := 4) hx hb hts in_x_beginJobs_X3 hown hK hP 14 rfl rfl 1 (by decide) (va_Nw.use rfl (hN (.fieldLinkNest RX8 292 "ServiceTree$Jobs" "starts" "J" "ServiceTree") (by decide +kernel))) (fun _ h9 => h9) rfl dX8_beginJobs_42 ?_
            refine lv_topl (fun x17 ex17 => ?_)
            refine lv_iload_n hx hb dX8_beginJobs_45 rfl (lv_at hl 0 rfl) ?_
            have hFc := mw_free hD hS hA
            refine va_calli (va_runS (As := [.long x17, .int (nI j16)]) (rest := []) ⟨hx, hb, hml, hown, hts⟩ (c_x_holds l dC dI h a e cI cJ cO cE L8 I9 M10 J n cap fE sd si11 sa12 dl (b + 1 * i4) x17 (nI j16) H.size hX (by omega) ) (va_cwS 2 hts wc_x_beginJobs_x_holds_114 rfl rfl rfl (by decide +kernel) ⟨Nat.le_of_ble_eq_true rfl, Nat.le_of_ble_eq_true rfl⟩) ⟨fun a9 U g mk q => by obtain ⟨q0, q1, qP, qK, qD, qN⟩ := q; exact ⟨q0, q1, qP, va_K.moved (u := U) (U := U.calling g mk a9) (Vm.Alike.refl U.vm) qK, qD, pw_N.same (u := U) (U := U.calling g mk a9) rfl qN⟩, fun U hU hW => ⟨rfl, by rw [hU], by rw [hU]; exact hP, va_K.moved hW.alike hK, hD.weaken (fun _ _ _ _ => trivial), pw_N.warm hW hN⟩⟩ rfl rfl hl.1 rfl (lv_room (Nat.le_of_ble_eq_true rfl)) dX8_beginJobs_46 ⟨Nat.le_of_ble_eq_true rfl, Nat.le_of_ble_eq_true rfl⟩) hS (fun q _ h => hFc q h) hFc (fun r18 u t H1 locs ht hvm hw hB hz1 hk1 hS => ?_)
            replace hP := hB.1
            rw [ht] at hP
            replace hD : va_D A (xW h a e cI cJ cO cE L8 I9 M10 J n cap fE sd si11 sa12 dl) := hB.2.weaken (fun _ q _ h9 => hFc q.1 h9)
            clear hB
            generalize H1 = H at hP hS ⊢
            replace hP : va_P (dC, dI) vwCl (xW h a e cI cJ cO cE L8 I9 M10 J n cap fE sd si11 sa12 dl) H := hP
            have br18 := hw
            refine lv_if_eq (tgt := 60) hx hb dX8_beginJobs_49 (by decide) (fun c19 => ?_) (fun c19 => ?_)
            · refine lv_aload_n hx hb dX8_beginJobs_60 rfl (lv_at hl 2 rfl) ?_
              refine lv_iload_n hx hb dX8_beginJobs_61 rfl (lv_at hl 0 rfl) ?_
              have hFc := mw_free hD hS hA
              refine va_callv (va_runV (As := [.int (nI j16)]) (rest := []) ⟨hx, hb, hml, hown, hts⟩ (c_x_beginStop l dC dI h a e cI cJ cO cE L8 I9 M10 J n cap fE sd si11 sa12 dl (b + 1 * i4) j16 H.size hX (by omega) (by omega)) (cwV 1 hts wc_x_beginJobs_x_beginStop_296 rfl rfl rfl (by decide +kernel) ⟨Nat.le_of_ble_eq_true rfl, Nat.le_of_ble_eq_true rfl⟩) ⟨fun a9 U g mk q => by obtain ⟨q0, q1, qP, qK, qD, qN⟩ := q; exact ⟨q0, q1, qP, va_K.moved (u := U) (U := U.calling g mk a9) (Vm.Alike.refl U.vm) qK, qD, pw_N.same (u := U) (U := U.calling g mk a9) rfl qN⟩, va_recv hK hP (ci := 9) (q0 := 0) rfl rfl, fun U hU hW => ⟨rfl, by rw [hU], by rw [hU]; exact hP, va_K.moved hW.alike hK, hD.weaken (fun _ _ _ _ => trivial), pw_N.warm hW hN⟩⟩ rfl rfl hl.1 rfl (lv_room (Nat.le_of_ble_eq_true rfl)) dX8_beginJobs_62 ⟨Nat.le_of_ble_eq_true rfl, Nat.le_of_ble_eq_true rfl⟩) hS (fun q _ h => hFc q h) hFc (fun u t H1 locs ht hvm hw hB hz1 hk1 hS => ?_)
              obtain ⟨L21, I22, M23, si24, sa25⟩ := u
              replace hP := hB.1
              rw [ht] at hP
              replace hD : va_D A (xW h a e cI cJ cO cE L21 I22 M23 J n cap fE sd si24 sa25 dl) := hB.2.weaken (fun _ q _ h9 => hFc q.1 h9)
              clear hB
              generalize H1 = H at hP hS ⊢
              replace hP : va_P (dC, dI) vwCl (xW h a e cI cJ cO cE L21 I22 M23 J n cap fE sd si24 sa25 dl) H := hP
              obtain ⟨hwX, whUL, whUI, whUM, whUsi, whUsa, hw⟩ := hw
              replace hX : InvX n cap fE sd dl (b + 1 * i4 + 1) I22 J si24 := hwX
              replace hUL : ∀ j9 : Nat, j9 ∉ ([0, 5, 6, 7] : List Nat) → L21 j9 = L j9 := mw_tr (by decide) whUL hUL
              replace hUI : ∀ j9 : Nat, j9 ∉ ([12] : List Nat) → I22 j9 = I j9 := mw_tr (by decide) whUI hUI
              replace hUM : ∀ j9 : Nat, j9 ∉ ([8, 9] : List Nat) → M23 j9 = M j9 := mw_tr (by decide) whUM hUM
              replace hUsi : ∀ s9 q9 : Nat, q9 ∉ ([6, 7, 8, 9, 10, 11, 21, 22] : List Nat) → si24 s9 q9 = si s9 q9 := xw_tr2 (by decide) whUsi hUsi
              replace hUsa : ∀ s9 q9 : Nat, q9 ∉ ([3] : List Nat) → sa25 s9 q9 = sa s9 q9 := xw_tr2 (by decide) whUsa hUsa
              refine lv_iinc (v := (nI (i4 + 1))) (lv' := [(1, .int (nI (i4 + 1))), (2, .int (nI j16)), (0, .ref h)]) hx hb dX8_beginJobs_65 hl (k := 1) rfl (nI_add i4 1) (by decide) rfl (fun ls hl => ?_)
              refine lv_goto (tgt := 15) hx hb dX8_beginJobs_68 (by decide) ?_
              exact ih6 (i4 + 1)  L21 I22 M23 si24 sa25 _ _ _ (by omega) (by omega) (hX.mono (by omega)) hUL hUI hUM hUsi hUsa  hP hD hS (lv_sub hl [0, 2] rfl)
            · refine lv_aload_n hx hb dX8_beginJobs_52 rfl (lv_at hl 2 rfl) ?_
              refine lv_iload_n hx hb dX8_beginJobs_53 rfl (lv_at hl 0 rfl) ?_
              have hFc := mw_free hD hS hA
              refine va_callv (va_runV (As := [.int (nI j16)]) (rest := []) ⟨hx, hb, hml, hown, hts⟩ (c_x_beginStart l dC dI h a e cI cJ cO cE L8 I9 M10 J n cap fE sd si11 sa12 dl (b + 1 * i4) j16 H.size hX (by omega) (by omega)) (cwV 1 hts wc_x_beginJobs_x_beginStart_293 rfl rfl rfl (by decide +kernel) ⟨Nat.le_of_ble_eq_true rfl, Nat.le_of_ble_eq_true rfl⟩) ⟨fun a9 U g mk q => by obtain ⟨q0, q1, qP, qK, qD, qN⟩ := q; exact ⟨q0, q1, qP, va_K.moved (u := U) (U := U.calling g mk a9) (Vm.Alike.refl U.vm) qK, qD, pw_N.same (u := U) (U := U.calling g mk a9) rfl qN⟩, va_recv hK hP (ci := 9) (q0 := 0) rfl rfl, fun U hU hW => ⟨rfl, by rw [hU], by rw [hU]; exact hP, va_K.moved hW.alike hK, hD.weaken (fun _ _ _ _ => trivial), pw_N.warm hW hN⟩⟩ rfl rfl hl.1 rfl (lv_room (Nat.le_of_ble_eq_true rfl)) dX8_beginJobs_54 ⟨Nat.le_of_ble_eq_true rfl, Nat.le_of_ble_eq_true rfl⟩) hS (fun q _ h => hFc q h) hFc (fun u t H1 locs ht hvm hw hB hz1 hk1 hS => ?_)
              obtain ⟨L27, I28, M29, si30, sa31⟩ := u
              replace hP := hB.1
              rw [ht] at hP
              replace hD : va_D A (xW h a e cI cJ cO cE L27 I28 M29 J n cap fE sd si30 sa31 dl) := hB.2.weaken (fun _ q _ h9 => hFc q.1 h9)
              clear hB
              generalize H1 = H at hP hS ⊢
              replace hP : va_P (dC, dI) vwCl (xW h a e cI cJ cO cE L27 I28 M29 J n cap fE sd si30 sa31 dl) H := hP
              obtain ⟨hwX, whUL, whUI, whUM, whUsi, whUsa, hw⟩ := hw
              replace hX : InvX n cap fE sd dl (b + 1 * i4 + 1) I28 J si30 := hwX
              replace hUL : ∀ j9 : Nat, j9 ∉ ([0, 5, 6, 7] : List Nat) → L27 j9 = L j9 := mw_tr (by decide) whUL hUL
              replace hUI : ∀ j9 : Nat, j9 ∉ ([12] : List Nat) → I28 j9 = I j9 := mw_tr (by decide) whUI hUI
              replace hUM : ∀ j9 : Nat, j9 ∉ ([8, 9] : List Nat) → M29 j9 = M j9 := mw_tr (by decide) whUM hUM
              replace hUsi : ∀ s9 q9 : Nat, q9 ∉ ([6, 7, 8, 9, 10, 11, 21, 22] : List Nat) → si30 s9 q9 = si s9 q9 := xw_tr2 (by decide) whUsi hUsi
              replace hUsa : ∀ s9 q9 : Nat, q9 ∉ ([3] : List Nat) → sa31 s9 q9 = sa s9 q9 := xw_tr2 (by decide) whUsa hUsa
              refine lv_goto (tgt := 65) hx hb dX8_beginJobs_57 (by decide) ?_
              refine lv_iinc (v := (nI (i4 + 1))) (lv' := [(1, .int (nI (i4 + 1))), (2, .int (nI j16)), (0, .ref h)]) hx hb dX8_beginJobs_65 hl (k := 1) rfl (nI_add i4 1) (by decide) rfl (fun ls hl => ?_)
              refine lv_goto (tgt := 15) hx hb dX8_beginJobs_68 (by decide) ?_
              exact ih6 (i4 + 1)  L27 I28 M29 si30 sa31 _ _ _ (by omega) (by omega) (hX.mono (by omega)) hUL hUI hUM hUsi hUsa  hP hD hS (lv_sub hl [0, 2] rfl)
          · refine lv_if_ne (tgt := 38) hx hb dX8_beginJobs_34 (by decide) (fun c9 => absurd (by decide) c9) (fun _ => ?_)
            rw [hQ]
            exact W.vret hx hb hr (fun t ht hW => ⟨⟨(L8, I9, M10, si11, sa12), rfl, ⟨hX.mono (by omega), hUL, hUI, hUM, hUsi, hUsa, trivial⟩, by rw [ht]; exact hP, hD⟩, hS.F ht⟩) hS.2.2 dX8_beginJobs_37
    exact lp7 (40 + 1) 0  L I M si sa _ _ _ (by omega) (by omega) (hX.mono (by omega)) hUL hUI hUM hUsi hUsa  hP hD hS hl
  · rw [hQ]
    exact W.vret hx hb hr (fun t ht hW => ⟨⟨(L, I, M, si, sa), rfl, ⟨hX.mono (by omega), hUL, hUI, hUM, hUsi, hUsa, trivial⟩, by rw [ht]; exact hP, hD⟩, hS.F ht⟩) hS.2.2 dX8_beginJobs_12
def wq_x_carryOutDraft : List Cond := [.code yX8_carryOutDraft cX8_carryOutDraft 4 none, .fieldLink RX8 28 "ServiceTree" "draft" "LServiceTree$Draft;", .fieldLink RX8 53 "ServiceTree" "inState" "[J", .fieldLink RX8 10 "ServiceTree" "services" "Ljava/util/ArrayList;", .fieldLink RX8 35 "ServiceTree" "jobs" "LServiceTree$Jobs;", .methodLink RX8 61 yJx4a65c_size_8abf5, .instanceMethod yJx4a65c_size_8abf5, .selects RJx4a65c yJx4a65c_size_8abf5 yJx4a65c_size_8abf5, .initialized RJx4a65c, .methodLink RX8 256 yX3_take, .instanceMethod yX3_take, .selects RX3 yX3_take yX3_take, .initialized RX3, .methodLink RX8 260 yX8_beginJobs, .instanceMethod yX8_beginJobs, .selects RX8 yX8_beginJobs yX8_beginJobs, .initialized RX8, .methodLink RX8 114 yX8_holds, .static yX8_holds, .methodLink RX8 249 yX8_enter, .instanceMethod yX8_enter, .selects RX8 yX8_enter yX8_enter] ++ (wsX10 ++ (wsX80 ++ (wq_x_size ++ (wq_x_take ++ (wq_x_beginJobs ++ (wq_x_holds ++ (wq_x_enter)))))))
theorem in_x_carryOutDraft_X1 : ∀ w ∈ wsX10, w ∈ wq_x_carryOutDraft := fun _ h => List.mem_append_right _ (List.mem_append_left _ (h))
theorem in_x_carryOutDraft_X8 : ∀ w ∈ wsX80, w ∈ wq_x_carryOutDraft := fun _ h => List.mem_append_right _ (List.mem_append_right _ (List.mem_append_left _ (h)))
set_option maxRecDepth 20000 in
theorem wi_x_carryOutDraft : ∀ w ∈ wq_x_carryOutDraft, w ∈ lw_tbl := List.forall_mem_append.mpr ⟨(by decide +kernel), List.forall_mem_append.mpr ⟨inKX1, List.forall_mem_append.mpr ⟨inKX8, List.forall_mem_append.mpr ⟨wi_x_size, List.forall_mem_append.mpr ⟨wi_x_take, List.forall_mem_append.mpr ⟨wi_x_beginJobs, List.forall_mem_append.mpr ⟨wi_x_holds, wi_x_enter⟩⟩⟩⟩⟩⟩⟩
set_option maxRecDepth 20000 in
theorem wg_x_carryOutDraft : GoodIn wq_x_carryOutDraft wq_x_carryOutDraft := goodIn_sub (fun _ h => h) (by decide +kernel)
set_option maxRecDepth 20000 in
theorem wc_x_carryOutDraft_x_size_61 : GoodIn wq_x_carryOutDraft (wsV RX8 61 RJx4a65c yJx4a65c_size_8abf5 wq_x_size) := goodIn_app (goodIn_of _ (by decide +kernel)) (fun w h => ⟨List.mem_append_right _ (List.mem_append_right _ (List.mem_append_right _ (List.mem_append_left _ (h)))), (wg_x_size w h).2⟩)
set_option maxRecDepth 20000 in
theorem wc_x_carryOutDraft_x_take_256 : GoodIn wq_x_carryOutDraft (wsV RX8 256 RX3 yX3_take wq_x_take) := goodIn_app (goodIn_of _ (by decide +kernel)) (fun w h => ⟨List.mem_append_right _ (List.mem_append_right _ (List.mem_append_right _ (List.mem_append_right _ (List.mem_append_left _ (h))))), (wg_x_take w h).2⟩)
set_option maxRecDepth 20000 in
theorem wc_x_carryOutDraft_x_beginJobs_260 : GoodIn wq_x_carryOutDraft (wsV RX8 260 RX8 yX8_beginJobs wq_x_beginJobs) := goodIn_app (goodIn_of _ (by decide +kernel)) (fun w h => ⟨List.mem_append_right _ (List.mem_append_right _ (List.mem_append_right _ (List.mem_append_right _ (List.mem_append_right _ (List.mem_append_left _ (h)))))), (wg_x_beginJobs w h).2⟩)
set_option maxRecDepth 20000 in
theorem wc_x_carryOutDraft_x_holds_114 : GoodIn wq_x_carryOutDraft (va_wsS RX8 114 yX8_holds wq_x_holds) := goodIn_app (goodIn_of _ (by decide +kernel)) (fun w h => ⟨List.mem_append_right _ (List.mem_append_right _ (List.mem_append_right _ (List.mem_append_right _ (List.mem_append_right _ (List.mem_append_right _ (List.mem_append_left _ (h))))))), (wg_x_holds w h).2⟩)
set_option maxRecDepth 20000 in
theorem wc_x_carryOutDraft_x_enter_249 : GoodIn wq_x_carryOutDraft (wsV RX8 249 RX8 yX8_enter wq_x_enter) := goodIn_app (goodIn_of _ (by decide +kernel)) (fun w h => ⟨List.mem_append_right _ (List.mem_append_right _ (List.mem_append_right _ (List.mem_append_right _ (List.mem_append_right _ (List.mem_append_right _ (List.mem_append_right _ (h))))))), (wg_x_enter w h).2⟩)
def rm_x_carryOutDraft : Room := { frames := 6, cells := 0, slots := 0, locals := 133 }
set_option maxHeartbeats 4000000 in
set_option maxRecDepth 100000 in
theorem c_x_carryOutDraft (l : Launch) (dC : Nat → ClassId) (dI : Nat → Nat → Nat) (h : Nat) (a : Nat → Nat) (e : Nat) (cI cJ cO cE : ClassId) (L : Nat → Int64) (I : Nat → Int32) (M : Nat → Nat → Int64) (J : Nat → Nat → Int32) (n cap : Nat) (fE : Nat → Option Nat) (sd : Nat → Nat → Nat) (si : Nat → Nat → Int32) (sa : Nat → Nat → Nat → Int32) (dl : Nat → Nat) (b : Nat)  (sz : Nat) (hX0 : InvX n cap fE sd dl b I J si) (hb0 : b + 80 < 2147483648)  : Met l yX8_carryOutDraft wq_x_carryOutDraft rm_x_carryOutDraft (va_Pc [.ref h] (fun U => U.heap.size = sz ∧ va_P (dC, dI) vwCl (xW h a e cI cJ cO cE L I M J n cap fE sd si sa dl) U.heap ∧ va_K (dC, dI) vwCl (xT cI cJ cO cE) U ∧ va_D (fun _ => True) (xW h a e cI cJ cO cE L I M J n cap fE sd si sa dl) ∧ pw_N U)) (va_Qv (fun (u : (Nat → Int64) × (Nat → Int32) × (Nat → Nat → Int64) × (Nat → Nat → Int32) × (Nat → Nat → Nat → Int32)) => InvX n cap fE sd dl (b + 80) u.2.1 J u.2.2.2.1 ∧ (∀ j9 : Nat, j9 ∉ ([0, 5, 6, 7] : List Nat) → u.1 j9 = L j9) ∧ (∀ j9 : Nat, j9 ∉ ([12] : List Nat) → u.2.1 j9 = I j9) ∧ (∀ j9 : Nat, j9 ∉ ([8, 9] : List Nat) → u.2.2.1 j9 = M j9) ∧ (∀ s9 q9 : Nat, q9 ∉ ([6, 7, 8, 9, 10, 11, 21, 22] : List Nat) → u.2.2.2.1 s9 q9 = si s9 q9) ∧ (∀ s9 q9 : Nat, q9 ∉ ([3] : List Nat) → u.2.2.2.2 s9 q9 = sa s9 q9) ∧ (True)) (fun (u : (Nat → Int64) × (Nat → Int32) × (Nat → Nat → Int64) × (Nat → Nat → Int32) × (Nat → Nat → Nat → Int32)) (t : State) => va_P (dC, dI) vwCl (xW h a e cI cJ cO cE u.1 u.2.1 u.2.2.1 J n cap fE sd u.2.2.2.1 u.2.2.2.2 dl) t.heap ∧ va_D (va_A (xW h a e cI cJ cO cE L I M J n cap fE sd si sa dl) sz) (xW h a e cI cJ cO cE u.1 u.2.1 u.2.2.1 J n cap fE sd u.2.2.2.1 u.2.2.2.2 dl)) (va_A (xW h a e cI cJ cO cE L I M J n cap fE sd si sa dl) sz)) 0 0 (va_A (xW h a e cI cJ cO cE L I M J n cap fE sd si sa dl) sz) := by
  have hn : n ≤ 40 := hX0.1.1
  have hX := hX0
  have hUL : ∀ j9 : Nat, j9 ∉ ([0, 5, 6, 7] : List Nat) → L j9 = L j9 := fun _ _ => rfl
  have hUI : ∀ j9 : Nat, j9 ∉ ([12] : List Nat) → I j9 = I j9 := fun _ _ => rfl
  have hUM : ∀ j9 : Nat, j9 ∉ ([8, 9] : List Nat) → M j9 = M j9 := fun _ _ => rfl
  have hUsi : ∀ s9 q9 : Nat, q9 ∉ ([6, 7, 8, 9, 10, 11, 21, 22] : List Nat) → si s9 q9 = si s9 q9 := fun _ _ _ => rfl
  have hUsa : ∀ s9 q9 : Nat, q9 ∉ ([3] : List Nat) → sa s9 q9 = sa s9 q9 := fun _ _ _ => rfl
  refine Met.ofW (cc := cX8_carryOutDraft) (maxL := 4) (ret := none) (by decide) rfl ?_
  intro p e9 s m args below meth c s₁ B hml hv
  obtain ⟨rfl, hsz, hP, hK, hD0, hN⟩ := hv
  have hx := B.exec
  have hb := B.bytes
  have hr := B.returns
  have hts := atoms_spec (ws := wq_x_carryOutDraft) B.pre
  have hown : s.vm.findClass RX8 = some m.cls := findClass_of_methodNamed B.named
  have hlocks := B.notSynchronized
  subst hsz
  have hD := hD0.self (sz := s.heap.size)
  generalize hAe : va_A (xW h a e cI cJ cO cE L I M J n cap fE sd si sa dl) s.heap.size = A at hD ⊢
  have hA : ∀ q : Nat, s.heap.size ≤ q → A q := fun q h => by rw [← hAe]; exact Or.inr h
  have hS : va_S A s.heap s.heap [] := va_S.rf
  have hl := lv_entry ([.ref h]) (n := 4) (Nat.le_of_ble_eq_true rfl)
  rw [lg_entry_eq]
  generalize (lg_sl ([.ref h]) ++ List.replicate (4 - (lg_sl ([.ref h])).length) Slot.unset).toArray = ls at hl ⊢
  have hl : lv_has ls 4 [(0, .ref h)] := hl
  refine mw_Q (fun Q0 hQ => ?_)
  refine lv_aload_n hx hb dX8_carryOutDraft_0 rfl (lv_at hl 0 rfl) ?_
  refine va_get (D := (dC, dI)) (ci := 9) (v := .ref (a 2)) (C := RX8) (T := TX8) (N := 14) hx hb hts in_x_carryOutDraft_X8 hown hK hP 0 rfl rfl 2 (by decide) (hts (.fieldLink RX8 28 "ServiceTree" "draft" "LServiceTree$Draft;") (by decide +kernel)) (fun _ h9 => h9) rfl dX8_carryOutDraft_1 ?_
  refine va_getN (D := (dC, dI)) (ci := 2) (v := .long (L 3)) (C := RX1) (T := TX1) (N := 5) hx hb hts in_x_carryOutDraft_X1 hown hK hP 13 rfl rfl 2 (by decide) (va_Nw.use rfl (hN (.fieldLinkNest RX8 247 "ServiceTree$Draft" "starts" "J" "ServiceTree") (by decide +kernel))) (fun _ h9 => h9) rfl dX8_carryOutDraft_4 ?_
  refine lv_topl (fun x1 ex1 => ?_)
  refine lv_aload_n hx hb dX8_carryOutDraft_7 rfl (lv_at hl 0 rfl) ?_
  refine va_get (D := (dC, dI)) (ci := 9) (v := .ref (a 6)) (C := RX8) (T := TX8) (N := 14) hx hb hts in_x_carryOutDraft_X8 hown hK hP 0 rfl rfl 6 (by decide) (hts (.fieldLink RX8 53 "ServiceTree" "inState" "[J") (by decide +kernel)) (fun _ h9 => h9) rfl dX8_carryOutDraft_8 ?_
  refine lv_iconst (v := 5) hx hb dX8_carryOutDraft_11 (by decide) ?_
  refine va_lald (n := 6) (f := M 9) hx hb hK hP 21 1 rfl rfl (vp_in_nI (n := 5) (by omega) (by omega)) dX8_carryOutDraft_12 ?_
  refine lv_topl (fun x2 ex2 => ?_)
  refine lv_land hx hb dX8_carryOutDraft_13 ?_
  refine lv_topl (fun x3 ex3 => ?_)
  refine lv_lstore_n (lv' := [(1, .long x3), (0, .ref h)]) hx hb dX8_carryOutDraft_14 rfl hl (by decide) rfl (fun ls hl => ?_)
  refine lv_iconst (v := 0) hx hb dX8_carryOutDraft_15 (by decide) ?_
  refine lv_istore_n (lv' := [(3, .int 0), (1, .long x3), (0, .ref h)]) hx hb dX8_carryOutDraft_16 rfl hl (by decide) rfl (fun ls hl => ?_)
  have lp7 : ∀ (fu5 i4 : Nat)  (L8 : Nat → Int64) (I9 : Nat → Int32) (M10 : Nat → Nat → Int64) (si11 : Nat → Nat → Int32) (sa12 : Nat → Nat → Nat → Int32) (H : Heap) (locs : List Loc) (ls : Array Slot), n < i4 + fu5 → i4 ≤ n → InvX n cap fE sd dl (b + 1 * i4) I9 J si11 → (∀ j9 : Nat, j9 ∉ ([0, 5, 6, 7] : List Nat) → L8 j9 = L j9) → (∀ j9 : Nat, j9 ∉ ([12] : List Nat) → I9 j9 = I j9) → (∀ j9 : Nat, j9 ∉ ([8, 9] : List Nat) → M10 j9 = M j9) → (∀ s9 q9 : Nat, q9 ∉ ([6, 7, 8, 9, 10, 11, 21, 22] : List Nat) → si11 s9 q9 = si s9 q9) → (∀ s9 q9 : Nat, q9 ∉ ([3] : List Nat) → sa12 s9 q9 = sa s9 q9) → va_P (dC, dI) vwCl (xW h a e cI cJ cO cE L8 I9 M10 J n cap fE sd si11 sa12 dl) H → va_D A (xW h a e cI cJ cO cE L8 I9 M10 J n cap fE sd si11 sa12 dl) → va_S A s.heap H locs → lv_has ls 4 [(3, .int (nI i4)), (1, .long x3), (0, .ref h)] → W p l e9 (headSpec wq_x_carryOutDraft rm_x_carryOutDraft).room s m ([.ref h] : List Value).toArray below meth c H locs 0 0 Q0 (F0 m 17 ls []) := by
    intro fu5
    induction fu5 with
    | zero =>
      intro i4  L8 I9 M10 si11 sa12 H locs ls hf hi
      exact absurd hf (by omega)
    | succ fu5 ih6 =>
      intro i4  L8 I9 M10 si11 sa12 H locs ls hfi4 hii4 hX hUL hUI hUM hUsi hUsa hP hD hS hl
      refine lv_iload_n hx hb dX8_carryOutDraft_17 rfl (lv_at hl 0 rfl) ?_
      refine lv_aload_n hx hb dX8_carryOutDraft_18 rfl (lv_at hl 2 rfl) ?_
      refine va_get (D := (dC, dI)) (ci := 9) (v := .ref (a 0)) (C := RX8) (T := TX8) (N := 14) hx hb hts in_x_carryOutDraft_X8 hown hK hP 0 rfl rfl 0 (by decide) (hts (.fieldLink RX8 10 "ServiceTree" "services" "Ljava/util/ArrayList;") (by decide +kernel)) (fun _ h9 => h9) rfl dX8_carryOutDraft_19 ?_
      have hFc := mw_free hD hS hA
      refine va_calli (va_runV (As := []) (rest := [.int (nI i4)]) ⟨hx, hb, hml, hown, hts⟩ (c_x_size l dC dI h a e cI cJ cO cE L8 I9 M10 J n cap fE sd si11 sa12 dl (b + 1 * i4)  H.size hX (by omega) ) (cwV 0 hts wc_x_carryOutDraft_x_size_61 rfl rfl rfl (by decide +kernel) ⟨Nat.le_of_ble_eq_true rfl, Nat.le_of_ble_eq_true rfl⟩) ⟨fun a9 U g mk q => by obtain ⟨q0, q1, qP, qK, qD, qN⟩ := q; exact ⟨q0, q1, qP, va_K.moved (u := U) (U := U.calling g mk a9) (Vm.Alike.refl U.vm) qK, qD, pw_N.same (u := U) (U := U.calling g mk a9) rfl qN⟩, va_recv hK hP (ci := 0) (q0 := 1) rfl rfl, fun U hU hW => ⟨rfl, by rw [hU], by rw [hU]; exact hP, va_K.moved hW.alike hK, hD.weaken (fun _ _ _ _ => trivial), pw_N.warm hW hN⟩⟩ rfl rfl hl.1 rfl (lv_room (Nat.le_of_ble_eq_true rfl)) dX8_carryOutDraft_22 ⟨Nat.le_of_ble_eq_true rfl, Nat.le_of_ble_eq_true rfl⟩) hS (fun q _ h => hFc q h) hFc (fun r13 u t H1 locs ht hvm hw hB hz1 hk1 hS => ?_)
      replace hP := hB.1
      rw [ht] at hP
      replace hD : va_D A (xW h a e cI cJ cO cE L8 I9 M10 J n cap fE sd si11 sa12 dl) := hB.2.weaken (fun _ q _ h9 => hFc q.1 h9)
      clear hB
      generalize H1 = H at hP hS ⊢
      replace hP : va_P (dC, dI) vwCl (xW h a e cI cJ cO cE L8 I9 M10 J n cap fE sd si11 sa12 dl) H := hP
      obtain rfl : r13 = nI n := hw
      refine lv_icmp_ge (tgt := 48) hx hb dX8_carryOutDraft_25 (by decide) (fun c14 => ?_) (fun c14 => ?_)
      · replace c14 : n ≤ i4 := (nI_leI (a := n) (b := i4) (by omega) (by omega)).mp c14
        refine lv_aload_n hx hb dX8_carryOutDraft_48 rfl (lv_at hl 2 rfl) ?_
        refine va_get (D := (dC, dI)) (ci := 9) (v := .ref (a 3)) (C := RX8) (T := TX8) (N := 14) hx hb hts in_x_carryOutDraft_X8 hown hK hP 0 rfl rfl 3 (by decide) (hts (.fieldLink RX8 35 "ServiceTree" "jobs" "LServiceTree$Jobs;") (by decide +kernel)) (fun _ h9 => h9) rfl dX8_carryOutDraft_49 ?_
        refine lv_aload_n hx hb dX8_carryOutDraft_52 rfl (lv_at hl 2 rfl) ?_
        refine va_get (D := (dC, dI)) (ci := 9) (v := .ref (a 2)) (C := RX8) (T := TX8) (N := 14) hx hb hts in_x_carryOutDraft_X8 hown hK hP 0 rfl rfl 2 (by decide) (hts (.fieldLink RX8 28 "ServiceTree" "draft" "LServiceTree$Draft;") (by decide +kernel)) (fun _ h9 => h9) rfl dX8_carryOutDraft_53 ?_
        refine va_getN (D := (dC, dI)) (ci := 2) (v := .long (L8 3)) (C := RX1) (T := TX1) (N := 5) hx hb hts in_x_carryOutDraft_X1 hown hK hP 13 rfl rfl 2 (by decide) (va_Nw.use rfl (hN (.fieldLinkNest RX8 247 "ServiceTree$Draft" "starts" "J" "ServiceTree") (by decide +kernel))) (fun _ h9 => h9) rfl dX8_carryOutDraft_56 ?_
        refine lv_topl (fun x15 ex15 => ?_)
        refine lv_aload_n hx hb dX8_carryOutDraft_59 rfl (lv_at hl 2 rfl) ?_
        refine va_get (D := (dC, dI)) (ci := 9) (v := .ref (a 2)) (C := RX8) (T := TX8) (N := 14) hx hb hts in_x_carryOutDraft_X8 hown hK hP 0 rfl rfl 2 (by decide) (hts (.fieldLink RX8 28 "ServiceTree" "draft" "LServiceTree$Draft;") (by decide +kernel)) (fun _ h9 => h9) rfl dX8_carryOutDraft_60 ?_
        refine va_getN (D := (dC, dI)) (ci := 2) (v := .long (L8 4)) (C := RX1) (T := TX1) (N := 5) hx hb hts in_x_carryOutDraft_X1 hown hK hP 13 rfl rfl 3 (by decide) (va_Nw.use rfl (hN (.fieldLinkNest RX8 253 "ServiceTree$Draft" "stops" "J" "ServiceTree") (by decide +kernel))) (fun _ h9 => h9) rfl dX8_carryOutDraft_63 ?_
        refine lv_topl (fun x16 ex16 => ?_)
        have hFc := mw_free hD hS hA
        refine va_callv (va_runV (As := [.long x15, .long x16]) (rest := []) ⟨hx, hb, hml, hown, hts⟩ (c_x_take l dC dI h a e cI cJ cO cE L8 I9 M10 J n cap fE sd si11 sa12 dl (b + 1 * i4) x15 x16 H.size hX (by omega) ) (cwV 2 hts wc_x_carryOutDraft_x_take_256 rfl rfl rfl (by decide +kernel) ⟨Nat.le_of_ble_eq_true rfl, Nat.le_of_ble_eq_true rfl⟩) ⟨fun a9 U g mk q => by obtain ⟨q0, q1, qP, qK, qD, qN⟩ := q; exact ⟨q0, q1, qP, va_K.moved (u := U) (U := U.calling g mk a9) (Vm.Alike.refl U.vm) qK, qD, pw_N.same (u := U) (U := U.calling g mk a9) rfl qN⟩, va_recv hK hP (ci := 4) (q0 := 14) rfl rfl, fun U hU hW => ⟨rfl, by rw [hU], by rw [hU]; exact hP, va_K.moved hW.alike hK, hD.weaken (fun _ _ _ _ => trivial), pw_N.warm hW hN⟩⟩ rfl rfl hl.1 rfl (lv_room (Nat.le_of_ble_eq_true rfl)) dX8_carryOutDraft_66 ⟨Nat.le_of_ble_eq_true rfl, Nat.le_of_ble_eq_true rfl⟩) hS (fun q _ h => hFc q h) hFc (fun u t H1 locs ht hvm hw hB hz1 hk1 hS => ?_)
        obtain ⟨L18, rfl⟩ : ∃ z9, z9 = u := ⟨_, rfl⟩
        replace hP := hB.1
        rw [ht] at hP
        replace hD : va_D A (xW h a e cI cJ cO cE L18 I9 M10 J n cap fE sd si11 sa12 dl) := hB.2.weaken (fun _ q _ h9 => hFc q.1 h9)
        clear hB
        generalize H1 = H at hP hS ⊢
        replace hP : va_P (dC, dI) vwCl (xW h a e cI cJ cO cE L18 I9 M10 J n cap fE sd si11 sa12 dl) H := hP
        obtain ⟨hwX, whUL, hw⟩ := hw
        replace hX : InvX n cap fE sd dl (b + 1 * i4) I9 J si11 := hwX
        replace hUL : ∀ j9 : Nat, j9 ∉ ([0, 5, 6, 7] : List Nat) → L18 j9 = L j9 := mw_tr (by decide) whUL hUL
        refine lv_aload_n hx hb dX8_carryOutDraft_69 rfl (lv_at hl 2 rfl) ?_
        have hFc := mw_free hD hS hA
        refine va_callv (va_runV (As := []) (rest := []) ⟨hx, hb, hml, hown, hts⟩ (c_x_beginJobs l dC dI h a e cI cJ cO cE L18 I9 M10 J n cap fE sd si11 sa12 dl (b + 1 * i4)  H.size hX (by omega) ) (cwV 0 hts wc_x_carryOutDraft_x_beginJobs_260 rfl rfl rfl (by decide +kernel) ⟨Nat.le_of_ble_eq_true rfl, Nat.le_of_ble_eq_true rfl⟩) ⟨fun a9 U g mk q => by obtain ⟨q0, q1, qP, qK, qD, qN⟩ := q; exact ⟨q0, q1, qP, va_K.moved (u := U) (U := U.calling g mk a9) (Vm.Alike.refl U.vm) qK, qD, pw_N.same (u := U) (U := U.calling g mk a9) rfl qN⟩, va_recv hK hP (ci := 9) (q0 := 0) rfl rfl, fun U hU hW => ⟨rfl, by rw [hU], by rw [hU]; exact hP, va_K.moved hW.alike hK, hD.weaken (fun _ _ _ _ => trivial), pw_N.warm hW hN⟩⟩ rfl rfl hl.1 rfl (lv_room (Nat.le_of_ble_eq_true rfl)) dX8_carryOutDraft_70 ⟨Nat.le_of_ble_eq_true rfl, Nat.le_of_ble_eq_true rfl⟩) hS (fun q _ h => hFc q h) hFc (fun u t H1 locs ht hvm hw hB hz1 hk1 hS => ?_)
        obtain ⟨L20, I21, M22, si23, sa24⟩ := u
        replace hP := hB.1
        rw [ht] at hP
        replace hD : va_D A (xW h a e cI cJ cO cE L20 I21 M22 J n cap fE sd si23 sa24 dl) := hB.2.weaken (fun _ q _ h9 => hFc q.1 h9)
        clear hB
        generalize H1 = H at hP hS ⊢
        replace hP : va_P (dC, dI) vwCl (xW h a e cI cJ cO cE L20 I21 M22 J n cap fE sd si23 sa24 dl) H := hP
        obtain ⟨hwX, whUL, whUI, whUM, whUsi, whUsa, hw⟩ := hw
        replace hX : InvX n cap fE sd dl (b + 1 * i4 + 40) I21 J si23 := hwX
        replace hUL : ∀ j9 : Nat, j9 ∉ ([0, 5, 6, 7] : List Nat) → L20 j9 = L j9 := mw_tr (by decide) whUL hUL
        replace hUI : ∀ j9 : Nat, j9 ∉ ([12] : List Nat) → I21 j9 = I j9 := mw_tr (by decide) whUI hUI
        replace hUM : ∀ j9 : Nat, j9 ∉ ([8, 9] : List Nat) → M22 j9 = M j9 := mw_tr (by decide) whUM hUM
        replace hUsi : ∀ s9 q9 : Nat, q9 ∉ ([6, 7, 8, 9, 10, 11, 21, 22] : List Nat) → si23 s9 q9 = si s9 q9 := xw_tr2 (by decide) whUsi hUsi
        replace hUsa : ∀ s9 q9 : Nat, q9 ∉ ([3] : List Nat) → sa24 s9 q9 = sa s9 q9 := xw_tr2 (by decide) whUsa hUsa
        rw [hQ]
        exact W.vret hx hb hr (fun t ht hW => ⟨⟨(L20, I21, M22, si23, sa24), rfl, ⟨hX.mono (by omega), hUL, hUI, hUM, hUsi, hUsa, trivial⟩, by rw [ht]; exact hP, hD⟩, hS.F ht⟩) hS.2.2 dX8_carryOutDraft_73
      · replace c14 : ¬ (n ≤ i4) := fun q9 => c14 ((nI_leI (a := n) (b := i4) (by omega) (by omega)).mpr q9)
        refine lv_lload_n hx hb dX8_carryOutDraft_28 rfl (lv_at hl 1 rfl) ?_
        refine lv_iload_n hx hb dX8_carryOutDraft_29 rfl (lv_at hl 0 rfl) ?_
        have hFc := mw_free hD hS hA
        refine va_calli (va_runS (As := [.long x3, .int (nI i4)]) (rest := []) ⟨hx, hb, hml, hown, hts⟩ (c_x_holds l dC dI h a e cI cJ cO cE L8 I9 M10 J n cap fE sd si11 sa12 dl (b + 1 * i4) x3 (nI i4) H.size hX (by omega) ) (va_cwS 2 hts wc_x_carryOutDraft_x_holds_114 rfl rfl rfl (by decide +kernel) ⟨Nat.le_of_ble_eq_true rfl, Nat.le_of_ble_eq_true rfl⟩) ⟨fun a9 U g mk q => by obtain ⟨q0, q1, qP, qK, qD, qN⟩ := q; exact ⟨q0, q1, qP, va_K.moved (u := U) (U := U.calling g mk a9) (Vm.Alike.refl U.vm) qK, qD, pw_N.same (u := U) (U := U.calling g mk a9) rfl qN⟩, fun U hU hW => ⟨rfl, by rw [hU], by rw [hU]; exact hP, va_K.moved hW.alike hK, hD.weaken (fun _ _ _ _ => trivial), pw_N.warm hW hN⟩⟩ rfl rfl hl.1 rfl (lv_room (Nat.le_of_ble_eq_true rfl)) dX8_carryOutDraft_30 ⟨Nat.le_of_ble_eq_true rfl, Nat.le_of_ble_eq_true rfl⟩) hS (fun q _ h => hFc q h) hFc (fun r25 u t H1 locs ht hvm hw hB hz1 hk1 hS => ?_)
        replace hP := hB.1
        rw [ht] at hP
        replace hD : va_D A (xW h a e cI cJ cO cE L8 I9 M10 J n cap fE sd si11 sa12 dl) := hB.2.weaken (fun _ q _ h9 => hFc q.1 h9)
        clear hB
        generalize H1 = H at hP hS ⊢
        replace hP : va_P (dC, dI) vwCl (xW h a e cI cJ cO cE L8 I9 M10 J n cap fE sd si11 sa12 dl) H := hP
        have br25 := hw
        refine lv_if_eq (tgt := 42) hx hb dX8_carryOutDraft_33 (by decide) (fun c26 => ?_) (fun c26 => ?_)
        · refine lv_iinc (v := (nI (i4 + 1))) (lv' := [(3, .int (nI (i4 + 1))), (1, .long x3), (0, .ref h)]) hx hb dX8_carryOutDraft_42 hl (k := 0) rfl (nI_add i4 1) (by decide) rfl (fun ls hl => ?_)
          refine lv_goto (tgt := 17) hx hb dX8_carryOutDraft_45 (by decide) ?_
          exact ih6 (i4 + 1)  L8 I9 M10 si11 sa12 _ _ _ (by omega) (by omega) (hX.mono (by omega)) hUL hUI hUM hUsi hUsa  hP hD hS (lv_sub hl [0, 1, 2] rfl)
        · refine lv_aload_n hx hb dX8_carryOutDraft_36 rfl (lv_at hl 2 rfl) ?_
          refine lv_iload_n hx hb dX8_carryOutDraft_37 rfl (lv_at hl 0 rfl) ?_
          refine lv_iconst (v := 0) hx hb dX8_carryOutDraft_38 (by decide) ?_
          have hFc := mw_free hD hS hA
          refine va_callv (va_runV (As := [.int (nI i4), .int 0]) (rest := []) ⟨hx, hb, hml, hown, hts⟩ (c_x_enter l dC dI h a e cI cJ cO cE L8 I9 M10 J n cap fE sd si11 sa12 dl (b + 1 * i4) i4 0 H.size hX (by omega) (by omega) (by omega)) (cwV 2 hts wc_x_carryOutDraft_x_enter_249 rfl rfl rfl (by decide +kernel) ⟨Nat.le_of_ble_eq_true rfl, Nat.le_of_ble_eq_true rfl⟩) ⟨fun a9 U g mk q => by obtain ⟨q0, q1, qP, qK, qD, qN⟩ := q; exact ⟨q0, q1, qP, va_K.moved (u := U) (U := U.calling g mk a9) (Vm.Alike.refl U.vm) qK, qD, pw_N.same (u := U) (U := U.calling g mk a9) rfl qN⟩, va_recv hK hP (ci := 9) (q0 := 0) rfl rfl, fun U hU hW => ⟨rfl, by rw [hU], by rw [hU]; exact hP, va_K.moved hW.alike hK, hD.weaken (fun _ _ _ _ => trivial), pw_N.warm hW hN⟩⟩ rfl rfl hl.1 rfl (lv_room (Nat.le_of_ble_eq_true rfl)) dX8_carryOutDraft_39 ⟨Nat.le_of_ble_eq_true rfl, Nat.le_of_ble_eq_true rfl⟩) hS (fun q _ h => hFc q h) hFc (fun u t H1 locs ht hvm hw hB hz1 hk1 hS => ?_)
          obtain ⟨L28, I29, M30, si31, sa32⟩ := u
          replace hP := hB.1
          rw [ht] at hP
          replace hD : va_D A (xW h a e cI cJ cO cE L28 I29 M30 J n cap fE sd si31 sa32 dl) := hB.2.weaken (fun _ q _ h9 => hFc q.1 h9)
          clear hB
          generalize H1 = H at hP hS ⊢
          replace hP : va_P (dC, dI) vwCl (xW h a e cI cJ cO cE L28 I29 M30 J n cap fE sd si31 sa32 dl) H := hP
          obtain ⟨hwX, whUL, whUI, whUM, whUsi, whUsa, hw⟩ := hw
          replace hX : InvX n cap fE sd dl (b + 1 * i4 + 1) I29 J si31 := hwX
          replace hUL : ∀ j9 : Nat, j9 ∉ ([0, 5, 6, 7] : List Nat) → L28 j9 = L j9 := mw_tr (by decide) whUL hUL
          replace hUI : ∀ j9 : Nat, j9 ∉ ([12] : List Nat) → I29 j9 = I j9 := mw_tr (by decide) whUI hUI
          replace hUM : ∀ j9 : Nat, j9 ∉ ([8, 9] : List Nat) → M30 j9 = M j9 := mw_tr (by decide) whUM hUM
          replace hUsi : ∀ s9 q9 : Nat, q9 ∉ ([6, 7, 8, 9, 10, 11, 21, 22] : List Nat) → si31 s9 q9 = si s9 q9 := xw_tr2 (by decide) whUsi hUsi
          replace hUsa : ∀ s9 q9 : Nat, q9 ∉ ([3] : List Nat) → sa32 s9 q9 = sa s9 q9 := xw_tr2 (by decide) whUsa hUsa
          refine lv_iinc (v := (nI (i4 + 1))) (lv' := [(3, .int (nI (i4 + 1))), (1, .long x3), (0, .ref h)]) hx hb dX8_carryOutDraft_42 hl (k := 0) rfl (nI_add i4 1) (by decide) rfl (fun ls hl => ?_)
          refine lv_goto (tgt := 17) hx hb dX8_carryOutDraft_45 (by decide) ?_
          exact ih6 (i4 + 1)  L28 I29 M30 si31 sa32 _ _ _ (by omega) (by omega) (hX.mono (by omega)) hUL hUI hUM hUsi hUsa  hP hD hS (lv_sub hl [0, 1, 2] rfl)
  exact lp7 (n + 1) 0  L I M si sa _ _ _ (by omega) (by omega) (hX.mono (by omega)) hUL hUI hUM hUsi hUsa  hP hD hS hl
