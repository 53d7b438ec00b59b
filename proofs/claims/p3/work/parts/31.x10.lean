theorem dX8_relation_0 : decode cX8_relation 0 = .ok (.aload_n 0, 1) := by decide +kernel
theorem dX8_relation_1 : decode cX8_relation 1 = .ok (.iload_n 1, 1) := by decide +kernel
theorem dX8_relation_2 : decode cX8_relation 2 = .ok (.iload_n 2, 1) := by decide +kernel
theorem dX8_relation_3 : decode cX8_relation 3 = .ok (.iload_n 3, 1) := by decide +kernel
theorem dX8_relation_4 : decode cX8_relation 4 = .ok (.invokevirtual 107, 3) := by decide +kernel
theorem dX8_relation_7 : decode cX8_relation 7 = .ok (.ifCond .ne 5, 3) := by decide +kernel
theorem dX8_relation_10 : decode cX8_relation 10 = .ok (.iconst (-1), 1) := by decide +kernel
theorem dX8_relation_11 : decode cX8_relation 11 = .ok (.ireturn, 1) := by decide +kernel
theorem dX8_relation_12 : decode cX8_relation 12 = .ok (.aload_n 0, 1) := by decide +kernel
theorem dX8_relation_13 : decode cX8_relation 13 = .ok (.getfield 35, 3) := by decide +kernel
theorem dX8_relation_16 : decode cX8_relation 16 = .ok (.invokevirtual 110, 3) := by decide +kernel
theorem dX8_relation_19 : decode cX8_relation 19 = .ok (.lconst 0, 1) := by decide +kernel
theorem dX8_relation_20 : decode cX8_relation 20 = .ok (.lcmp, 1) := by decide +kernel
theorem dX8_relation_21 : decode cX8_relation 21 = .ok (.ifCond .eq 6, 3) := by decide +kernel
theorem dX8_relation_24 : decode cX8_relation 24 = .ok (.bipush (-3), 2) := by decide +kernel
theorem dX8_relation_26 : decode cX8_relation 26 = .ok (.ireturn, 1) := by decide +kernel
theorem dX8_relation_27 : decode cX8_relation 27 = .ok (.aload_n 0, 1) := by decide +kernel
theorem dX8_relation_28 : decode cX8_relation 28 = .ok (.getfield 53, 3) := by decide +kernel
theorem dX8_relation_31 : decode cX8_relation 31 = .ok (.iconst 0, 1) := by decide +kernel
theorem dX8_relation_32 : decode cX8_relation 32 = .ok (.laload, 1) := by decide +kernel
theorem dX8_relation_33 : decode cX8_relation 33 = .ok (.aload_n 0, 1) := by decide +kernel
theorem dX8_relation_34 : decode cX8_relation 34 = .ok (.getfield 53, 3) := by decide +kernel
theorem dX8_relation_37 : decode cX8_relation 37 = .ok (.iconst 4, 1) := by decide +kernel
theorem dX8_relation_38 : decode cX8_relation 38 = .ok (.laload, 1) := by decide +kernel
theorem dX8_relation_39 : decode cX8_relation 39 = .ok (.lor, 1) := by decide +kernel
theorem dX8_relation_40 : decode cX8_relation 40 = .ok (.lstore 4, 2) := by decide +kernel
theorem dX8_relation_42 : decode cX8_relation 42 = .ok (.iload_n 1, 1) := by decide +kernel
theorem dX8_relation_43 : decode cX8_relation 43 = .ok (.ifCond .eq 8, 3) := by decide +kernel
theorem dX8_relation_46 : decode cX8_relation 46 = .ok (.iload_n 1, 1) := by decide +kernel
theorem dX8_relation_47 : decode cX8_relation 47 = .ok (.iconst 3, 1) := by decide +kernel
theorem dX8_relation_48 : decode cX8_relation 48 = .ok (.if_icmp .ne 24, 3) := by decide +kernel
theorem dX8_relation_51 : decode cX8_relation 51 = .ok (.lload 4, 2) := by decide +kernel
theorem dX8_relation_53 : decode cX8_relation 53 = .ok (.iload_n 2, 1) := by decide +kernel
theorem dX8_relation_54 : decode cX8_relation 54 = .ok (.invokestatic 114, 3) := by decide +kernel
theorem dX8_relation_57 : decode cX8_relation 57 = .ok (.ifCond .eq 12, 3) := by decide +kernel
theorem dX8_relation_60 : decode cX8_relation 60 = .ok (.lload 4, 2) := by decide +kernel
theorem dX8_relation_62 : decode cX8_relation 62 = .ok (.iload_n 3, 1) := by decide +kernel
theorem dX8_relation_63 : decode cX8_relation 63 = .ok (.invokestatic 114, 3) := by decide +kernel
theorem dX8_relation_66 : decode cX8_relation 66 = .ok (.ifCond .ne 6, 3) := by decide +kernel
theorem dX8_relation_69 : decode cX8_relation 69 = .ok (.bipush (-4), 2) := by decide +kernel
theorem dX8_relation_71 : decode cX8_relation 71 = .ok (.ireturn, 1) := by decide +kernel
theorem dX8_relation_72 : decode cX8_relation 72 = .ok (.aload_n 0, 1) := by decide +kernel
theorem dX8_relation_73 : decode cX8_relation 73 = .ok (.getfield 19, 3) := by decide +kernel
theorem dX8_relation_76 : decode cX8_relation 76 = .ok (.iload_n 1, 1) := by decide +kernel
theorem dX8_relation_77 : decode cX8_relation 77 = .ok (.iload_n 2, 1) := by decide +kernel
theorem dX8_relation_78 : decode cX8_relation 78 = .ok (.iload_n 3, 1) := by decide +kernel
theorem dX8_relation_79 : decode cX8_relation 79 = .ok (.invokevirtual 118, 3) := by decide +kernel
theorem dX8_relation_82 : decode cX8_relation 82 = .ok (.ifCond .eq 5, 3) := by decide +kernel
theorem dX8_relation_85 : decode cX8_relation 85 = .ok (.iconst 0, 1) := by decide +kernel
theorem dX8_relation_86 : decode cX8_relation 86 = .ok (.ireturn, 1) := by decide +kernel
theorem dX8_relation_87 : decode cX8_relation 87 = .ok (.aload_n 0, 1) := by decide +kernel
theorem dX8_relation_88 : decode cX8_relation 88 = .ok (.getfield 19, 3) := by decide +kernel
theorem dX8_relation_91 : decode cX8_relation 91 = .ok (.getfield 121, 3) := by decide +kernel
theorem dX8_relation_94 : decode cX8_relation 94 = .ok (.sipush 400, 3) := by decide +kernel
theorem dX8_relation_97 : decode cX8_relation 97 = .ok (.if_icmp .lt 6, 3) := by decide +kernel
theorem dX8_relation_100 : decode cX8_relation 100 = .ok (.bipush (-6), 2) := by decide +kernel
theorem dX8_relation_102 : decode cX8_relation 102 = .ok (.ireturn, 1) := by decide +kernel
theorem dX8_relation_103 : decode cX8_relation 103 = .ok (.aload_n 0, 1) := by decide +kernel
theorem dX8_relation_104 : decode cX8_relation 104 = .ok (.getfield 19, 3) := by decide +kernel
theorem dX8_relation_107 : decode cX8_relation 107 = .ok (.iload_n 1, 1) := by decide +kernel
theorem dX8_relation_108 : decode cX8_relation 108 = .ok (.iload_n 2, 1) := by decide +kernel
theorem dX8_relation_109 : decode cX8_relation 109 = .ok (.iload_n 3, 1) := by decide +kernel
theorem dX8_relation_110 : decode cX8_relation 110 = .ok (.invokevirtual 123, 3) := by decide +kernel
theorem dX8_relation_113 : decode cX8_relation 113 = .ok (.iconst 1, 1) := by decide +kernel
theorem dX8_relation_114 : decode cX8_relation 114 = .ok (.ireturn, 1) := by decide +kernel
theorem dX8_undo_0 : decode cX8_undo 0 = .ok (.aload_n 0, 1) := by decide +kernel
theorem dX8_undo_1 : decode cX8_undo 1 = .ok (.iload_n 1, 1) := by decide +kernel
theorem dX8_undo_2 : decode cX8_undo 2 = .ok (.iload_n 2, 1) := by decide +kernel
theorem dX8_undo_3 : decode cX8_undo 3 = .ok (.iload_n 3, 1) := by decide +kernel
theorem dX8_undo_4 : decode cX8_undo 4 = .ok (.invokevirtual 107, 3) := by decide +kernel
theorem dX8_undo_7 : decode cX8_undo 7 = .ok (.ifCond .ne 5, 3) := by decide +kernel
theorem dX8_undo_10 : decode cX8_undo 10 = .ok (.iconst (-1), 1) := by decide +kernel
theorem dX8_undo_11 : decode cX8_undo 11 = .ok (.ireturn, 1) := by decide +kernel
theorem dX8_undo_12 : decode cX8_undo 12 = .ok (.aload_n 0, 1) := by decide +kernel
theorem dX8_undo_13 : decode cX8_undo 13 = .ok (.getfield 35, 3) := by decide +kernel
theorem dX8_undo_16 : decode cX8_undo 16 = .ok (.invokevirtual 110, 3) := by decide +kernel
theorem dX8_undo_19 : decode cX8_undo 19 = .ok (.lconst 0, 1) := by decide +kernel
theorem dX8_undo_20 : decode cX8_undo 20 = .ok (.lcmp, 1) := by decide +kernel
theorem dX8_undo_21 : decode cX8_undo 21 = .ok (.ifCond .eq 6, 3) := by decide +kernel
theorem dX8_undo_24 : decode cX8_undo 24 = .ok (.bipush (-3), 2) := by decide +kernel
theorem dX8_undo_26 : decode cX8_undo 26 = .ok (.ireturn, 1) := by decide +kernel
theorem dX8_undo_27 : decode cX8_undo 27 = .ok (.aload_n 0, 1) := by decide +kernel
theorem dX8_undo_28 : decode cX8_undo 28 = .ok (.getfield 19, 3) := by decide +kernel
theorem dX8_undo_31 : decode cX8_undo 31 = .ok (.iload_n 1, 1) := by decide +kernel
theorem dX8_undo_32 : decode cX8_undo 32 = .ok (.iload_n 2, 1) := by decide +kernel
theorem dX8_undo_33 : decode cX8_undo 33 = .ok (.iload_n 3, 1) := by decide +kernel
theorem dX8_undo_34 : decode cX8_undo 34 = .ok (.invokevirtual 118, 3) := by decide +kernel
theorem dX8_undo_37 : decode cX8_undo 37 = .ok (.ifCond .ne 5, 3) := by decide +kernel
theorem dX8_undo_40 : decode cX8_undo 40 = .ok (.iconst 0, 1) := by decide +kernel
theorem dX8_undo_41 : decode cX8_undo 41 = .ok (.ireturn, 1) := by decide +kernel
theorem dX8_undo_42 : decode cX8_undo 42 = .ok (.aload_n 0, 1) := by decide +kernel
theorem dX8_undo_43 : decode cX8_undo 43 = .ok (.getfield 19, 3) := by decide +kernel
theorem dX8_undo_46 : decode cX8_undo 46 = .ok (.iload_n 1, 1) := by decide +kernel
theorem dX8_undo_47 : decode cX8_undo 47 = .ok (.iload_n 2, 1) := by decide +kernel
theorem dX8_undo_48 : decode cX8_undo 48 = .ok (.iload_n 3, 1) := by decide +kernel
theorem dX8_undo_49 : decode cX8_undo 49 = .ok (.invokevirtual 125, 3) := by decide +kernel
theorem dX8_undo_52 : decode cX8_undo 52 = .ok (.iconst 1, 1) := by decide +kernel
theorem dX8_undo_53 : decode cX8_undo 53 = .ok (.ireturn, 1) := by decide +kernel
theorem dX8_startingUpOrStopping_0 : decode cX8_startingUpOrStopping 0 = .ok (.aload_n 0, 1) := by decide +kernel
theorem dX8_startingUpOrStopping_1 : decode cX8_startingUpOrStopping 1 = .ok (.getfield 53, 3) := by decide +kernel
theorem dX8_startingUpOrStopping_4 : decode cX8_startingUpOrStopping 4 = .ok (.iconst 1, 1) := by decide +kernel
theorem dX8_startingUpOrStopping_5 : decode cX8_startingUpOrStopping 5 = .ok (.laload, 1) := by decide +kernel
theorem dX8_startingUpOrStopping_6 : decode cX8_startingUpOrStopping 6 = .ok (.aload_n 0, 1) := by decide +kernel
theorem dX8_startingUpOrStopping_7 : decode cX8_startingUpOrStopping 7 = .ok (.getfield 53, 3) := by decide +kernel
theorem dX8_startingUpOrStopping_10 : decode cX8_startingUpOrStopping 10 = .ok (.iconst 2, 1) := by decide +kernel
theorem dX8_startingUpOrStopping_11 : decode cX8_startingUpOrStopping 11 = .ok (.laload, 1) := by decide +kernel
theorem dX8_startingUpOrStopping_12 : decode cX8_startingUpOrStopping 12 = .ok (.lor, 1) := by decide +kernel
theorem dX8_startingUpOrStopping_13 : decode cX8_startingUpOrStopping 13 = .ok (.aload_n 0, 1) := by decide +kernel
theorem dX8_startingUpOrStopping_14 : decode cX8_startingUpOrStopping 14 = .ok (.getfield 53, 3) := by decide +kernel
theorem dX8_startingUpOrStopping_17 : decode cX8_startingUpOrStopping 17 = .ok (.iconst 3, 1) := by decide +kernel
theorem dX8_startingUpOrStopping_18 : decode cX8_startingUpOrStopping 18 = .ok (.laload, 1) := by decide +kernel
theorem dX8_startingUpOrStopping_19 : decode cX8_startingUpOrStopping 19 = .ok (.lor, 1) := by decide +kernel
theorem dX8_startingUpOrStopping_20 : decode cX8_startingUpOrStopping 20 = .ok (.lreturn, 1) := by decide +kernel
theorem dX8_leastLacking_0 : decode cX8_leastLacking 0 = .ok (.aload_n 0, 1) := by decide +kernel
theorem dX8_leastLacking_1 : decode cX8_leastLacking 1 = .ok (.getfield 53, 3) := by decide +kernel
theorem dX8_leastLacking_4 : decode cX8_leastLacking 4 = .ok (.iconst 1, 1) := by decide +kernel
theorem dX8_leastLacking_5 : decode cX8_leastLacking 5 = .ok (.laload, 1) := by decide +kernel
theorem dX8_leastLacking_6 : decode cX8_leastLacking 6 = .ok (.aload_n 0, 1) := by decide +kernel
theorem dX8_leastLacking_7 : decode cX8_leastLacking 7 = .ok (.getfield 53, 3) := by decide +kernel
theorem dX8_leastLacking_10 : decode cX8_leastLacking 10 = .ok (.iconst 2, 1) := by decide +kernel
theorem dX8_leastLacking_11 : decode cX8_leastLacking 11 = .ok (.laload, 1) := by decide +kernel
theorem dX8_leastLacking_12 : decode cX8_leastLacking 12 = .ok (.lor, 1) := by decide +kernel
theorem dX8_leastLacking_13 : decode cX8_leastLacking 13 = .ok (.lstore_n 1, 1) := by decide +kernel
theorem dX8_leastLacking_14 : decode cX8_leastLacking 14 = .ok (.iconst 0, 1) := by decide +kernel
theorem dX8_leastLacking_15 : decode cX8_leastLacking 15 = .ok (.istore_n 3, 1) := by decide +kernel
theorem dX8_leastLacking_16 : decode cX8_leastLacking 16 = .ok (.iload_n 3, 1) := by decide +kernel
theorem dX8_leastLacking_17 : decode cX8_leastLacking 17 = .ok (.aload_n 0, 1) := by decide +kernel
theorem dX8_leastLacking_18 : decode cX8_leastLacking 18 = .ok (.getfield 10, 3) := by decide +kernel
theorem dX8_leastLacking_21 : decode cX8_leastLacking 21 = .ok (.invokevirtual 61, 3) := by decide +kernel
theorem dX8_leastLacking_24 : decode cX8_leastLacking 24 = .ok (.if_icmp .ge 27, 3) := by decide +kernel
theorem dX8_leastLacking_27 : decode cX8_leastLacking 27 = .ok (.lload_n 1, 1) := by decide +kernel
theorem dX8_leastLacking_28 : decode cX8_leastLacking 28 = .ok (.iload_n 3, 1) := by decide +kernel
theorem dX8_leastLacking_29 : decode cX8_leastLacking 29 = .ok (.invokestatic 114, 3) := by decide +kernel
theorem dX8_leastLacking_32 : decode cX8_leastLacking 32 = .ok (.ifCond .eq 13, 3) := by decide +kernel
theorem dX8_leastLacking_35 : decode cX8_leastLacking 35 = .ok (.aload_n 0, 1) := by decide +kernel
theorem dX8_leastLacking_36 : decode cX8_leastLacking 36 = .ok (.iload_n 3, 1) := by decide +kernel
theorem dX8_leastLacking_37 : decode cX8_leastLacking 37 = .ok (.invokevirtual 231, 3) := by decide +kernel
theorem dX8_leastLacking_40 : decode cX8_leastLacking 40 = .ok (.ifCond .ne 5, 3) := by decide +kernel
theorem dX8_leastLacking_43 : decode cX8_leastLacking 43 = .ok (.iload_n 3, 1) := by decide +kernel
theorem dX8_leastLacking_44 : decode cX8_leastLacking 44 = .ok (.ireturn, 1) := by decide +kernel
theorem dX8_leastLacking_45 : decode cX8_leastLacking 45 = .ok (.iinc 3 1, 3) := by decide +kernel
theorem dX8_leastLacking_48 : decode cX8_leastLacking 48 = .ok (.goto (-32), 3) := by decide +kernel
theorem dX8_leastLacking_51 : decode cX8_leastLacking 51 = .ok (.iconst (-1), 1) := by decide +kernel
theorem dX8_leastLacking_52 : decode cX8_leastLacking 52 = .ok (.ireturn, 1) := by decide +kernel
theorem dX8_hasItsNeeds_0 : decode cX8_hasItsNeeds 0 = .ok (.aload_n 0, 1) := by decide +kernel
theorem dX8_hasItsNeeds_1 : decode cX8_hasItsNeeds 1 = .ok (.getfield 19, 3) := by decide +kernel
theorem dX8_hasItsNeeds_4 : decode cX8_hasItsNeeds 4 = .ok (.iconst 0, 1) := by decide +kernel
theorem dX8_hasItsNeeds_5 : decode cX8_hasItsNeeds 5 = .ok (.iload_n 1, 1) := by decide +kernel
theorem dX8_hasItsNeeds_6 : decode cX8_hasItsNeeds 6 = .ok (.invokevirtual 234, 3) := by decide +kernel
theorem dX8_hasItsNeeds_9 : decode cX8_hasItsNeeds 9 = .ok (.aload_n 0, 1) := by decide +kernel
theorem dX8_hasItsNeeds_10 : decode cX8_hasItsNeeds 10 = .ok (.getfield 53, 3) := by decide +kernel
theorem dX8_hasItsNeeds_13 : decode cX8_hasItsNeeds 13 = .ok (.iconst 2, 1) := by decide +kernel
theorem dX8_hasItsNeeds_14 : decode cX8_hasItsNeeds 14 = .ok (.laload, 1) := by decide +kernel
theorem dX8_hasItsNeeds_15 : decode cX8_hasItsNeeds 15 = .ok (.ldc2_w 238, 3) := by decide +kernel
theorem dX8_hasItsNeeds_18 : decode cX8_hasItsNeeds 18 = .ok (.lxor, 1) := by decide +kernel
theorem dX8_hasItsNeeds_19 : decode cX8_hasItsNeeds 19 = .ok (.land, 1) := by decide +kernel
theorem dX8_hasItsNeeds_20 : decode cX8_hasItsNeeds 20 = .ok (.lconst 0, 1) := by decide +kernel
theorem dX8_hasItsNeeds_21 : decode cX8_hasItsNeeds 21 = .ok (.lcmp, 1) := by decide +kernel
theorem dX8_hasItsNeeds_22 : decode cX8_hasItsNeeds 22 = .ok (.ifCond .ne 7, 3) := by decide +kernel
theorem dX8_hasItsNeeds_25 : decode cX8_hasItsNeeds 25 = .ok (.iconst 1, 1) := by decide +kernel
theorem dX8_hasItsNeeds_26 : decode cX8_hasItsNeeds 26 = .ok (.goto 4, 3) := by decide +kernel
theorem dX8_hasItsNeeds_29 : decode cX8_hasItsNeeds 29 = .ok (.iconst 0, 1) := by decide +kernel
theorem dX8_hasItsNeeds_30 : decode cX8_hasItsNeeds 30 = .ok (.ireturn, 1) := by decide +kernel
theorem dX8_draftOrder_0 : decode cX8_draftOrder 0 = .ok (.iload_n 1, 1) := by decide +kernel
theorem dX8_draftOrder_1 : decode cX8_draftOrder 1 = .ok (.iconst 0, 1) := by decide +kernel
theorem dX8_draftOrder_2 : decode cX8_draftOrder 2 = .ok (.iconst 2, 1) := by decide +kernel
theorem dX8_draftOrder_3 : decode cX8_draftOrder 3 = .ok (.invokestatic 57, 3) := by decide +kernel
theorem dX8_draftOrder_6 : decode cX8_draftOrder 6 = .ok (.ifCond .eq 11, 3) := by decide +kernel
theorem dX8_draftOrder_9 : decode cX8_draftOrder 9 = .ok (.aload_n 0, 1) := by decide +kernel
theorem dX8_draftOrder_10 : decode cX8_draftOrder 10 = .ok (.iload_n 2, 1) := by decide +kernel
theorem dX8_draftOrder_11 : decode cX8_draftOrder 11 = .ok (.invokevirtual 82, 3) := by decide +kernel
theorem dX8_draftOrder_14 : decode cX8_draftOrder 14 = .ok (.ifCond .ne 5, 3) := by decide +kernel
theorem dX8_draftOrder_17 : decode cX8_draftOrder 17 = .ok (.iconst (-1), 1) := by decide +kernel
theorem dX8_draftOrder_18 : decode cX8_draftOrder 18 = .ok (.ireturn, 1) := by decide +kernel
theorem dX8_draftOrder_19 : decode cX8_draftOrder 19 = .ok (.aload_n 0, 1) := by decide +kernel
theorem dX8_draftOrder_20 : decode cX8_draftOrder 20 = .ok (.getfield 35, 3) := by decide +kernel
theorem dX8_draftOrder_23 : decode cX8_draftOrder 23 = .ok (.invokevirtual 110, 3) := by decide +kernel
theorem dX8_draftOrder_26 : decode cX8_draftOrder 26 = .ok (.lconst 0, 1) := by decide +kernel
theorem dX8_draftOrder_27 : decode cX8_draftOrder 27 = .ok (.lcmp, 1) := by decide +kernel
theorem dX8_draftOrder_28 : decode cX8_draftOrder 28 = .ok (.ifCond .ne 21, 3) := by decide +kernel
theorem dX8_draftOrder_31 : decode cX8_draftOrder 31 = .ok (.aload_n 0, 1) := by decide +kernel
theorem dX8_draftOrder_32 : decode cX8_draftOrder 32 = .ok (.getfield 53, 3) := by decide +kernel
theorem dX8_draftOrder_35 : decode cX8_draftOrder 35 = .ok (.iconst 1, 1) := by decide +kernel
theorem dX8_draftOrder_36 : decode cX8_draftOrder 36 = .ok (.laload, 1) := by decide +kernel
theorem dX8_draftOrder_37 : decode cX8_draftOrder 37 = .ok (.aload_n 0, 1) := by decide +kernel
theorem dX8_draftOrder_38 : decode cX8_draftOrder 38 = .ok (.getfield 53, 3) := by decide +kernel
theorem dX8_draftOrder_41 : decode cX8_draftOrder 41 = .ok (.iconst 3, 1) := by decide +kernel
theorem dX8_draftOrder_42 : decode cX8_draftOrder 42 = .ok (.laload, 1) := by decide +kernel
theorem dX8_draftOrder_43 : decode cX8_draftOrder 43 = .ok (.lor, 1) := by decide +kernel
theorem dX8_draftOrder_44 : decode cX8_draftOrder 44 = .ok (.lconst 0, 1) := by decide +kernel
theorem dX8_draftOrder_45 : decode cX8_draftOrder 45 = .ok (.lcmp, 1) := by decide +kernel
theorem dX8_draftOrder_46 : decode cX8_draftOrder 46 = .ok (.ifCond .eq 6, 3) := by decide +kernel
theorem dX8_draftOrder_49 : decode cX8_draftOrder 49 = .ok (.bipush (-3), 2) := by decide +kernel
theorem dX8_draftOrder_51 : decode cX8_draftOrder 51 = .ok (.ireturn, 1) := by decide +kernel
theorem dX8_draftOrder_52 : decode cX8_draftOrder 52 = .ok (.aload_n 0, 1) := by decide +kernel
theorem dX8_draftOrder_53 : decode cX8_draftOrder 53 = .ok (.getfield 28, 3) := by decide +kernel
theorem dX8_draftOrder_56 : decode cX8_draftOrder 56 = .ok (.iload_n 1, 1) := by decide +kernel
theorem dX8_draftOrder_57 : decode cX8_draftOrder 57 = .ok (.iload_n 2, 1) := by decide +kernel
theorem dX8_draftOrder_58 : decode cX8_draftOrder 58 = .ok (.aload_n 0, 1) := by decide +kernel
theorem dX8_draftOrder_59 : decode cX8_draftOrder 59 = .ok (.getfield 53, 3) := by decide +kernel
theorem dX8_draftOrder_62 : decode cX8_draftOrder 62 = .ok (.iconst 2, 1) := by decide +kernel
theorem dX8_draftOrder_63 : decode cX8_draftOrder 63 = .ok (.laload, 1) := by decide +kernel
theorem dX8_draftOrder_64 : decode cX8_draftOrder 64 = .ok (.aload_n 0, 1) := by decide +kernel
theorem dX8_draftOrder_65 : decode cX8_draftOrder 65 = .ok (.getfield 53, 3) := by decide +kernel
theorem dX8_draftOrder_68 : decode cX8_draftOrder 68 = .ok (.iconst 5, 1) := by decide +kernel
theorem dX8_draftOrder_69 : decode cX8_draftOrder 69 = .ok (.laload, 1) := by decide +kernel
theorem dX8_draftOrder_70 : decode cX8_draftOrder 70 = .ok (.invokevirtual 240, 3) := by decide +kernel
theorem dX8_draftOrder_73 : decode cX8_draftOrder 73 = .ok (.ireturn, 1) := by decide +kernel
theorem dX8_keepRing_0 : decode cX8_keepRing 0 = .ok (.iload_n 1, 1) := by decide +kernel
theorem dX8_keepRing_1 : decode cX8_keepRing 1 = .ok (.bipush (-5), 2) := by decide +kernel
theorem dX8_keepRing_3 : decode cX8_keepRing 3 = .ok (.if_icmp .ne 14, 3) := by decide +kernel
theorem dX8_keepRing_6 : decode cX8_keepRing 6 = .ok (.aload_n 0, 1) := by decide +kernel
theorem dX8_keepRing_7 : decode cX8_keepRing 7 = .ok (.aload_n 0, 1) := by decide +kernel
theorem dX8_keepRing_8 : decode cX8_keepRing 8 = .ok (.getfield 28, 3) := by decide +kernel
theorem dX8_keepRing_11 : decode cX8_keepRing 11 = .ok (.getfield 244, 3) := by decide +kernel
theorem dX8_keepRing_14 : decode cX8_keepRing 14 = .ok (.putfield 216, 3) := by decide +kernel
theorem dX8_keepRing_17 : decode cX8_keepRing 17 = .ok (.return_, 1) := by decide +kernel
def wq_x_relation : List Cond := [.code yX8_relation cX8_relation 6 (some .int), .fieldLink RX8 35 "ServiceTree" "jobs" "LServiceTree$Jobs;", .fieldLink RX8 53 "ServiceTree" "inState" "[J", .fieldLink RX8 19 "ServiceTree" "relations" "LServiceTree$Relations;", .methodLink RX8 107 yX8_canRelate, .instanceMethod yX8_canRelate, .selects RX8 yX8_canRelate yX8_canRelate, .initialized RX8, .methodLink RX8 110 yX3_left, .instanceMethod yX3_left, .selects RX3 yX3_left yX3_left, .initialized RX3, .methodLink RX8 114 yX8_holds, .static yX8_holds, .methodLink RX8 118 yX5_told, .instanceMethod yX5_told, .selects RX5 yX5_told yX5_told, .initialized RX5, .methodLink RX8 123 yX5_add, .instanceMethod yX5_add, .selects RX5 yX5_add yX5_add] ++ (wsX50 ++ (wsX80 ++ (wq_x_canRelate ++ (wq_x_left ++ (wq_x_holds ++ (wq_x_told ++ (wq_x_radd)))))))
theorem in_x_relation_X5 : ∀ w ∈ wsX50, w ∈ wq_x_relation := fun _ h => List.mem_append_right _ (List.mem_append_left _ (h))
theorem in_x_relation_X8 : ∀ w ∈ wsX80, w ∈ wq_x_relation := fun _ h => List.mem_append_right _ (List.mem_append_right _ (List.mem_append_left _ (h)))
set_option maxRecDepth 20000 in
theorem wi_x_relation : ∀ w ∈ wq_x_relation, w ∈ lw_tbl := List.forall_mem_append.mpr ⟨(by decide +kernel), List.forall_mem_append.mpr ⟨inKX5, List.forall_mem_append.mpr ⟨inKX8, List.forall_mem_append.mpr ⟨wi_x_canRelate, List.forall_mem_append.mpr ⟨wi_x_left, List.forall_mem_append.mpr ⟨wi_x_holds, List.forall_mem_append.mpr ⟨wi_x_told, wi_x_radd⟩⟩⟩⟩⟩⟩⟩
set_option maxRecDepth 20000 in
theorem wg_x_relation : GoodIn wq_x_relation wq_x_relation := goodIn_sub (fun _ h => h) (by decide +kernel)
set_option maxRecDepth 20000 in
theorem wc_x_relation_x_canRelate_107 : GoodIn wq_x_relation (wsV RX8 107 RX8 yX8_canRelate wq_x_canRelate) := goodIn_app (goodIn_of _ (by decide +kernel)) (fun w h => ⟨List.mem_append_right _ (List.mem_append_right _ (List.mem_append_right _ (List.mem_append_left _ (h)))), (wg_x_canRelate w h).2⟩)
set_option maxRecDepth 20000 in
theorem wc_x_relation_x_left_110 : GoodIn wq_x_relation (wsV RX8 110 RX3 yX3_left wq_x_left) := goodIn_app (goodIn_of _ (by decide +kernel)) (fun w h => ⟨List.mem_append_right _ (List.mem_append_right _ (List.mem_append_right _ (List.mem_append_right _ (List.mem_append_left _ (h))))), (wg_x_left w h).2⟩)
set_option maxRecDepth 20000 in
theorem wc_x_relation_x_holds_114 : GoodIn wq_x_relation (va_wsS RX8 114 yX8_holds wq_x_holds) := goodIn_app (goodIn_of _ (by decide +kernel)) (fun w h => ⟨List.mem_append_right _ (List.mem_append_right _ (List.mem_append_right _ (List.mem_append_right _ (List.mem_append_right _ (List.mem_append_left _ (h)))))), (wg_x_holds w h).2⟩)
set_option maxRecDepth 20000 in
theorem wc_x_relation_x_told_118 : GoodIn wq_x_relation (wsV RX8 118 RX5 yX5_told wq_x_told) := goodIn_app (goodIn_of _ (by decide +kernel)) (fun w h => ⟨List.mem_append_right _ (List.mem_append_right _ (List.mem_append_right _ (List.mem_append_right _ (List.mem_append_right _ (List.mem_append_right _ (List.mem_append_left _ (h))))))), (wg_x_told w h).2⟩)
set_option maxRecDepth 20000 in
theorem wc_x_relation_x_radd_123 : GoodIn wq_x_relation (wsV RX8 123 RX5 yX5_add wq_x_radd) := goodIn_app (goodIn_of _ (by decide +kernel)) (fun w h => ⟨List.mem_append_right _ (List.mem_append_right _ (List.mem_append_right _ (List.mem_append_right _ (List.mem_append_right _ (List.mem_append_right _ (List.mem_append_right _ (h))))))), (wg_x_radd w h).2⟩)
def rm_x_relation : Room := { frames := 4, cells := 0, slots := 0, locals := 91 }
set_option maxHeartbeats 4000000 in
set_option maxRecDepth 100000 in
theorem c_x_relation (l : Launch) (dC : Nat → ClassId) (dI : Nat → Nat → Nat) (h : Nat) (a : Nat → Nat) (e : Nat) (cI cJ cO cE : ClassId) (L : Nat → Int64) (I : Nat → Int32) (M : Nat → Nat → Int64) (J : Nat → Nat → Int32) (n cap : Nat) (fE : Nat → Option Nat) (sd : Nat → Nat → Nat) (si : Nat → Nat → Int32) (sa : Nat → Nat → Nat → Int32) (dl : Nat → Nat) (b : Nat) (p0 : Int32) (p1 : Int32) (p2 : Int32) (sz : Nat) (hX0 : InvX n cap fE sd dl b I J si) (hb0 : b + 0 < 2147483648)  : Met l yX8_relation wq_x_relation rm_x_relation (va_Pc [.ref h, .int p0, .int p1, .int p2] (fun U => U.heap.size = sz ∧ va_P (dC, dI) vwCl (xW h a e cI cJ cO cE L I M J n cap fE sd si sa dl) U.heap ∧ va_K (dC, dI) vwCl (xT cI cJ cO cE) U ∧ va_D (fun _ => True) (xW h a e cI cJ cO cE L I M J n cap fE sd si sa dl) ∧ pw_N U)) (va_Qi (fun (r : Int32) (u : (Nat → Int32) × (Nat → Nat → Int64)) => InvX n cap fE sd dl (b + 0) u.1 J si ∧ (∀ j9 : Nat, j9 ∉ ([7] : List Nat) → u.1 j9 = I j9) ∧ (∀ j9 : Nat, j9 ∉ ([0, 1, 2, 3, 4, 5, 6, 7] : List Nat) → u.2 j9 = M j9) ∧ (True)) (fun (u : (Nat → Int32) × (Nat → Nat → Int64)) (t : State) => va_P (dC, dI) vwCl (xW h a e cI cJ cO cE L u.1 u.2 J n cap fE sd si sa dl) t.heap ∧ va_D (va_A (xW h a e cI cJ cO cE L I M J n cap fE sd si sa dl) sz) (xW h a e cI cJ cO cE L u.1 u.2 J n cap fE sd si sa dl)) (va_A (xW h a e cI cJ cO cE L I M J n cap fE sd si sa dl) sz)) 0 0 (va_A (xW h a e cI cJ cO cE L I M J n cap fE sd si sa dl) sz) := by
  have hn : n ≤ 40 := hX0.1.1
  have hX := hX0
  have hUI : ∀ j9 : Nat, j9 ∉ ([7] : List Nat) → I j9 = I j9 := fun _ _ => rfl
  have hUM : ∀ j9 : Nat, j9 ∉ ([0, 1, 2, 3, 4, 5, 6, 7] : List Nat) → M j9 = M j9 := fun _ _ => rfl
  refine Met.ofW (cc := cX8_relation) (maxL := 6) (ret := (some .int)) (by decide) rfl ?_
  intro p e9 s m args below meth c s₁ B hml hv
  obtain ⟨rfl, hsz, hP, hK, hD0, hN⟩ := hv
  have hx := B.exec
  have hb := B.bytes
  have hr := B.returns
  have hts := atoms_spec (ws := wq_x_relation) B.pre
  have hown : s.vm.findClass RX8 = some m.cls := findClass_of_methodNamed B.named
  have hlocks := B.notSynchronized
  subst hsz
  have hD := hD0.self (sz := s.heap.size)
  generalize hAe : va_A (xW h a e cI cJ cO cE L I M J n cap fE sd si sa dl) s.heap.size = A at hD ⊢
  have hA : ∀ q : Nat, s.heap.size ≤ q → A q := fun q h => by rw [← hAe]; exact Or.inr h
  have hS : va_S A s.heap s.heap [] := va_S.rf
  have hl := lv_entry ([.ref h, .int p0, .int p1, .int p2]) (n := 6) (Nat.le_of_ble_eq_true rfl)
  rw [lg_entry_eq]
  generalize (lg_sl ([.ref h, .int p0, .int p1, .int p2]) ++ List.replicate (6 - (lg_sl ([.ref h, .int p0, .int p1, .int p2])).length) Slot.unset).toArray = ls at hl ⊢
  have hl : lv_has ls 6 [(0, .ref h), (1, .int p0), (2, .int p1), (3, .int p2)] := hl
  refine lv_aload_n hx hb dX8_relation_0 rfl (lv_at hl 0 rfl) ?_
  refine lv_iload_n hx hb dX8_relation_1 rfl (lv_at hl 1 rfl) ?_
  refine lv_iload_n hx hb dX8_relation_2 rfl (lv_at hl 2 rfl) ?_
  refine lv_iload_n hx hb dX8_relation_3 rfl (lv_at hl 3 rfl) ?_
  have hFc := mw_free hD hS hA
  refine va_calli (va_runV (As := [.int p0, .int p1, .int p2]) (rest := []) ⟨hx, hb, hml, hown, hts⟩ (c_x_canRelate l dC dI h a e cI cJ cO cE L I M J n cap fE sd si sa dl (b) p0 p1 p2 s.heap.size hX (by omega) ) (cwV 3 hts wc_x_relation_x_canRelate_107 rfl rfl rfl (by decide +kernel) ⟨Nat.le_of_ble_eq_true rfl, Nat.le_of_ble_eq_true rfl⟩) ⟨fun a9 U g mk q => by obtain ⟨q0, q1, qP, qK, qD, qN⟩ := q; exact ⟨q0, q1, qP, va_K.moved (u := U) (U := U.calling g mk a9) (Vm.Alike.refl U.vm) qK, qD, pw_N.same (u := U) (U := U.calling g mk a9) rfl qN⟩, va_recv hK hP (ci := 9) (q0 := 0) rfl rfl, fun U hU hW => ⟨rfl, by rw [hU], by rw [hU]; exact hP, va_K.moved hW.alike hK, hD.weaken (fun _ _ _ _ => trivial), pw_N.warm hW hN⟩⟩ rfl rfl hl.1 rfl (lv_room (Nat.le_of_ble_eq_true rfl)) dX8_relation_4 ⟨Nat.le_of_ble_eq_true rfl, Nat.le_of_ble_eq_true rfl⟩) hS (fun q _ h => hFc q h) hFc (fun r1 u t H1 locs ht hvm hw hB hz1 hk1 hS => ?_)
  replace hP := hB.1
  rw [ht] at hP
  replace hD : va_D A (xW h a e cI cJ cO cE L I M J n cap fE sd si sa dl) := hB.2.weaken (fun _ q _ h9 => hFc q.1 h9)
  clear hB
  generalize H1 = H at hP hS ⊢
  replace hP : va_P (dC, dI) vwCl (xW h a e cI cJ cO cE L I M J n cap fE sd si sa dl) H := hP
  rcases hw with ⟨rfl, j2, j3, j4, hj2, hj3, hj4, ej2, ej3, ej4⟩ | rfl
  · subst ej2
    subst ej3
    subst ej4
    refine lv_if_ne (tgt := 12) hx hb dX8_relation_7 (by decide) (fun _ => ?_) (fun c9 => absurd c9 (by decide))
    refine lv_aload_n hx hb dX8_relation_12 rfl (lv_at hl 0 rfl) ?_
    refine va_get (D := (dC, dI)) (ci := 9) (v := .ref (a 3)) (C := RX8) (T := TX8) (N := 14) hx hb hts in_x_relation_X8 hown hK hP 0 rfl rfl 3 (by decide) (hts (.fieldLink RX8 35 "ServiceTree" "jobs" "LServiceTree$Jobs;") (by decide +kernel)) (fun _ h9 => h9) rfl dX8_relation_13 ?_
    have hFc := mw_free hD hS hA
    refine va_calll (va_runV (As := []) (rest := []) ⟨hx, hb, hml, hown, hts⟩ (c_x_left l dC dI h a e cI cJ cO cE L I M J n cap fE sd si sa dl (b)  H.size hX (by omega) ) (cwV 0 hts wc_x_relation_x_left_110 rfl rfl rfl (by decide +kernel) ⟨Nat.le_of_ble_eq_true rfl, Nat.le_of_ble_eq_true rfl⟩) ⟨fun a9 U g mk q => by obtain ⟨q0, q1, qP, qK, qD, qN⟩ := q; exact ⟨q0, q1, qP, va_K.moved (u := U) (U := U.calling g mk a9) (Vm.Alike.refl U.vm) qK, qD, pw_N.same (u := U) (U := U.calling g mk a9) rfl qN⟩, va_recv hK hP (ci := 4) (q0 := 14) rfl rfl, fun U hU hW => ⟨rfl, by rw [hU], by rw [hU]; exact hP, va_K.moved hW.alike hK, hD.weaken (fun _ _ _ _ => trivial), pw_N.warm hW hN⟩⟩ rfl rfl hl.1 rfl (lv_room (Nat.le_of_ble_eq_true rfl)) dX8_relation_16 ⟨Nat.le_of_ble_eq_true rfl, Nat.le_of_ble_eq_true rfl⟩) hS (fun q _ h => hFc q h) hFc (fun r5 u t H1 locs ht hvm hw hB hz1 hk1 hS => ?_)
    replace hP := hB.1
    rw [ht] at hP
    replace hD : va_D A (xW h a e cI cJ cO cE L I M J n cap fE sd si sa dl) := hB.2.weaken (fun _ q _ h9 => hFc q.1 h9)
    clear hB
    generalize H1 = H at hP hS ⊢
    replace hP : va_P (dC, dI) vwCl (xW h a e cI cJ cO cE L I M J n cap fE sd si sa dl) H := hP
    refine lv_lconst (v := 0) hx hb dX8_relation_19 (by decide) ?_
    refine W.lcmp hx hb dX8_relation_20 ?_
    refine lv_topi (fun x6 ex6 => ?_)
    refine lv_if_eq (tgt := 27) hx hb dX8_relation_21 (by decide) (fun c7 => ?_) (fun c7 => ?_)
    · refine lv_aload_n hx hb dX8_relation_27 rfl (lv_at hl 0 rfl) ?_
      refine va_get (D := (dC, dI)) (ci := 9) (v := .ref (a 6)) (C := RX8) (T := TX8) (N := 14) hx hb hts in_x_relation_X8 hown hK hP 0 rfl rfl 6 (by decide) (hts (.fieldLink RX8 53 "ServiceTree" "inState" "[J") (by decide +kernel)) (fun _ h9 => h9) rfl dX8_relation_28 ?_
      refine lv_iconst (v := 0) hx hb dX8_relation_31 (by decide) ?_
      refine va_lald (n := 6) (f := M 9) hx hb hK hP 21 1 rfl rfl (vp_in_nI (n := 0) (by omega) (by omega)) dX8_relation_32 ?_
      refine lv_topl (fun x8 ex8 => ?_)
      refine lv_aload_n hx hb dX8_relation_33 rfl (lv_at hl 0 rfl) ?_
      refine va_get (D := (dC, dI)) (ci := 9) (v := .ref (a 6)) (C := RX8) (T := TX8) (N := 14) hx hb hts in_x_relation_X8 hown hK hP 0 rfl rfl 6 (by decide) (hts (.fieldLink RX8 53 "ServiceTree" "inState" "[J") (by decide +kernel)) (fun _ h9 => h9) rfl dX8_relation_34 ?_
      refine lv_iconst (v := 4) hx hb dX8_relation_37 (by decide) ?_
      refine va_lald (n := 6) (f := M 9) hx hb hK hP 21 1 rfl rfl (vp_in_nI (n := 4) (by omega) (by omega)) dX8_relation_38 ?_
      refine lv_topl (fun x9 ex9 => ?_)
      refine lv_lor hx hb dX8_relation_39 ?_
      refine lv_topl (fun x10 ex10 => ?_)
      refine lv_lstore (lv' := [(4, .long x10), (0, .ref h), (1, .int (nI j2)), (2, .int (nI j3)), (3, .int (nI j4))]) hx hb dX8_relation_40 hl (by decide) rfl (fun ls hl => ?_)
      refine lv_iload_n hx hb dX8_relation_42 rfl (lv_at hl 2 rfl) ?_
      refine lv_if_eq (tgt := 51) hx hb dX8_relation_43 (by decide) (fun c11 => ?_) (fun c11 => ?_)
      · replace c11 : j2 = 0 := (nI_eq (a := j2) (b := 0) (by omega) (by omega)).mp c11
        refine lv_lload hx hb dX8_relation_51 (lv_at hl 0 rfl) ?_
        refine lv_iload_n hx hb dX8_relation_53 rfl (lv_at hl 3 rfl) ?_
        have hFc := mw_free hD hS hA
        refine va_calli (va_runS (As := [.long x10, .int (nI j3)]) (rest := []) ⟨hx, hb, hml, hown, hts⟩ (c_x_holds l dC dI h a e cI cJ cO cE L I M J n cap fE sd si sa dl (b) x10 (nI j3) H.size hX (by omega) ) (va_cwS 2 hts wc_x_relation_x_holds_114 rfl rfl rfl (by decide +kernel) ⟨Nat.le_of_ble_eq_true rfl, Nat.le_of_ble_eq_true rfl⟩) ⟨fun a9 U g mk q => by obtain ⟨q0, q1, qP, qK, qD, qN⟩ := q; exact ⟨q0, q1, qP, va_K.moved (u := U) (U := U.calling g mk a9) (Vm.Alike.refl U.vm) qK, qD, pw_N.same (u := U) (U := U.calling g mk a9) rfl qN⟩, fun U hU hW => ⟨rfl, by rw [hU], by rw [hU]; exact hP, va_K.moved hW.alike hK, hD.weaken (fun _ _ _ _ => trivial), pw_N.warm hW hN⟩⟩ rfl rfl hl.1 rfl (lv_room (Nat.le_of_ble_eq_true rfl)) dX8_relation_54 ⟨Nat.le_of_ble_eq_true rfl, Nat.le_of_ble_eq_true rfl⟩) hS (fun q _ h => hFc q h) hFc (fun r12 u t H1 locs ht hvm hw hB hz1 hk1 hS => ?_)
        replace hP := hB.1
        rw [ht] at hP
        replace hD : va_D A (xW h a e cI cJ cO cE L I M J n cap fE sd si sa dl) := hB.2.weaken (fun _ q _ h9 => hFc q.1 h9)
        clear hB
        generalize H1 = H at hP hS ⊢
        replace hP : va_P (dC, dI) vwCl (xW h a e cI cJ cO cE L I M J n cap fE sd si sa dl) H := hP
        have br12 := hw
        refine lv_if_eq (tgt := 69) hx hb dX8_relation_57 (by decide) (fun c13 => ?_) (fun c13 => ?_)
        · refine lv_bipush (v := (-4)) hx hb dX8_relation_69 (by decide) ?_
          exact W.iret (v := (-4)) hx hb hr (fun t ht hW => ⟨⟨(-4), (I, M), rfl, ⟨hX.mono (by omega), hUI, hUM, trivial⟩, by rw [ht]; exact hP, hD⟩, hS.F ht⟩) hS.2.2 dX8_relation_71
        · refine lv_lload hx hb dX8_relation_60 (lv_at hl 0 rfl) ?_
          refine lv_iload_n hx hb dX8_relation_62 rfl (lv_at hl 4 rfl) ?_
          have hFc := mw_free hD hS hA
          refine va_calli (va_runS (As := [.long x10, .int (nI j4)]) (rest := []) ⟨hx, hb, hml, hown, hts⟩ (c_x_holds l dC dI h a e cI cJ cO cE L I M J n cap fE sd si sa dl (b) x10 (nI j4) H.size hX (by omega) ) (va_cwS 2 hts wc_x_relation_x_holds_114 rfl rfl rfl (by decide +kernel) ⟨Nat.le_of_ble_eq_true rfl, Nat.le_of_ble_eq_true rfl⟩) ⟨fun a9 U g mk q => by obtain ⟨q0, q1, qP, qK, qD, qN⟩ := q; exact ⟨q0, q1, qP, va_K.moved (u := U) (U := U.calling g mk a9) (Vm.Alike.refl U.vm) qK, qD, pw_N.same (u := U) (U := U.calling g mk a9) rfl qN⟩, fun U hU hW => ⟨rfl, by rw [hU], by rw [hU]; exact hP, va_K.moved hW.alike hK, hD.weaken (fun _ _ _ _ => trivial), pw_N.warm hW hN⟩⟩ rfl rfl hl.1 rfl (lv_room (Nat.le_of_ble_eq_true rfl)) dX8_relation_63 ⟨Nat.le_of_ble_eq_true rfl, Nat.le_of_ble_eq_true rfl⟩) hS (fun q _ h => hFc q h) hFc (fun r14 u t H1 locs ht hvm hw hB hz1 hk1 hS => ?_)
          replace hP := hB.1
          rw [ht] at hP
          replace hD : va_D A (xW h a e cI cJ cO cE L I M J n cap fE sd si sa dl) := hB.2.weaken (fun _ q _ h9 => hFc q.1 h9)
          clear hB
          generalize H1 = H at hP hS ⊢
          replace hP : va_P (dC, dI) vwCl (xW h a e cI cJ cO cE L I M J n cap fE sd si sa dl) H := hP
          have br14 := hw
          refine lv_if_ne (tgt := 72) hx hb dX8_relation_66 (by decide) (fun c15 => ?_) (fun c15 => ?_)
          · refine lv_aload_n hx hb dX8_relation_72 rfl (lv_at hl 1 rfl) ?_
            refine va_get (D := (dC, dI)) (ci := 9) (v := .ref (a 1)) (C := RX8) (T := TX8) (N := 14) hx hb hts in_x_relation_X8 hown hK hP 0 rfl rfl 1 (by decide) (hts (.fieldLink RX8 19 "ServiceTree" "relations" "LServiceTree$Relations;") (by decide +kernel)) (fun _ h9 => h9) rfl dX8_relation_73 ?_
            refine lv_iload_n hx hb dX8_relation_76 rfl (lv_at hl 2 rfl) ?_
            refine lv_iload_n hx hb dX8_relation_77 rfl (lv_at hl 3 rfl) ?_
            refine lv_iload_n hx hb dX8_relation_78 rfl (lv_at hl 4 rfl) ?_
            have hFc := mw_free hD hS hA
            refine va_calli (va_runV (As := [.int (nI j2), .int (nI j3), .int (nI j4)]) (rest := []) ⟨hx, hb, hml, hown, hts⟩ (c_x_told l dC dI h a e cI cJ cO cE L I M J n cap fE sd si sa dl (b) j2 j3 (nI j4) H.size hX (by omega) (by omega) (by omega)) (cwV 3 hts wc_x_relation_x_told_118 rfl rfl rfl (by decide +kernel) ⟨Nat.le_of_ble_eq_true rfl, Nat.le_of_ble_eq_true rfl⟩) ⟨fun a9 U g mk q => by obtain ⟨q0, q1, qP, qK, qD, qN⟩ := q; exact ⟨q0, q1, qP, va_K.moved (u := U) (U := U.calling g mk a9) (Vm.Alike.refl U.vm) qK, qD, pw_N.same (u := U) (U := U.calling g mk a9) rfl qN⟩, va_recv hK hP (ci := 6) (q0 := 2) rfl rfl, fun U hU hW => ⟨rfl, by rw [hU], by rw [hU]; exact hP, va_K.moved hW.alike hK, hD.weaken (fun _ _ _ _ => trivial), pw_N.warm hW hN⟩⟩ rfl rfl hl.1 rfl (lv_room (Nat.le_of_ble_eq_true rfl)) dX8_relation_79 ⟨Nat.le_of_ble_eq_true rfl, Nat.le_of_ble_eq_true rfl⟩) hS (fun q _ h => hFc q h) hFc (fun r16 u t H1 locs ht hvm hw hB hz1 hk1 hS => ?_)
            replace hP := hB.1
            rw [ht] at hP
            replace hD : va_D A (xW h a e cI cJ cO cE L I M J n cap fE sd si sa dl) := hB.2.weaken (fun _ q _ h9 => hFc q.1 h9)
            clear hB
            generalize H1 = H at hP hS ⊢
            replace hP : va_P (dC, dI) vwCl (xW h a e cI cJ cO cE L I M J n cap fE sd si sa dl) H := hP
            have br16 := hw
            refine lv_if_eq (tgt := 87) hx hb dX8_relation_82 (by decide) (fun c17 => ?_) (fun c17 => ?_)
            · refine lv_aload_n hx hb dX8_relation_87 rfl (lv_at hl 1 rfl) ?_
              refine va_get (D := (dC, dI)) (ci := 9) (v := .ref (a 1)) (C := RX8) (T := TX8) (N := 14) hx hb hts in_x_relation_X8 hown hK hP 0 rfl rfl 1 (by decide) (hts (.fieldLink RX8 19 "ServiceTree" "relations" "LServiceTree$Relations;") (by decide +kernel)) (fun _ h9 => h9) rfl dX8_relation_88 ?_
              refine va_getN (D := (dC, dI)) (ci := 6) (v := .int (I 7)) (C := RX5) (T := TX5) (N := 3) hx hb hts in_x_relation_X5 hown hK hP 2 rfl rfl 2 (by decide) (va_Nw.use rfl (hN (.fieldLinkNest RX8 121 "ServiceTree$Relations" "size" "I" "ServiceTree") (by decide +kernel))) (fun _ h9 => h9) rfl dX8_relation_91 ?_
              refine lv_topi (fun x18 ex18 => ?_)
              refine lv_sipush (v := 400) hx hb dX8_relation_94 (by decide) ?_
              refine lv_icmp_lt (tgt := 103) hx hb dX8_relation_97 (by decide) (fun c19 => ?_) (fun c19 => ?_)
              · refine lv_aload_n hx hb dX8_relation_103 rfl (lv_at hl 1 rfl) ?_
                refine va_get (D := (dC, dI)) (ci := 9) (v := .ref (a 1)) (C := RX8) (T := TX8) (N := 14) hx hb hts in_x_relation_X8 hown hK hP 0 rfl rfl 1 (by decide) (hts (.fieldLink RX8 19 "ServiceTree" "relations" "LServiceTree$Relations;") (by decide +kernel)) (fun _ h9 => h9) rfl dX8_relation_104 ?_
                refine lv_iload_n hx hb dX8_relation_107 rfl (lv_at hl 2 rfl) ?_
                refine lv_iload_n hx hb dX8_relation_108 rfl (lv_at hl 3 rfl) ?_
                refine lv_iload_n hx hb dX8_relation_109 rfl (lv_at hl 4 rfl) ?_
                have hFc := mw_free hD hS hA
                refine va_callv (va_runV (As := [.int (nI j2), .int (nI j3), .int (nI j4)]) (rest := []) ⟨hx, hb, hml, hown, hts⟩ (c_x_radd l dC dI h a e cI cJ cO cE L I M J n cap fE sd si sa dl (b) j2 j3 j4 H.size hX (by omega) (by omega) (by omega) (by omega)) (cwV 3 hts wc_x_relation_x_radd_123 rfl rfl rfl (by decide +kernel) ⟨Nat.le_of_ble_eq_true rfl, Nat.le_of_ble_eq_true rfl⟩) ⟨fun a9 U g mk q => by obtain ⟨q0, q1, qP, qK, qD, qN⟩ := q; exact ⟨q0, q1, qP, va_K.moved (u := U) (U := U.calling g mk a9) (Vm.Alike.refl U.vm) qK, qD, pw_N.same (u := U) (U := U.calling g mk a9) rfl qN⟩, va_recv hK hP (ci := 6) (q0 := 2) rfl rfl, fun U hU hW => ⟨rfl, by rw [hU], by rw [hU]; exact hP, va_K.moved hW.alike hK, hD.weaken (fun _ _ _ _ => trivial), pw_N.warm hW hN⟩⟩ rfl rfl hl.1 rfl (lv_room (Nat.le_of_ble_eq_true rfl)) dX8_relation_110 ⟨Nat.le_of_ble_eq_true rfl, Nat.le_of_ble_eq_true rfl⟩) hS (fun q _ h => hFc q h) hFc (fun u t H1 locs ht hvm hw hB hz1 hk1 hS => ?_)
                obtain ⟨I21, M22⟩ := u
                replace hP := hB.1
                rw [ht] at hP
                replace hD : va_D A (xW h a e cI cJ cO cE L I21 M22 J n cap fE sd si sa dl) := hB.2.weaken (fun _ q _ h9 => hFc q.1 h9)
                clear hB
                generalize H1 = H at hP hS ⊢
                replace hP : va_P (dC, dI) vwCl (xW h a e cI cJ cO cE L I21 M22 J n cap fE sd si sa dl) H := hP
                obtain ⟨hwX, whUI, whUM, hw⟩ := hw
                replace hX : InvX n cap fE sd dl (b) I21 J si := hwX
                replace hUI : ∀ j9 : Nat, j9 ∉ ([7] : List Nat) → I21 j9 = I j9 := mw_tr (by decide) whUI hUI
                replace hUM : ∀ j9 : Nat, j9 ∉ ([0, 1, 2, 3, 4, 5, 6, 7] : List Nat) → M22 j9 = M j9 := mw_tr (by decide) whUM hUM
                refine lv_iconst (v := 1) hx hb dX8_relation_113 (by decide) ?_
                exact W.iret (v := 1) hx hb hr (fun t ht hW => ⟨⟨1, (I21, M22), rfl, ⟨hX.mono (by omega), hUI, hUM, trivial⟩, by rw [ht]; exact hP, hD⟩, hS.F ht⟩) hS.2.2 dX8_relation_114
              · refine lv_bipush (v := (-6)) hx hb dX8_relation_100 (by decide) ?_
                exact W.iret (v := (-6)) hx hb hr (fun t ht hW => ⟨⟨(-6), (I, M), rfl, ⟨hX.mono (by omega), hUI, hUM, trivial⟩, by rw [ht]; exact hP, hD⟩, hS.F ht⟩) hS.2.2 dX8_relation_102
            · refine lv_iconst (v := 0) hx hb dX8_relation_85 (by decide) ?_
              exact W.iret (v := 0) hx hb hr (fun t ht hW => ⟨⟨0, (I, M), rfl, ⟨hX.mono (by omega), hUI, hUM, trivial⟩, by rw [ht]; exact hP, hD⟩, hS.F ht⟩) hS.2.2 dX8_relation_86
          · refine lv_bipush (v := (-4)) hx hb dX8_relation_69 (by decide) ?_
            exact W.iret (v := (-4)) hx hb hr (fun t ht hW => ⟨⟨(-4), (I, M), rfl, ⟨hX.mono (by omega), hUI, hUM, trivial⟩, by rw [ht]; exact hP, hD⟩, hS.F ht⟩) hS.2.2 dX8_relation_71
      · replace c11 : ¬ (j2 = 0) := fun q9 => c11 ((nI_eq (a := j2) (b := 0) (by omega) (by omega)).mpr q9)
        refine lv_iload_n hx hb dX8_relation_46 rfl (lv_at hl 2 rfl) ?_
        refine lv_iconst (v := 3) hx hb dX8_relation_47 (by decide) ?_
        refine lv_icmp_ne (tgt := 72) hx hb dX8_relation_48 (by decide) (fun c23 => ?_) (fun c23 => ?_)
        · replace c23 : ¬ (j2 = 3) := fun q9 => c23 ((nI_eq (a := j2) (b := 3) (by omega) (by omega)).mpr q9)
          refine lv_aload_n hx hb dX8_relation_72 rfl (lv_at hl 1 rfl) ?_
          refine va_get (D := (dC, dI)) (ci := 9) (v := .ref (a 1)) (C := RX8) (T := TX8) (N := 14) hx hb hts in_x_relation_X8 hown hK hP 0 rfl rfl 1 (by decide) (hts (.fieldLink RX8 19 "ServiceTree" "relations" "LServiceTree$Relations;") (by decide +kernel)) (fun _ h9 => h9) rfl dX8_relation_73 ?_
          refine lv_iload_n hx hb dX8_relation_76 rfl (lv_at hl 2 rfl) ?_
          refine lv_iload_n hx hb dX8_relation_77 rfl (lv_at hl 3 rfl) ?_
          refine lv_iload_n hx hb dX8_relation_78 rfl (lv_at hl 4 rfl) ?_
          have hFc := mw_free hD hS hA
          refine va_calli (va_runV (As := [.int (nI j2), .int (nI j3), .int (nI j4)]) (rest := []) ⟨hx, hb, hml, hown, hts⟩ (c_x_told l dC dI h a e cI cJ cO cE L I M J n cap fE sd si sa dl (b) j2 j3 (nI j4) H.size hX (by omega) (by omega) (by omega)) (cwV 3 hts wc_x_relation_x_told_118 rfl rfl rfl (by decide +kernel) ⟨Nat.le_of_ble_eq_true rfl, Nat.le_of_ble_eq_true rfl⟩) ⟨fun a9 U g mk q => by obtain ⟨q0, q1, qP, qK, qD, qN⟩ := q; exact ⟨q0, q1, qP, va_K.moved (u := U) (U := U.calling g mk a9) (Vm.Alike.refl U.vm) qK, qD, pw_N.same (u := U) (U := U.calling g mk a9) rfl qN⟩, va_recv hK hP (ci := 6) (q0 := 2) rfl rfl, fun U hU hW => ⟨rfl, by rw [hU], by rw [hU]; exact hP, va_K.moved hW.alike hK, hD.weaken (fun _ _ _ _ => trivial), pw_N.warm hW hN⟩⟩ rfl rfl hl.1 rfl (lv_room (Nat.le_of_ble_eq_true rfl)) dX8_relation_79 ⟨Nat.le_of_ble_eq_true rfl, Nat.le_of_ble_eq_true rfl⟩) hS (fun q _ h => hFc q h) hFc (fun r24 u t H1 locs ht hvm hw hB hz1 hk1 hS => ?_)
          replace hP := hB.1
          rw [ht] at hP
          replace hD : va_D A (xW h a e cI cJ cO cE L I M J n cap fE sd si sa dl) := hB.2.weaken (fun _ q _ h9 => hFc q.1 h9)
          clear hB
          generalize H1 = H at hP hS ⊢
          replace hP : va_P (dC, dI) vwCl (xW h a e cI cJ cO cE L I M J n cap fE sd si sa dl) H := hP
          have br24 := hw
          refine lv_if_eq (tgt := 87) hx hb dX8_relation_82 (by decide) (fun c25 => ?_) (fun c25 => ?_)
          · refine lv_aload_n hx hb dX8_relation_87 rfl (lv_at hl 1 rfl) ?_
            refine va_get (D := (dC, dI)) (ci := 9) (v := .ref (a 1)) (C := RX8) (T := TX8) (N := 14) hx hb hts in_x_relation_X8 hown hK hP 0 rfl rfl 1 (by decide) (hts (.fieldLink RX8 19 "ServiceTree" "relations" "LServiceTree$Relations;") (by decide +kernel)) (fun _ h9 => h9) rfl dX8_relation_88 ?_
            refine va_getN (D := (dC, dI)) (ci := 6) (v := .int (I 7)) (C := RX5) (T := TX5) (N := 3) hx hb hts in_x_relation_X5 hown hK hP 2 rfl rfl 2 (by decide) (va_Nw.use rfl (hN (.fieldLinkNest RX8 121 "ServiceTree$Relations" "size" "I" "ServiceTree") (by decide +kernel))) (fun _ h9 => h9) rfl dX8_relation_91 ?_
            refine lv_topi (fun x26 ex26 => ?_)
            refine lv_sipush (v := 400) hx hb dX8_relation_94 (by decide) ?_
            refine lv_icmp_lt (tgt := 103) hx hb dX8_relation_97 (by decide) (fun c27 => ?_) (fun c27 => ?_)
            · refine lv_aload_n hx hb dX8_relation_103 rfl (lv_at hl 1 rfl) ?_
              refine va_get (D := (dC, dI)) (ci := 9) (v := .ref (a 1)) (C := RX8) (T := TX8) (N := 14) hx hb hts in_x_relation_X8 hown hK hP 0 rfl rfl 1 (by decide) (hts (.fieldLink RX8 19 "ServiceTree" "relations" "LServiceTree$Relations;") (by decide +kernel)) (fun _ h9 => h9) rfl dX8_relation_104 ?_
              refine lv_iload_n hx hb dX8_relation_107 rfl (lv_at hl 2 rfl) ?_
              refine lv_iload_n hx hb dX8_relation_108 rfl (lv_at hl 3 rfl) ?_
              refine lv_iload_n hx hb dX8_relation_109 rfl (lv_at hl 4 rfl) ?_
              have hFc := mw_free hD hS hA
              refine va_callv (va_runV (As := [.int (nI j2), .int (nI j3), .int (nI j4)]) (rest := []) ⟨hx, hb, hml, hown, hts⟩ (c_x_radd l dC dI h a e cI cJ cO cE L I M J n cap fE sd si sa dl (b) j2 j3 j4 H.size hX (by omega) (by omega) (by omega) (by omega)) (cwV 3 hts wc_x_relation_x_radd_123 rfl rfl rfl (by decide +kernel) ⟨Nat.le_of_ble_eq_true rfl, Nat.le_of_ble_eq_true rfl⟩) ⟨fun a9 U g mk q => by obtain ⟨q0, q1, qP, qK, qD, qN⟩ := q; exact ⟨q0, q1, qP, va_K.moved (u := U) (U := U.calling g mk a9) (Vm.Alike.refl U.vm) qK, qD, pw_N.same (u := U) (U := U.calling g mk a9) rfl qN⟩, va_recv hK hP (ci := 6) (q0 := 2) rfl rfl, fun U hU hW => ⟨rfl, by rw [hU], by rw [hU]; exact hP, va_K.moved hW.alike hK, hD.weaken (fun _ _ _ _ => trivial), pw_N.warm hW hN⟩⟩ rfl rfl hl.1 rfl (lv_room (Nat.le_of_ble_eq_true rfl)) dX8_relation_110 ⟨Nat.le_of_ble_eq_true rfl, Nat.le_of_ble_eq_true rfl⟩) hS (fun q _ h => hFc q h) hFc (fun u t H1 locs ht hvm hw hB hz1 hk1 hS => ?_)
              obtain ⟨I29, M30⟩ := u
              replace hP := hB.1
              rw [ht] at hP
              replace hD : va_D A (xW h a e cI cJ cO cE L I29 M30 J n cap fE sd si sa dl) := hB.2.weaken (fun _ q _ h9 => hFc q.1 h9)
              clear hB
              generalize H1 = H at hP hS ⊢
              replace hP : va_P (dC, dI) vwCl (xW h a e cI cJ cO cE L I29 M30 J n cap fE sd si sa dl) H := hP
              obtain ⟨hwX, whUI, whUM, hw⟩ := hw
              replace hX : InvX n cap fE sd dl (b) I29 J si := hwX
              replace hUI : ∀ j9 : Nat, j9 ∉ ([7] : List Nat) → I29 j9 = I j9 := mw_tr (by decide) whUI hUI
              replace hUM : ∀ j9 : Nat, j9 ∉ ([0, 1, 2, 3, 4, 5, 6, 7] : List Nat) → M30 j9 = M j9 := mw_tr (by decide) whUM hUM
              refine lv_iconst (v := 1) hx hb dX8_relation_113 (by decide) ?_
              exact W.iret (v := 1) hx hb hr (fun t ht hW => ⟨⟨1, (I29, M30), rfl, ⟨hX.mono (by omega), hUI, hUM, trivial⟩, by rw [ht]; exact hP, hD⟩, hS.F ht⟩) hS.2.2 dX8_relation_114
            · refine lv_bipush (v := (-6)) hx hb dX8_relation_100 (by decide) ?_
              exact W.iret (v := (-6)) hx hb hr (fun t ht hW => ⟨⟨(-6), (I, M), rfl, ⟨hX.mono (by omega), hUI, hUM, trivial⟩, by rw [ht]; exact hP, hD⟩, hS.F ht⟩) hS.2.2 dX8_relation_102
          · refine lv_iconst (v := 0) hx hb dX8_relation_85 (by decide) ?_
            exact W.iret (v := 0) hx hb hr (fun t ht hW => ⟨⟨0, (I, M), rfl, ⟨hX.mono (by omega), hUI, hUM, trivial⟩, by rw [ht]; exact hP, hD⟩, hS.F ht⟩) hS.2.2 dX8_relation_86
        · replace c23 : j2 = 3 := (nI_eq (a := j2) (b := 3) (by omega) (by omega)).mp c23
          refine lv_lload hx hb dX8_relation_51 (lv_at hl 0 rfl) ?_
          refine lv_iload_n hx hb dX8_relation_53 rfl (lv_at hl 3 rfl) ?_
          have hFc := mw_free hD hS hA
          refine va_calli (va_runS (As := [.long x10, .int (nI j3)]) (rest := []) ⟨hx, hb, hml, hown, hts⟩ (c_x_holds l dC dI h a e cI cJ cO cE L I M J n cap fE sd si sa dl (b) x10 (nI j3) H.size hX (by omega) ) (va_cwS 2 hts wc_x_relation_x_holds_114 rfl rfl rfl (by decide +kernel) ⟨Nat.le_of_ble_eq_true rfl, Nat.le_of_ble_eq_true rfl⟩) ⟨fun a9 U g mk q => by obtain ⟨q0, q1, qP, qK, qD, qN⟩ := q; exact ⟨q0, q1, qP, va_K.moved (u := U) (U := U.calling g mk a9) (Vm.Alike.refl U.vm) qK, qD, pw_N.same (u := U) (U := U.calling g mk a9) rfl qN⟩, fun U hU hW => ⟨rfl, by rw [hU], by rw [hU]; exact hP, va_K.moved hW.alike hK, hD.weaken (fun _ _ _ _ => trivial), pw_N.warm hW hN⟩⟩ rfl rfl hl.1 rfl (lv_room (Nat.le_of_ble_eq_true rfl)) dX8_relation_54 ⟨Nat.le_of_ble_eq_true rfl, Nat.le_of_ble_eq_true rfl⟩) hS (fun q _ h => hFc q h) hFc (fun r31 u t H1 locs ht hvm hw hB hz1 hk1 hS => ?_)
          replace hP := hB.1
          rw [ht] at hP
          replace hD : va_D A (xW h a e cI cJ cO cE L I M J n cap fE sd si sa dl) := hB.2.weaken (fun _ q _ h9 => hFc q.1 h9)
          clear hB
          generalize H1 = H at hP hS ⊢
          replace hP : va_P (dC, dI) vwCl (xW h a e cI cJ cO cE L I M J n cap fE sd si sa dl) H := hP
          have br31 := hw
          refine lv_if_eq (tgt := 69) hx hb dX8_relation_57 (by decide) (fun c32 => ?_) (fun c32 => ?_)
          · refine lv_bipush (v := (-4)) hx hb dX8_relation_69 (by decide) ?_
            exact W.iret (v := (-4)) hx hb hr (fun t ht hW => ⟨⟨(-4), (I, M), rfl, ⟨hX.mono (by omega), hUI, hUM, trivial⟩, by rw [ht]; exact hP, hD⟩, hS.F ht⟩) hS.2.2 dX8_relation_71
          · refine lv_lload hx hb dX8_relation_60 (lv_at hl 0 rfl) ?_
            refine lv_iload_n hx hb dX8_relation_62 rfl (lv_at hl 4 rfl) ?_
            have hFc := mw_free hD hS hA
            refine va_calli (va_runS (As := [.long x10, .int (nI j4)]) (rest := []) ⟨hx, hb, hml, hown, hts⟩ (c_x_holds l dC dI h a e cI cJ cO cE L I M J n cap fE sd si sa dl (b) x10 (nI j4) H.size hX (by omega) ) (va_cwS 2 hts wc_x_relation_x_holds_114 rfl rfl rfl (by decide +kernel) ⟨Nat.le_of_ble_eq_true rfl, Nat.le_of_ble_eq_true rfl⟩) ⟨fun a9 U g mk q => by obtain ⟨q0, q1, qP, qK, qD, qN⟩ := q; exact ⟨q0, q1, qP, va_K.moved (u := U) (U := U.calling g mk a9) (Vm.Alike.refl U.vm) qK, qD, pw_N.same (u := U) (U := U.calling g mk a9) rfl qN⟩, fun U hU hW => ⟨rfl, by rw [hU], by rw [hU]; exact hP, va_K.moved hW.alike hK, hD.weaken (fun _ _ _ _ => trivial), pw_N.warm hW hN⟩⟩ rfl rfl hl.1 rfl (lv_room (Nat.le_of_ble_eq_true rfl)) dX8_relation_63 ⟨Nat.le_of_ble_eq_true rfl, Nat.le_of_ble_eq_true rfl⟩) hS (fun q _ h => hFc q h) hFc (fun r33 u t H1 locs ht hvm hw hB hz1 hk1 hS => ?_)
            replace hP := hB.1
            rw [ht] at hP
            replace hD : va_D A (xW h a e cI cJ cO cE L I M J n cap fE sd si sa dl) := hB.2.weaken (fun _ q _ h9 => hFc q.1 h9)
            clear hB
            generalize H1 = H at hP hS ⊢
            replace hP : va_P (dC, dI) vwCl (xW h a e cI cJ cO cE L I M J n cap fE sd si sa dl) H := hP
            have br33 := hw
            refine lv_if_ne (tgt := 72) hx hb dX8_relation_66 (by decide) (fun c34 => ?_) (fun c34 => ?_)
            · refine lv_aload_n hx hb dX8_relation_72 rfl (lv_at hl 1 rfl) ?_
              refine va_get (D := (dC, dI)) (ci := 9) (v := .ref (a 1)) (C := RX8) (T := TX8) (N := 14) hx hb hts in_x_relation_X8 hown hK hP 0 rfl rfl 1 (by decide) (hts (.fieldLink RX8 19 "ServiceTree" "relations" "LServiceTree$Relations;") (by decide +kernel)) (fun _ h9 => h9) rfl dX8_relation_73 ?_
              refine lv_iload_n hx hb dX8_relation_76 rfl (lv_at hl 2 rfl) ?_
              refine lv_iload_n hx hb dX8_relation_77 rfl (lv_at hl 3 rfl) ?_
              refine lv_iload_n hx hb dX8_relation_78 rfl (lv_at hl 4 rfl) ?_
              have hFc := mw_free hD hS hA
              refine va_calli (va_runV (As := [.int (nI j2), .int (nI j3), .int (nI j4)]) (rest := []) ⟨hx, hb, hml, hown, hts⟩ (c_x_told l dC dI h a e cI cJ cO cE L I M J n cap fE sd si sa dl (b) j2 j3 (nI j4) H.size hX (by omega) (by omega) (by omega)) (cwV 3 hts wc_x_relation_x_told_118 rfl rfl rfl (by decide +kernel) ⟨Nat.le_of_ble_eq_true rfl, Nat.le_of_ble_eq_true rfl⟩) ⟨fun a9 U g mk q => by obtain ⟨q0, q1, qP, qK, qD, qN⟩ := q; exact ⟨q0, q1, qP, va_K.moved (u := U) (U := U.calling g mk a9) (Vm.Alike.refl U.vm) qK, qD, pw_N.same (u := U) (U := U.calling g mk a9) rfl qN⟩, va_recv hK hP (ci := 6) (q0 := 2) rfl rfl, fun U hU hW => ⟨rfl, by rw [hU], by rw [hU]; exact hP, va_K.moved hW.alike hK, hD.weaken (fun _ _ _ _ => trivial), pw_N.warm hW hN⟩⟩ rfl rfl hl.1 rfl (lv_room (Nat.le_of_ble_eq_true rfl)) dX8_relation_79 ⟨Nat.le_of_ble_eq_true rfl, Nat.le_of_ble_eq_true rfl⟩) hS (fun q _ h => hFc q h) hFc (fun r35 u t H1 locs ht hvm hw hB hz1 hk1 hS => ?_)
              replace hP := hB.1
              rw [ht] at hP
              replace hD : va_D A (xW h a e cI cJ cO cE L I M J n cap fE sd si sa dl) := hB.2.weaken (fun _ q _ h9 => hFc q.1 h9)
              clear hB
              generalize H1 = H at hP hS ⊢
              replace hP : va_P (dC, dI) vwCl (xW h a e cI cJ cO cE L I M J n cap fE sd si sa dl) H := hP
              have br35 := hw
              refine lv_if_eq (tgt := 87) hx hb dX8_relation_82 (by decide) (fun c36 => ?_) (fun c36 => ?_)
              · refine lv_aload_n hx hb dX8_relation_87 rfl (lv_at hl 1 rfl) ?_
                refine va_get (D := (dC, dI)) (ci := 9) (v := .ref (a 1)) (C := RX8) (T := TX8) (N := 14) hx hb hts in_x_relation_X8 hown hK hP 0 rfl rfl 1 (by decide) (hts (.fieldLink RX8 19 "ServiceTree" "relations" "LServiceTree$Relations;") (by decide +kernel)) (fun _ h9 => h9) rfl dX8_relation_88 ?_
                refine va_getN (D := (dC, dI)) (ci := 6) (v := .int (I 7)) (C := RX5) (T := TX5) (N := 3) hx hb hts in_x_relation_X5 hown hK hP 2 rfl rfl 2 (by decide) (va_Nw.use rfl (hN (.fieldLinkNest RX8 121 "ServiceTree$Relations" "size" "I" "ServiceTree") (by decide +kernel))) (fun _ h9 => h9) rfl dX8_relation_91 ?_
                refine lv_topi (fun x37 ex37 => ?_)
                refine lv_sipush (v := 400) hx hb dX8_relation_94 (by decide) ?_
                refine lv_icmp_lt (tgt := 103) hx hb dX8_relation_97 (by decide) (fun c38 => ?_) (fun c38 => ?_)
                · refine lv_aload_n hx hb dX8_relation_103 rfl (lv_at hl 1 rfl) ?_
                  refine va_get (D := (dC, dI)) (ci := 9) (v := .ref (a 1)) (C := RX8) (T := TX8) (N := 14) hx hb hts in_x_relation_X8 hown hK hP 0 rfl rfl 1 (by decide) (hts (.fieldLink RX8 19 "ServiceTree" "relations" "LServiceTree$Relations;") (by decide +kernel)) (fun _ h9 => h9) rfl dX8_relation_104 ?_
                  refine lv_iload_n hx hb dX8_relation_107 rfl (lv_at hl 2 rfl) ?_
                  refine lv_iload_n hx hb dX8_relation_108 rfl (lv_at hl 3 rfl) ?_
                  refine lv_iload_n hx hb dX8_relation_109 rfl (lv_at hl 4 rfl) ?_
                  have hFc := mw_free hD hS hA
                  refine va_callv (va_runV (As := [.int (nI j2), .int (nI j3), .int (nI j4)]) (rest := []) ⟨hx, hb, hml, hown, hts⟩ (c_x_radd l dC dI h a e cI cJ cO cE L I M J n cap fE sd si sa dl (b) j2 j3 j4 H.size hX (by omega) (by omega) (by omega) (by omega)) (cwV 3 hts wc_x_relation_x_radd_123 rfl rfl rfl (by decide +kernel) ⟨Nat.le_of_ble_eq_true rfl, Nat.le_of_ble_eq_true rfl⟩) ⟨fun a9 U g mk q => by obtain ⟨q0, q1, qP, qK, qD, qN⟩ := q; exact ⟨q0, q1, qP, va_K.moved (u := U) (U := U.calling g mk a9) (Vm.Alike.refl U.vm) qK, qD, pw_N.same (u := U) (U := U.calling g mk a9) rfl qN⟩, va_recv hK hP (ci := 6) (q0 := 2) rfl rfl, fun U hU hW => ⟨rfl, by rw [hU], by rw [hU]; exact hP, va_K.moved hW.alike hK, hD.weaken (fun _ _ _ _ => trivial), pw_N.warm hW hN⟩⟩ rfl rfl hl.1 rfl (lv_room (Nat.le_of_ble_eq_true rfl)) dX8_relation_110 ⟨Nat.le_of_ble_eq_true rfl, Nat.le_of_ble_eq_true rfl⟩) hS (fun q _ h => hFc q h) hFc (fun u t H1 locs ht hvm hw hB hz1 hk1 hS => ?_)
                  obtain ⟨I40, M41⟩ := u
                  replace hP := hB.1
                  rw [ht] at hP
                  replace hD : va_D A (xW h a e cI cJ cO cE L I40 M41 J n cap fE sd si sa dl) := hB.2.weaken (fun _ q _ h9 => hFc q.1 h9)
                  clear hB
                  generalize H1 = H at hP hS ⊢
                  replace hP : va_P (dC, dI) vwCl (xW h a e cI cJ cO cE L I40 M41 J n cap fE sd si sa dl) H := hP
                  obtain ⟨hwX, whUI, whUM, hw⟩ := hw
                  replace hX : InvX n cap fE sd dl (b) I40 J si := hwX
                  replace hUI : ∀ j9 : Nat, j9 ∉ ([7] : List Nat) → I40 j9 = I j9 := mw_tr (by decide) whUI hUI
                  replace hUM : ∀ j9 : Nat, j9 ∉ ([0, 1, 2, 3, 4, 5, 6, 7] : List Nat) → M41 j9 = M j9 := mw_tr (by decide) whUM hUM
                  refine lv_iconst (v := 1) hx hb dX8_relation_113 (by decide) ?_
                  exact W.iret (v := 1) hx hb hr (fun t ht hW => ⟨⟨1, (I40, M41), rfl, ⟨hX.mono (by omega), hUI, hUM, trivial⟩, by rw [ht]; exact hP, hD⟩, hS.F ht⟩) hS.2.2 dX8_relation_114
                · refine lv_bipush (v := (-6)) hx hb dX8_relation_100 (by decide) ?_
                  exact W.iret (v := (-6)) hx hb hr (fun t ht hW => ⟨⟨(-6), (I, M), rfl, ⟨hX.mono (by omega), hUI, hUM, trivial⟩, by rw [ht]; exact hP, hD⟩, hS.F ht⟩) hS.2.2 dX8_relation_102
              · refine lv_iconst (v := 0) hx hb dX8_relation_85 (by decide) ?_
                exact W.iret (v := 0) hx hb hr (fun t ht hW => ⟨⟨0, (I, M), rfl, ⟨hX.mono (by omega), hUI, hUM, trivial⟩, by rw [ht]; exact hP, hD⟩, hS.F ht⟩) hS.2.2 dX8_relation_86
            · refine lv_bipush (v := (-4)) hx hb dX8_relation_69 (by decide) ?_
              exact W.iret (v := (-4)) hx hb hr (fun t ht hW => ⟨⟨(-4), (I, M), rfl, ⟨hX.mono (by omega), hUI, hUM, trivial⟩, by rw [ht]; exact hP, hD⟩, hS.F ht⟩) hS.2.2 dX8_relation_71
    · refine lv_bipush (v := (-3)) hx hb dX8_relation_24 (by decide) ?_
      exact W.iret (v := (-3)) hx hb hr (fun t ht hW => ⟨⟨(-3), (I, M), rfl, ⟨hX.mono (by omega), hUI, hUM, trivial⟩, by rw [ht]; exact hP, hD⟩, hS.F ht⟩) hS.2.2 dX8_relation_26
  · refine lv_if_ne (tgt := 12) hx hb dX8_relation_7 (by decide) (fun c9 => absurd (by decide) c9) (fun _ => ?_)
    refine lv_iconst (v := (-1)) hx hb dX8_relation_10 (by decide) ?_
    exact W.iret (v := (-1)) hx hb hr (fun t ht hW => ⟨⟨(-1), (I, M), rfl, ⟨hX.mono (by omega), hUI, hUM, trivial⟩, by rw [ht]; exact hP, hD⟩, hS.F ht⟩) hS.2.2 dX8_relation_11
def wq_x_undo : List Cond := [.code yX8_undo cX8_undo 4 (some .int), .fieldLink RX8 35 "ServiceTree" "jobs" "LServiceTree$Jobs;", .fieldLink RX8 19 "ServiceTree" "relations" "LServiceTree$Relations;", .methodLink RX8 107 yX8_canRelate, .instanceMethod yX8_canRelate, .selects RX8 yX8_canRelate yX8_canRelate, .initialized RX8, .methodLink RX8 110 yX3_left, .instanceMethod yX3_left, .selects RX3 yX3_left yX3_left, .initialized RX3, .methodLink RX8 118 yX5_told, .instanceMethod yX5_told, .selects RX5 yX5_told yX5_told, .initialized RX5, .methodLink RX8 125 yX5_remove, .instanceMethod yX5_remove, .selects RX5 yX5_remove yX5_remove] ++ (wsX80 ++ (wq_x_canRelate ++ (wq_x_left ++ (wq_x_told ++ (wq_x_rremove)))))
theorem in_x_undo_X8 : ∀ w ∈ wsX80, w ∈ wq_x_undo := fun _ h => List.mem_append_right _ (List.mem_append_left _ (h))
set_option maxRecDepth 20000 in
theorem wi_x_undo : ∀ w ∈ wq_x_undo, w ∈ lw_tbl := List.forall_mem_append.mpr ⟨(by decide +kernel), List.forall_mem_append.mpr ⟨inKX8, List.forall_mem_append.mpr ⟨wi_x_canRelate, List.forall_mem_append.mpr ⟨wi_x_left, List.forall_mem_append.mpr ⟨wi_x_told, wi_x_rremove⟩⟩⟩⟩⟩
set_option maxRecDepth 20000 in
theorem wg_x_undo : GoodIn wq_x_undo wq_x_undo := goodIn_sub (fun _ h => h) (by decide +kernel)
set_option maxRecDepth 20000 in
theorem wc_x_undo_x_canRelate_107 : GoodIn wq_x_undo (wsV RX8 107 RX8 yX8_canRelate wq_x_canRelate) := goodIn_app (goodIn_of _ (by decide +kernel)) (fun w h => ⟨List.mem_append_right _ (List.mem_append_right _ (List.mem_append_left _ (h))), (wg_x_canRelate w h).2⟩)
set_option maxRecDepth 20000 in
theorem wc_x_undo_x_left_110 : GoodIn wq_x_undo (wsV RX8 110 RX3 yX3_left wq_x_left) := goodIn_app (goodIn_of _ (by decide +kernel)) (fun w h => ⟨List.mem_append_right _ (List.mem_append_right _ (List.mem_append_right _ (List.mem_append_left _ (h)))), (wg_x_left w h).2⟩)
set_option maxRecDepth 20000 in
theorem wc_x_undo_x_told_118 : GoodIn wq_x_undo (wsV RX8 118 RX5 yX5_told wq_x_told) := goodIn_app (goodIn_of _ (by decide +kernel)) (fun w h => ⟨List.mem_append_right _ (List.mem_append_right _ (List.mem_append_right _ (List.mem_append_right _ (List.mem_append_left _ (h))))), (wg_x_told w h).2⟩)
set_option maxRecDepth 20000 in
theorem wc_x_undo_x_rremove_125 : GoodIn wq_x_undo (wsV RX8 125 RX5 yX5_remove wq_x_rremove) := goodIn_app (goodIn_of _ (by decide +kernel)) (fun w h => ⟨List.mem_append_right _ (List.mem_append_right _ (List.mem_append_right _ (List.mem_append_right _ (List.mem_append_right _ (h))))), (wg_x_rremove w h).2⟩)
def rm_x_undo : Room := { frames := 4, cells := 0, slots := 0, locals := 91 }
set_option maxHeartbeats 4000000 in
set_option maxRecDepth 100000 in
theorem c_x_undo (l : Launch) (dC : Nat → ClassId) (dI : Nat → Nat → Nat) (h : Nat) (a : Nat → Nat) (e : Nat) (cI cJ cO cE : ClassId) (L : Nat → Int64) (I : Nat → Int32) (M : Nat → Nat → Int64) (J : Nat → Nat → Int32) (n cap : Nat) (fE : Nat → Option Nat) (sd : Nat → Nat → Nat) (si : Nat → Nat → Int32) (sa : Nat → Nat → Nat → Int32) (dl : Nat → Nat) (b : Nat) (p0 : Int32) (p1 : Int32) (p2 : Int32) (sz : Nat) (hX0 : InvX n cap fE sd dl b I J si) (hb0 : b + 0 < 2147483648)  : Met l yX8_undo wq_x_undo rm_x_undo (va_Pc [.ref h, .int p0, .int p1, .int p2] (fun U => U.heap.size = sz ∧ va_P (dC, dI) vwCl (xW h a e cI cJ cO cE L I M J n cap fE sd si sa dl) U.heap ∧ va_K (dC, dI) vwCl (xT cI cJ cO cE) U ∧ va_D (fun _ => True) (xW h a e cI cJ cO cE L I M J n cap fE sd si sa dl) ∧ pw_N U)) (va_Qi (fun (r : Int32) (u : (Nat → Int32) × (Nat → Nat → Int64)) => InvX n cap fE sd dl (b + 0) u.1 J si ∧ (∀ j9 : Nat, j9 ∉ ([7] : List Nat) → u.1 j9 = I j9) ∧ (∀ j9 : Nat, j9 ∉ ([0, 1, 2, 3, 4, 5, 6, 7] : List Nat) → u.2 j9 = M j9) ∧ (True)) (fun (u : (Nat → Int32) × (Nat → Nat → Int64)) (t : State) => va_P (dC, dI) vwCl (xW h a e cI cJ cO cE L u.1 u.2 J n cap fE sd si sa dl) t.heap ∧ va_D (va_A (xW h a e cI cJ cO cE L I M J n cap fE sd si sa dl) sz) (xW h a e cI cJ cO cE L u.1 u.2 J n cap fE sd si sa dl)) (va_A (xW h a e cI cJ cO cE L I M J n cap fE sd si sa dl) sz)) 0 0 (va_A (xW h a e cI cJ cO cE L I M J n cap fE sd si sa dl) sz) := by
  have hn : n ≤ 40 := hX0.1.1
  have hX := hX0
  have hUI : ∀ j9 : Nat, j9 ∉ ([7] : List Nat) → I j9 = I j9 := fun _ _ => rfl
  have hUM : ∀ j9 : Nat, j9 ∉ ([0, 1, 2, 3, 4, 5, 6, 7] : List Nat) → M j9 = M j9 := fun _ _ => rfl
  refine Met.ofW (cc := cX8_undo) (maxL := 4) (ret := (some .int)) (by decide) rfl ?_
  intro p e9 s m args below meth c s₁ B hml hv
  obtain ⟨rfl, hsz, hP, hK, hD0, hN⟩ := hv
  have hx := B.exec
  have hb := B.bytes
  have hr := B.returns
  have hts := atoms_spec (ws := wq_x_undo) B.pre
  have hown : s.vm.findClass RX8 = some m.cls := findClass_of_methodNamed B.named
  have hlocks := B.notSynchronized
  subst hsz
  have hD := hD0.self (sz := s.heap.size)
  generalize hAe : va_A (xW h a e cI cJ cO cE L I M J n cap fE sd si sa dl) s.heap.size = A at hD ⊢
  have hA : ∀ q : Nat, s.heap.size ≤ q → A q := fun q h => by rw [← hAe]; exact Or.inr h
  have hS : va_S A s.heap s.heap [] := va_S.rf
  have hl := lv_entry ([.ref h, .int p0, .int p1, .int p2]) (n := 4) (Nat.le_of_ble_eq_true rfl)
  rw [lg_entry_eq]
  generalize (lg_sl ([.ref h, .int p0, .int p1, .int p2]) ++ List.replicate (4 - (lg_sl ([.ref h, .int p0, .int p1, .int p2])).length) Slot.unset).toArray = ls at hl ⊢
  have hl : lv_has ls 4 [(0, .ref h), (1, .int p0), (2, .int p1), (3, .int p2)] := hl
  refine lv_aload_n hx hb dX8_undo_0 rfl (lv_at hl 0 rfl) ?_
  refine lv_iload_n hx hb dX8_undo_1 rfl (lv_at hl 1 rfl) ?_
  refine lv_iload_n hx hb dX8_undo_2 rfl (lv_at hl 2 rfl) ?_
  refine lv_iload_n hx hb dX8_undo_3 rfl (lv_at hl 3 rfl) ?_
  have hFc := mw_free hD hS hA
  refine va_calli (va_runV (As := [.int p0, .int p1, .int p2]) (rest := []) ⟨hx, hb, hml, hown, hts⟩ (c_x_canRelate l dC dI h a e cI cJ cO cE L I M J n cap fE sd si sa dl (b) p0 p1 p2 s.heap.size hX (by omega) ) (cwV 3 hts wc_x_undo_x_canRelate_107 rfl rfl rfl (by decide +kernel) ⟨Nat.le_of_ble_eq_true rfl, Nat.le_of_ble_eq_true rfl⟩) ⟨fun a9 U g mk q => by obtain ⟨q0, q1, qP, qK, qD, qN⟩ := q; exact ⟨q0, q1, qP, va_K.moved (u := U) (U := U.calling g mk a9) (Vm.Alike.refl U.vm) qK, qD, pw_N.same (u := U) (U := U.calling g mk a9) rfl qN⟩, va_recv hK hP (ci := 9) (q0 := 0) rfl rfl, fun U hU hW => ⟨rfl, by rw [hU], by rw [hU]; exact hP, va_K.moved hW.alike hK, hD.weaken (fun _ _ _ _ => trivial), pw_N.warm hW hN⟩⟩ rfl rfl hl.1 rfl (lv_room (Nat.le_of_ble_eq_true rfl)) dX8_undo_4 ⟨Nat.le_of_ble_eq_true rfl, Nat.le_of_ble_eq_true rfl⟩) hS (fun q _ h => hFc q h) hFc (fun r1 u t H1 locs ht hvm hw hB hz1 hk1 hS => ?_)
  replace hP := hB.1
  rw [ht] at hP
  replace hD : va_D A (xW h a e cI cJ cO cE L I M J n cap fE sd si sa dl) := hB.2.weaken (fun _ q _ h9 => hFc q.1 h9)
  clear hB
  generalize H1 = H at hP hS ⊢
  replace hP : va_P (dC, dI) vwCl (xW h a e cI cJ cO cE L I M J n cap fE sd si sa dl) H := hP
  rcases hw with ⟨rfl, j2, j3, j4, hj2, hj3, hj4, ej2, ej3, ej4⟩ | rfl
  · subst ej2
    subst ej3
    subst ej4
    refine lv_if_ne (tgt := 12) hx hb dX8_undo_7 (by decide) (fun _ => ?_) (fun c9 => absurd c9 (by decide))
    refine lv_aload_n hx hb dX8_undo_12 rfl (lv_at hl 0 rfl) ?_
    refine va_get (D := (dC, dI)) (ci := 9) (v := .ref (a 3)) (C := RX8) (T := TX8) (N := 14) hx hb hts in_x_undo_X8 hown hK hP 0 rfl rfl 3 (by decide) (hts (.fieldLink RX8 35 "ServiceTree" "jobs" "LServiceTree$Jobs;") (by decide +kernel)) (fun _ h9 => h9) rfl dX8_undo_13 ?_
    have hFc := mw_free hD hS hA
    refine va_calll (va_runV (As := []) (rest := []) ⟨hx, hb, hml, hown, hts⟩ (c_x_left l dC dI h a e cI cJ cO cE L I M J n cap fE sd si sa dl (b)  H.size hX (by omega) ) (cwV 0 hts wc_x_undo_x_left_110 rfl rfl rfl (by decide +kernel) ⟨Nat.le_of_ble_eq_true rfl, Nat.le_of_ble_eq_true rfl⟩) ⟨fun a9 U g mk q => by obtain ⟨q0, q1, qP, qK, qD, qN⟩ := q; exact ⟨q0, q1, qP, va_K.moved (u := U) (U := U.calling g mk a9) (Vm.Alike.refl U.vm) qK, qD, pw_N.same (u := U) (U := U.calling g mk a9) rfl qN⟩, va_recv hK hP (ci := 4) (q0 := 14) rfl rfl, fun U hU hW => ⟨rfl, by rw [hU], by rw [hU]; exact hP, va_K.moved hW.alike hK, hD.weaken (fun _ _ _ _ => trivial), pw_N.warm hW hN⟩⟩ rfl rfl hl.1 rfl (lv_room (Nat.le_of_ble_eq_true rfl)) dX8_undo_16 ⟨Nat.le_of_ble_eq_true rfl, Nat.le_of_ble_eq_true rfl⟩) hS (fun q _ h => hFc q h) hFc (fun r5 u t H1 locs ht hvm hw hB hz1 hk1 hS => ?_)
    replace hP := hB.1
    rw [ht] at hP
    replace hD : va_D A (xW h a e cI cJ cO cE L I M J n cap fE sd si sa dl) := hB.2.weaken (fun _ q _ h9 => hFc q.1 h9)
    clear hB
    generalize H1 = H at hP hS ⊢
    replace hP : va_P (dC, dI) vwCl (xW h a e cI cJ cO cE L I M J n cap fE sd si sa dl) H := hP
    refine lv_lconst (v := 0) hx hb dX8_undo_19 (by decide) ?_
    refine W.lcmp hx hb dX8_undo_20 ?_
    refine lv_topi (fun x6 ex6 => ?_)
    refine lv_if_eq (tgt := 27) hx hb dX8_undo_21 (by decide) (fun c7 => ?_) (fun c7 => ?_)
    · refine lv_aload_n hx hb dX8_undo_27 rfl (lv_at hl 0 rfl) ?_
      refine va_get (D := (dC, dI)) (ci := 9) (v := .ref (a 1)) (C := RX8) (T := TX8) (N := 14) hx hb hts in_x_undo_X8 hown hK hP 0 rfl rfl 1 (by decide) (hts (.fieldLink RX8 19 "ServiceTree" "relations" "LServiceTree$Relations;") (by decide +kernel)) (fun _ h9 => h9) rfl dX8_undo_28 ?_
      refine lv_iload_n hx hb dX8_undo_31 rfl (lv_at hl 1 rfl) ?_
      refine lv_iload_n hx hb dX8_undo_32 rfl (lv_at hl 2 rfl) ?_
      refine lv_iload_n hx hb dX8_undo_33 rfl (lv_at hl 3 rfl) ?_
      have hFc := mw_free hD hS hA
      refine va_calli (va_runV (As := [.int (nI j2), .int (nI j3), .int (nI j4)]) (rest := []) ⟨hx, hb, hml, hown, hts⟩ (c_x_told l dC dI h a e cI cJ cO cE L I M J n cap fE sd si sa dl (b) j2 j3 (nI j4) H.size hX (by omega) (by omega) (by omega)) (cwV 3 hts wc_x_undo_x_told_118 rfl rfl rfl (by decide +kernel) ⟨Nat.le_of_ble_eq_true rfl, Nat.le_of_ble_eq_true rfl⟩) ⟨fun a9 U g mk q => by obtain ⟨q0, q1, qP, qK, qD, qN⟩ := q; exact ⟨q0, q1, qP, va_K.moved (u := U) (U := U.calling g mk a9) (Vm.Alike.refl U.vm) qK, qD, pw_N.same (u := U) (U := U.calling g mk a9) rfl qN⟩, va_recv hK hP (ci := 6) (q0 := 2) rfl rfl, fun U hU hW => ⟨rfl, by rw [hU], by rw [hU]; exact hP, va_K.moved hW.alike hK, hD.weaken (fun _ _ _ _ => trivial), pw_N.warm hW hN⟩⟩ rfl rfl hl.1 rfl (lv_room (Nat.le_of_ble_eq_true rfl)) dX8_undo_34 ⟨Nat.le_of_ble_eq_true rfl, Nat.le_of_ble_eq_true rfl⟩) hS (fun q _ h => hFc q h) hFc (fun r8 u t H1 locs ht hvm hw hB hz1 hk1 hS => ?_)
      replace hP := hB.1
      rw [ht] at hP
      replace hD : va_D A (xW h a e cI cJ cO cE L I M J n cap fE sd si sa dl) := hB.2.weaken (fun _ q _ h9 => hFc q.1 h9)
      clear hB
      generalize H1 = H at hP hS ⊢
      replace hP : va_P (dC, dI) vwCl (xW h a e cI cJ cO cE L I M J n cap fE sd si sa dl) H := hP
      have br8 := hw
      refine lv_if_ne (tgt := 42) hx hb dX8_undo_37 (by decide) (fun c9 => ?_) (fun c9 => ?_)
      · refine lv_aload_n hx hb dX8_undo_42 rfl (lv_at hl 0 rfl) ?_
        refine va_get (D := (dC, dI)) (ci := 9) (v := .ref (a 1)) (C := RX8) (T := TX8) (N := 14) hx hb hts in_x_undo_X8 hown hK hP 0 rfl rfl 1 (by decide) (hts (.fieldLink RX8 19 "ServiceTree" "relations" "LServiceTree$Relations;") (by decide +kernel)) (fun _ h9 => h9) rfl dX8_undo_43 ?_
        refine lv_iload_n hx hb dX8_undo_46 rfl (lv_at hl 1 rfl) ?_
        refine lv_iload_n hx hb dX8_undo_47 rfl (lv_at hl 2 rfl) ?_
        refine lv_iload_n hx hb dX8_undo_48 rfl (lv_at hl 3 rfl) ?_
        have hFc := mw_free hD hS hA
        refine va_callv (va_runV (As := [.int (nI j2), .int (nI j3), .int (nI j4)]) (rest := []) ⟨hx, hb, hml, hown, hts⟩ (c_x_rremove l dC dI h a e cI cJ cO cE L I M J n cap fE sd si sa dl (b) j2 j3 j4 H.size hX (by omega) (by omega) (by omega) (by omega)) (cwV 3 hts wc_x_undo_x_rremove_125 rfl rfl rfl (by decide +kernel) ⟨Nat.le_of_ble_eq_true rfl, Nat.le_of_ble_eq_true rfl⟩) ⟨fun a9 U g mk q => by obtain ⟨q0, q1, qP, qK, qD, qN⟩ := q; exact ⟨q0, q1, qP, va_K.moved (u := U) (U := U.calling g mk a9) (Vm.Alike.refl U.vm) qK, qD, pw_N.same (u := U) (U := U.calling g mk a9) rfl qN⟩, va_recv hK hP (ci := 6) (q0 := 2) rfl rfl, fun U hU hW => ⟨rfl, by rw [hU], by rw [hU]; exact hP, va_K.moved hW.alike hK, hD.weaken (fun _ _ _ _ => trivial), pw_N.warm hW hN⟩⟩ rfl rfl hl.1 rfl (lv_room (Nat.le_of_ble_eq_true rfl)) dX8_undo_49 ⟨Nat.le_of_ble_eq_true rfl, Nat.le_of_ble_eq_true rfl⟩) hS (fun q _ h => hFc q h) hFc (fun u t H1 locs ht hvm hw hB hz1 hk1 hS => ?_)
        obtain ⟨I11, M12⟩ := u
        replace hP := hB.1
        rw [ht] at hP
        replace hD : va_D A (xW h a e cI cJ cO cE L I11 M12 J n cap fE sd si sa dl) := hB.2.weaken (fun _ q _ h9 => hFc q.1 h9)
        clear hB
        generalize H1 = H at hP hS ⊢
        replace hP : va_P (dC, dI) vwCl (xW h a e cI cJ cO cE L I11 M12 J n cap fE sd si sa dl) H := hP
        obtain ⟨hwX, whUI, whUM, hw⟩ := hw
        replace hX : InvX n cap fE sd dl (b) I11 J si := hwX
        replace hUI : ∀ j9 : Nat, j9 ∉ ([7] : List Nat) → I11 j9 = I j9 := mw_tr (by decide) whUI hUI
        replace hUM : ∀ j9 : Nat, j9 ∉ ([0, 1, 2, 3, 4, 5, 6, 7] : List Nat) → M12 j9 = M j9 := mw_tr (by decide) whUM hUM
        refine lv_iconst (v := 1) hx hb dX8_undo_52 (by decide) ?_
        exact W.iret (v := 1) hx hb hr (fun t ht hW => ⟨⟨1, (I11, M12), rfl, ⟨hX.mono (by omega), hUI, hUM, trivial⟩, by rw [ht]; exact hP, hD⟩, hS.F ht⟩) hS.2.2 dX8_undo_53
      · refine lv_iconst (v := 0) hx hb dX8_undo_40 (by decide) ?_
        exact W.iret (v := 0) hx hb hr (fun t ht hW => ⟨⟨0, (I, M), rfl, ⟨hX.mono (by omega), hUI, hUM, trivial⟩, by rw [ht]; exact hP, hD⟩, hS.F ht⟩) hS.2.2 dX8_undo_41
    · refine lv_bipush (v := (-3)) hx hb dX8_undo_24 (by decide) ?_
      exact W.iret (v := (-3)) hx hb hr (fun t ht hW => ⟨⟨(-3), (I, M), rfl, ⟨hX.mono (by omega), hUI, hUM, trivial⟩, by rw [ht]; exact hP, hD⟩, hS.F ht⟩) hS.2.2 dX8_undo_26
  · refine lv_if_ne (tgt := 12) hx hb dX8_undo_7 (by decide) (fun c9 => absurd (by decide) c9) (fun _ => ?_)
    refine lv_iconst (v := (-1)) hx hb dX8_undo_10 (by decide) ?_
    exact W.iret (v := (-1)) hx hb hr (fun t ht hW => ⟨⟨(-1), (I, M), rfl, ⟨hX.mono (by omega), hUI, hUM, trivial⟩, by rw [ht]; exact hP, hD⟩, hS.F ht⟩) hS.2.2 dX8_undo_11
def wq_x_hasItsNeeds : List Cond := [.code yX8_hasItsNeeds cX8_hasItsNeeds 2 (some .boolean), .fieldLink RX8 19 "ServiceTree" "relations" "LServiceTree$Relations;", .fieldLink RX8 53 "ServiceTree" "inState" "[J", .constantLong RX8 238 (-1), .methodLink RX8 234 yX5_from, .instanceMethod yX5_from, .selects RX5 yX5_from yX5_from, .initialized RX5] ++ (wsX80 ++ (wq_x_from))
theorem in_x_hasItsNeeds_X8 : ∀ w ∈ wsX80, w ∈ wq_x_hasItsNeeds := fun _ h => List.mem_append_right _ (List.mem_append_left _ (h))
set_option maxRecDepth 20000 in
theorem wi_x_hasItsNeeds : ∀ w ∈ wq_x_hasItsNeeds, w ∈ lw_tbl := List.forall_mem_append.mpr ⟨(by decide +kernel), List.forall_mem_append.mpr ⟨inKX8, wi_x_from⟩⟩
set_option maxRecDepth 20000 in
theorem wg_x_hasItsNeeds : GoodIn wq_x_hasItsNeeds wq_x_hasItsNeeds := goodIn_sub (fun _ h => h) (by decide +kernel)
set_option maxRecDepth 20000 in
theorem wc_x_hasItsNeeds_x_from_234 : GoodIn wq_x_hasItsNeeds (wsV RX8 234 RX5 yX5_from wq_x_from) := goodIn_app (goodIn_of _ (by decide +kernel)) (fun w h => ⟨List.mem_append_right _ (List.mem_append_right _ (h)), (wg_x_from w h).2⟩)
def rm_x_hasItsNeeds : Room := { frames := 1, cells := 0, slots := 0, locals := 22 }
set_option maxHeartbeats 4000000 in
set_option maxRecDepth 100000 in
theorem c_x_hasItsNeeds (l : Launch) (dC : Nat → ClassId) (dI : Nat → Nat → Nat) (h : Nat) (a : Nat → Nat) (e : Nat) (cI cJ cO cE : ClassId) (L : Nat → Int64) (I : Nat → Int32) (M : Nat → Nat → Int64) (J : Nat → Nat → Int32) (n cap : Nat) (fE : Nat → Option Nat) (sd : Nat → Nat → Nat) (si : Nat → Nat → Int32) (sa : Nat → Nat → Nat → Int32) (dl : Nat → Nat) (b : Nat) (sv : Nat) (sz : Nat) (hX0 : InvX n cap fE sd dl b I J si) (hb0 : b + 0 < 2147483648) (hp0 : sv < n) : Met l yX8_hasItsNeeds wq_x_hasItsNeeds rm_x_hasItsNeeds (va_Pc [.ref h, .int (nI sv)] (fun U => U.heap.size = sz ∧ va_P (dC, dI) vwCl (xW h a e cI cJ cO cE L I M J n cap fE sd si sa dl) U.heap ∧ va_K (dC, dI) vwCl (xT cI cJ cO cE) U ∧ va_D (fun _ => True) (xW h a e cI cJ cO cE L I M J n cap fE sd si sa dl) ∧ pw_N U)) (va_Qi (fun (r : Int32) (u : Unit) => (r = 0 ∨ r = 1)) (fun (u : Unit) (t : State) => va_P (dC, dI) vwCl (xW h a e cI cJ cO cE L I M J n cap fE sd si sa dl) t.heap ∧ va_D (va_A (xW h a e cI cJ cO cE L I M J n cap fE sd si sa dl) sz) (xW h a e cI cJ cO cE L I M J n cap fE sd si sa dl)) (va_A (xW h a e cI cJ cO cE L I M J n cap fE sd si sa dl) sz)) 0 0 (va_A (xW h a e cI cJ cO cE L I M J n cap fE sd si sa dl) sz) := by
  have hn : n ≤ 40 := hX0.1.1
  have hX := hX0
  refine Met.ofW (cc := cX8_hasItsNeeds) (maxL := 2) (ret := (some .boolean)) (by decide) rfl ?_
  intro p e9 s m args below meth c s₁ B hml hv
  obtain ⟨rfl, hsz, hP, hK, hD0, hN⟩ := hv
  have hx := B.exec
  have hb := B.bytes
  have hr := B.returns
  have hts := atoms_spec (ws := wq_x_hasItsNeeds) B.pre
  have hown : s.vm.findClass RX8 = some m.cls := findClass_of_methodNamed B.named
  have hlocks := B.notSynchronized
  subst hsz
  have hD := hD0.self (sz := s.heap.size)
  generalize hAe : va_A (xW h a e cI cJ cO cE L I M J n cap fE sd si sa dl) s.heap.size = A at hD ⊢
  have hA : ∀ q : Nat, s.heap.size ≤ q → A q := fun q h => by rw [← hAe]; exact Or.inr h
  have hS : va_S A s.heap s.heap [] := va_S.rf
  have hl := lv_entry ([.ref h, .int (nI sv)]) (n := 2) (Nat.le_of_ble_eq_true rfl)
  rw [lg_entry_eq]
  generalize (lg_sl ([.ref h, .int (nI sv)]) ++ List.replicate (2 - (lg_sl ([.ref h, .int (nI sv)])).length) Slot.unset).toArray = ls at hl ⊢
  have hl : lv_has ls 2 [(0, .ref h), (1, .int (nI sv))] := hl
  refine lv_aload_n hx hb dX8_hasItsNeeds_0 rfl (lv_at hl 0 rfl) ?_
  refine va_get (D := (dC, dI)) (ci := 9) (v := .ref (a 1)) (C := RX8) (T := TX8) (N := 14) hx hb hts in_x_hasItsNeeds_X8 hown hK hP 0 rfl rfl 1 (by decide) (hts (.fieldLink RX8 19 "ServiceTree" "relations" "LServiceTree$Relations;") (by decide +kernel)) (fun _ h9 => h9) rfl dX8_hasItsNeeds_1 ?_
  refine lv_iconst (v := 0) hx hb dX8_hasItsNeeds_4 (by decide) ?_
  refine lv_iload_n hx hb dX8_hasItsNeeds_5 rfl (lv_at hl 1 rfl) ?_
  have hFc := mw_free hD hS hA
  refine va_calll (va_runV (As := [.int 0, .int (nI sv)]) (rest := []) ⟨hx, hb, hml, hown, hts⟩ (c_x_from l dC dI h a e cI cJ cO cE L I M J n cap fE sd si sa dl (b) 0 sv s.heap.size hX (by omega) (by omega) (by omega)) (cwV 2 hts wc_x_hasItsNeeds_x_from_234 rfl rfl rfl (by decide +kernel) ⟨Nat.le_of_ble_eq_true rfl, Nat.le_of_ble_eq_true rfl⟩) ⟨fun a9 U g mk q => by obtain ⟨q0, q1, qP, qK, qD, qN⟩ := q; exact ⟨q0, q1, qP, va_K.moved (u := U) (U := U.calling g mk a9) (Vm.Alike.refl U.vm) qK, qD, pw_N.same (u := U) (U := U.calling g mk a9) rfl qN⟩, va_recv hK hP (ci := 6) (q0 := 2) rfl rfl, fun U hU hW => ⟨rfl, by rw [hU], by rw [hU]; exact hP, va_K.moved hW.alike hK, hD.weaken (fun _ _ _ _ => trivial), pw_N.warm hW hN⟩⟩ rfl rfl hl.1 rfl (lv_room (Nat.le_of_ble_eq_true rfl)) dX8_hasItsNeeds_6 ⟨Nat.le_of_ble_eq_true rfl, Nat.le_of_ble_eq_true rfl⟩) hS (fun q _ h => hFc q h) hFc (fun r1 u t H1 locs ht hvm hw hB hz1 hk1 hS => ?_)
  replace hP := hB.1
  rw [ht] at hP
  replace hD : va_D A (xW h a e cI cJ cO cE L I M J n cap fE sd si sa dl) := hB.2.weaken (fun _ q _ h9 => hFc q.1 h9)
  clear hB
  generalize H1 = H at hP hS ⊢
  replace hP : va_P (dC, dI) vwCl (xW h a e cI cJ cO cE L I M J n cap fE sd si sa dl) H := hP
  refine lv_aload_n hx hb dX8_hasItsNeeds_9 rfl (lv_at hl 0 rfl) ?_
  refine va_get (D := (dC, dI)) (ci := 9) (v := .ref (a 6)) (C := RX8) (T := TX8) (N := 14) hx hb hts in_x_hasItsNeeds_X8 hown hK hP 0 rfl rfl 6 (by decide) (hts (.fieldLink RX8 53 "ServiceTree" "inState" "[J") (by decide +kernel)) (fun _ h9 => h9) rfl dX8_hasItsNeeds_10 ?_
  refine lv_iconst (v := 2) hx hb dX8_hasItsNeeds_13 (by decide) ?_
  refine va_lald (n := 6) (f := M 9) hx hb hK hP 21 1 rfl rfl (vp_in_nI (n := 2) (by omega) (by omega)) dX8_hasItsNeeds_14 ?_
  refine lv_topl (fun x2 ex2 => ?_)
  refine lv_ldc2 (v := (-1)) hx hb hown (hts (.constantLong RX8 238 (-1)) (by decide +kernel)) dX8_hasItsNeeds_15 ?_
  refine lv_lxor hx hb dX8_hasItsNeeds_18 ?_
  refine lv_topl (fun x3 ex3 => ?_)
  refine lv_land hx hb dX8_hasItsNeeds_19 ?_
  refine lv_topl (fun x4 ex4 => ?_)
  refine lv_lconst (v := 0) hx hb dX8_hasItsNeeds_20 (by decide) ?_
  refine W.lcmp hx hb dX8_hasItsNeeds_21 ?_
  refine lv_topi (fun x5 ex5 => ?_)
  refine lv_if_ne (tgt := 29) hx hb dX8_hasItsNeeds_22 (by decide) (fun c6 => ?_) (fun c6 => ?_)
  · refine lv_iconst (v := 0) hx hb dX8_hasItsNeeds_29 (by decide) ?_
    exact W.zret (v := 0) hx hb hr (by decide) (fun t ht hW => ⟨⟨0, (), rfl, Or.inl rfl, by rw [ht]; exact hP, hD⟩, hS.F ht⟩) hS.2.2 dX8_hasItsNeeds_30
  · refine lv_iconst (v := 1) hx hb dX8_hasItsNeeds_25 (by decide) ?_
    refine lv_goto (tgt := 30) hx hb dX8_hasItsNeeds_26 (by decide) ?_
    exact W.zret (v := 1) hx hb hr (by decide) (fun t ht hW => ⟨⟨1, (), rfl, Or.inr rfl, by rw [ht]; exact hP, hD⟩, hS.F ht⟩) hS.2.2 dX8_hasItsNeeds_30
def wq_x_sus : List Cond := [.code yX8_startingUpOrStopping cX8_startingUpOrStopping 1 (some .long), .fieldLink RX8 53 "ServiceTree" "inState" "[J"] ++ (wsX80)
theorem in_x_sus_X8 : ∀ w ∈ wsX80, w ∈ wq_x_sus := fun _ h => List.mem_append_right _ (h)
set_option maxRecDepth 20000 in
theorem wi_x_sus : ∀ w ∈ wq_x_sus, w ∈ lw_tbl := List.forall_mem_append.mpr ⟨(by decide +kernel), inKX8⟩
set_option maxRecDepth 20000 in
theorem wg_x_sus : GoodIn wq_x_sus wq_x_sus := goodIn_sub (fun _ h => h) (by decide +kernel)
def rm_x_sus : Room := { frames := 0, cells := 0, slots := 0, locals := 0 }
set_option maxHeartbeats 4000000 in
set_option maxRecDepth 100000 in
theorem c_x_sus (l : Launch) (dC : Nat → ClassId) (dI : Nat → Nat → Nat) (h : Nat) (a : Nat → Nat) (e : Nat) (cI cJ cO cE : ClassId) (L : Nat → Int64) (I : Nat → Int32) (M : Nat → Nat → Int64) (J : Nat → Nat → Int32) (n cap : Nat) (fE : Nat → Option Nat) (sd : Nat → Nat → Nat) (si : Nat → Nat → Int32) (sa : Nat → Nat → Nat → Int32) (dl : Nat → Nat) (b : Nat)  (sz : Nat) (hX0 : InvX n cap fE sd dl b I J si) (hb0 : b + 0 < 2147483648)  : Met l yX8_startingUpOrStopping wq_x_sus rm_x_sus (va_Pc [.ref h] (fun U => U.heap.size = sz ∧ va_P (dC, dI) vwCl (xW h a e cI cJ cO cE L I M J n cap fE sd si sa dl) U.heap ∧ va_K (dC, dI) vwCl (xT cI cJ cO cE) U ∧ va_D (fun _ => True) (xW h a e cI cJ cO cE L I M J n cap fE sd si sa dl) ∧ pw_N U)) (va_Ql (fun (r : Int64) (u : Unit) => (True)) (fun (u : Unit) (t : State) => va_P (dC, dI) vwCl (xW h a e cI cJ cO cE L I M J n cap fE sd si sa dl) t.heap ∧ va_D (va_A (xW h a e cI cJ cO cE L I M J n cap fE sd si sa dl) sz) (xW h a e cI cJ cO cE L I M J n cap fE sd si sa dl)) (va_A (xW h a e cI cJ cO cE L I M J n cap fE sd si sa dl) sz)) 0 0 (va_A (xW h a e cI cJ cO cE L I M J n cap fE sd si sa dl) sz) := by
  have hn : n ≤ 40 := hX0.1.1
  have hX := hX0
  refine Met.ofW (cc := cX8_startingUpOrStopping) (maxL := 1) (ret := (some .long)) (by decide) rfl ?_
  intro p e9 s m args below meth c s₁ B hml hv
  obtain ⟨rfl, hsz, hP, hK, hD0, hN⟩ := hv
  have hx := B.exec
  have hb := B.bytes
  have hr := B.returns
  have hts := atoms_spec (ws := wq_x_sus) B.pre
  have hown : s.vm.findClass RX8 = some m.cls := findClass_of_methodNamed B.named
  have hlocks := B.notSynchronized
  subst hsz
  have hD := hD0.self (sz := s.heap.size)
  generalize hAe : va_A (xW h a e cI cJ cO cE L I M J n cap fE sd si sa dl) s.heap.size = A at hD ⊢
  have hA : ∀ q : Nat, s.heap.size ≤ q → A q := fun q h => by rw [← hAe]; exact Or.inr h
  have hS : va_S A s.heap s.heap [] := va_S.rf
  have hl := lv_entry ([.ref h]) (n := 1) (Nat.le_of_ble_eq_true rfl)
  rw [lg_entry_eq]
  generalize (lg_sl ([.ref h]) ++ List.replicate (1 - (lg_sl ([.ref h])).length) Slot.unset).toArray = ls at hl ⊢
  have hl : lv_has ls 1 [(0, .ref h)] := hl
  refine lv_aload_n hx hb dX8_startingUpOrStopping_0 rfl (lv_at hl 0 rfl) ?_
  refine va_get (D := (dC, dI)) (ci := 9) (v := .ref (a 6)) (C := RX8) (T := TX8) (N := 14) hx hb hts in_x_sus_X8 hown hK hP 0 rfl rfl 6 (by decide) (hts (.fieldLink RX8 53 "ServiceTree" "inState" "[J") (by decide +kernel)) (fun _ h9 => h9) rfl dX8_startingUpOrStopping_1 ?_
  refine lv_iconst (v := 1) hx hb dX8_startingUpOrStopping_4 (by decide) ?_
  refine va_lald (n := 6) (f := M 9) hx hb hK hP 21 1 rfl rfl (vp_in_nI (n := 1) (by omega) (by omega)) dX8_startingUpOrStopping_5 ?_
  refine lv_topl (fun x1 ex1 => ?_)
  refine lv_aload_n hx hb dX8_startingUpOrStopping_6 rfl (lv_at hl 0 rfl) ?_
  refine va_get (D := (dC, dI)) (ci := 9) (v := .ref (a 6)) (C := RX8) (T := TX8) (N := 14) hx hb hts in_x_sus_X8 hown hK hP 0 rfl rfl 6 (by decide) (hts (.fieldLink RX8 53 "ServiceTree" "inState" "[J") (by decide +kernel)) (fun _ h9 => h9) rfl dX8_startingUpOrStopping_7 ?_
  refine lv_iconst (v := 2) hx hb dX8_startingUpOrStopping_10 (by decide) ?_
  refine va_lald (n := 6) (f := M 9) hx hb hK hP 21 1 rfl rfl (vp_in_nI (n := 2) (by omega) (by omega)) dX8_startingUpOrStopping_11 ?_
  refine lv_topl (fun x2 ex2 => ?_)
  refine lv_lor hx hb dX8_startingUpOrStopping_12 ?_
  refine lv_topl (fun x3 ex3 => ?_)
  refine lv_aload_n hx hb dX8_startingUpOrStopping_13 rfl (lv_at hl 0 rfl) ?_
  refine va_get (D := (dC, dI)) (ci := 9) (v := .ref (a 6)) (C := RX8) (T := TX8) (N := 14) hx hb hts in_x_sus_X8 hown hK hP 0 rfl rfl 6 (by decide) (hts (.fieldLink RX8 53 "ServiceTree" "inState" "[J") (by decide +kernel)) (fun _ h9 => h9) rfl dX8_startingUpOrStopping_14 ?_
  refine lv_iconst (v := 3) hx hb dX8_startingUpOrStopping_17 (by decide) ?_
  refine va_lald (n := 6) (f := M 9) hx hb hK hP 21 1 rfl rfl (vp_in_nI (n := 3) (by omega) (by omega)) dX8_startingUpOrStopping_18 ?_
  refine lv_topl (fun x4 ex4 => ?_)
  refine lv_lor hx hb dX8_startingUpOrStopping_19 ?_
  refine lv_topl (fun x5 ex5 => ?_)
  exact W.lret (v := x5) hx hb hr (fun t ht hW => ⟨⟨x5, (), rfl, trivial, by rw [ht]; exact hP, hD⟩, hS.F ht⟩) hS.2.2 dX8_startingUpOrStopping_20
def wq_x_leastLacking : List Cond := [.code yX8_leastLacking cX8_leastLacking 4 (some .int), .fieldLink RX8 53 "ServiceTree" "inState" "[J", .fieldLink RX8 10 "ServiceTree" "services" "Ljava/util/ArrayList;", .methodLink RX8 61 yJx4a65c_size_8abf5, .instanceMethod yJx4a65c_size_8abf5, .selects RJx4a65c yJx4a65c_size_8abf5 yJx4a65c_size_8abf5, .initialized RJx4a65c, .methodLink RX8 114 yX8_holds, .static yX8_holds, .initialized RX8, .methodLink RX8 231 yX8_hasItsNeeds, .instanceMethod yX8_hasItsNeeds, .selects RX8 yX8_hasItsNeeds yX8_hasItsNeeds] ++ (wsX80 ++ (wq_x_size ++ (wq_x_holds ++ (wq_x_hasItsNeeds))))
theorem in_x_leastLacking_X8 : ∀ w ∈ wsX80, w ∈ wq_x_leastLacking := fun _ h => List.mem_append_right _ (List.mem_append_left _ (h))
set_option maxRecDepth 20000 in
theorem wi_x_leastLacking : ∀ w ∈ wq_x_leastLacking, w ∈ lw_tbl := List.forall_mem_append.mpr ⟨(by decide +kernel), List.forall_mem_append.mpr ⟨inKX8, List.forall_mem_append.mpr ⟨wi_x_size, List.forall_mem_append.mpr ⟨wi_x_holds, wi_x_hasItsNeeds⟩⟩⟩⟩
set_option maxRecDepth 20000 in
theorem wg_x_leastLacking : GoodIn wq_x_leastLacking wq_x_leastLacking := goodIn_sub (fun _ h => h) (by decide +kernel)
set_option maxRecDepth 20000 in
theorem wc_x_leastLacking_x_size_61 : GoodIn wq_x_leastLacking (wsV RX8 61 RJx4a65c yJx4a65c_size_8abf5 wq_x_size) := goodIn_app (goodIn_of _ (by decide +kernel)) (fun w h => ⟨List.mem_append_right _ (List.mem_append_right _ (List.mem_append_left _ (h))), (wg_x_size w h).2⟩)
set_option maxRecDepth 20000 in
theorem wc_x_leastLacking_x_holds_114 : GoodIn wq_x_leastLacking (va_wsS RX8 114 yX8_holds wq_x_holds) := goodIn_app (goodIn_of _ (by decide +kernel)) (fun w h => ⟨List.mem_append_right _ (List.mem_append_right _ (List.mem_append_right _ (List.mem_append_left _ (h)))), (wg_x_holds w h).2⟩)
set_option maxRecDepth 20000 in
theorem wc_x_leastLacking_x_hasItsNeeds_231 : GoodIn wq_x_leastLacking (wsV RX8 231 RX8 yX8_hasItsNeeds wq_x_hasItsNeeds) := goodIn_app (goodIn_of _ (by decide +kernel)) (fun w h => ⟨List.mem_append_right _ (List.mem_append_right _ (List.mem_append_right _ (List.mem_append_right _ (h)))), (wg_x_hasItsNeeds w h).2⟩)
def rm_x_leastLacking : Room := { frames := 2, cells := 0, slots := 0, locals := 43 }
set_option maxHeartbeats 4000000 in
set_option maxRecDepth 100000 in
theorem c_x_leastLacking (l : Launch) (dC : Nat → ClassId) (dI : Nat → Nat → Nat) (h : Nat) (a : Nat → Nat) (e : Nat) (cI cJ cO cE : ClassId) (L : Nat → Int64) (I : Nat → Int32) (M : Nat → Nat → Int64) (J : Nat → Nat → Int32) (n cap : Nat) (fE : Nat → Option Nat) (sd : Nat → Nat → Nat) (si : Nat → Nat → Int32) (sa : Nat → Nat → Nat → Int32) (dl : Nat → Nat) (b : Nat)  (sz : Nat) (hX0 : InvX n cap fE sd dl b I J si) (hb0 : b + 0 < 2147483648)  : Met l yX8_leastLacking wq_x_leastLacking rm_x_leastLacking (va_Pc [.ref h] (fun U => U.heap.size = sz ∧ va_P (dC, dI) vwCl (xW h a e cI cJ cO cE L I M J n cap fE sd si sa dl) U.heap ∧ va_K (dC, dI) vwCl (xT cI cJ cO cE) U ∧ va_D (fun _ => True) (xW h a e cI cJ cO cE L I M J n cap fE sd si sa dl) ∧ pw_N U)) (va_Qi (fun (r : Int32) (u : Unit) => (True)) (fun (u : Unit) (t : State) => va_P (dC, dI) vwCl (xW h a e cI cJ cO cE L I M J n cap fE sd si sa dl) t.heap ∧ va_D (va_A (xW h a e cI cJ cO cE L I M J n cap fE sd si sa dl) sz) (xW h a e cI cJ cO cE L I M J n cap fE sd si sa dl)) (va_A (xW h a e cI cJ cO cE L I M J n cap fE sd si sa dl) sz)) 0 0 (va_A (xW h a e cI cJ cO cE L I M J n cap fE sd si sa dl) sz) := by
  have hn : n ≤ 40 := hX0.1.1
  have hX := hX0
  refine Met.ofW (cc := cX8_leastLacking) (maxL := 4) (ret := (some .int)) (by decide) rfl ?_
  intro p e9 s m args below meth c s₁ B hml hv
  obtain ⟨rfl, hsz, hP, hK, hD0, hN⟩ := hv
  have hx := B.exec
  have hb := B.bytes
  have hr := B.returns
  have hts := atoms_spec (ws := wq_x_leastLacking) B.pre
  have hown : s.vm.findClass RX8 = some m.cls := findClass_of_methodNamed B.named
  have hlocks := B.notSynchronized
  subst hsz
  have hD := hD0.self (sz := s.heap.size)
  generalize hAe : va_A (xW h a e cI cJ cO cE L I M J n cap fE sd si sa dl) s.heap.size = A at hD ⊢
  have hA : ∀ q : Nat, s.heap.size ≤ q → A q := fun q h => by rw [← hAe]; exact Or.inr h
  have hS : va_S A s.heap s.heap [] := va_S.rf
  have hl := lv_entry ([.ref h]) (n := 4) (Nat.le_of_ble_eq_true rfl)
  rw [lg_entry_eq]
  generalize (lg_sl ([.ref h]) ++ List.replicate (4 - (lg_sl ([.ref h])).length) Slot.unset).toArray = ls at hl ⊢
  have hl : lv_has ls 4 [(0, .ref h)] := hl
  refine mw_Q (fun Q0 hQ => ?_)
  refine lv_aload_n hx hb dX8_leastLacking_0 rfl (lv_at hl 0 rfl) ?_
  refine va_get (D := (dC, dI)) (ci := 9) (v := .ref (a 6)) (C := RX8) (T := TX8) (N := 14) hx hb hts in_x_leastLacking_X8 hown hK hP 0 rfl rfl 6 (by decide) (hts (.fieldLink RX8 53 "ServiceTree" "inState" "[J") (by decide +kernel)) (fun _ h9 => h9) rfl dX8_leastLacking_1 ?_
  refine lv_iconst (v := 1) hx hb dX8_leastLacking_4 (by decide) ?_
  refine va_lald (n := 6) (f := M 9) hx hb hK hP 21 1 rfl rfl (vp_in_nI (n := 1) (by omega) (by omega)) dX8_leastLacking_5 ?_
  refine lv_topl (fun x1 ex1 => ?_)
  refine lv_aload_n hx hb dX8_leastLacking_6 rfl (lv_at hl 0 rfl) ?_
  refine va_get (D := (dC, dI)) (ci := 9) (v := .ref (a 6)) (C := RX8) (T := TX8) (N := 14) hx hb hts in_x_leastLacking_X8 hown hK hP 0 rfl rfl 6 (by decide) (hts (.fieldLink RX8 53 "ServiceTree" "inState" "[J") (by decide +kernel)) (fun _ h9 => h9) rfl dX8_leastLacking_7 ?_
  refine lv_iconst (v := 2) hx hb dX8_leastLacking_10 (by decide) ?_
  refine va_lald (n := 6) (f := M 9) hx hb hK hP 21 1 rfl rfl (vp_in_nI (n := 2) (by omega) (by omega)) dX8_leastLacking_11 ?_
  refine lv_topl (fun x2 ex2 => ?_)
  refine lv_lor hx hb dX8_leastLacking_12 ?_
  refine lv_topl (fun x3 ex3 => ?_)
  refine lv_lstore_n (lv' := [(1, .long x3), (0, .ref h)]) hx hb dX8_leastLacking_13 rfl hl (by decide) rfl (fun ls hl => ?_)
  refine lv_iconst (v := 0) hx hb dX8_leastLacking_14 (by decide) ?_
  refine lv_istore_n (lv' := [(3, .int 0), (1, .long x3), (0, .ref h)]) hx hb dX8_leastLacking_15 rfl hl (by decide) rfl (fun ls hl => ?_)
  have lp7 : ∀ (fu5 i4 : Nat)   (H : Heap) (locs : List Loc) (ls : Array Slot), n < i4 + fu5 → i4 ≤ n → va_P (dC, dI) vwCl (xW h a e cI cJ cO cE L I M J n cap fE sd si sa dl) H → va_D A (xW h a e cI cJ cO cE L I M J n cap fE sd si sa dl) → va_S A s.heap H locs → lv_has ls 4 [(3, .int (nI i4)), (1, .long x3), (0, .ref h)] → W p l e9 (headSpec wq_x_leastLacking rm_x_leastLacking).room s m ([.ref h] : List Value).toArray below meth c H locs 0 0 Q0 (F0 m 16 ls []) := by
    intro fu5
    induction fu5 with
    | zero =>
      intro i4   H locs ls hf hi
      exact absurd hf (by omega)
    | succ fu5 ih6 =>
      intro i4   H locs ls hfi4 hii4 hP hD hS hl
      refine lv_iload_n hx hb dX8_leastLacking_16 rfl (lv_at hl 0 rfl) ?_
      refine lv_aload_n hx hb dX8_leastLacking_17 rfl (lv_at hl 2 rfl) ?_
      refine va_get (D := (dC, dI)) (ci := 9) (v := .ref (a 0)) (C := RX8) (T := TX8) (N := 14) hx hb hts in_x_leastLacking_X8 hown hK hP 0 rfl rfl 0 (by decide) (hts (.fieldLink RX8 10 "ServiceTree" "services" "Ljava/util/ArrayList;") (by decide +kernel)) (fun _ h9 => h9) rfl dX8_leastLacking_18 ?_
      have hFc := mw_free hD hS hA
      refine va_calli (va_runV (As := []) (rest := [.int (nI i4)]) ⟨hx, hb, hml, hown, hts⟩ (c_x_size l dC dI h a e cI cJ cO cE L I M J n cap fE sd si sa dl (b)  H.size hX (by omega) ) (cwV 0 hts wc_x_leastLacking_x_size_61 rfl rfl rfl (by decide +kernel) ⟨Nat.le_of_ble_eq_true rfl, Nat.le_of_ble_eq_true rfl⟩) ⟨fun a9 U g mk q => by obtain ⟨q0, q1, qP, qK, qD, qN⟩ := q; exact ⟨q0, q1, qP, va_K.moved (u := U) (U := U.calling g mk a9) (Vm.Alike.refl U.vm) qK, qD, pw_N.same (u := U) (U := U.calling g mk a9) rfl qN⟩, va_recv hK hP (ci := 0) (q0 := 1) rfl rfl, fun U hU hW => ⟨rfl, by rw [hU], by rw [hU]; exact hP, va_K.moved hW.alike hK, hD.weaken (fun _ _ _ _ => trivial), pw_N.warm hW hN⟩⟩ rfl rfl hl.1 rfl (lv_room (Nat.le_of_ble_eq_true rfl)) dX8_leastLacking_21 ⟨Nat.le_of_ble_eq_true rfl, Nat.le_of_ble_eq_true rfl⟩) hS (fun q _ h => hFc q h) hFc (fun r8 u t H1 locs ht hvm hw hB hz1 hk1 hS => ?_)
      replace hP := hB.1
      rw [ht] at hP
      replace hD : va_D A (xW h a e cI cJ cO cE L I M J n cap fE sd si sa dl) := hB.2.weaken (fun _ q _ h9 => hFc q.1 h9)
      clear hB
      generalize H1 = H at hP hS ⊢
      replace hP : va_P (dC, dI) vwCl (xW h a e cI cJ cO cE L I M J n cap fE sd si sa dl) H := hP
      obtain rfl : r8 = nI n := hw
      refine lv_icmp_ge (tgt := 51) hx hb dX8_leastLacking_24 (by decide) (fun c9 => ?_) (fun c9 => ?_)
      · replace c9 : n ≤ i4 := (nI_leI (a := n) (b := i4) (by omega) (by omega)).mp c9
        refine lv_iconst (v := (-1)) hx hb dX8_leastLacking_51 (by decide) ?_
        rw [hQ]
        exact W.iret (v := (-1)) hx hb hr (fun t ht hW => ⟨⟨(-1), (), rfl, trivial, by rw [ht]; exact hP, hD⟩, hS.F ht⟩) hS.2.2 dX8_leastLacking_52
      · replace c9 : ¬ (n ≤ i4) := fun q9 => c9 ((nI_leI (a := n) (b := i4) (by omega) (by omega)).mpr q9)
        refine lv_lload_n hx hb dX8_leastLacking_27 rfl (lv_at hl 1 rfl) ?_
        refine lv_iload_n hx hb dX8_leastLacking_28 rfl (lv_at hl 0 rfl) ?_
        have hFc := mw_free hD hS hA
        refine va_calli (va_runS (As := [.long x3, .int (nI i4)]) (rest := []) ⟨hx, hb, hml, hown, hts⟩ (c_x_holds l dC dI h a e cI cJ cO cE L I M J n cap fE sd si sa dl (b) x3 (nI i4) H.size hX (by omega) ) (va_cwS 2 hts wc_x_leastLacking_x_holds_114 rfl rfl rfl (by decide +kernel) ⟨Nat.le_of_ble_eq_true rfl, Nat.le_of_ble_eq_true rfl⟩) ⟨fun a9 U g mk q => by obtain ⟨q0, q1, qP, qK, qD, qN⟩ := q; exact ⟨q0, q1, qP, va_K.moved (u := U) (U := U.calling g mk a9) (Vm.Alike.refl U.vm) qK, qD, pw_N.same (u := U) (U := U.calling g mk a9) rfl qN⟩, fun U hU hW => ⟨rfl, by rw [hU], by rw [hU]; exact hP, va_K.moved hW.alike hK, hD.weaken (fun _ _ _ _ => trivial), pw_N.warm hW hN⟩⟩ rfl rfl hl.1 rfl (lv_room (Nat.le_of_ble_eq_true rfl)) dX8_leastLacking_29 ⟨Nat.le_of_ble_eq_true rfl, Nat.le_of_ble_eq_true rfl⟩) hS (fun q _ h => hFc q h) hFc (fun r10 u t H1 locs ht hvm hw hB hz1 hk1 hS => ?_)
        replace hP := hB.1
        rw [ht] at hP
        replace hD : va_D A (xW h a e cI cJ cO cE L I M J n cap fE sd si sa dl) := hB.2.weaken (fun _ q _ h9 => hFc q.1 h9)
        clear hB
        generalize H1 = H at hP hS ⊢
        replace hP : va_P (dC, dI) vwCl (xW h a e cI cJ cO cE L I M J n cap fE sd si sa dl) H := hP
        have br10 := hw
        refine lv_if_eq (tgt := 45) hx hb dX8_leastLacking_32 (by decide) (fun c11 => ?_) (fun c11 => ?_)
        · refine lv_iinc (v := (nI (i4 + 1))) (lv' := [(3, .int (nI (i4 + 1))), (1, .long x3), (0, .ref h)]) hx hb dX8_leastLacking_45 hl (k := 0) rfl (nI_add i4 1) (by decide) rfl (fun ls hl => ?_)
          refine lv_goto (tgt := 16) hx hb dX8_leastLacking_48 (by decide) ?_
          exact ih6 (i4 + 1)   _ _ _ (by omega) (by omega)  hP hD hS (lv_sub hl [0, 1, 2] rfl)
        · refine lv_aload_n hx hb dX8_leastLacking_35 rfl (lv_at hl 2 rfl) ?_
          refine lv_iload_n hx hb dX8_leastLacking_36 rfl (lv_at hl 0 rfl) ?_
          have hFc := mw_free hD hS hA
          refine va_calli (va_runV (As := [.int (nI i4)]) (rest := []) ⟨hx, hb, hml, hown, hts⟩ (c_x_hasItsNeeds l dC dI h a e cI cJ cO cE L I M J n cap fE sd si sa dl (b) i4 H.size hX (by omega) (by omega)) (cwV 1 hts wc_x_leastLacking_x_hasItsNeeds_231 rfl rfl rfl (by decide +kernel) ⟨Nat.le_of_ble_eq_true rfl, Nat.le_of_ble_eq_true rfl⟩) ⟨fun a9 U g mk q => by obtain ⟨q0, q1, qP, qK, qD, qN⟩ := q; exact ⟨q0, q1, qP, va_K.moved (u := U) (U := U.calling g mk a9) (Vm.Alike.refl U.vm) qK, qD, pw_N.same (u := U) (U := U.calling g mk a9) rfl qN⟩, va_recv hK hP (ci := 9) (q0 := 0) rfl rfl, fun U hU hW => ⟨rfl, by rw [hU], by rw [hU]; exact hP, va_K.moved hW.alike hK, hD.weaken (fun _ _ _ _ => trivial), pw_N.warm hW hN⟩⟩ rfl rfl hl.1 rfl (lv_room (Nat.le_of_ble_eq_true rfl)) dX8_leastLacking_37 ⟨Nat.le_of_ble_eq_true rfl, Nat.le_of_ble_eq_true rfl⟩) hS (fun q _ h => hFc q h) hFc (fun r12 u t H1 locs ht hvm hw hB hz1 hk1 hS => ?_)
          replace hP := hB.1
          rw [ht] at hP
          replace hD : va_D A (xW h a e cI cJ cO cE L I M J n cap fE sd si sa dl) := hB.2.weaken (fun _ q _ h9 => hFc q.1 h9)
          clear hB
          generalize H1 = H at hP hS ⊢
          replace hP : va_P (dC, dI) vwCl (xW h a e cI cJ cO cE L I M J n cap fE sd si sa dl) H := hP
          have br12 := hw
          refine lv_if_ne (tgt := 45) hx hb dX8_leastLacking_40 (by decide) (fun c13 => ?_) (fun c13 => ?_)
          · refine lv_iinc (v := (nI (i4 + 1))) (lv' := [(3, .int (nI (i4 + 1))), (1, .long x3), (0, .ref h)]) hx hb dX8_leastLacking_45 hl (k := 0) rfl (nI_add i4 1) (by decide) rfl (fun ls hl => ?_)
            refine lv_goto (tgt := 16) hx hb dX8_leastLacking_48 (by decide) ?_
            exact ih6 (i4 + 1)   _ _ _ (by omega) (by omega)  hP hD hS (lv_sub hl [0, 1, 2] rfl)
          · refine lv_iload_n hx hb dX8_leastLacking_43 rfl (lv_at hl 0 rfl) ?_
            rw [hQ]
            exact W.iret (v := (nI i4)) hx hb hr (fun t ht hW => ⟨⟨(nI i4), (), rfl, trivial, by rw [ht]; exact hP, hD⟩, hS.F ht⟩) hS.2.2 dX8_leastLacking_44
  exact lp7 (n + 1) 0   _ _ _ (by omega) (by omega)  hP hD hS hl
def wq_x_draftOrder : List Cond := [.code yX8_draftOrder cX8_draftOrder 3 (some .int), .fieldLink RX8 35 "ServiceTree" "jobs" "LServiceTree$Jobs;", .fieldLink RX8 53 "ServiceTree" "inState" "[J", .fieldLink RX8 28 "ServiceTree" "draft" "LServiceTree$Draft;", .methodLink RX8 57 yX8_within, .static yX8_within, .initialized RX8, .methodLink RX8 82 yX8_exists, .instanceMethod yX8_exists, .selects RX8 yX8_exists yX8_exists, .methodLink RX8 110 yX3_left, .instanceMethod yX3_left, .selects RX3 yX3_left yX3_left, .initialized RX3, .methodLink RX8 240 yX1_weigh, .instanceMethod yX1_weigh, .selects RX1 yX1_weigh yX1_weigh, .initialized RX1] ++ (wsX80 ++ (wq_x_within ++ (wq_x_exists ++ (wq_x_left ++ (wq_x_weigh)))))
theorem in_x_draftOrder_X8 : ∀ w ∈ wsX80, w ∈ wq_x_draftOrder := fun _ h => List.mem_append_right _ (List.mem_append_left _ (h))
set_option maxRecDepth 20000 in
theorem wi_x_draftOrder : ∀ w ∈ wq_x_draftOrder, w ∈ lw_tbl := List.forall_mem_append.mpr ⟨(by decide +kernel), List.forall_mem_append.mpr ⟨inKX8, List.forall_mem_append.mpr ⟨wi_x_within, List.forall_mem_append.mpr ⟨wi_x_exists, List.forall_mem_append.mpr ⟨wi_x_left, wi_x_weigh⟩⟩⟩⟩⟩
set_option maxRecDepth 20000 in
theorem wg_x_draftOrder : GoodIn wq_x_draftOrder wq_x_draftOrder := goodIn_sub (fun _ h => h) (by decide +kernel)
set_option maxRecDepth 20000 in
theorem wc_x_draftOrder_x_within_57 : GoodIn wq_x_draftOrder (va_wsS RX8 57 yX8_within wq_x_within) := goodIn_app (goodIn_of _ (by decide +kernel)) (fun w h => ⟨List.mem_append_right _ (List.mem_append_right _ (List.mem_append_left _ (h))), (wg_x_within w h).2⟩)
set_option maxRecDepth 20000 in
theorem wc_x_draftOrder_x_exists_82 : GoodIn wq_x_draftOrder (wsV RX8 82 RX8 yX8_exists wq_x_exists) := goodIn_app (goodIn_of _ (by decide +kernel)) (fun w h => ⟨List.mem_append_right _ (List.mem_append_right _ (List.mem_append_right _ (List.mem_append_left _ (h)))), (wg_x_exists w h).2⟩)
set_option maxRecDepth 20000 in
theorem wc_x_draftOrder_x_left_110 : GoodIn wq_x_draftOrder (wsV RX8 110 RX3 yX3_left wq_x_left) := goodIn_app (goodIn_of _ (by decide +kernel)) (fun w h => ⟨List.mem_append_right _ (List.mem_append_right _ (List.mem_append_right _ (List.mem_append_right _ (List.mem_append_left _ (h))))), (wg_x_left w h).2⟩)
set_option maxRecDepth 20000 in
theorem wc_x_draftOrder_x_weigh_240 : GoodIn wq_x_draftOrder (wsV RX8 240 RX1 yX1_weigh wq_x_weigh) := goodIn_app (goodIn_of _ (by decide +kernel)) (fun w h => ⟨List.mem_append_right _ (List.mem_append_right _ (List.mem_append_right _ (List.mem_append_right _ (List.mem_append_right _ (h))))), (wg_x_weigh w h).2⟩)
def rm_x_draftOrder : Room := { frames := 6, cells := 0, slots := 0, locals := 158 }
set_option maxHeartbeats 4000000 in
set_option maxRecDepth 100000 in
theorem c_x_draftOrder (l : Launch) (dC : Nat → ClassId) (dI : Nat → Nat → Nat) (h : Nat) (a : Nat → Nat) (e : Nat) (cI cJ cO cE : ClassId) (L : Nat → Int64) (I : Nat → Int32) (M : Nat → Nat → Int64) (J : Nat → Nat → Int32) (n cap : Nat) (fE : Nat → Option Nat) (sd : Nat → Nat → Nat) (si : Nat → Nat → Int32) (sa : Nat → Nat → Nat → Int32) (dl : Nat → Nat) (b : Nat) (p0 : Int32) (p1 : Int32) (sz : Nat) (hX0 : InvX n cap fE sd dl b I J si) (hb0 : b + 0 < 2147483648)  : Met l yX8_draftOrder wq_x_draftOrder rm_x_draftOrder (va_Pc [.ref h, .int p0, .int p1] (fun U => U.heap.size = sz ∧ va_P (dC, dI) vwCl (xW h a e cI cJ cO cE L I M J n cap fE sd si sa dl) U.heap ∧ va_K (dC, dI) vwCl (xT cI cJ cO cE) U ∧ va_D (fun _ => True) (xW h a e cI cJ cO cE L I M J n cap fE sd si sa dl) ∧ pw_N U)) (va_Qi (fun (r : Int32) (u : (Nat → Int64) × (Nat → Int32)) => InvX n cap fE sd dl (b + 0) u.2 J si ∧ (∀ j9 : Nat, j9 ∉ ([2, 3, 4] : List Nat) → u.1 j9 = L j9) ∧ (∀ j9 : Nat, j9 ∉ ([8] : List Nat) → u.2 j9 = I j9) ∧ (True)) (fun (u : (Nat → Int64) × (Nat → Int32)) (t : State) => va_P (dC, dI) vwCl (xW h a e cI cJ cO cE u.1 u.2 M J n cap fE sd si sa dl) t.heap ∧ va_D (va_A (xW h a e cI cJ cO cE L I M J n cap fE sd si sa dl) sz) (xW h a e cI cJ cO cE u.1 u.2 M J n cap fE sd si sa dl)) (va_A (xW h a e cI cJ cO cE L I M J n cap fE sd si sa dl) sz)) 0 0 (va_A (xW h a e cI cJ cO cE L I M J n cap fE sd si sa dl) sz) := by
  have hn : n ≤ 40 := hX0.1.1
  have hX := hX0
  have hUL : ∀ j9 : Nat, j9 ∉ ([2, 3, 4] : List Nat) → L j9 = L j9 := fun _ _ => rfl
  have hUI : ∀ j9 : Nat, j9 ∉ ([8] : List Nat) → I j9 = I j9 := fun _ _ => rfl
  refine Met.ofW (cc := cX8_draftOrder) (maxL := 3) (ret := (some .int)) (by decide) rfl ?_
  intro p e9 s m args below meth c s₁ B hml hv
  obtain ⟨rfl, hsz, hP, hK, hD0, hN⟩ := hv
  have hx := B.exec
  have hb := B.bytes
  have hr := B.returns
  have hts := atoms_spec (ws := wq_x_draftOrder) B.pre
  have hown : s.vm.findClass RX8 = some m.cls := findClass_of_methodNamed B.named
  have hlocks := B.notSynchronized
  subst hsz
  have hD := hD0.self (sz := s.heap.size)
  generalize hAe : va_A (xW h a e cI cJ cO cE L I M J n cap fE sd si sa dl) s.heap.size = A at hD ⊢
  have hA : ∀ q : Nat, s.heap.size ≤ q → A q := fun q h => by rw [← hAe]; exact Or.inr h
  have hS : va_S A s.heap s.heap [] := va_S.rf
  have hl := lv_entry ([.ref h, .int p0, .int p1]) (n := 3) (Nat.le_of_ble_eq_true rfl)
  rw [lg_entry_eq]
  generalize (lg_sl ([.ref h, .int p0, .int p1]) ++ List.replicate (3 - (lg_sl ([.ref h, .int p0, .int p1])).length) Slot.unset).toArray = ls at hl ⊢
  have hl : lv_has ls 3 [(0, .ref h), (1, .int p0), (2, .int p1)] := hl
  refine lv_iload_n hx hb dX8_draftOrder_0 rfl (lv_at hl 1 rfl) ?_
  refine lv_iconst (v := 0) hx hb dX8_draftOrder_1 (by decide) ?_
  refine lv_iconst (v := 2) hx hb dX8_draftOrder_2 (by decide) ?_
  have hFc := mw_free hD hS hA
  refine va_calli (va_runS (As := [.int p0, .int 0, .int 2]) (rest := []) ⟨hx, hb, hml, hown, hts⟩ (c_x_within l dC dI h a e cI cJ cO cE L I M J n cap fE sd si sa dl (b) p0 0 2 s.heap.size hX (by omega) ) (va_cwS 3 hts wc_x_draftOrder_x_within_57 rfl rfl rfl (by decide +kernel) ⟨Nat.le_of_ble_eq_true rfl, Nat.le_of_ble_eq_true rfl⟩) ⟨fun a9 U g mk q => by obtain ⟨q0, q1, qP, qK, qD, qN⟩ := q; exact ⟨q0, q1, qP, va_K.moved (u := U) (U := U.calling g mk a9) (Vm.Alike.refl U.vm) qK, qD, pw_N.same (u := U) (U := U.calling g mk a9) rfl qN⟩, fun U hU hW => ⟨rfl, by rw [hU], by rw [hU]; exact hP, va_K.moved hW.alike hK, hD.weaken (fun _ _ _ _ => trivial), pw_N.warm hW hN⟩⟩ rfl rfl hl.1 rfl (lv_room (Nat.le_of_ble_eq_true rfl)) dX8_draftOrder_3 ⟨Nat.le_of_ble_eq_true rfl, Nat.le_of_ble_eq_true rfl⟩) hS (fun q _ h => hFc q h) hFc (fun r1 u t H1 locs ht hvm hw hB hz1 hk1 hS => ?_)
  replace hP := hB.1
  rw [ht] at hP
  replace hD : va_D A (xW h a e cI cJ cO cE L I M J n cap fE sd si sa dl) := hB.2.weaken (fun _ q _ h9 => hFc q.1 h9)
  clear hB
  generalize H1 = H at hP hS ⊢
  replace hP : va_P (dC, dI) vwCl (xW h a e cI cJ cO cE L I M J n cap fE sd si sa dl) H := hP
  rcases hw with ⟨rfl, haj2, hbj2⟩ | ⟨rfl, noj2⟩
  · obtain ⟨j2, hj2, ej2⟩ := nI_of2 (n := 2) (by decide) (xw_ge0 haj2) hbj2
    subst ej2
    refine lv_if_eq (tgt := 17) hx hb dX8_draftOrder_6 (by decide) (fun c9 => absurd c9 (by decide)) (fun _ => ?_)
    refine lv_aload_n hx hb dX8_draftOrder_9 rfl (lv_at hl 0 rfl) ?_
    refine lv_iload_n hx hb dX8_draftOrder_10 rfl (lv_at hl 2 rfl) ?_
    have hFc := mw_free hD hS hA
    refine va_calli (va_runV (As := [.int p1]) (rest := []) ⟨hx, hb, hml, hown, hts⟩ (c_x_exists l dC dI h a e cI cJ cO cE L I M J n cap fE sd si sa dl (b) p1 H.size hX (by omega) ) (cwV 1 hts wc_x_draftOrder_x_exists_82 rfl rfl rfl (by decide +kernel) ⟨Nat.le_of_ble_eq_true rfl, Nat.le_of_ble_eq_true rfl⟩) ⟨fun a9 U g mk q => by obtain ⟨q0, q1, qP, qK, qD, qN⟩ := q; exact ⟨q0, q1, qP, va_K.moved (u := U) (U := U.calling g mk a9) (Vm.Alike.refl U.vm) qK, qD, pw_N.same (u := U) (U := U.calling g mk a9) rfl qN⟩, va_recv hK hP (ci := 9) (q0 := 0) rfl rfl, fun U hU hW => ⟨rfl, by rw [hU], by rw [hU]; exact hP, va_K.moved hW.alike hK, hD.weaken (fun _ _ _ _ => trivial), pw_N.warm hW hN⟩⟩ rfl rfl hl.1 rfl (lv_room (Nat.le_of_ble_eq_true rfl)) dX8_draftOrder_11 ⟨Nat.le_of_ble_eq_true rfl, Nat.le_of_ble_eq_true rfl⟩) hS (fun q _ h => hFc q h) hFc (fun r3 u t H1 locs ht hvm hw hB hz1 hk1 hS => ?_)
    replace hP := hB.1
    rw [ht] at hP
    replace hD : va_D A (xW h a e cI cJ cO cE L I M J n cap fE sd si sa dl) := hB.2.weaken (fun _ q _ h9 => hFc q.1 h9)
    clear hB
    generalize H1 = H at hP hS ⊢
    replace hP : va_P (dC, dI) vwCl (xW h a e cI cJ cO cE L I M J n cap fE sd si sa dl) H := hP
    rcases hw with ⟨rfl, j4, hj4, ej4⟩ | ⟨rfl, noj4⟩
    · subst ej4
      refine lv_if_ne (tgt := 19) hx hb dX8_draftOrder_14 (by decide) (fun _ => ?_) (fun c9 => absurd c9 (by decide))
      refine lv_aload_n hx hb dX8_draftOrder_19 rfl (lv_at hl 0 rfl) ?_
      refine va_get (D := (dC, dI)) (ci := 9) (v := .ref (a 3)) (C := RX8) (T := TX8) (N := 14) hx hb hts in_x_draftOrder_X8 hown hK hP 0 rfl rfl 3 (by decide) (hts (.fieldLink RX8 35 "ServiceTree" "jobs" "LServiceTree$Jobs;") (by decide +kernel)) (fun _ h9 => h9) rfl dX8_draftOrder_20 ?_
      have hFc := mw_free hD hS hA
      refine va_calll (va_runV (As := []) (rest := []) ⟨hx, hb, hml, hown, hts⟩ (c_x_left l dC dI h a e cI cJ cO cE L I M J n cap fE sd si sa dl (b)  H.size hX (by omega) ) (cwV 0 hts wc_x_draftOrder_x_left_110 rfl rfl rfl (by decide +kernel) ⟨Nat.le_of_ble_eq_true rfl, Nat.le_of_ble_eq_true rfl⟩) ⟨fun a9 U g mk q => by obtain ⟨q0, q1, qP, qK, qD, qN⟩ := q; exact ⟨q0, q1, qP, va_K.moved (u := U) (U := U.calling g mk a9) (Vm.Alike.refl U.vm) qK, qD, pw_N.same (u := U) (U := U.calling g mk a9) rfl qN⟩, va_recv hK hP (ci := 4) (q0 := 14) rfl rfl, fun U hU hW => ⟨rfl, by rw [hU], by rw [hU]; exact hP, va_K.moved hW.alike hK, hD.weaken (fun _ _ _ _ => trivial), pw_N.warm hW hN⟩⟩ rfl rfl hl.1 rfl (lv_room (Nat.le_of_ble_eq_true rfl)) dX8_draftOrder_23 ⟨Nat.le_of_ble_eq_true rfl, Nat.le_of_ble_eq_true rfl⟩) hS (fun q _ h => hFc q h) hFc (fun r5 u t H1 locs ht hvm hw hB hz1 hk1 hS => ?_)
      replace hP := hB.1
      rw [ht] at hP
      replace hD : va_D A (xW h a e cI cJ cO cE L I M J n cap fE sd si sa dl) := hB.2.weaken (fun _ q _ h9 => hFc q.1 h9)
      clear hB
      generalize H1 = H at hP hS ⊢
      replace hP : va_P (dC, dI) vwCl (xW h a e cI cJ cO cE L I M J n cap fE sd si sa dl) H := hP
      refine lv_lconst (v := 0) hx hb dX8_draftOrder_26 (by decide) ?_
      refine W.lcmp hx hb dX8_draftOrder_27 ?_
      refine lv_topi (fun x6 ex6 => ?_)
      refine lv_if_ne (tgt := 49) hx hb dX8_draftOrder_28 (by decide) (fun c7 => ?_) (fun c7 => ?_)
      · refine lv_bipush (v := (-3)) hx hb dX8_draftOrder_49 (by decide) ?_
        exact W.iret (v := (-3)) hx hb hr (fun t ht hW => ⟨⟨(-3), (L, I), rfl, ⟨hX.mono (by omega), hUL, hUI, trivial⟩, by rw [ht]; exact hP, hD⟩, hS.F ht⟩) hS.2.2 dX8_draftOrder_51
      · refine lv_aload_n hx hb dX8_draftOrder_31 rfl (lv_at hl 0 rfl) ?_
        refine va_get (D := (dC, dI)) (ci := 9) (v := .ref (a 6)) (C := RX8) (T := TX8) (N := 14) hx hb hts in_x_draftOrder_X8 hown hK hP 0 rfl rfl 6 (by decide) (hts (.fieldLink RX8 53 "ServiceTree" "inState" "[J") (by decide +kernel)) (fun _ h9 => h9) rfl dX8_draftOrder_32 ?_
        refine lv_iconst (v := 1) hx hb dX8_draftOrder_35 (by decide) ?_
        refine va_lald (n := 6) (f := M 9) hx hb hK hP 21 1 rfl rfl (vp_in_nI (n := 1) (by omega) (by omega)) dX8_draftOrder_36 ?_
        refine lv_topl (fun x8 ex8 => ?_)
        refine lv_aload_n hx hb dX8_draftOrder_37 rfl (lv_at hl 0 rfl) ?_
        refine va_get (D := (dC, dI)) (ci := 9) (v := .ref (a 6)) (C := RX8) (T := TX8) (N := 14) hx hb hts in_x_draftOrder_X8 hown hK hP 0 rfl rfl 6 (by decide) (hts (.fieldLink RX8 53 "ServiceTree" "inState" "[J") (by decide +kernel)) (fun _ h9 => h9) rfl dX8_draftOrder_38 ?_
        refine lv_iconst (v := 3) hx hb dX8_draftOrder_41 (by decide) ?_
        refine va_lald (n := 6) (f := M 9) hx hb hK hP 21 1 rfl rfl (vp_in_nI (n := 3) (by omega) (by omega)) dX8_draftOrder_42 ?_
        refine lv_topl (fun x9 ex9 => ?_)
        refine lv_lor hx hb dX8_draftOrder_43 ?_
        refine lv_topl (fun x10 ex10 => ?_)
        refine lv_lconst (v := 0) hx hb dX8_draftOrder_44 (by decide) ?_
        refine W.lcmp hx hb dX8_draftOrder_45 ?_
        refine lv_topi (fun x11 ex11 => ?_)
        refine lv_if_eq (tgt := 52) hx hb dX8_draftOrder_46 (by decide) (fun c12 => ?_) (fun c12 => ?_)
        · refine lv_aload_n hx hb dX8_draftOrder_52 rfl (lv_at hl 0 rfl) ?_
          refine va_get (D := (dC, dI)) (ci := 9) (v := .ref (a 2)) (C := RX8) (T := TX8) (N := 14) hx hb hts in_x_draftOrder_X8 hown hK hP 0 rfl rfl 2 (by decide) (hts (.fieldLink RX8 28 "ServiceTree" "draft" "LServiceTree$Draft;") (by decide +kernel)) (fun _ h9 => h9) rfl dX8_draftOrder_53 ?_
          refine lv_iload_n hx hb dX8_draftOrder_56 rfl (lv_at hl 1 rfl) ?_
          refine lv_iload_n hx hb dX8_draftOrder_57 rfl (lv_at hl 2 rfl) ?_
          refine lv_aload_n hx hb dX8_draftOrder_58 rfl (lv_at hl 0 rfl) ?_
          refine va_get (D := (dC, dI)) (ci := 9) (v := .ref (a 6)) (C := RX8) (T := TX8) (N := 14) hx hb hts in_x_draftOrder_X8 hown hK hP 0 rfl rfl 6 (by decide) (hts (.fieldLink RX8 53 "ServiceTree" "inState" "[J") (by decide +kernel)) (fun _ h9 => h9) rfl dX8_draftOrder_59 ?_
          refine lv_iconst (v := 2) hx hb dX8_draftOrder_62 (by decide) ?_
          refine va_lald (n := 6) (f := M 9) hx hb hK hP 21 1 rfl rfl (vp_in_nI (n := 2) (by omega) (by omega)) dX8_draftOrder_63 ?_
          refine lv_topl (fun x13 ex13 => ?_)
          refine lv_aload_n hx hb dX8_draftOrder_64 rfl (lv_at hl 0 rfl) ?_
          refine va_get (D := (dC, dI)) (ci := 9) (v := .ref (a 6)) (C := RX8) (T := TX8) (N := 14) hx hb hts in_x_draftOrder_X8 hown hK hP 0 rfl rfl 6 (by decide) (hts (.fieldLink RX8 53 "ServiceTree" "inState" "[J") (by decide +kernel)) (fun _ h9 => h9) rfl dX8_draftOrder_65 ?_
          refine lv_iconst (v := 5) hx hb dX8_draftOrder_68 (by decide) ?_
          refine va_lald (n := 6) (f := M 9) hx hb hK hP 21 1 rfl rfl (vp_in_nI (n := 5) (by omega) (by omega)) dX8_draftOrder_69 ?_
          refine lv_topl (fun x14 ex14 => ?_)
          have hFc := mw_free hD hS hA
          refine va_calli (va_runV (As := [.int (nI j2), .int (nI j4), .long x13, .long x14]) (rest := []) ⟨hx, hb, hml, hown, hts⟩ (c_x_weigh l dC dI h a e cI cJ cO cE L I M J n cap fE sd si sa dl (b) (nI j2) (nI j4) x13 x14 H.size hX (by omega) ) (cwV 4 hts wc_x_draftOrder_x_weigh_240 rfl rfl rfl (by decide +kernel) ⟨Nat.le_of_ble_eq_true rfl, Nat.le_of_ble_eq_true rfl⟩) ⟨fun a9 U g mk q => by obtain ⟨q0, q1, qP, qK, qD, qN⟩ := q; exact ⟨q0, q1, qP, va_K.moved (u := U) (U := U.calling g mk a9) (Vm.Alike.refl U.vm) qK, qD, pw_N.same (u := U) (U := U.calling g mk a9) rfl qN⟩, va_recv hK hP (ci := 2) (q0 := 13) rfl rfl, fun U hU hW => ⟨rfl, by rw [hU], by rw [hU]; exact hP, va_K.moved hW.alike hK, hD.weaken (fun _ _ _ _ => trivial), pw_N.warm hW hN⟩⟩ rfl rfl hl.1 rfl (lv_room (Nat.le_of_ble_eq_true rfl)) dX8_draftOrder_70 ⟨Nat.le_of_ble_eq_true rfl, Nat.le_of_ble_eq_true rfl⟩) hS (fun q _ h => hFc q h) hFc (fun r15 u t H1 locs ht hvm hw hB hz1 hk1 hS => ?_)
          obtain ⟨L16, I17⟩ := u
          replace hP := hB.1
          rw [ht] at hP
          replace hD : va_D A (xW h a e cI cJ cO cE L16 I17 M J n cap fE sd si sa dl) := hB.2.weaken (fun _ q _ h9 => hFc q.1 h9)
          clear hB
          generalize H1 = H at hP hS ⊢
          replace hP : va_P (dC, dI) vwCl (xW h a e cI cJ cO cE L16 I17 M J n cap fE sd si sa dl) H := hP
          obtain ⟨hwX, whUL, whUI, hw⟩ := hw
          replace hX : InvX n cap fE sd dl (b) I17 J si := hwX
          replace hUL : ∀ j9 : Nat, j9 ∉ ([2, 3, 4] : List Nat) → L16 j9 = L j9 := mw_tr (by decide) whUL hUL
          replace hUI : ∀ j9 : Nat, j9 ∉ ([8] : List Nat) → I17 j9 = I j9 := mw_tr (by decide) whUI hUI
          exact W.iret (v := r15) hx hb hr (fun t ht hW => ⟨⟨r15, (L16, I17), rfl, ⟨hX.mono (by omega), hUL, hUI, trivial⟩, by rw [ht]; exact hP, hD⟩, hS.F ht⟩) hS.2.2 dX8_draftOrder_73
        · refine lv_bipush (v := (-3)) hx hb dX8_draftOrder_49 (by decide) ?_
          exact W.iret (v := (-3)) hx hb hr (fun t ht hW => ⟨⟨(-3), (L, I), rfl, ⟨hX.mono (by omega), hUL, hUI, trivial⟩, by rw [ht]; exact hP, hD⟩, hS.F ht⟩) hS.2.2 dX8_draftOrder_51
    · refine lv_if_ne (tgt := 19) hx hb dX8_draftOrder_14 (by decide) (fun c9 => absurd (by decide) c9) (fun _ => ?_)
      refine lv_iconst (v := (-1)) hx hb dX8_draftOrder_17 (by decide) ?_
      exact W.iret (v := (-1)) hx hb hr (fun t ht hW => ⟨⟨(-1), (L, I), rfl, ⟨hX.mono (by omega), hUL, hUI, trivial⟩, by rw [ht]; exact hP, hD⟩, hS.F ht⟩) hS.2.2 dX8_draftOrder_18
  · refine lv_if_eq (tgt := 17) hx hb dX8_draftOrder_6 (by decide) (fun _ => ?_) (fun c9 => absurd (by decide) c9)
    refine lv_iconst (v := (-1)) hx hb dX8_draftOrder_17 (by decide) ?_
    exact W.iret (v := (-1)) hx hb hr (fun t ht hW => ⟨⟨(-1), (L, I), rfl, ⟨hX.mono (by omega), hUL, hUI, trivial⟩, by rw [ht]; exact hP, hD⟩, hS.F ht⟩) hS.2.2 dX8_draftOrder_18
def wq_x_keepRing : List Cond := [.code yX8_keepRing cX8_keepRing 2 none, .fieldLink RX8 28 "ServiceTree" "draft" "LServiceTree$Draft;", .fieldLink RX8 216 "ServiceTree" "latestRing" "I"] ++ (wsX10 ++ (wsX80))
theorem in_x_keepRing_X1 : ∀ w ∈ wsX10, w ∈ wq_x_keepRing := fun _ h => List.mem_append_right _ (List.mem_append_left _ (h))
theorem in_x_keepRing_X8 : ∀ w ∈ wsX80, w ∈ wq_x_keepRing := fun _ h => List.mem_append_right _ (List.mem_append_right _ (h))
set_option maxRecDepth 20000 in
theorem wi_x_keepRing : ∀ w ∈ wq_x_keepRing, w ∈ lw_tbl := List.forall_mem_append.mpr ⟨(by decide +kernel), List.forall_mem_append.mpr ⟨inKX1, inKX8⟩⟩
set_option maxRecDepth 20000 in
theorem wg_x_keepRing : GoodIn wq_x_keepRing wq_x_keepRing := goodIn_sub (fun _ h => h) (by decide +kernel)
def rm_x_keepRing : Room := { frames := 0, cells := 0, slots := 0, locals := 0 }
set_option maxHeartbeats 4000000 in
set_option maxRecDepth 100000 in
theorem c_x_keepRing (l : Launch) (dC : Nat → ClassId) (dI : Nat → Nat → Nat) (h : Nat) (a : Nat → Nat) (e : Nat) (cI cJ cO cE : ClassId) (L : Nat → Int64) (I : Nat → Int32) (M : Nat → Nat → Int64) (J : Nat → Nat → Int32) (n cap : Nat) (fE : Nat → Option Nat) (sd : Nat → Nat → Nat) (si : Nat → Nat → Int32) (sa : Nat → Nat → Nat → Int32) (dl : Nat → Nat) (b : Nat) (p0 : Int32) (sz : Nat) (hX0 : InvX n cap fE sd dl b I J si) (hb0 : b + 0 < 2147483648)  : Met l yX8_keepRing wq_x_keepRing rm_x_keepRing (va_Pc [.ref h, .int p0] (fun U => U.heap.size = sz ∧ va_P (dC, dI) vwCl (xW h a e cI cJ cO cE L I M J n cap fE sd si sa dl) U.heap ∧ va_K (dC, dI) vwCl (xT cI cJ cO cE) U ∧ va_D (fun _ => True) (xW h a e cI cJ cO cE L I M J n cap fE sd si sa dl) ∧ pw_N U)) (va_Qv (fun (u : (Nat → Int32)) => InvX n cap fE sd dl (b + 0) u J si ∧ (∀ j9 : Nat, j9 ∉ ([3] : List Nat) → u j9 = I j9) ∧ (True)) (fun (u : (Nat → Int32)) (t : State) => va_P (dC, dI) vwCl (xW h a e cI cJ cO cE L u M J n cap fE sd si sa dl) t.heap ∧ va_D (va_A (xW h a e cI cJ cO cE L I M J n cap fE sd si sa dl) sz) (xW h a e cI cJ cO cE L u M J n cap fE sd si sa dl)) (va_A (xW h a e cI cJ cO cE L I M J n cap fE sd si sa dl) sz)) 0 0 (va_A (xW h a e cI cJ cO cE L I M J n cap fE sd si sa dl) sz) := by
  have hn : n ≤ 40 := hX0.1.1
  have hX := hX0
  have hUI : ∀ j9 : Nat, j9 ∉ ([3] : List Nat) → I j9 = I j9 := fun _ _ => rfl
  refine Met.ofW (cc := cX8_keepRing) (maxL := 2) (ret := none) (by decide) rfl ?_
  intro p e9 s m args below meth c s₁ B hml hv
  obtain ⟨rfl, hsz, hP, hK, hD0, hN⟩ := hv
  have hx := B.exec
  have hb := B.bytes
  have hr := B.returns
  have hts := atoms_spec (ws := wq_x_keepRing) B.pre
  have hown : s.vm.findClass RX8 = some m.cls := findClass_of_methodNamed B.named
  have hlocks := B.notSynchronized
  subst hsz
  have hD := hD0.self (sz := s.heap.size)
  generalize hAe : va_A (xW h a e cI cJ cO cE L I M J n cap fE sd si sa dl) s.heap.size = A at hD ⊢
  have hA : ∀ q : Nat, s.heap.size ≤ q → A q := fun q h => by rw [← hAe]; exact Or.inr h
  have hS : va_S A s.heap s.heap [] := va_S.rf
  have hl := lv_entry ([.ref h, .int p0]) (n := 2) (Nat.le_of_ble_eq_true rfl)
  rw [lg_entry_eq]
  generalize (lg_sl ([.ref h, .int p0]) ++ List.replicate (2 - (lg_sl ([.ref h, .int p0])).length) Slot.unset).toArray = ls at hl ⊢
  have hl : lv_has ls 2 [(0, .ref h), (1, .int p0)] := hl
  refine lv_iload_n hx hb dX8_keepRing_0 rfl (lv_at hl 1 rfl) ?_
  refine lv_bipush (v := (-5)) hx hb dX8_keepRing_1 (by decide) ?_
  refine lv_icmp_ne (tgt := 17) hx hb dX8_keepRing_3 (by decide) (fun c1 => ?_) (fun c1 => ?_)
  · exact W.vret hx hb hr (fun t ht hW => ⟨⟨I, rfl, ⟨hX.mono (by omega), hUI, trivial⟩, by rw [ht]; exact hP, hD⟩, hS.F ht⟩) hS.2.2 dX8_keepRing_17
  · refine lv_aload_n hx hb dX8_keepRing_6 rfl (lv_at hl 0 rfl) ?_
    refine lv_aload_n hx hb dX8_keepRing_7 rfl (lv_at hl 0 rfl) ?_
    refine va_get (D := (dC, dI)) (ci := 9) (v := .ref (a 2)) (C := RX8) (T := TX8) (N := 14) hx hb hts in_x_keepRing_X8 hown hK hP 0 rfl rfl 2 (by decide) (hts (.fieldLink RX8 28 "ServiceTree" "draft" "LServiceTree$Draft;") (by decide +kernel)) (fun _ h9 => h9) rfl dX8_keepRing_8 ?_
    refine va_getN (D := (dC, dI)) (ci := 2) (v := .int (I 8)) (C := RX1) (T := TX1) (N := 5) hx hb hts in_x_keepRing_X1 hown hK hP 13 rfl rfl 4 (by decide) (va_Nw.use rfl (hN (.fieldLinkNest RX8 244 "ServiceTree$Draft" "ringSize" "I" "ServiceTree") (by decide +kernel))) (fun _ h9 => h9) rfl dX8_keepRing_11 ?_
    refine lv_topi (fun x2 ex2 => ?_)
    refine va_put (D := (dC, dI)) (ci := 9) (fs := [.ref (a 0), .ref (a 1), .ref (a 2), .ref (a 3), .ref (a 4), .ref (a 5), .ref (a 6), .long (L 0), .long (L 1), .int (I 0), .int (I 1), .int (I 2), .int (I 3), .int (I 4)]) (v := .int x2) (ty := .int) (C := RX8) (T := TX8) (N := 14) hx hb hts in_x_keepRing_X8 tyX8 tyX8_ok nmX8 hown hK hP hD hS 0 rfl rfl 12 (by decide) (hts (.fieldLink RX8 216 "ServiceTree" "latestRing" "I") (by decide +kernel)) (fun _ h9 => h9) rfl (by decide +kernel) rfl rfl (Nat.le_of_ble_eq_true rfl) dX8_keepRing_14 (fun H locs hP hD hS => ?_)
    replace hP : va_P (dC, dI) vwCl ((xW h a e cI cJ cO cE L I M J n cap fE sd si sa dl).set 0 (h, .inr (9, [.ref (a 0), .ref (a 1), .ref (a 2), .ref (a 3), .ref (a 4), .ref (a 5), .ref (a 6), .long (L 0), .long (L 1), .int (I 0), .int (I 1), .int (I 2), .int x2, .int (I 4)]))) H := hP
    replace hD : va_D A ((xW h a e cI cJ cO cE L I M J n cap fE sd si sa dl).set 0 (h, .inr (9, [.ref (a 0), .ref (a 1), .ref (a 2), .ref (a 3), .ref (a 4), .ref (a 5), .ref (a 6), .long (L 0), .long (L 1), .int (I 0), .int (I 1), .int (I 2), .int x2, .int (I 4)]))) := hD
    rw [xF_I3] at hP hD
    obtain ⟨I3, eI3⟩ : ∃ f9 : Nat → Int32, f9 = va_up I 3 x2 := ⟨_, rfl⟩
    rw [← eI3] at hP hD
    replace hX : InvX n cap fE sd dl (b) I3 J si := by rw [eI3]; exact hX.setI (by decide)
    replace hUI : ∀ j9 : Nat, j9 ∉ ([3] : List Nat) → I3 j9 = I j9 := by rw [eI3]; exact mw_up (by decide) hUI
    exact W.vret hx hb hr (fun t ht hW => ⟨⟨I3, rfl, ⟨hX.mono (by omega), hUI, trivial⟩, by rw [ht]; exact hP, hD⟩, hS.F ht⟩) hS.2.2 dX8_keepRing_17
