theorem dX5_union_0 : decode cX5_union 0 = .ok (.lconst 0, 1) := by decide +kernel
theorem dX5_union_1 : decode cX5_union 1 = .ok (.lstore_n 3, 1) := by decide +kernel
theorem dX5_union_2 : decode cX5_union 2 = .ok (.iconst 0, 1) := by decide +kernel
theorem dX5_union_3 : decode cX5_union 3 = .ok (.istore 5, 2) := by decide +kernel
theorem dX5_union_5 : decode cX5_union 5 = .ok (.iload 5, 2) := by decide +kernel
theorem dX5_union_7 : decode cX5_union 7 = .ok (.aload_n 0, 1) := by decide +kernel
theorem dX5_union_8 : decode cX5_union 8 = .ok (.arraylength, 1) := by decide +kernel
theorem dX5_union_9 : decode cX5_union 9 = .ok (.if_icmp .ge 25, 3) := by decide +kernel
theorem dX5_union_12 : decode cX5_union 12 = .ok (.lload_n 1, 1) := by decide +kernel
theorem dX5_union_13 : decode cX5_union 13 = .ok (.iload 5, 2) := by decide +kernel
theorem dX5_union_15 : decode cX5_union 15 = .ok (.invokestatic 19, 3) := by decide +kernel
theorem dX5_union_18 : decode cX5_union 18 = .ok (.ifCond .eq 10, 3) := by decide +kernel
theorem dX5_union_21 : decode cX5_union 21 = .ok (.lload_n 3, 1) := by decide +kernel
theorem dX5_union_22 : decode cX5_union 22 = .ok (.aload_n 0, 1) := by decide +kernel
theorem dX5_union_23 : decode cX5_union 23 = .ok (.iload 5, 2) := by decide +kernel
theorem dX5_union_25 : decode cX5_union 25 = .ok (.laload, 1) := by decide +kernel
theorem dX5_union_26 : decode cX5_union 26 = .ok (.lor, 1) := by decide +kernel
theorem dX5_union_27 : decode cX5_union 27 = .ok (.lstore_n 3, 1) := by decide +kernel
theorem dX5_union_28 : decode cX5_union 28 = .ok (.iinc 5 1, 3) := by decide +kernel
theorem dX5_union_31 : decode cX5_union 31 = .ok (.goto (-26), 3) := by decide +kernel
theorem dX5_union_34 : decode cX5_union 34 = .ok (.lload_n 3, 1) := by decide +kernel
theorem dX5_union_35 : decode cX5_union 35 = .ok (.lreturn, 1) := by decide +kernel
theorem dX5_fromAny_0 : decode cX5_fromAny 0 = .ok (.aload_n 0, 1) := by decide +kernel
theorem dX5_fromAny_1 : decode cX5_fromAny 1 = .ok (.getfield 11, 3) := by decide +kernel
theorem dX5_fromAny_4 : decode cX5_fromAny 4 = .ok (.iload_n 1, 1) := by decide +kernel
theorem dX5_fromAny_5 : decode cX5_fromAny 5 = .ok (.aaload, 1) := by decide +kernel
theorem dX5_fromAny_6 : decode cX5_fromAny 6 = .ok (.lload_n 2, 1) := by decide +kernel
theorem dX5_fromAny_7 : decode cX5_fromAny 7 = .ok (.invokestatic 40, 3) := by decide +kernel
theorem dX5_fromAny_10 : decode cX5_fromAny 10 = .ok (.lreturn, 1) := by decide +kernel
theorem dX5_withNeeded_0 : decode cX5_withNeeded 0 = .ok (.lload_n 1, 1) := by decide +kernel
theorem dX5_withNeeded_1 : decode cX5_withNeeded 1 = .ok (.lstore_n 3, 1) := by decide +kernel
theorem dX5_withNeeded_2 : decode cX5_withNeeded 2 = .ok (.iconst 0, 1) := by decide +kernel
theorem dX5_withNeeded_3 : decode cX5_withNeeded 3 = .ok (.istore 5, 2) := by decide +kernel
theorem dX5_withNeeded_5 : decode cX5_withNeeded 5 = .ok (.iload 5, 2) := by decide +kernel
theorem dX5_withNeeded_7 : decode cX5_withNeeded 7 = .ok (.bipush 40, 2) := by decide +kernel
theorem dX5_withNeeded_9 : decode cX5_withNeeded 9 = .ok (.if_icmp .ge 36, 3) := by decide +kernel
theorem dX5_withNeeded_12 : decode cX5_withNeeded 12 = .ok (.lload_n 3, 1) := by decide +kernel
theorem dX5_withNeeded_13 : decode cX5_withNeeded 13 = .ok (.aload_n 0, 1) := by decide +kernel
theorem dX5_withNeeded_14 : decode cX5_withNeeded 14 = .ok (.getfield 11, 3) := by decide +kernel
theorem dX5_withNeeded_17 : decode cX5_withNeeded 17 = .ok (.iconst 0, 1) := by decide +kernel
theorem dX5_withNeeded_18 : decode cX5_withNeeded 18 = .ok (.aaload, 1) := by decide +kernel
theorem dX5_withNeeded_19 : decode cX5_withNeeded 19 = .ok (.lload_n 3, 1) := by decide +kernel
theorem dX5_withNeeded_20 : decode cX5_withNeeded 20 = .ok (.invokestatic 40, 3) := by decide +kernel
theorem dX5_withNeeded_23 : decode cX5_withNeeded 23 = .ok (.lor, 1) := by decide +kernel
theorem dX5_withNeeded_24 : decode cX5_withNeeded 24 = .ok (.lstore 6, 2) := by decide +kernel
theorem dX5_withNeeded_26 : decode cX5_withNeeded 26 = .ok (.lload 6, 2) := by decide +kernel
theorem dX5_withNeeded_28 : decode cX5_withNeeded 28 = .ok (.lload_n 3, 1) := by decide +kernel
theorem dX5_withNeeded_29 : decode cX5_withNeeded 29 = .ok (.lcmp, 1) := by decide +kernel
theorem dX5_withNeeded_30 : decode cX5_withNeeded 30 = .ok (.ifCond .ne 6, 3) := by decide +kernel
theorem dX5_withNeeded_33 : decode cX5_withNeeded 33 = .ok (.goto 12, 3) := by decide +kernel
theorem dX5_withNeeded_36 : decode cX5_withNeeded 36 = .ok (.lload 6, 2) := by decide +kernel
theorem dX5_withNeeded_38 : decode cX5_withNeeded 38 = .ok (.lstore_n 3, 1) := by decide +kernel
theorem dX5_withNeeded_39 : decode cX5_withNeeded 39 = .ok (.iinc 5 1, 3) := by decide +kernel
theorem dX5_withNeeded_42 : decode cX5_withNeeded 42 = .ok (.goto (-37), 3) := by decide +kernel
theorem dX5_withNeeded_45 : decode cX5_withNeeded 45 = .ok (.lload_n 3, 1) := by decide +kernel
theorem dX5_withNeeded_46 : decode cX5_withNeeded 46 = .ok (.lreturn, 1) := by decide +kernel
theorem dX5_withNeeders_0 : decode cX5_withNeeders 0 = .ok (.lload_n 1, 1) := by decide +kernel
theorem dX5_withNeeders_1 : decode cX5_withNeeders 1 = .ok (.lstore 5, 2) := by decide +kernel
theorem dX5_withNeeders_3 : decode cX5_withNeeders 3 = .ok (.iconst 0, 1) := by decide +kernel
theorem dX5_withNeeders_4 : decode cX5_withNeeders 4 = .ok (.istore 7, 2) := by decide +kernel
theorem dX5_withNeeders_6 : decode cX5_withNeeders 6 = .ok (.iload 7, 2) := by decide +kernel
theorem dX5_withNeeders_8 : decode cX5_withNeeders 8 = .ok (.bipush 40, 2) := by decide +kernel
theorem dX5_withNeeders_10 : decode cX5_withNeeders 10 = .ok (.if_icmp .ge 42, 3) := by decide +kernel
theorem dX5_withNeeders_13 : decode cX5_withNeeders 13 = .ok (.lload 5, 2) := by decide +kernel
theorem dX5_withNeeders_15 : decode cX5_withNeeders 15 = .ok (.aload_n 0, 1) := by decide +kernel
theorem dX5_withNeeders_16 : decode cX5_withNeeders 16 = .ok (.getfield 16, 3) := by decide +kernel
theorem dX5_withNeeders_19 : decode cX5_withNeeders 19 = .ok (.iconst 0, 1) := by decide +kernel
theorem dX5_withNeeders_20 : decode cX5_withNeeders 20 = .ok (.aaload, 1) := by decide +kernel
theorem dX5_withNeeders_21 : decode cX5_withNeeders 21 = .ok (.lload 5, 2) := by decide +kernel
theorem dX5_withNeeders_23 : decode cX5_withNeeders 23 = .ok (.invokestatic 40, 3) := by decide +kernel
theorem dX5_withNeeders_26 : decode cX5_withNeeders 26 = .ok (.lload_n 3, 1) := by decide +kernel
theorem dX5_withNeeders_27 : decode cX5_withNeeders 27 = .ok (.land, 1) := by decide +kernel
theorem dX5_withNeeders_28 : decode cX5_withNeeders 28 = .ok (.lor, 1) := by decide +kernel
theorem dX5_withNeeders_29 : decode cX5_withNeeders 29 = .ok (.lstore 8, 2) := by decide +kernel
theorem dX5_withNeeders_31 : decode cX5_withNeeders 31 = .ok (.lload 8, 2) := by decide +kernel
theorem dX5_withNeeders_33 : decode cX5_withNeeders 33 = .ok (.lload 5, 2) := by decide +kernel
theorem dX5_withNeeders_35 : decode cX5_withNeeders 35 = .ok (.lcmp, 1) := by decide +kernel
theorem dX5_withNeeders_36 : decode cX5_withNeeders 36 = .ok (.ifCond .ne 6, 3) := by decide +kernel
theorem dX5_withNeeders_39 : decode cX5_withNeeders 39 = .ok (.goto 13, 3) := by decide +kernel
theorem dX5_withNeeders_42 : decode cX5_withNeeders 42 = .ok (.lload 8, 2) := by decide +kernel
theorem dX5_withNeeders_44 : decode cX5_withNeeders 44 = .ok (.lstore 5, 2) := by decide +kernel
theorem dX5_withNeeders_46 : decode cX5_withNeeders 46 = .ok (.iinc 7 1, 3) := by decide +kernel
theorem dX5_withNeeders_49 : decode cX5_withNeeders 49 = .ok (.goto (-43), 3) := by decide +kernel
theorem dX5_withNeeders_52 : decode cX5_withNeeders 52 = .ok (.lload 5, 2) := by decide +kernel
theorem dX5_withNeeders_54 : decode cX5_withNeeders 54 = .ok (.lreturn, 1) := by decide +kernel
theorem dX5_clash_0 : decode cX5_clash 0 = .ok (.aload_n 0, 1) := by decide +kernel
theorem dX5_clash_1 : decode cX5_clash 1 = .ok (.getfield 11, 3) := by decide +kernel
theorem dX5_clash_4 : decode cX5_clash 4 = .ok (.iconst 3, 1) := by decide +kernel
theorem dX5_clash_5 : decode cX5_clash 5 = .ok (.aaload, 1) := by decide +kernel
theorem dX5_clash_6 : decode cX5_clash 6 = .ok (.lload_n 1, 1) := by decide +kernel
theorem dX5_clash_7 : decode cX5_clash 7 = .ok (.invokestatic 40, 3) := by decide +kernel
theorem dX5_clash_10 : decode cX5_clash 10 = .ok (.lload_n 1, 1) := by decide +kernel
theorem dX5_clash_11 : decode cX5_clash 11 = .ok (.land, 1) := by decide +kernel
theorem dX5_clash_12 : decode cX5_clash 12 = .ok (.lconst 0, 1) := by decide +kernel
theorem dX5_clash_13 : decode cX5_clash 13 = .ok (.lcmp, 1) := by decide +kernel
theorem dX5_clash_14 : decode cX5_clash 14 = .ok (.ifCond .eq 7, 3) := by decide +kernel
theorem dX5_clash_17 : decode cX5_clash 17 = .ok (.iconst 1, 1) := by decide +kernel
theorem dX5_clash_18 : decode cX5_clash 18 = .ok (.goto 4, 3) := by decide +kernel
theorem dX5_clash_21 : decode cX5_clash 21 = .ok (.iconst 0, 1) := by decide +kernel
theorem dX5_clash_22 : decode cX5_clash 22 = .ok (.ireturn, 1) := by decide +kernel
theorem dX5_awaitedBy_0 : decode cX5_awaitedBy 0 = .ok (.lload_n 2, 1) := by decide +kernel
theorem dX5_awaitedBy_1 : decode cX5_awaitedBy 1 = .ok (.iload_n 1, 1) := by decide +kernel
theorem dX5_awaitedBy_2 : decode cX5_awaitedBy 2 = .ok (.invokestatic 19, 3) := by decide +kernel
theorem dX5_awaitedBy_5 : decode cX5_awaitedBy 5 = .ok (.ifCond .eq 35, 3) := by decide +kernel
theorem dX5_awaitedBy_8 : decode cX5_awaitedBy 8 = .ok (.aload_n 0, 1) := by decide +kernel
theorem dX5_awaitedBy_9 : decode cX5_awaitedBy 9 = .ok (.getfield 11, 3) := by decide +kernel
theorem dX5_awaitedBy_12 : decode cX5_awaitedBy 12 = .ok (.iconst 0, 1) := by decide +kernel
theorem dX5_awaitedBy_13 : decode cX5_awaitedBy 13 = .ok (.aaload, 1) := by decide +kernel
theorem dX5_awaitedBy_14 : decode cX5_awaitedBy 14 = .ok (.iload_n 1, 1) := by decide +kernel
theorem dX5_awaitedBy_15 : decode cX5_awaitedBy 15 = .ok (.laload, 1) := by decide +kernel
theorem dX5_awaitedBy_16 : decode cX5_awaitedBy 16 = .ok (.aload_n 0, 1) := by decide +kernel
theorem dX5_awaitedBy_17 : decode cX5_awaitedBy 17 = .ok (.getfield 11, 3) := by decide +kernel
theorem dX5_awaitedBy_20 : decode cX5_awaitedBy 20 = .ok (.iconst 2, 1) := by decide +kernel
theorem dX5_awaitedBy_21 : decode cX5_awaitedBy 21 = .ok (.aaload, 1) := by decide +kernel
theorem dX5_awaitedBy_22 : decode cX5_awaitedBy 22 = .ok (.iload_n 1, 1) := by decide +kernel
theorem dX5_awaitedBy_23 : decode cX5_awaitedBy 23 = .ok (.laload, 1) := by decide +kernel
theorem dX5_awaitedBy_24 : decode cX5_awaitedBy 24 = .ok (.lor, 1) := by decide +kernel
theorem dX5_awaitedBy_25 : decode cX5_awaitedBy 25 = .ok (.lload_n 2, 1) := by decide +kernel
theorem dX5_awaitedBy_26 : decode cX5_awaitedBy 26 = .ok (.land, 1) := by decide +kernel
theorem dX5_awaitedBy_27 : decode cX5_awaitedBy 27 = .ok (.aload_n 0, 1) := by decide +kernel
theorem dX5_awaitedBy_28 : decode cX5_awaitedBy 28 = .ok (.getfield 11, 3) := by decide +kernel
theorem dX5_awaitedBy_31 : decode cX5_awaitedBy 31 = .ok (.iconst 3, 1) := by decide +kernel
theorem dX5_awaitedBy_32 : decode cX5_awaitedBy 32 = .ok (.aaload, 1) := by decide +kernel
theorem dX5_awaitedBy_33 : decode cX5_awaitedBy 33 = .ok (.iload_n 1, 1) := by decide +kernel
theorem dX5_awaitedBy_34 : decode cX5_awaitedBy 34 = .ok (.laload, 1) := by decide +kernel
theorem dX5_awaitedBy_35 : decode cX5_awaitedBy 35 = .ok (.lload 4, 2) := by decide +kernel
theorem dX5_awaitedBy_37 : decode cX5_awaitedBy 37 = .ok (.land, 1) := by decide +kernel
theorem dX5_awaitedBy_38 : decode cX5_awaitedBy 38 = .ok (.lor, 1) := by decide +kernel
theorem dX5_awaitedBy_39 : decode cX5_awaitedBy 39 = .ok (.lreturn, 1) := by decide +kernel
theorem dX5_awaitedBy_40 : decode cX5_awaitedBy 40 = .ok (.lload 4, 2) := by decide +kernel
theorem dX5_awaitedBy_42 : decode cX5_awaitedBy 42 = .ok (.iload_n 1, 1) := by decide +kernel
theorem dX5_awaitedBy_43 : decode cX5_awaitedBy 43 = .ok (.invokestatic 19, 3) := by decide +kernel
theorem dX5_awaitedBy_46 : decode cX5_awaitedBy 46 = .ok (.ifCond .eq 24, 3) := by decide +kernel
theorem dX5_awaitedBy_49 : decode cX5_awaitedBy 49 = .ok (.aload_n 0, 1) := by decide +kernel
theorem dX5_awaitedBy_50 : decode cX5_awaitedBy 50 = .ok (.getfield 16, 3) := by decide +kernel
theorem dX5_awaitedBy_53 : decode cX5_awaitedBy 53 = .ok (.iconst 0, 1) := by decide +kernel
theorem dX5_awaitedBy_54 : decode cX5_awaitedBy 54 = .ok (.aaload, 1) := by decide +kernel
theorem dX5_awaitedBy_55 : decode cX5_awaitedBy 55 = .ok (.iload_n 1, 1) := by decide +kernel
theorem dX5_awaitedBy_56 : decode cX5_awaitedBy 56 = .ok (.laload, 1) := by decide +kernel
theorem dX5_awaitedBy_57 : decode cX5_awaitedBy 57 = .ok (.aload_n 0, 1) := by decide +kernel
theorem dX5_awaitedBy_58 : decode cX5_awaitedBy 58 = .ok (.getfield 16, 3) := by decide +kernel
theorem dX5_awaitedBy_61 : decode cX5_awaitedBy 61 = .ok (.iconst 2, 1) := by decide +kernel
theorem dX5_awaitedBy_62 : decode cX5_awaitedBy 62 = .ok (.aaload, 1) := by decide +kernel
theorem dX5_awaitedBy_63 : decode cX5_awaitedBy 63 = .ok (.iload_n 1, 1) := by decide +kernel
theorem dX5_awaitedBy_64 : decode cX5_awaitedBy 64 = .ok (.laload, 1) := by decide +kernel
theorem dX5_awaitedBy_65 : decode cX5_awaitedBy 65 = .ok (.lor, 1) := by decide +kernel
theorem dX5_awaitedBy_66 : decode cX5_awaitedBy 66 = .ok (.lload 4, 2) := by decide +kernel
theorem dX5_awaitedBy_68 : decode cX5_awaitedBy 68 = .ok (.land, 1) := by decide +kernel
theorem dX5_awaitedBy_69 : decode cX5_awaitedBy 69 = .ok (.lreturn, 1) := by decide +kernel
theorem dX5_awaitedBy_70 : decode cX5_awaitedBy 70 = .ok (.lconst 0, 1) := by decide +kernel
theorem dX5_awaitedBy_71 : decode cX5_awaitedBy 71 = .ok (.lreturn, 1) := by decide +kernel
theorem dX5_after_0 : decode cX5_after 0 = .ok (.aload_n 0, 1) := by decide +kernel
theorem dX5_after_1 : decode cX5_after 1 = .ok (.getfield 11, 3) := by decide +kernel
theorem dX5_after_4 : decode cX5_after 4 = .ok (.iconst 0, 1) := by decide +kernel
theorem dX5_after_5 : decode cX5_after 5 = .ok (.aaload, 1) := by decide +kernel
theorem dX5_after_6 : decode cX5_after 6 = .ok (.iload_n 1, 1) := by decide +kernel
theorem dX5_after_7 : decode cX5_after 7 = .ok (.laload, 1) := by decide +kernel
theorem dX5_after_8 : decode cX5_after 8 = .ok (.aload_n 0, 1) := by decide +kernel
theorem dX5_after_9 : decode cX5_after 9 = .ok (.getfield 11, 3) := by decide +kernel
theorem dX5_after_12 : decode cX5_after 12 = .ok (.iconst 2, 1) := by decide +kernel
theorem dX5_after_13 : decode cX5_after 13 = .ok (.aaload, 1) := by decide +kernel
theorem dX5_after_14 : decode cX5_after 14 = .ok (.iload_n 1, 1) := by decide +kernel
theorem dX5_after_15 : decode cX5_after 15 = .ok (.laload, 1) := by decide +kernel
theorem dX5_after_16 : decode cX5_after 16 = .ok (.lor, 1) := by decide +kernel
theorem dX5_after_17 : decode cX5_after 17 = .ok (.lreturn, 1) := by decide +kernel
theorem dX5_tangled_0 : decode cX5_tangled 0 = .ok (.lload_n 1, 1) := by decide +kernel
theorem dX5_tangled_1 : decode cX5_tangled 1 = .ok (.lstore_n 3, 1) := by decide +kernel
theorem dX5_tangled_2 : decode cX5_tangled 2 = .ok (.iconst 0, 1) := by decide +kernel
theorem dX5_tangled_3 : decode cX5_tangled 3 = .ok (.istore 5, 2) := by decide +kernel
theorem dX5_tangled_5 : decode cX5_tangled 5 = .ok (.iload 5, 2) := by decide +kernel
theorem dX5_tangled_7 : decode cX5_tangled 7 = .ok (.bipush 40, 2) := by decide +kernel
theorem dX5_tangled_9 : decode cX5_tangled 9 = .ok (.if_icmp .ge 73, 3) := by decide +kernel
theorem dX5_tangled_12 : decode cX5_tangled 12 = .ok (.lconst 0, 1) := by decide +kernel
theorem dX5_tangled_13 : decode cX5_tangled 13 = .ok (.lstore 6, 2) := by decide +kernel
theorem dX5_tangled_15 : decode cX5_tangled 15 = .ok (.iconst 0, 1) := by decide +kernel
theorem dX5_tangled_16 : decode cX5_tangled 16 = .ok (.istore 8, 2) := by decide +kernel
theorem dX5_tangled_18 : decode cX5_tangled 18 = .ok (.iload 8, 2) := by decide +kernel
theorem dX5_tangled_20 : decode cX5_tangled 20 = .ok (.bipush 40, 2) := by decide +kernel
theorem dX5_tangled_22 : decode cX5_tangled 22 = .ok (.if_icmp .ge 41, 3) := by decide +kernel
theorem dX5_tangled_25 : decode cX5_tangled 25 = .ok (.lload_n 3, 1) := by decide +kernel
theorem dX5_tangled_26 : decode cX5_tangled 26 = .ok (.iload 8, 2) := by decide +kernel
theorem dX5_tangled_28 : decode cX5_tangled 28 = .ok (.invokestatic 19, 3) := by decide +kernel
theorem dX5_tangled_31 : decode cX5_tangled 31 = .ok (.ifCond .eq 26, 3) := by decide +kernel
theorem dX5_tangled_34 : decode cX5_tangled 34 = .ok (.aload_n 0, 1) := by decide +kernel
theorem dX5_tangled_35 : decode cX5_tangled 35 = .ok (.iload 8, 2) := by decide +kernel
theorem dX5_tangled_37 : decode cX5_tangled 37 = .ok (.invokevirtual 44, 3) := by decide +kernel
theorem dX5_tangled_40 : decode cX5_tangled 40 = .ok (.lload_n 3, 1) := by decide +kernel
theorem dX5_tangled_41 : decode cX5_tangled 41 = .ok (.land, 1) := by decide +kernel
theorem dX5_tangled_42 : decode cX5_tangled 42 = .ok (.lconst 0, 1) := by decide +kernel
theorem dX5_tangled_43 : decode cX5_tangled 43 = .ok (.lcmp, 1) := by decide +kernel
theorem dX5_tangled_44 : decode cX5_tangled 44 = .ok (.ifCond .eq 13, 3) := by decide +kernel
theorem dX5_tangled_47 : decode cX5_tangled 47 = .ok (.lload 6, 2) := by decide +kernel
theorem dX5_tangled_49 : decode cX5_tangled 49 = .ok (.iload 8, 2) := by decide +kernel
theorem dX5_tangled_51 : decode cX5_tangled 51 = .ok (.invokestatic 34, 3) := by decide +kernel
theorem dX5_tangled_54 : decode cX5_tangled 54 = .ok (.lor, 1) := by decide +kernel
theorem dX5_tangled_55 : decode cX5_tangled 55 = .ok (.lstore 6, 2) := by decide +kernel
theorem dX5_tangled_57 : decode cX5_tangled 57 = .ok (.iinc 8 1, 3) := by decide +kernel
theorem dX5_tangled_60 : decode cX5_tangled 60 = .ok (.goto (-42), 3) := by decide +kernel
theorem dX5_tangled_63 : decode cX5_tangled 63 = .ok (.lload 6, 2) := by decide +kernel
theorem dX5_tangled_65 : decode cX5_tangled 65 = .ok (.lload_n 3, 1) := by decide +kernel
theorem dX5_tangled_66 : decode cX5_tangled 66 = .ok (.lcmp, 1) := by decide +kernel
theorem dX5_tangled_67 : decode cX5_tangled 67 = .ok (.ifCond .ne 6, 3) := by decide +kernel
theorem dX5_tangled_70 : decode cX5_tangled 70 = .ok (.goto 12, 3) := by decide +kernel
theorem dX5_tangled_73 : decode cX5_tangled 73 = .ok (.lload 6, 2) := by decide +kernel
theorem dX5_tangled_75 : decode cX5_tangled 75 = .ok (.lstore_n 3, 1) := by decide +kernel
theorem dX5_tangled_76 : decode cX5_tangled 76 = .ok (.iinc 5 1, 3) := by decide +kernel
theorem dX5_tangled_79 : decode cX5_tangled 79 = .ok (.goto (-74), 3) := by decide +kernel
theorem dX5_tangled_82 : decode cX5_tangled 82 = .ok (.lload_n 3, 1) := by decide +kernel
theorem dX5_tangled_83 : decode cX5_tangled 83 = .ok (.lreturn, 1) := by decide +kernel
theorem dX5_shortestRing_0 : decode cX5_shortestRing 0 = .ok (.aload_n 0, 1) := by decide +kernel
theorem dX5_shortestRing_1 : decode cX5_shortestRing 1 = .ok (.lload_n 1, 1) := by decide +kernel
theorem dX5_shortestRing_2 : decode cX5_shortestRing 2 = .ok (.invokevirtual 47, 3) := by decide +kernel
theorem dX5_shortestRing_5 : decode cX5_shortestRing 5 = .ok (.lstore_n 3, 1) := by decide +kernel
theorem dX5_shortestRing_6 : decode cX5_shortestRing 6 = .ok (.iconst 0, 1) := by decide +kernel
theorem dX5_shortestRing_7 : decode cX5_shortestRing 7 = .ok (.istore 5, 2) := by decide +kernel
theorem dX5_shortestRing_9 : decode cX5_shortestRing 9 = .ok (.iconst 0, 1) := by decide +kernel
theorem dX5_shortestRing_10 : decode cX5_shortestRing 10 = .ok (.istore 6, 2) := by decide +kernel
theorem dX5_shortestRing_12 : decode cX5_shortestRing 12 = .ok (.iload 6, 2) := by decide +kernel
theorem dX5_shortestRing_14 : decode cX5_shortestRing 14 = .ok (.bipush 40, 2) := by decide +kernel
theorem dX5_shortestRing_16 : decode cX5_shortestRing 16 = .ok (.if_icmp .ge 52, 3) := by decide +kernel
theorem dX5_shortestRing_19 : decode cX5_shortestRing 19 = .ok (.lload_n 3, 1) := by decide +kernel
theorem dX5_shortestRing_20 : decode cX5_shortestRing 20 = .ok (.iload 6, 2) := by decide +kernel
theorem dX5_shortestRing_22 : decode cX5_shortestRing 22 = .ok (.invokestatic 19, 3) := by decide +kernel
theorem dX5_shortestRing_25 : decode cX5_shortestRing 25 = .ok (.ifCond .eq 13, 3) := by decide +kernel
theorem dX5_shortestRing_28 : decode cX5_shortestRing 28 = .ok (.aload_n 0, 1) := by decide +kernel
theorem dX5_shortestRing_29 : decode cX5_shortestRing 29 = .ok (.iload 6, 2) := by decide +kernel
theorem dX5_shortestRing_31 : decode cX5_shortestRing 31 = .ok (.lload_n 3, 1) := by decide +kernel
theorem dX5_shortestRing_32 : decode cX5_shortestRing 32 = .ok (.invokevirtual 51, 3) := by decide +kernel
theorem dX5_shortestRing_35 : decode cX5_shortestRing 35 = .ok (.goto 4, 3) := by decide +kernel
theorem dX5_shortestRing_38 : decode cX5_shortestRing 38 = .ok (.iconst 0, 1) := by decide +kernel
theorem dX5_shortestRing_39 : decode cX5_shortestRing 39 = .ok (.istore 7, 2) := by decide +kernel
theorem dX5_shortestRing_41 : decode cX5_shortestRing 41 = .ok (.iload 7, 2) := by decide +kernel
theorem dX5_shortestRing_43 : decode cX5_shortestRing 43 = .ok (.ifCond .le 19, 3) := by decide +kernel
theorem dX5_shortestRing_46 : decode cX5_shortestRing 46 = .ok (.iload 5, 2) := by decide +kernel
theorem dX5_shortestRing_48 : decode cX5_shortestRing 48 = .ok (.ifCond .eq 10, 3) := by decide +kernel
theorem dX5_shortestRing_51 : decode cX5_shortestRing 51 = .ok (.iload 7, 2) := by decide +kernel
theorem dX5_shortestRing_53 : decode cX5_shortestRing 53 = .ok (.iload 5, 2) := by decide +kernel
theorem dX5_shortestRing_55 : decode cX5_shortestRing 55 = .ok (.if_icmp .ge 7, 3) := by decide +kernel
theorem dX5_shortestRing_58 : decode cX5_shortestRing 58 = .ok (.iload 7, 2) := by decide +kernel
theorem dX5_shortestRing_60 : decode cX5_shortestRing 60 = .ok (.istore 5, 2) := by decide +kernel
theorem dX5_shortestRing_62 : decode cX5_shortestRing 62 = .ok (.iinc 6 1, 3) := by decide +kernel
theorem dX5_shortestRing_65 : decode cX5_shortestRing 65 = .ok (.goto (-53), 3) := by decide +kernel
theorem dX5_shortestRing_68 : decode cX5_shortestRing 68 = .ok (.iload 5, 2) := by decide +kernel
theorem dX5_shortestRing_70 : decode cX5_shortestRing 70 = .ok (.ireturn, 1) := by decide +kernel
theorem dX5_ringThrough_0 : decode cX5_ringThrough 0 = .ok (.lconst 0, 1) := by decide +kernel
theorem dX5_ringThrough_1 : decode cX5_ringThrough 1 = .ok (.lstore 4, 2) := by decide +kernel
theorem dX5_ringThrough_3 : decode cX5_ringThrough 3 = .ok (.aload_n 0, 1) := by decide +kernel
theorem dX5_ringThrough_4 : decode cX5_ringThrough 4 = .ok (.iload_n 1, 1) := by decide +kernel
theorem dX5_ringThrough_5 : decode cX5_ringThrough 5 = .ok (.invokevirtual 44, 3) := by decide +kernel
theorem dX5_ringThrough_8 : decode cX5_ringThrough 8 = .ok (.lload_n 2, 1) := by decide +kernel
theorem dX5_ringThrough_9 : decode cX5_ringThrough 9 = .ok (.land, 1) := by decide +kernel
theorem dX5_ringThrough_10 : decode cX5_ringThrough 10 = .ok (.lstore 6, 2) := by decide +kernel
theorem dX5_ringThrough_12 : decode cX5_ringThrough 12 = .ok (.iconst 1, 1) := by decide +kernel
theorem dX5_ringThrough_13 : decode cX5_ringThrough 13 = .ok (.istore 8, 2) := by decide +kernel
theorem dX5_ringThrough_15 : decode cX5_ringThrough 15 = .ok (.iload 8, 2) := by decide +kernel
theorem dX5_ringThrough_17 : decode cX5_ringThrough 17 = .ok (.bipush 40, 2) := by decide +kernel
theorem dX5_ringThrough_19 : decode cX5_ringThrough 19 = .ok (.if_icmp .gt 73, 3) := by decide +kernel
theorem dX5_ringThrough_22 : decode cX5_ringThrough 22 = .ok (.lload 6, 2) := by decide +kernel
theorem dX5_ringThrough_24 : decode cX5_ringThrough 24 = .ok (.lconst 0, 1) := by decide +kernel
theorem dX5_ringThrough_25 : decode cX5_ringThrough 25 = .ok (.lcmp, 1) := by decide +kernel
theorem dX5_ringThrough_26 : decode cX5_ringThrough 26 = .ok (.ifCond .eq 66, 3) := by decide +kernel
theorem dX5_ringThrough_29 : decode cX5_ringThrough 29 = .ok (.lload 6, 2) := by decide +kernel
theorem dX5_ringThrough_31 : decode cX5_ringThrough 31 = .ok (.iload_n 1, 1) := by decide +kernel
theorem dX5_ringThrough_32 : decode cX5_ringThrough 32 = .ok (.invokestatic 19, 3) := by decide +kernel
theorem dX5_ringThrough_35 : decode cX5_ringThrough 35 = .ok (.ifCond .eq 6, 3) := by decide +kernel
theorem dX5_ringThrough_38 : decode cX5_ringThrough 38 = .ok (.iload 8, 2) := by decide +kernel
theorem dX5_ringThrough_40 : decode cX5_ringThrough 40 = .ok (.ireturn, 1) := by decide +kernel
theorem dX5_ringThrough_41 : decode cX5_ringThrough 41 = .ok (.lload 4, 2) := by decide +kernel
theorem dX5_ringThrough_43 : decode cX5_ringThrough 43 = .ok (.lload 6, 2) := by decide +kernel
theorem dX5_ringThrough_45 : decode cX5_ringThrough 45 = .ok (.lor, 1) := by decide +kernel
theorem dX5_ringThrough_46 : decode cX5_ringThrough 46 = .ok (.lstore 4, 2) := by decide +kernel
theorem dX5_ringThrough_48 : decode cX5_ringThrough 48 = .ok (.aload_n 0, 1) := by decide +kernel
theorem dX5_ringThrough_49 : decode cX5_ringThrough 49 = .ok (.getfield 11, 3) := by decide +kernel
theorem dX5_ringThrough_52 : decode cX5_ringThrough 52 = .ok (.iconst 0, 1) := by decide +kernel
theorem dX5_ringThrough_53 : decode cX5_ringThrough 53 = .ok (.aaload, 1) := by decide +kernel
theorem dX5_ringThrough_54 : decode cX5_ringThrough 54 = .ok (.lload 6, 2) := by decide +kernel
theorem dX5_ringThrough_56 : decode cX5_ringThrough 56 = .ok (.invokestatic 40, 3) := by decide +kernel
theorem dX5_ringThrough_59 : decode cX5_ringThrough 59 = .ok (.aload_n 0, 1) := by decide +kernel
theorem dX5_ringThrough_60 : decode cX5_ringThrough 60 = .ok (.getfield 11, 3) := by decide +kernel
theorem dX5_ringThrough_63 : decode cX5_ringThrough 63 = .ok (.iconst 2, 1) := by decide +kernel
theorem dX5_ringThrough_64 : decode cX5_ringThrough 64 = .ok (.aaload, 1) := by decide +kernel
theorem dX5_ringThrough_65 : decode cX5_ringThrough 65 = .ok (.lload 6, 2) := by decide +kernel
theorem dX5_ringThrough_67 : decode cX5_ringThrough 67 = .ok (.invokestatic 40, 3) := by decide +kernel
theorem dX5_ringThrough_70 : decode cX5_ringThrough 70 = .ok (.lor, 1) := by decide +kernel
theorem dX5_ringThrough_71 : decode cX5_ringThrough 71 = .ok (.lstore 9, 2) := by decide +kernel
theorem dX5_ringThrough_73 : decode cX5_ringThrough 73 = .ok (.lload 9, 2) := by decide +kernel
theorem dX5_ringThrough_75 : decode cX5_ringThrough 75 = .ok (.lload_n 2, 1) := by decide +kernel
theorem dX5_ringThrough_76 : decode cX5_ringThrough 76 = .ok (.land, 1) := by decide +kernel
theorem dX5_ringThrough_77 : decode cX5_ringThrough 77 = .ok (.lload 4, 2) := by decide +kernel
theorem dX5_ringThrough_79 : decode cX5_ringThrough 79 = .ok (.ldc2_w 38, 3) := by decide +kernel
theorem dX5_ringThrough_82 : decode cX5_ringThrough 82 = .ok (.lxor, 1) := by decide +kernel
theorem dX5_ringThrough_83 : decode cX5_ringThrough 83 = .ok (.land, 1) := by decide +kernel
theorem dX5_ringThrough_84 : decode cX5_ringThrough 84 = .ok (.lstore 6, 2) := by decide +kernel
theorem dX5_ringThrough_86 : decode cX5_ringThrough 86 = .ok (.iinc 8 1, 3) := by decide +kernel
theorem dX5_ringThrough_89 : decode cX5_ringThrough 89 = .ok (.goto (-74), 3) := by decide +kernel
theorem dX5_ringThrough_92 : decode cX5_ringThrough 92 = .ok (.iconst 0, 1) := by decide +kernel
theorem dX5_ringThrough_93 : decode cX5_ringThrough 93 = .ok (.ireturn, 1) := by decide +kernel
def wq_x_union0 : List Cond := [.code yX5_union cX5_union 6 (some .long), .initialized RX8, .static yX8_holds] ++ (wq_x_holds)
set_option maxRecDepth 20000 in
theorem wi_x_union0 : ∀ w ∈ wq_x_union0, w ∈ lw_tbl := List.forall_mem_append.mpr ⟨(by decide +kernel), wi_x_holds⟩
set_option maxRecDepth 20000 in
theorem wg_x_union0 : GoodIn wq_x_union0 wq_x_union0 := goodIn_sub (fun _ h => h) (by decide +kernel)
theorem wc_x_union0_x_holds_19 : GoodIn wq_x_union0 wq_x_holds := (fun w h => ⟨List.mem_append_right _ (h), (wg_x_holds w h).2⟩)
def rm_x_union0 : Room := { frames := 1, cells := 0, slots := 0, locals := 22 }
set_option maxHeartbeats 4000000 in
set_option maxRecDepth 100000 in
theorem c_x_union0 (l : Launch) (dC : Nat → ClassId) (dI : Nat → Nat → Nat) (h : Nat) (a : Nat → Nat) (e : Nat) (cI cJ cO cE : ClassId) (L : Nat → Int64) (I : Nat → Int32) (M : Nat → Nat → Int64) (J : Nat → Nat → Int32) (n cap : Nat) (fE : Nat → Option Nat) (sd : Nat → Nat → Nat) (si : Nat → Nat → Int32) (sa : Nat → Nat → Nat → Int32) (dl : Nat → Nat) (b : Nat) (p0 : Int64) (sz : Nat) (hX0 : InvX n cap fE sd dl b I J si) (hb0 : b + 0 < 2147483648)  : Met l yX5_union wq_x_union0 rm_x_union0 (va_Pc [.ref (a 20), .long p0] (fun U => U.heap.size = sz ∧ va_P (dC, dI) vwCl (xW h a e cI cJ cO cE L I M J n cap fE sd si sa dl) U.heap ∧ va_K (dC, dI) vwCl (xT cI cJ cO cE) U ∧ va_D (fun _ => True) (xW h a e cI cJ cO cE L I M J n cap fE sd si sa dl) ∧ pw_N U)) (va_Ql (fun (r : Int64) (u : Unit) => (True)) (fun (u : Unit) (t : State) => va_P (dC, dI) vwCl (xW h a e cI cJ cO cE L I M J n cap fE sd si sa dl) t.heap ∧ va_D (va_A (xW h a e cI cJ cO cE L I M J n cap fE sd si sa dl) sz) (xW h a e cI cJ cO cE L I M J n cap fE sd si sa dl)) (va_A (xW h a e cI cJ cO cE L I M J n cap fE sd si sa dl) sz)) 0 0 (va_A (xW h a e cI cJ cO cE L I M J n cap fE sd si sa dl) sz) := by
  have hn : n ≤ 40 := hX0.1.1
  have hX := hX0
  refine Met.ofW (cc := cX5_union) (maxL := 6) (ret := (some .long)) (by decide) rfl ?_
  intro p e9 s m args below meth c s₁ B hml hv
  obtain ⟨rfl, hsz, hP, hK, hD0, hN⟩ := hv
  have hx := B.exec
  have hb := B.bytes
  have hr := B.returns
  have hts := atoms_spec (ws := wq_x_union0) B.pre
  have hown : s.vm.findClass RX5 = some m.cls := findClass_of_methodNamed B.named
  have hlocks := B.notSynchronized
  subst hsz
  have hD := hD0.self (sz := s.heap.size)
  generalize hAe : va_A (xW h a e cI cJ cO cE L I M J n cap fE sd si sa dl) s.heap.size = A at hD ⊢
  have hA : ∀ q : Nat, s.heap.size ≤ q → A q := fun q h => by rw [← hAe]; exact Or.inr h
  have hS : va_S A s.heap s.heap [] := va_S.rf
  have hl := lv_entry ([.ref (a 20), .long p0]) (n := 6) (Nat.le_of_ble_eq_true rfl)
  rw [lg_entry_eq]
  generalize (lg_sl ([.ref (a 20), .long p0]) ++ List.replicate (6 - (lg_sl ([.ref (a 20), .long p0])).length) Slot.unset).toArray = ls at hl ⊢
  have hl : lv_has ls 6 [(0, .ref (a 20)), (1, .long p0)] := hl
  refine mw_Q (fun Q0 hQ => ?_)
  refine lv_lconst (v := 0) hx hb dX5_union_0 (by decide) ?_
  refine lv_lstore_n (lv' := [(3, .long 0), (0, .ref (a 20)), (1, .long p0)]) hx hb dX5_union_1 rfl hl (by decide) rfl (fun ls hl => ?_)
  refine lv_iconst (v := 0) hx hb dX5_union_2 (by decide) ?_
  refine lv_istore (lv' := [(5, .int 0), (3, .long 0), (0, .ref (a 20)), (1, .long p0)]) hx hb dX5_union_3 hl (by decide) rfl (fun ls hl => ?_)
  have lp4 : ∀ (fu2 i1 : Nat) (y5 : Int64)  (H : Heap) (locs : List Loc) (ls : Array Slot), 40 < i1 + fu2 → i1 ≤ 40 → va_P (dC, dI) vwCl (xW h a e cI cJ cO cE L I M J n cap fE sd si sa dl) H → va_D A (xW h a e cI cJ cO cE L I M J n cap fE sd si sa dl) → va_S A s.heap H locs → lv_has ls 6 [(5, .int (nI i1)), (3, .long y5), (0, .ref (a 20)), (1, .long p0)] → W p l e9 (headSpec wq_x_union0 rm_x_union0).room s m ([.ref (a 20), .long p0] : List Value).toArray below meth c H locs 0 0 Q0 (F0 m 5 ls []) := by
    intro fu2
    induction fu2 with
    | zero =>
      intro i1 y5  H locs ls hf hi
      exact absurd hf (by omega)
    | succ fu2 ih3 =>
      intro i1 y5  H locs ls hfi1 hii1 hP hD hS hl
      refine lv_iload hx hb dX5_union_5 (lv_at hl 0 rfl) ?_
      refine lv_aload_n hx hb dX5_union_7 rfl (lv_at hl 2 rfl) ?_
      refine va_alen (v := 40) hx hb hK hP 5 1 rfl rfl rfl dX5_union_8 ?_
      refine lv_icmp_ge (tgt := 34) hx hb dX5_union_9 (by decide) (fun c6 => ?_) (fun c6 => ?_)
      · replace c6 : 40 ≤ i1 := (nI_leI (a := 40) (b := i1) (by omega) (by omega)).mp c6
        refine lv_lload_n hx hb dX5_union_34 rfl (lv_at hl 1 rfl) ?_
        rw [hQ]
        exact W.lret (v := y5) hx hb hr (fun t ht hW => ⟨⟨y5, (), rfl, trivial, by rw [ht]; exact hP, hD⟩, hS.F ht⟩) hS.2.2 dX5_union_35
      · replace c6 : ¬ (40 ≤ i1) := fun q9 => c6 ((nI_leI (a := 40) (b := i1) (by omega) (by omega)).mpr q9)
        refine lv_lload_n hx hb dX5_union_12 rfl (lv_at hl 3 rfl) ?_
        refine lv_iload hx hb dX5_union_13 (lv_at hl 0 rfl) ?_
        have hFc := mw_free hD hS hA
        refine va_calli (va_runSN (As := [.long p0, .int (nI i1)]) (rest := []) ⟨hx, hb, hml, hown, hts⟩ (c_x_holds l dC dI h a e cI cJ cO cE L I M J n cap fE sd si sa dl (b) p0 (nI i1) H.size hX (by omega) ) ⟨va_cnB 2 hts wc_x_union0_x_holds_19 rfl rfl rfl (hN (.methodLinkNest RX5 19 yX8_holds "ServiceTree") (by decide +kernel)) (hts (.initialized RX8) (by decide +kernel)) (by decide +kernel) ⟨Nat.le_of_ble_eq_true rfl, Nat.le_of_ble_eq_true rfl⟩, hts (.static yX8_holds) (by decide +kernel), trivial⟩ ⟨fun a9 U g mk q => by obtain ⟨q0, q1, qP, qK, qD, qN⟩ := q; exact ⟨q0, q1, qP, va_K.moved (u := U) (U := U.calling g mk a9) (Vm.Alike.refl U.vm) qK, qD, pw_N.same (u := U) (U := U.calling g mk a9) rfl qN⟩, fun U hU hW => ⟨rfl, by rw [hU], by rw [hU]; exact hP, va_K.moved hW.alike hK, hD.weaken (fun _ _ _ _ => trivial), pw_N.warm hW hN⟩⟩ rfl rfl hl.1 rfl (lv_room (Nat.le_of_ble_eq_true rfl)) dX5_union_15 ⟨Nat.le_of_ble_eq_true rfl, Nat.le_of_ble_eq_true rfl⟩) hS (fun q _ h => hFc q h) hFc (fun r7 u t H1 locs ht hvm hw hB hz1 hk1 hS => ?_)
        replace hP := hB.1
        rw [ht] at hP
        replace hD : va_D A (xW h a e cI cJ cO cE L I M J n cap fE sd si sa dl) := hB.2.weaken (fun _ q _ h9 => hFc q.1 h9)
        clear hB
        generalize H1 = H at hP hS ⊢
        replace hP : va_P (dC, dI) vwCl (xW h a e cI cJ cO cE L I M J n cap fE sd si sa dl) H := hP
        have br7 := hw
        refine lv_if_eq (tgt := 28) hx hb dX5_union_18 (by decide) (fun c8 => ?_) (fun c8 => ?_)
        · refine lv_iinc (v := (nI (i1 + 1))) (lv' := [(5, .int (nI (i1 + 1))), (3, .long y5), (0, .ref (a 20)), (1, .long p0)]) hx hb dX5_union_28 hl (k := 0) rfl (nI_add i1 1) (by decide) rfl (fun ls hl => ?_)
          refine lv_goto (tgt := 5) hx hb dX5_union_31 (by decide) ?_
          exact ih3 (i1 + 1) y5  _ _ _ (by omega) (by omega)  hP hD hS (lv_sub hl [0, 1, 2, 3] rfl)
        · refine lv_lload_n hx hb dX5_union_21 rfl (lv_at hl 1 rfl) ?_
          refine lv_aload_n hx hb dX5_union_22 rfl (lv_at hl 2 rfl) ?_
          refine lv_iload hx hb dX5_union_23 (lv_at hl 0 rfl) ?_
          refine va_lald (n := 40) (f := M 0) hx hb hK hP 5 1 rfl rfl (vp_in_nI (n := i1) (by omega) (by omega)) dX5_union_25 ?_
          refine lv_topl (fun x9 ex9 => ?_)
          refine lv_lor hx hb dX5_union_26 ?_
          refine lv_topl (fun x10 ex10 => ?_)
          refine lv_lstore_n (lv' := [(3, .long x10), (5, .int (nI i1)), (0, .ref (a 20)), (1, .long p0)]) hx hb dX5_union_27 rfl hl (by decide) rfl (fun ls hl => ?_)
          refine lv_iinc (v := (nI (i1 + 1))) (lv' := [(5, .int (nI (i1 + 1))), (3, .long x10), (0, .ref (a 20)), (1, .long p0)]) hx hb dX5_union_28 hl (k := 1) rfl (nI_add i1 1) (by decide) rfl (fun ls hl => ?_)
          refine lv_goto (tgt := 5) hx hb dX5_union_31 (by decide) ?_
          exact ih3 (i1 + 1) x10  _ _ _ (by omega) (by omega)  hP hD hS (lv_sub hl [0, 1, 2, 3] rfl)
  exact lp4 (40 + 1) 0 0  _ _ _ (by omega) (by omega)  hP hD hS hl
def wq_x_union1 : List Cond := [.code yX5_union cX5_union 6 (some .long), .initialized RX8, .static yX8_holds] ++ (wq_x_holds)
set_option maxRecDepth 20000 in
theorem wi_x_union1 : ∀ w ∈ wq_x_union1, w ∈ lw_tbl := List.forall_mem_append.mpr ⟨(by decide +kernel), wi_x_holds⟩
set_option maxRecDepth 20000 in
theorem wg_x_union1 : GoodIn wq_x_union1 wq_x_union1 := goodIn_sub (fun _ h => h) (by decide +kernel)
theorem wc_x_union1_x_holds_19 : GoodIn wq_x_union1 wq_x_holds := (fun w h => ⟨List.mem_append_right _ (h), (wg_x_holds w h).2⟩)
def rm_x_union1 : Room := { frames := 1, cells := 0, slots := 0, locals := 22 }
set_option maxHeartbeats 4000000 in
set_option maxRecDepth 100000 in
theorem c_x_union1 (l : Launch) (dC : Nat → ClassId) (dI : Nat → Nat → Nat) (h : Nat) (a : Nat → Nat) (e : Nat) (cI cJ cO cE : ClassId) (L : Nat → Int64) (I : Nat → Int32) (M : Nat → Nat → Int64) (J : Nat → Nat → Int32) (n cap : Nat) (fE : Nat → Option Nat) (sd : Nat → Nat → Nat) (si : Nat → Nat → Int32) (sa : Nat → Nat → Nat → Int32) (dl : Nat → Nat) (b : Nat) (p0 : Int64) (sz : Nat) (hX0 : InvX n cap fE sd dl b I J si) (hb0 : b + 0 < 2147483648)  : Met l yX5_union wq_x_union1 rm_x_union1 (va_Pc [.ref (a 21), .long p0] (fun U => U.heap.size = sz ∧ va_P (dC, dI) vwCl (xW h a e cI cJ cO cE L I M J n cap fE sd si sa dl) U.heap ∧ va_K (dC, dI) vwCl (xT cI cJ cO cE) U ∧ va_D (fun _ => True) (xW h a e cI cJ cO cE L I M J n cap fE sd si sa dl) ∧ pw_N U)) (va_Ql (fun (r : Int64) (u : Unit) => (True)) (fun (u : Unit) (t : State) => va_P (dC, dI) vwCl (xW h a e cI cJ cO cE L I M J n cap fE sd si sa dl) t.heap ∧ va_D (va_A (xW h a e cI cJ cO cE L I M J n cap fE sd si sa dl) sz) (xW h a e cI cJ cO cE L I M J n cap fE sd si sa dl)) (va_A (xW h a e cI cJ cO cE L I M J n cap fE sd si sa dl) sz)) 0 0 (va_A (xW h a e cI cJ cO cE L I M J n cap fE sd si sa dl) sz) := by
  have hn : n ≤ 40 := hX0.1.1
  have hX := hX0
  refine Met.ofW (cc := cX5_union) (maxL := 6) (ret := (some .long)) (by decide) rfl ?_
  intro p e9 s m args below meth c s₁ B hml hv
  obtain ⟨rfl, hsz, hP, hK, hD0, hN⟩ := hv
  have hx := B.exec
  have hb := B.bytes
  have hr := B.returns
  have hts := atoms_spec (ws := wq_x_union1) B.pre
  have hown : s.vm.findClass RX5 = some m.cls := findClass_of_methodNamed B.named
  have hlocks := B.notSynchronized
  subst hsz
  have hD := hD0.self (sz := s.heap.size)
  generalize hAe : va_A (xW h a e cI cJ cO cE L I M J n cap fE sd si sa dl) s.heap.size = A at hD ⊢
  have hA : ∀ q : Nat, s.heap.size ≤ q → A q := fun q h => by rw [← hAe]; exact Or.inr h
  have hS : va_S A s.heap s.heap [] := va_S.rf
  have hl := lv_entry ([.ref (a 21), .long p0]) (n := 6) (Nat.le_of_ble_eq_true rfl)
  rw [lg_entry_eq]
  generalize (lg_sl ([.ref (a 21), .long p0]) ++ List.replicate (6 - (lg_sl ([.ref (a 21), .long p0])).length) Slot.unset).toArray = ls at hl ⊢
  have hl : lv_has ls 6 [(0, .ref (a 21)), (1, .long p0)] := hl
  refine mw_Q (fun Q0 hQ => ?_)
  refine lv_lconst (v := 0) hx hb dX5_union_0 (by decide) ?_
  refine lv_lstore_n (lv' := [(3, .long 0), (0, .ref (a 21)), (1, .long p0)]) hx hb dX5_union_1 rfl hl (by decide) rfl (fun ls hl => ?_)
  refine lv_iconst (v := 0) hx hb dX5_union_2 (by decide) ?_
  refine lv_istore (lv' := [(5, .int 0), (3, .long 0), (0, .ref (a 21)), (1, .long p0)]) hx hb dX5_union_3 hl (by decide) rfl (fun ls hl => ?_)
  have lp4 : ∀ (fu2 i1 : Nat) (y5 : Int64)  (H : Heap) (locs : List Loc) (ls : Array Slot), 40 < i1 + fu2 → i1 ≤ 40 → va_P (dC, dI) vwCl (xW h a e cI cJ cO cE L I M J n cap fE sd si sa dl) H → va_D A (xW h a e cI cJ cO cE L I M J n cap fE sd si sa dl) → va_S A s.heap H locs → lv_has ls 6 [(5, .int (nI i1)), (3, .long y5), (0, .ref (a 21)), (1, .long p0)] → W p l e9 (headSpec wq_x_union1 rm_x_union1).room s m ([.ref (a 21), .long p0] : List Value).toArray below meth c H locs 0 0 Q0 (F0 m 5 ls []) := by
    intro fu2
    induction fu2 with
    | zero =>
      intro i1 y5  H locs ls hf hi
      exact absurd hf (by omega)
    | succ fu2 ih3 =>
      intro i1 y5  H locs ls hfi1 hii1 hP hD hS hl
      refine lv_iload hx hb dX5_union_5 (lv_at hl 0 rfl) ?_
      refine lv_aload_n hx hb dX5_union_7 rfl (lv_at hl 2 rfl) ?_
      refine va_alen (v := 40) hx hb hK hP 6 1 rfl rfl rfl dX5_union_8 ?_
      refine lv_icmp_ge (tgt := 34) hx hb dX5_union_9 (by decide) (fun c6 => ?_) (fun c6 => ?_)
      · replace c6 : 40 ≤ i1 := (nI_leI (a := 40) (b := i1) (by omega) (by omega)).mp c6
        refine lv_lload_n hx hb dX5_union_34 rfl (lv_at hl 1 rfl) ?_
        rw [hQ]
        exact W.lret (v := y5) hx hb hr (fun t ht hW => ⟨⟨y5, (), rfl, trivial, by rw [ht]; exact hP, hD⟩, hS.F ht⟩) hS.2.2 dX5_union_35
      · replace c6 : ¬ (40 ≤ i1) := fun q9 => c6 ((nI_leI (a := 40) (b := i1) (by omega) (by omega)).mpr q9)
        refine lv_lload_n hx hb dX5_union_12 rfl (lv_at hl 3 rfl) ?_
        refine lv_iload hx hb dX5_union_13 (lv_at hl 0 rfl) ?_
        have hFc := mw_free hD hS hA
        refine va_calli (va_runSN (As := [.long p0, .int (nI i1)]) (rest := []) ⟨hx, hb, hml, hown, hts⟩ (c_x_holds l dC dI h a e cI cJ cO cE L I M J n cap fE sd si sa dl (b) p0 (nI i1) H.size hX (by omega) ) ⟨va_cnB 2 hts wc_x_union1_x_holds_19 rfl rfl rfl (hN (.methodLinkNest RX5 19 yX8_holds "ServiceTree") (by decide +kernel)) (hts (.initialized RX8) (by decide +kernel)) (by decide +kernel) ⟨Nat.le_of_ble_eq_true rfl, Nat.le_of_ble_eq_true rfl⟩, hts (.static yX8_holds) (by decide +kernel), trivial⟩ ⟨fun a9 U g mk q => by obtain ⟨q0, q1, qP, qK, qD, qN⟩ := q; exact ⟨q0, q1, qP, va_K.moved (u := U) (U := U.calling g mk a9) (Vm.Alike.refl U.vm) qK, qD, pw_N.same (u := U) (U := U.calling g mk a9) rfl qN⟩, fun U hU hW => ⟨rfl, by rw [hU], by rw [hU]; exact hP, va_K.moved hW.alike hK, hD.weaken (fun _ _ _ _ => trivial), pw_N.warm hW hN⟩⟩ rfl rfl hl.1 rfl (lv_room (Nat.le_of_ble_eq_true rfl)) dX5_union_15 ⟨Nat.le_of_ble_eq_true rfl, Nat.le_of_ble_eq_true rfl⟩) hS (fun q _ h => hFc q h) hFc (fun r7 u t H1 locs ht hvm hw hB hz1 hk1 hS => ?_)
        replace hP := hB.1
        rw [ht] at hP
        replace hD : va_D A (xW h a e cI cJ cO cE L I M J n cap fE sd si sa dl) := hB.2.weaken (fun _ q _ h9 => hFc q.1 h9)
        clear hB
        generalize H1 = H at hP hS ⊢
        replace hP : va_P (dC, dI) vwCl (xW h a e cI cJ cO cE L I M J n cap fE sd si sa dl) H := hP
        have br7 := hw
        refine lv_if_eq (tgt := 28) hx hb dX5_union_18 (by decide) (fun c8 => ?_) (fun c8 => ?_)
        · refine lv_iinc (v := (nI (i1 + 1))) (lv' := [(5, .int (nI (i1 + 1))), (3, .long y5), (0, .ref (a 21)), (1, .long p0)]) hx hb dX5_union_28 hl (k := 0) rfl (nI_add i1 1) (by decide) rfl (fun ls hl => ?_)
          refine lv_goto (tgt := 5) hx hb dX5_union_31 (by decide) ?_
          exact ih3 (i1 + 1) y5  _ _ _ (by omega) (by omega)  hP hD hS (lv_sub hl [0, 1, 2, 3] rfl)
        · refine lv_lload_n hx hb dX5_union_21 rfl (lv_at hl 1 rfl) ?_
          refine lv_aload_n hx hb dX5_union_22 rfl (lv_at hl 2 rfl) ?_
          refine lv_iload hx hb dX5_union_23 (lv_at hl 0 rfl) ?_
          refine va_lald (n := 40) (f := M 1) hx hb hK hP 6 1 rfl rfl (vp_in_nI (n := i1) (by omega) (by omega)) dX5_union_25 ?_
          refine lv_topl (fun x9 ex9 => ?_)
          refine lv_lor hx hb dX5_union_26 ?_
          refine lv_topl (fun x10 ex10 => ?_)
          refine lv_lstore_n (lv' := [(3, .long x10), (5, .int (nI i1)), (0, .ref (a 21)), (1, .long p0)]) hx hb dX5_union_27 rfl hl (by decide) rfl (fun ls hl => ?_)
          refine lv_iinc (v := (nI (i1 + 1))) (lv' := [(5, .int (nI (i1 + 1))), (3, .long x10), (0, .ref (a 21)), (1, .long p0)]) hx hb dX5_union_28 hl (k := 1) rfl (nI_add i1 1) (by decide) rfl (fun ls hl => ?_)
          refine lv_goto (tgt := 5) hx hb dX5_union_31 (by decide) ?_
          exact ih3 (i1 + 1) x10  _ _ _ (by omega) (by omega)  hP hD hS (lv_sub hl [0, 1, 2, 3] rfl)
  exact lp4 (40 + 1) 0 0  _ _ _ (by omega) (by omega)  hP hD hS hl
def wq_x_union2 : List Cond := [.code yX5_union cX5_union 6 (some .long), .initialized RX8, .static yX8_holds] ++ (wq_x_holds)
set_option maxRecDepth 20000 in
theorem wi_x_union2 : ∀ w ∈ wq_x_union2, w ∈ lw_tbl := List.forall_mem_append.mpr ⟨(by decide +kernel), wi_x_holds⟩
set_option maxRecDepth 20000 in
theorem wg_x_union2 : GoodIn wq_x_union2 wq_x_union2 := goodIn_sub (fun _ h => h) (by decide +kernel)
theorem wc_x_union2_x_holds_19 : GoodIn wq_x_union2 wq_x_holds := (fun w h => ⟨List.mem_append_right _ (h), (wg_x_holds w h).2⟩)
def rm_x_union2 : Room := { frames := 1, cells := 0, slots := 0, locals := 22 }
set_option maxHeartbeats 4000000 in
set_option maxRecDepth 100000 in
theorem c_x_union2 (l : Launch) (dC : Nat → ClassId) (dI : Nat → Nat → Nat) (h : Nat) (a : Nat → Nat) (e : Nat) (cI cJ cO cE : ClassId) (L : Nat → Int64) (I : Nat → Int32) (M : Nat → Nat → Int64) (J : Nat → Nat → Int32) (n cap : Nat) (fE : Nat → Option Nat) (sd : Nat → Nat → Nat) (si : Nat → Nat → Int32) (sa : Nat → Nat → Nat → Int32) (dl : Nat → Nat) (b : Nat) (p0 : Int64) (sz : Nat) (hX0 : InvX n cap fE sd dl b I J si) (hb0 : b + 0 < 2147483648)  : Met l yX5_union wq_x_union2 rm_x_union2 (va_Pc [.ref (a 22), .long p0] (fun U => U.heap.size = sz ∧ va_P (dC, dI) vwCl (xW h a e cI cJ cO cE L I M J n cap fE sd si sa dl) U.heap ∧ va_K (dC, dI) vwCl (xT cI cJ cO cE) U ∧ va_D (fun _ => True) (xW h a e cI cJ cO cE L I M J n cap fE sd si sa dl) ∧ pw_N U)) (va_Ql (fun (r : Int64) (u : Unit) => (True)) (fun (u : Unit) (t : State) => va_P (dC, dI) vwCl (xW h a e cI cJ cO cE L I M J n cap fE sd si sa dl) t.heap ∧ va_D (va_A (xW h a e cI cJ cO cE L I M J n cap fE sd si sa dl) sz) (xW h a e cI cJ cO cE L I M J n cap fE sd si sa dl)) (va_A (xW h a e cI cJ cO cE L I M J n cap fE sd si sa dl) sz)) 0 0 (va_A (xW h a e cI cJ cO cE L I M J n cap fE sd si sa dl) sz) := by
  have hn : n ≤ 40 := hX0.1.1
  have hX := hX0
  refine Met.ofW (cc := cX5_union) (maxL := 6) (ret := (some .long)) (by decide) rfl ?_
  intro p e9 s m args below meth c s₁ B hml hv
  obtain ⟨rfl, hsz, hP, hK, hD0, hN⟩ := hv
  have hx := B.exec
  have hb := B.bytes
  have hr := B.returns
  have hts := atoms_spec (ws := wq_x_union2) B.pre
  have hown : s.vm.findClass RX5 = some m.cls := findClass_of_methodNamed B.named
  have hlocks := B.notSynchronized
  subst hsz
  have hD := hD0.self (sz := s.heap.size)
  generalize hAe : va_A (xW h a e cI cJ cO cE L I M J n cap fE sd si sa dl) s.heap.size = A at hD ⊢
  have hA : ∀ q : Nat, s.heap.size ≤ q → A q := fun q h => by rw [← hAe]; exact Or.inr h
  have hS : va_S A s.heap s.heap [] := va_S.rf
  have hl := lv_entry ([.ref (a 22), .long p0]) (n := 6) (Nat.le_of_ble_eq_true rfl)
  rw [lg_entry_eq]
  generalize (lg_sl ([.ref (a 22), .long p0]) ++ List.replicate (6 - (lg_sl ([.ref (a 22), .long p0])).length) Slot.unset).toArray = ls at hl ⊢
  have hl : lv_has ls 6 [(0, .ref (a 22)), (1, .long p0)] := hl
  refine mw_Q (fun Q0 hQ => ?_)
  refine lv_lconst (v := 0) hx hb dX5_union_0 (by decide) ?_
  refine lv_lstore_n (lv' := [(3, .long 0), (0, .ref (a 22)), (1, .long p0)]) hx hb dX5_union_1 rfl hl (by decide) rfl (fun ls hl => ?_)
  refine lv_iconst (v := 0) hx hb dX5_union_2 (by decide) ?_
  refine lv_istore (lv' := [(5, .int 0), (3, .long 0), (0, .ref (a 22)), (1, .long p0)]) hx hb dX5_union_3 hl (by decide) rfl (fun ls hl => ?_)
  have lp4 : ∀ (fu2 i1 : Nat) (y5 : Int64)  (H : Heap) (locs : List Loc) (ls : Array Slot), 40 < i1 + fu2 → i1 ≤ 40 → va_P (dC, dI) vwCl (xW h a e cI cJ cO cE L I M J n cap fE sd si sa dl) H → va_D A (xW h a e cI cJ cO cE L I M J n cap fE sd si sa dl) → va_S A s.heap H locs → lv_has ls 6 [(5, .int (nI i1)), (3, .long y5), (0, .ref (a 22)), (1, .long p0)] → W p l e9 (headSpec wq_x_union2 rm_x_union2).room s m ([.ref (a 22), .long p0] : List Value).toArray below meth c H locs 0 0 Q0 (F0 m 5 ls []) := by
    intro fu2
    induction fu2 with
    | zero =>
      intro i1 y5  H locs ls hf hi
      exact absurd hf (by omega)
    | succ fu2 ih3 =>
      intro i1 y5  H locs ls hfi1 hii1 hP hD hS hl
      refine lv_iload hx hb dX5_union_5 (lv_at hl 0 rfl) ?_
      refine lv_aload_n hx hb dX5_union_7 rfl (lv_at hl 2 rfl) ?_
      refine va_alen (v := 40) hx hb hK hP 7 1 rfl rfl rfl dX5_union_8 ?_
      refine lv_icmp_ge (tgt := 34) hx hb dX5_union_9 (by decide) (fun c6 => ?_) (fun c6 => ?_)
      · replace c6 : 40 ≤ i1 := (nI_leI (a := 40) (b := i1) (by omega) (by omega)).mp c6
        refine lv_lload_n hx hb dX5_union_34 rfl (lv_at hl 1 rfl) ?_
        rw [hQ]
        exact W.lret (v := y5) hx hb hr (fun t ht hW => ⟨⟨y5, (), rfl, trivial, by rw [ht]; exact hP, hD⟩, hS.F ht⟩) hS.2.2 dX5_union_35
      · replace c6 : ¬ (40 ≤ i1) := fun q9 => c6 ((nI_leI (a := 40) (b := i1) (by omega) (by omega)).mpr q9)
        refine lv_lload_n hx hb dX5_union_12 rfl (lv_at hl 3 rfl) ?_
        refine lv_iload hx hb dX5_union_13 (lv_at hl 0 rfl) ?_
        have hFc := mw_free hD hS hA
        refine va_calli (va_runSN (As := [.long p0, .int (nI i1)]) (rest := []) ⟨hx, hb, hml, hown, hts⟩ (c_x_holds l dC dI h a e cI cJ cO cE L I M J n cap fE sd si sa dl (b) p0 (nI i1) H.size hX (by omega) ) ⟨va_cnB 2 hts wc_x_union2_x_holds_19 rfl rfl rfl (hN (.methodLinkNest RX5 19 yX8_holds "ServiceTree") (by decide +kernel)) (hts (.initialized RX8) (by decide +kernel)) (by decide +kernel) ⟨Nat.le_of_ble_eq_true rfl, Nat.le_of_ble_eq_true rfl⟩, hts (.static yX8_holds) (by decide +kernel), trivial⟩ ⟨fun a9 U g mk q => by obtain ⟨q0, q1, qP, qK, qD, qN⟩ := q; exact ⟨q0, q1, qP, va_K.moved (u := U) (U := U.calling g mk a9) (Vm.Alike.refl U.vm) qK, qD, pw_N.same (u := U) (U := U.calling g mk a9) rfl qN⟩, fun U hU hW => ⟨rfl, by rw [hU], by rw [hU]; exact hP, va_K.moved hW.alike hK, hD.weaken (fun _ _ _ _ => trivial), pw_N.warm hW hN⟩⟩ rfl rfl hl.1 rfl (lv_room (Nat.le_of_ble_eq_true rfl)) dX5_union_15 ⟨Nat.le_of_ble_eq_true rfl, Nat.le_of_ble_eq_true rfl⟩) hS (fun q _ h => hFc q h) hFc (fun r7 u t H1 locs ht hvm hw hB hz1 hk1 hS => ?_)
        replace hP := hB.1
        rw [ht] at hP
        replace hD : va_D A (xW h a e cI cJ cO cE L I M J n cap fE sd si sa dl) := hB.2.weaken (fun _ q _ h9 => hFc q.1 h9)
        clear hB
        generalize H1 = H at hP hS ⊢
        replace hP : va_P (dC, dI) vwCl (xW h a e cI cJ cO cE L I M J n cap fE sd si sa dl) H := hP
        have br7 := hw
        refine lv_if_eq (tgt := 28) hx hb dX5_union_18 (by decide) (fun c8 => ?_) (fun c8 => ?_)
        · refine lv_iinc (v := (nI (i1 + 1))) (lv' := [(5, .int (nI (i1 + 1))), (3, .long y5), (0, .ref (a 22)), (1, .long p0)]) hx hb dX5_union_28 hl (k := 0) rfl (nI_add i1 1) (by decide) rfl (fun ls hl => ?_)
          refine lv_goto (tgt := 5) hx hb dX5_union_31 (by decide) ?_
          exact ih3 (i1 + 1) y5  _ _ _ (by omega) (by omega)  hP hD hS (lv_sub hl [0, 1, 2, 3] rfl)
        · refine lv_lload_n hx hb dX5_union_21 rfl (lv_at hl 1 rfl) ?_
          refine lv_aload_n hx hb dX5_union_22 rfl (lv_at hl 2 rfl) ?_
          refine lv_iload hx hb dX5_union_23 (lv_at hl 0 rfl) ?_
          refine va_lald (n := 40) (f := M 2) hx hb hK hP 7 1 rfl rfl (vp_in_nI (n := i1) (by omega) (by omega)) dX5_union_25 ?_
          refine lv_topl (fun x9 ex9 => ?_)
          refine lv_lor hx hb dX5_union_26 ?_
          refine lv_topl (fun x10 ex10 => ?_)
          refine lv_lstore_n (lv' := [(3, .long x10), (5, .int (nI i1)), (0, .ref (a 22)), (1, .long p0)]) hx hb dX5_union_27 rfl hl (by decide) rfl (fun ls hl => ?_)
          refine lv_iinc (v := (nI (i1 + 1))) (lv' := [(5, .int (nI (i1 + 1))), (3, .long x10), (0, .ref (a 22)), (1, .long p0)]) hx hb dX5_union_28 hl (k := 1) rfl (nI_add i1 1) (by decide) rfl (fun ls hl => ?_)
          refine lv_goto (tgt := 5) hx hb dX5_union_31 (by decide) ?_
          exact ih3 (i1 + 1) x10  _ _ _ (by omega) (by omega)  hP hD hS (lv_sub hl [0, 1, 2, 3] rfl)
  exact lp4 (40 + 1) 0 0  _ _ _ (by omega) (by omega)  hP hD hS hl
def wq_x_union3 : List Cond := [.code yX5_union cX5_union 6 (some .long), .initialized RX8, .static yX8_holds] ++ (wq_x_holds)
set_option maxRecDepth 20000 in
theorem wi_x_union3 : ∀ w ∈ wq_x_union3, w ∈ lw_tbl := List.forall_mem_append.mpr ⟨(by decide +kernel), wi_x_holds⟩
set_option maxRecDepth 20000 in
theorem wg_x_union3 : GoodIn wq_x_union3 wq_x_union3 := goodIn_sub (fun _ h => h) (by decide +kernel)
theorem wc_x_union3_x_holds_19 : GoodIn wq_x_union3 wq_x_holds := (fun w h => ⟨List.mem_append_right _ (h), (wg_x_holds w h).2⟩)
def rm_x_union3 : Room := { frames := 1, cells := 0, slots := 0, locals := 22 }
set_option maxHeartbeats 4000000 in
set_option maxRecDepth 100000 in
theorem c_x_union3 (l : Launch) (dC : Nat → ClassId) (dI : Nat → Nat → Nat) (h : Nat) (a : Nat → Nat) (e : Nat) (cI cJ cO cE : ClassId) (L : Nat → Int64) (I : Nat → Int32) (M : Nat → Nat → Int64) (J : Nat → Nat → Int32) (n cap : Nat) (fE : Nat → Option Nat) (sd : Nat → Nat → Nat) (si : Nat → Nat → Int32) (sa : Nat → Nat → Nat → Int32) (dl : Nat → Nat) (b : Nat) (p0 : Int64) (sz : Nat) (hX0 : InvX n cap fE sd dl b I J si) (hb0 : b + 0 < 2147483648)  : Met l yX5_union wq_x_union3 rm_x_union3 (va_Pc [.ref (a 23), .long p0] (fun U => U.heap.size = sz ∧ va_P (dC, dI) vwCl (xW h a e cI cJ cO cE L I M J n cap fE sd si sa dl) U.heap ∧ va_K (dC, dI) vwCl (xT cI cJ cO cE) U ∧ va_D (fun _ => True) (xW h a e cI cJ cO cE L I M J n cap fE sd si sa dl) ∧ pw_N U)) (va_Ql (fun (r : Int64) (u : Unit) => (True)) (fun (u : Unit) (t : State) => va_P (dC, dI) vwCl (xW h a e cI cJ cO cE L I M J n cap fE sd si sa dl) t.heap ∧ va_D (va_A (xW h a e cI cJ cO cE L I M J n cap fE sd si sa dl) sz) (xW h a e cI cJ cO cE L I M J n cap fE sd si sa dl)) (va_A (xW h a e cI cJ cO cE L I M J n cap fE sd si sa dl) sz)) 0 0 (va_A (xW h a e cI cJ cO cE L I M J n cap fE sd si sa dl) sz) := by
  have hn : n ≤ 40 := hX0.1.1
  have hX := hX0
  refine Met.ofW (cc := cX5_union) (maxL := 6) (ret := (some .long)) (by decide) rfl ?_
  intro p e9 s m args below meth c s₁ B hml hv
  obtain ⟨rfl, hsz, hP, hK, hD0, hN⟩ := hv
  have hx := B.exec
  have hb := B.bytes
  have hr := B.returns
  have hts := atoms_spec (ws := wq_x_union3) B.pre
  have hown : s.vm.findClass RX5 = some m.cls := findClass_of_methodNamed B.named
  have hlocks := B.notSynchronized
  subst hsz
  have hD := hD0.self (sz := s.heap.size)
  generalize hAe : va_A (xW h a e cI cJ cO cE L I M J n cap fE sd si sa dl) s.heap.size = A at hD ⊢
  have hA : ∀ q : Nat, s.heap.size ≤ q → A q := fun q h => by rw [← hAe]; exact Or.inr h
  have hS : va_S A s.heap s.heap [] := va_S.rf
  have hl := lv_entry ([.ref (a 23), .long p0]) (n := 6) (Nat.le_of_ble_eq_true rfl)
  rw [lg_entry_eq]
  generalize (lg_sl ([.ref (a 23), .long p0]) ++ List.replicate (6 - (lg_sl ([.ref (a 23), .long p0])).length) Slot.unset).toArray = ls at hl ⊢
  have hl : lv_has ls 6 [(0, .ref (a 23)), (1, .long p0)] := hl
  refine mw_Q (fun Q0 hQ => ?_)
  refine lv_lconst (v := 0) hx hb dX5_union_0 (by decide) ?_
  refine lv_lstore_n (lv' := [(3, .long 0), (0, .ref (a 23)), (1, .long p0)]) hx hb dX5_union_1 rfl hl (by decide) rfl (fun ls hl => ?_)
  refine lv_iconst (v := 0) hx hb dX5_union_2 (by decide) ?_
  refine lv_istore (lv' := [(5, .int 0), (3, .long 0), (0, .ref (a 23)), (1, .long p0)]) hx hb dX5_union_3 hl (by decide) rfl (fun ls hl => ?_)
  have lp4 : ∀ (fu2 i1 : Nat) (y5 : Int64)  (H : Heap) (locs : List Loc) (ls : Array Slot), 40 < i1 + fu2 → i1 ≤ 40 → va_P (dC, dI) vwCl (xW h a e cI cJ cO cE L I M J n cap fE sd si sa dl) H → va_D A (xW h a e cI cJ cO cE L I M J n cap fE sd si sa dl) → va_S A s.heap H locs → lv_has ls 6 [(5, .int (nI i1)), (3, .long y5), (0, .ref (a 23)), (1, .long p0)] → W p l e9 (headSpec wq_x_union3 rm_x_union3).room s m ([.ref (a 23), .long p0] : List Value).toArray below meth c H locs 0 0 Q0 (F0 m 5 ls []) := by
    intro fu2
    induction fu2 with
    | zero =>
      intro i1 y5  H locs ls hf hi
      exact absurd hf (by omega)
    | succ fu2 ih3 =>
      intro i1 y5  H locs ls hfi1 hii1 hP hD hS hl
      refine lv_iload hx hb dX5_union_5 (lv_at hl 0 rfl) ?_
      refine lv_aload_n hx hb dX5_union_7 rfl (lv_at hl 2 rfl) ?_
      refine va_alen (v := 40) hx hb hK hP 8 1 rfl rfl rfl dX5_union_8 ?_
      refine lv_icmp_ge (tgt := 34) hx hb dX5_union_9 (by decide) (fun c6 => ?_) (fun c6 => ?_)
      · replace c6 : 40 ≤ i1 := (nI_leI (a := 40) (b := i1) (by omega) (by omega)).mp c6
        refine lv_lload_n hx hb dX5_union_34 rfl (lv_at hl 1 rfl) ?_
        rw [hQ]
        exact W.lret (v := y5) hx hb hr (fun t ht hW => ⟨⟨y5, (), rfl, trivial, by rw [ht]; exact hP, hD⟩, hS.F ht⟩) hS.2.2 dX5_union_35
      · replace c6 : ¬ (40 ≤ i1) := fun q9 => c6 ((nI_leI (a := 40) (b := i1) (by omega) (by omega)).mpr q9)
        refine lv_lload_n hx hb dX5_union_12 rfl (lv_at hl 3 rfl) ?_
        refine lv_iload hx hb dX5_union_13 (lv_at hl 0 rfl) ?_
        have hFc := mw_free hD hS hA
        refine va_calli (va_runSN (As := [.long p0, .int (nI i1)]) (rest := []) ⟨hx, hb, hml, hown, hts⟩ (c_x_holds l dC dI h a e cI cJ cO cE L I M J n cap fE sd si sa dl (b) p0 (nI i1) H.size hX (by omega) ) ⟨va_cnB 2 hts wc_x_union3_x_holds_19 rfl rfl rfl (hN (.methodLinkNest RX5 19 yX8_holds "ServiceTree") (by decide +kernel)) (hts (.initialized RX8) (by decide +kernel)) (by decide +kernel) ⟨Nat.le_of_ble_eq_true rfl, Nat.le_of_ble_eq_true rfl⟩, hts (.static yX8_holds) (by decide +kernel), trivial⟩ ⟨fun a9 U g mk q => by obtain ⟨q0, q1, qP, qK, qD, qN⟩ := q; exact ⟨q0, q1, qP, va_K.moved (u := U) (U := U.calling g mk a9) (Vm.Alike.refl U.vm) qK, qD, pw_N.same (u := U) (U := U.calling g mk a9) rfl qN⟩, fun U hU hW => ⟨rfl, by rw [hU], by rw [hU]; exact hP, va_K.moved hW.alike hK, hD.weaken (fun _ _ _ _ => trivial), pw_N.warm hW hN⟩⟩ rfl rfl hl.1 rfl (lv_room (Nat.le_of_ble_eq_true rfl)) dX5_union_15 ⟨Nat.le_of_ble_eq_true rfl, Nat.le_of_ble_eq_true rfl⟩) hS (fun q _ h => hFc q h) hFc (fun r7 u t H1 locs ht hvm hw hB hz1 hk1 hS => ?_)
        replace hP := hB.1
        rw [ht] at hP
        replace hD : va_D A (xW h a e cI cJ cO cE L I M J n cap fE sd si sa dl) := hB.2.weaken (fun _ q _ h9 => hFc q.1 h9)
        clear hB
        generalize H1 = H at hP hS ⊢
        replace hP : va_P (dC, dI) vwCl (xW h a e cI cJ cO cE L I M J n cap fE sd si sa dl) H := hP
        have br7 := hw
        refine lv_if_eq (tgt := 28) hx hb dX5_union_18 (by decide) (fun c8 => ?_) (fun c8 => ?_)
        · refine lv_iinc (v := (nI (i1 + 1))) (lv' := [(5, .int (nI (i1 + 1))), (3, .long y5), (0, .ref (a 23)), (1, .long p0)]) hx hb dX5_union_28 hl (k := 0) rfl (nI_add i1 1) (by decide) rfl (fun ls hl => ?_)
          refine lv_goto (tgt := 5) hx hb dX5_union_31 (by decide) ?_
          exact ih3 (i1 + 1) y5  _ _ _ (by omega) (by omega)  hP hD hS (lv_sub hl [0, 1, 2, 3] rfl)
        · refine lv_lload_n hx hb dX5_union_21 rfl (lv_at hl 1 rfl) ?_
          refine lv_aload_n hx hb dX5_union_22 rfl (lv_at hl 2 rfl) ?_
          refine lv_iload hx hb dX5_union_23 (lv_at hl 0 rfl) ?_
          refine va_lald (n := 40) (f := M 3) hx hb hK hP 8 1 rfl rfl (vp_in_nI (n := i1) (by omega) (by omega)) dX5_union_25 ?_
          refine lv_topl (fun x9 ex9 => ?_)
          refine lv_lor hx hb dX5_union_26 ?_
          refine lv_topl (fun x10 ex10 => ?_)
          refine lv_lstore_n (lv' := [(3, .long x10), (5, .int (nI i1)), (0, .ref (a 23)), (1, .long p0)]) hx hb dX5_union_27 rfl hl (by decide) rfl (fun ls hl => ?_)
          refine lv_iinc (v := (nI (i1 + 1))) (lv' := [(5, .int (nI (i1 + 1))), (3, .long x10), (0, .ref (a 23)), (1, .long p0)]) hx hb dX5_union_28 hl (k := 1) rfl (nI_add i1 1) (by decide) rfl (fun ls hl => ?_)
          refine lv_goto (tgt := 5) hx hb dX5_union_31 (by decide) ?_
          exact ih3 (i1 + 1) x10  _ _ _ (by omega) (by omega)  hP hD hS (lv_sub hl [0, 1, 2, 3] rfl)
  exact lp4 (40 + 1) 0 0  _ _ _ (by omega) (by omega)  hP hD hS hl
def wq_x_union4 : List Cond := [.code yX5_union cX5_union 6 (some .long), .initialized RX8, .static yX8_holds] ++ (wq_x_holds)
set_option maxRecDepth 20000 in
theorem wi_x_union4 : ∀ w ∈ wq_x_union4, w ∈ lw_tbl := List.forall_mem_append.mpr ⟨(by decide +kernel), wi_x_holds⟩
set_option maxRecDepth 20000 in
theorem wg_x_union4 : GoodIn wq_x_union4 wq_x_union4 := goodIn_sub (fun _ h => h) (by decide +kernel)
theorem wc_x_union4_x_holds_19 : GoodIn wq_x_union4 wq_x_holds := (fun w h => ⟨List.mem_append_right _ (h), (wg_x_holds w h).2⟩)
def rm_x_union4 : Room := { frames := 1, cells := 0, slots := 0, locals := 22 }
set_option maxHeartbeats 4000000 in
set_option maxRecDepth 100000 in
theorem c_x_union4 (l : Launch) (dC : Nat → ClassId) (dI : Nat → Nat → Nat) (h : Nat) (a : Nat → Nat) (e : Nat) (cI cJ cO cE : ClassId) (L : Nat → Int64) (I : Nat → Int32) (M : Nat → Nat → Int64) (J : Nat → Nat → Int32) (n cap : Nat) (fE : Nat → Option Nat) (sd : Nat → Nat → Nat) (si : Nat → Nat → Int32) (sa : Nat → Nat → Nat → Int32) (dl : Nat → Nat) (b : Nat) (p0 : Int64) (sz : Nat) (hX0 : InvX n cap fE sd dl b I J si) (hb0 : b + 0 < 2147483648)  : Met l yX5_union wq_x_union4 rm_x_union4 (va_Pc [.ref (a 24), .long p0] (fun U => U.heap.size = sz ∧ va_P (dC, dI) vwCl (xW h a e cI cJ cO cE L I M J n cap fE sd si sa dl) U.heap ∧ va_K (dC, dI) vwCl (xT cI cJ cO cE) U ∧ va_D (fun _ => True) (xW h a e cI cJ cO cE L I M J n cap fE sd si sa dl) ∧ pw_N U)) (va_Ql (fun (r : Int64) (u : Unit) => (True)) (fun (u : Unit) (t : State) => va_P (dC, dI) vwCl (xW h a e cI cJ cO cE L I M J n cap fE sd si sa dl) t.heap ∧ va_D (va_A (xW h a e cI cJ cO cE L I M J n cap fE sd si sa dl) sz) (xW h a e cI cJ cO cE L I M J n cap fE sd si sa dl)) (va_A (xW h a e cI cJ cO cE L I M J n cap fE sd si sa dl) sz)) 0 0 (va_A (xW h a e cI cJ cO cE L I M J n cap fE sd si sa dl) sz) := by
  have hn : n ≤ 40 := hX0.1.1
  have hX := hX0
  refine Met.ofW (cc := cX5_union) (maxL := 6) (ret := (some .long)) (by decide) rfl ?_
  intro p e9 s m args below meth c s₁ B hml hv
  obtain ⟨rfl, hsz, hP, hK, hD0, hN⟩ := hv
  have hx := B.exec
  have hb := B.bytes
  have hr := B.returns
  have hts := atoms_spec (ws := wq_x_union4) B.pre
  have hown : s.vm.findClass RX5 = some m.cls := findClass_of_methodNamed B.named
  have hlocks := B.notSynchronized
  subst hsz
  have hD := hD0.self (sz := s.heap.size)
  generalize hAe : va_A (xW h a e cI cJ cO cE L I M J n cap fE sd si sa dl) s.heap.size = A at hD ⊢
  have hA : ∀ q : Nat, s.heap.size ≤ q → A q := fun q h => by rw [← hAe]; exact Or.inr h
  have hS : va_S A s.heap s.heap [] := va_S.rf
  have hl := lv_entry ([.ref (a 24), .long p0]) (n := 6) (Nat.le_of_ble_eq_true rfl)
  rw [lg_entry_eq]
  generalize (lg_sl ([.ref (a 24), .long p0]) ++ List.replicate (6 - (lg_sl ([.ref (a 24), .long p0])).length) Slot.unset).toArray = ls at hl ⊢
  have hl : lv_has ls 6 [(0, .ref (a 24)), (1, .long p0)] := hl
  refine mw_Q (fun Q0 hQ => ?_)
  refine lv_lconst (v := 0) hx hb dX5_union_0 (by decide) ?_
  refine lv_lstore_n (lv' := [(3, .long 0), (0, .ref (a 24)), (1, .long p0)]) hx hb dX5_union_1 rfl hl (by decide) rfl (fun ls hl => ?_)
  refine lv_iconst (v := 0) hx hb dX5_union_2 (by decide) ?_
  refine lv_istore (lv' := [(5, .int 0), (3, .long 0), (0, .ref (a 24)), (1, .long p0)]) hx hb dX5_union_3 hl (by decide) rfl (fun ls hl => ?_)
  have lp4 : ∀ (fu2 i1 : Nat) (y5 : Int64)  (H : Heap) (locs : List Loc) (ls : Array Slot), 40 < i1 + fu2 → i1 ≤ 40 → va_P (dC, dI) vwCl (xW h a e cI cJ cO cE L I M J n cap fE sd si sa dl) H → va_D A (xW h a e cI cJ cO cE L I M J n cap fE sd si sa dl) → va_S A s.heap H locs → lv_has ls 6 [(5, .int (nI i1)), (3, .long y5), (0, .ref (a 24)), (1, .long p0)] → W p l e9 (headSpec wq_x_union4 rm_x_union4).room s m ([.ref (a 24), .long p0] : List Value).toArray below meth c H locs 0 0 Q0 (F0 m 5 ls []) := by
    intro fu2
    induction fu2 with
    | zero =>
      intro i1 y5  H locs ls hf hi
      exact absurd hf (by omega)
    | succ fu2 ih3 =>
      intro i1 y5  H locs ls hfi1 hii1 hP hD hS hl
      refine lv_iload hx hb dX5_union_5 (lv_at hl 0 rfl) ?_
      refine lv_aload_n hx hb dX5_union_7 rfl (lv_at hl 2 rfl) ?_
      refine va_alen (v := 40) hx hb hK hP 9 1 rfl rfl rfl dX5_union_8 ?_
      refine lv_icmp_ge (tgt := 34) hx hb dX5_union_9 (by decide) (fun c6 => ?_) (fun c6 => ?_)
      · replace c6 : 40 ≤ i1 := (nI_leI (a := 40) (b := i1) (by omega) (by omega)).mp c6
        refine lv_lload_n hx hb dX5_union_34 rfl (lv_at hl 1 rfl) ?_
        rw [hQ]
        exact W.lret (v := y5) hx hb hr (fun t ht hW => ⟨⟨y5, (), rfl, trivial, by rw [ht]; exact hP, hD⟩, hS.F ht⟩) hS.2.2 dX5_union_35
      · replace c6 : ¬ (40 ≤ i1) := fun q9 => c6 ((nI_leI (a := 40) (b := i1) (by omega) (by omega)).mpr q9)
        refine lv_lload_n hx hb dX5_union_12 rfl (lv_at hl 3 rfl) ?_
        refine lv_iload hx hb dX5_union_13 (lv_at hl 0 rfl) ?_
        have hFc := mw_free hD hS hA
        refine va_calli (va_runSN (As := [.long p0, .int (nI i1)]) (rest := []) ⟨hx, hb, hml, hown, hts⟩ (c_x_holds l dC dI h a e cI cJ cO cE L I M J n cap fE sd si sa dl (b) p0 (nI i1) H.size hX (by omega) ) ⟨va_cnB 2 hts wc_x_union4_x_holds_19 rfl rfl rfl (hN (.methodLinkNest RX5 19 yX8_holds "ServiceTree") (by decide +kernel)) (hts (.initialized RX8) (by decide +kernel)) (by decide +kernel) ⟨Nat.le_of_ble_eq_true rfl, Nat.le_of_ble_eq_true rfl⟩, hts (.static yX8_holds) (by decide +kernel), trivial⟩ ⟨fun a9 U g mk q => by obtain ⟨q0, q1, qP, qK, qD, qN⟩ := q; exact ⟨q0, q1, qP, va_K.moved (u := U) (U := U.calling g mk a9) (Vm.Alike.refl U.vm) qK, qD, pw_N.same (u := U) (U := U.calling g mk a9) rfl qN⟩, fun U hU hW => ⟨rfl, by rw [hU], by rw [hU]; exact hP, va_K.moved hW.alike hK, hD.weaken (fun _ _ _ _ => trivial), pw_N.warm hW hN⟩⟩ rfl rfl hl.1 rfl (lv_room (Nat.le_of_ble_eq_true rfl)) dX5_union_15 ⟨Nat.le_of_ble_eq_true rfl, Nat.le_of_ble_eq_true rfl⟩) hS (fun q _ h => hFc q h) hFc (fun r7 u t H1 locs ht hvm hw hB hz1 hk1 hS => ?_)
        replace hP := hB.1
        rw [ht] at hP
        replace hD : va_D A (xW h a e cI cJ cO cE L I M J n cap fE sd si sa dl) := hB.2.weaken (fun _ q _ h9 => hFc q.1 h9)
        clear hB
        generalize H1 = H at hP hS ⊢
        replace hP : va_P (dC, dI) vwCl (xW h a e cI cJ cO cE L I M J n cap fE sd si sa dl) H := hP
        have br7 := hw
        refine lv_if_eq (tgt := 28) hx hb dX5_union_18 (by decide) (fun c8 => ?_) (fun c8 => ?_)
        · refine lv_iinc (v := (nI (i1 + 1))) (lv' := [(5, .int (nI (i1 + 1))), (3, .long y5), (0, .ref (a 24)), (1, .long p0)]) hx hb dX5_union_28 hl (k := 0) rfl (nI_add i1 1) (by decide) rfl (fun ls hl => ?_)
          refine lv_goto (tgt := 5) hx hb dX5_union_31 (by decide) ?_
          exact ih3 (i1 + 1) y5  _ _ _ (by omega) (by omega)  hP hD hS (lv_sub hl [0, 1, 2, 3] rfl)
        · refine lv_lload_n hx hb dX5_union_21 rfl (lv_at hl 1 rfl) ?_
          refine lv_aload_n hx hb dX5_union_22 rfl (lv_at hl 2 rfl) ?_
          refine lv_iload hx hb dX5_union_23 (lv_at hl 0 rfl) ?_
          refine va_lald (n := 40) (f := M 4) hx hb hK hP 9 1 rfl rfl (vp_in_nI (n := i1) (by omega) (by omega)) dX5_union_25 ?_
          refine lv_topl (fun x9 ex9 => ?_)
          refine lv_lor hx hb dX5_union_26 ?_
          refine lv_topl (fun x10 ex10 => ?_)
          refine lv_lstore_n (lv' := [(3, .long x10), (5, .int (nI i1)), (0, .ref (a 24)), (1, .long p0)]) hx hb dX5_union_27 rfl hl (by decide) rfl (fun ls hl => ?_)
          refine lv_iinc (v := (nI (i1 + 1))) (lv' := [(5, .int (nI (i1 + 1))), (3, .long x10), (0, .ref (a 24)), (1, .long p0)]) hx hb dX5_union_28 hl (k := 1) rfl (nI_add i1 1) (by decide) rfl (fun ls hl => ?_)
          refine lv_goto (tgt := 5) hx hb dX5_union_31 (by decide) ?_
          exact ih3 (i1 + 1) x10  _ _ _ (by omega) (by omega)  hP hD hS (lv_sub hl [0, 1, 2, 3] rfl)
  exact lp4 (40 + 1) 0 0  _ _ _ (by omega) (by omega)  hP hD hS hl
def wq_x_fromAny1 : List Cond := [.code yX5_fromAny cX5_fromAny 4 (some .long), .fieldLink RX5 11 "ServiceTree$Relations" "froms" "[[J", .methodLink RX5 40 yX5_union, .static yX5_union, .initialized RX5] ++ (wsX50 ++ (wq_x_union1))
theorem in_x_fromAny1_X5 : ∀ w ∈ wsX50, w ∈ wq_x_fromAny1 := fun _ h => List.mem_append_right _ (List.mem_append_left _ (h))
set_option maxRecDepth 20000 in
theorem wi_x_fromAny1 : ∀ w ∈ wq_x_fromAny1, w ∈ lw_tbl := List.forall_mem_append.mpr ⟨(by decide +kernel), List.forall_mem_append.mpr ⟨inKX5, wi_x_union1⟩⟩
set_option maxRecDepth 20000 in
theorem wg_x_fromAny1 : GoodIn wq_x_fromAny1 wq_x_fromAny1 := goodIn_sub (fun _ h => h) (by decide +kernel)
set_option maxRecDepth 20000 in
theorem wc_x_fromAny1_x_union1_40 : GoodIn wq_x_fromAny1 (va_wsS RX5 40 yX5_union wq_x_union1) := goodIn_app (goodIn_of _ (by decide +kernel)) (fun w h => ⟨List.mem_append_right _ (List.mem_append_right _ (h)), (wg_x_union1 w h).2⟩)
def rm_x_fromAny1 : Room := { frames := 2, cells := 0, slots := 0, locals := 47 }
set_option maxHeartbeats 4000000 in
set_option maxRecDepth 100000 in
theorem c_x_fromAny1 (l : Launch) (dC : Nat → ClassId) (dI : Nat → Nat → Nat) (h : Nat) (a : Nat → Nat) (e : Nat) (cI cJ cO cE : ClassId) (L : Nat → Int64) (I : Nat → Int32) (M : Nat → Nat → Int64) (J : Nat → Nat → Int32) (n cap : Nat) (fE : Nat → Option Nat) (sd : Nat → Nat → Nat) (si : Nat → Nat → Int32) (sa : Nat → Nat → Nat → Int32) (dl : Nat → Nat) (b : Nat) (p1 : Int64) (sz : Nat) (hX0 : InvX n cap fE sd dl b I J si) (hb0 : b + 0 < 2147483648)  : Met l yX5_fromAny wq_x_fromAny1 rm_x_fromAny1 (va_Pc [.ref (a 1), .int 1, .long p1] (fun U => U.heap.size = sz ∧ va_P (dC, dI) vwCl (xW h a e cI cJ cO cE L I M J n cap fE sd si sa dl) U.heap ∧ va_K (dC, dI) vwCl (xT cI cJ cO cE) U ∧ va_D (fun _ => True) (xW h a e cI cJ cO cE L I M J n cap fE sd si sa dl) ∧ pw_N U)) (va_Ql (fun (r : Int64) (u : Unit) => (True)) (fun (u : Unit) (t : State) => va_P (dC, dI) vwCl (xW h a e cI cJ cO cE L I M J n cap fE sd si sa dl) t.heap ∧ va_D (va_A (xW h a e cI cJ cO cE L I M J n cap fE sd si sa dl) sz) (xW h a e cI cJ cO cE L I M J n cap fE sd si sa dl)) (va_A (xW h a e cI cJ cO cE L I M J n cap fE sd si sa dl) sz)) 0 0 (va_A (xW h a e cI cJ cO cE L I M J n cap fE sd si sa dl) sz) := by
  have hn : n ≤ 40 := hX0.1.1
  have hX := hX0
  refine Met.ofW (cc := cX5_fromAny) (maxL := 4) (ret := (some .long)) (by decide) rfl ?_
  intro p e9 s m args below meth c s₁ B hml hv
  obtain ⟨rfl, hsz, hP, hK, hD0, hN⟩ := hv
  have hx := B.exec
  have hb := B.bytes
  have hr := B.returns
  have hts := atoms_spec (ws := wq_x_fromAny1) B.pre
  have hown : s.vm.findClass RX5 = some m.cls := findClass_of_methodNamed B.named
  have hlocks := B.notSynchronized
  subst hsz
  have hD := hD0.self (sz := s.heap.size)
  generalize hAe : va_A (xW h a e cI cJ cO cE L I M J n cap fE sd si sa dl) s.heap.size = A at hD ⊢
  have hA : ∀ q : Nat, s.heap.size ≤ q → A q := fun q h => by rw [← hAe]; exact Or.inr h
  have hS : va_S A s.heap s.heap [] := va_S.rf
  have hl := lv_entry ([.ref (a 1), .int 1, .long p1]) (n := 4) (Nat.le_of_ble_eq_true rfl)
  rw [lg_entry_eq]
  generalize (lg_sl ([.ref (a 1), .int 1, .long p1]) ++ List.replicate (4 - (lg_sl ([.ref (a 1), .int 1, .long p1])).length) Slot.unset).toArray = ls at hl ⊢
  have hl : lv_has ls 4 [(0, .ref (a 1)), (1, .int 1), (2, .long p1)] := hl
  refine lv_aload_n hx hb dX5_fromAny_0 rfl (lv_at hl 0 rfl) ?_
  refine va_get (D := (dC, dI)) (ci := 6) (v := .ref (a 10)) (C := RX5) (T := TX5) (N := 3) hx hb hts in_x_fromAny1_X5 hown hK hP 2 rfl rfl 0 (by decide) (hts (.fieldLink RX5 11 "ServiceTree$Relations" "froms" "[[J") (by decide +kernel)) (fun _ h9 => h9) rfl dX5_fromAny_1 ?_
  refine lv_iload_n hx hb dX5_fromAny_4 rfl (lv_at hl 1 rfl) ?_
  refine p1_aldA (n := 4) (f := fun i => if i < 4 then some (a (20 + i)) else none) hx hb hK hP 3 2 rfl rfl (vp_in_nI (n := 1) (by omega) (by decide)) dX5_fromAny_5 ?_
  refine p1_topr (v := .ref (a 21)) rfl ?_
  refine lv_lload_n hx hb dX5_fromAny_6 rfl (lv_at hl 2 rfl) ?_
  have hFc := mw_free hD hS hA
  refine va_calll (va_runS (As := [.ref (a 21), .long p1]) (rest := []) ⟨hx, hb, hml, hown, hts⟩ (c_x_union1 l dC dI h a e cI cJ cO cE L I M J n cap fE sd si sa dl (b) p1 s.heap.size hX (by omega) ) (va_cwS 2 hts wc_x_fromAny1_x_union1_40 rfl rfl rfl (by decide +kernel) ⟨Nat.le_of_ble_eq_true rfl, Nat.le_of_ble_eq_true rfl⟩) ⟨fun a9 U g mk q => by obtain ⟨q0, q1, qP, qK, qD, qN⟩ := q; exact ⟨q0, q1, qP, va_K.moved (u := U) (U := U.calling g mk a9) (Vm.Alike.refl U.vm) qK, qD, pw_N.same (u := U) (U := U.calling g mk a9) rfl qN⟩, fun U hU hW => ⟨rfl, by rw [hU], by rw [hU]; exact hP, va_K.moved hW.alike hK, hD.weaken (fun _ _ _ _ => trivial), pw_N.warm hW hN⟩⟩ rfl rfl hl.1 rfl (lv_room (Nat.le_of_ble_eq_true rfl)) dX5_fromAny_7 ⟨Nat.le_of_ble_eq_true rfl, Nat.le_of_ble_eq_true rfl⟩) hS (fun q _ h => hFc q h) hFc (fun r1 u t H1 locs ht hvm hw hB hz1 hk1 hS => ?_)
  replace hP := hB.1
  rw [ht] at hP
  replace hD : va_D A (xW h a e cI cJ cO cE L I M J n cap fE sd si sa dl) := hB.2.weaken (fun _ q _ h9 => hFc q.1 h9)
  clear hB
  generalize H1 = H at hP hS ⊢
  replace hP : va_P (dC, dI) vwCl (xW h a e cI cJ cO cE L I M J n cap fE sd si sa dl) H := hP
  exact W.lret (v := r1) hx hb hr (fun t ht hW => ⟨⟨r1, (), rfl, trivial, by rw [ht]; exact hP, hD⟩, hS.F ht⟩) hS.2.2 dX5_fromAny_10
def wq_x_fromAny3 : List Cond := [.code yX5_fromAny cX5_fromAny 4 (some .long), .fieldLink RX5 11 "ServiceTree$Relations" "froms" "[[J", .methodLink RX5 40 yX5_union, .static yX5_union, .initialized RX5] ++ (wsX50 ++ (wq_x_union3))
theorem in_x_fromAny3_X5 : ∀ w ∈ wsX50, w ∈ wq_x_fromAny3 := fun _ h => List.mem_append_right _ (List.mem_append_left _ (h))
set_option maxRecDepth 20000 in
theorem wi_x_fromAny3 : ∀ w ∈ wq_x_fromAny3, w ∈ lw_tbl := List.forall_mem_append.mpr ⟨(by decide +kernel), List.forall_mem_append.mpr ⟨inKX5, wi_x_union3⟩⟩
set_option maxRecDepth 20000 in
theorem wg_x_fromAny3 : GoodIn wq_x_fromAny3 wq_x_fromAny3 := goodIn_sub (fun _ h => h) (by decide +kernel)
set_option maxRecDepth 20000 in
theorem wc_x_fromAny3_x_union3_40 : GoodIn wq_x_fromAny3 (va_wsS RX5 40 yX5_union wq_x_union3) := goodIn_app (goodIn_of _ (by decide +kernel)) (fun w h => ⟨List.mem_append_right _ (List.mem_append_right _ (h)), (wg_x_union3 w h).2⟩)
def rm_x_fromAny3 : Room := { frames := 2, cells := 0, slots := 0, locals := 47 }
set_option maxHeartbeats 4000000 in
set_option maxRecDepth 100000 in
theorem c_x_fromAny3 (l : Launch) (dC : Nat → ClassId) (dI : Nat → Nat → Nat) (h : Nat) (a : Nat → Nat) (e : Nat) (cI cJ cO cE : ClassId) (L : Nat → Int64) (I : Nat → Int32) (M : Nat → Nat → Int64) (J : Nat → Nat → Int32) (n cap : Nat) (fE : Nat → Option Nat) (sd : Nat → Nat → Nat) (si : Nat → Nat → Int32) (sa : Nat → Nat → Nat → Int32) (dl : Nat → Nat) (b : Nat) (p1 : Int64) (sz : Nat) (hX0 : InvX n cap fE sd dl b I J si) (hb0 : b + 0 < 2147483648)  : Met l yX5_fromAny wq_x_fromAny3 rm_x_fromAny3 (va_Pc [.ref (a 1), .int 3, .long p1] (fun U => U.heap.size = sz ∧ va_P (dC, dI) vwCl (xW h a e cI cJ cO cE L I M J n cap fE sd si sa dl) U.heap ∧ va_K (dC, dI) vwCl (xT cI cJ cO cE) U ∧ va_D (fun _ => True) (xW h a e cI cJ cO cE L I M J n cap fE sd si sa dl) ∧ pw_N U)) (va_Ql (fun (r : Int64) (u : Unit) => (True)) (fun (u : Unit) (t : State) => va_P (dC, dI) vwCl (xW h a e cI cJ cO cE L I M J n cap fE sd si sa dl) t.heap ∧ va_D (va_A (xW h a e cI cJ cO cE L I M J n cap fE sd si sa dl) sz) (xW h a e cI cJ cO cE L I M J n cap fE sd si sa dl)) (va_A (xW h a e cI cJ cO cE L I M J n cap fE sd si sa dl) sz)) 0 0 (va_A (xW h a e cI cJ cO cE L I M J n cap fE sd si sa dl) sz) := by
  have hn : n ≤ 40 := hX0.1.1
  have hX := hX0
  refine Met.ofW (cc := cX5_fromAny) (maxL := 4) (ret := (some .long)) (by decide) rfl ?_
  intro p e9 s m args below meth c s₁ B hml hv
  obtain ⟨rfl, hsz, hP, hK, hD0, hN⟩ := hv
  have hx := B.exec
  have hb := B.bytes
  have hr := B.returns
  have hts := atoms_spec (ws := wq_x_fromAny3) B.pre
  have hown : s.vm.findClass RX5 = some m.cls := findClass_of_methodNamed B.named
  have hlocks := B.notSynchronized
  subst hsz
  have hD := hD0.self (sz := s.heap.size)
  generalize hAe : va_A (xW h a e cI cJ cO cE L I M J n cap fE sd si sa dl) s.heap.size = A at hD ⊢
  have hA : ∀ q : Nat, s.heap.size ≤ q → A q := fun q h => by rw [← hAe]; exact Or.inr h
  have hS : va_S A s.heap s.heap [] := va_S.rf
  have hl := lv_entry ([.ref (a 1), .int 3, .long p1]) (n := 4) (Nat.le_of_ble_eq_true rfl)
  rw [lg_entry_eq]
  generalize (lg_sl ([.ref (a 1), .int 3, .long p1]) ++ List.replicate (4 - (lg_sl ([.ref (a 1), .int 3, .long p1])).length) Slot.unset).toArray = ls at hl ⊢
  have hl : lv_has ls 4 [(0, .ref (a 1)), (1, .int 3), (2, .long p1)] := hl
  refine lv_aload_n hx hb dX5_fromAny_0 rfl (lv_at hl 0 rfl) ?_
  refine va_get (D := (dC, dI)) (ci := 6) (v := .ref (a 10)) (C := RX5) (T := TX5) (N := 3) hx hb hts in_x_fromAny3_X5 hown hK hP 2 rfl rfl 0 (by decide) (hts (.fieldLink RX5 11 "ServiceTree$Relations" "froms" "[[J") (by decide +kernel)) (fun _ h9 => h9) rfl dX5_fromAny_1 ?_
  refine lv_iload_n hx hb dX5_fromAny_4 rfl (lv_at hl 1 rfl) ?_
  refine p1_aldA (n := 4) (f := fun i => if i < 4 then some (a (20 + i)) else none) hx hb hK hP 3 2 rfl rfl (vp_in_nI (n := 3) (by omega) (by decide)) dX5_fromAny_5 ?_
  refine p1_topr (v := .ref (a 23)) rfl ?_
  refine lv_lload_n hx hb dX5_fromAny_6 rfl (lv_at hl 2 rfl) ?_
  have hFc := mw_free hD hS hA
  refine va_calll (va_runS (As := [.ref (a 23), .long p1]) (rest := []) ⟨hx, hb, hml, hown, hts⟩ (c_x_union3 l dC dI h a e cI cJ cO cE L I M J n cap fE sd si sa dl (b) p1 s.heap.size hX (by omega) ) (va_cwS 2 hts wc_x_fromAny3_x_union3_40 rfl rfl rfl (by decide +kernel) ⟨Nat.le_of_ble_eq_true rfl, Nat.le_of_ble_eq_true rfl⟩) ⟨fun a9 U g mk q => by obtain ⟨q0, q1, qP, qK, qD, qN⟩ := q; exact ⟨q0, q1, qP, va_K.moved (u := U) (U := U.calling g mk a9) (Vm.Alike.refl U.vm) qK, qD, pw_N.same (u := U) (U := U.calling g mk a9) rfl qN⟩, fun U hU hW => ⟨rfl, by rw [hU], by rw [hU]; exact hP, va_K.moved hW.alike hK, hD.weaken (fun _ _ _ _ => trivial), pw_N.warm hW hN⟩⟩ rfl rfl hl.1 rfl (lv_room (Nat.le_of_ble_eq_true rfl)) dX5_fromAny_7 ⟨Nat.le_of_ble_eq_true rfl, Nat.le_of_ble_eq_true rfl⟩) hS (fun q _ h => hFc q h) hFc (fun r1 u t H1 locs ht hvm hw hB hz1 hk1 hS => ?_)
  replace hP := hB.1
  rw [ht] at hP
  replace hD : va_D A (xW h a e cI cJ cO cE L I M J n cap fE sd si sa dl) := hB.2.weaken (fun _ q _ h9 => hFc q.1 h9)
  clear hB
  generalize H1 = H at hP hS ⊢
  replace hP : va_P (dC, dI) vwCl (xW h a e cI cJ cO cE L I M J n cap fE sd si sa dl) H := hP
  exact W.lret (v := r1) hx hb hr (fun t ht hW => ⟨⟨r1, (), rfl, trivial, by rw [ht]; exact hP, hD⟩, hS.F ht⟩) hS.2.2 dX5_fromAny_10
def wq_x_withNeeded : List Cond := [.code yX5_withNeeded cX5_withNeeded 8 (some .long), .fieldLink RX5 11 "ServiceTree$Relations" "froms" "[[J", .methodLink RX5 40 yX5_union, .static yX5_union, .initialized RX5] ++ (wsX50 ++ (wq_x_union0))
theorem in_x_withNeeded_X5 : ∀ w ∈ wsX50, w ∈ wq_x_withNeeded := fun _ h => List.mem_append_right _ (List.mem_append_left _ (h))
set_option maxRecDepth 20000 in
theorem wi_x_withNeeded : ∀ w ∈ wq_x_withNeeded, w ∈ lw_tbl := List.forall_mem_append.mpr ⟨(by decide +kernel), List.forall_mem_append.mpr ⟨inKX5, wi_x_union0⟩⟩
set_option maxRecDepth 20000 in
theorem wg_x_withNeeded : GoodIn wq_x_withNeeded wq_x_withNeeded := goodIn_sub (fun _ h => h) (by decide +kernel)
set_option maxRecDepth 20000 in
theorem wc_x_withNeeded_x_union0_40 : GoodIn wq_x_withNeeded (va_wsS RX5 40 yX5_union wq_x_union0) := goodIn_app (goodIn_of _ (by decide +kernel)) (fun w h => ⟨List.mem_append_right _ (List.mem_append_right _ (h)), (wg_x_union0 w h).2⟩)
def rm_x_withNeeded : Room := { frames := 2, cells := 0, slots := 0, locals := 47 }
set_option maxHeartbeats 4000000 in
set_option maxRecDepth 100000 in
theorem c_x_withNeeded (l : Launch) (dC : Nat → ClassId) (dI : Nat → Nat → Nat) (h : Nat) (a : Nat → Nat) (e : Nat) (cI cJ cO cE : ClassId) (L : Nat → Int64) (I : Nat → Int32) (M : Nat → Nat → Int64) (J : Nat → Nat → Int32) (n cap : Nat) (fE : Nat → Option Nat) (sd : Nat → Nat → Nat) (si : Nat → Nat → Int32) (sa : Nat → Nat → Nat → Int32) (dl : Nat → Nat) (b : Nat) (p0 : Int64) (sz : Nat) (hX0 : InvX n cap fE sd dl b I J si) (hb0 : b + 0 < 2147483648)  : Met l yX5_withNeeded wq_x_withNeeded rm_x_withNeeded (va_Pc [.ref (a 1), .long p0] (fun U => U.heap.size = sz ∧ va_P (dC, dI) vwCl (xW h a e cI cJ cO cE L I M J n cap fE sd si sa dl) U.heap ∧ va_K (dC, dI) vwCl (xT cI cJ cO cE) U ∧ va_D (fun _ => True) (xW h a e cI cJ cO cE L I M J n cap fE sd si sa dl) ∧ pw_N U)) (va_Ql (fun (r : Int64) (u : Unit) => (True)) (fun (u : Unit) (t : State) => va_P (dC, dI) vwCl (xW h a e cI cJ cO cE L I M J n cap fE sd si sa dl) t.heap ∧ va_D (va_A (xW h a e cI cJ cO cE L I M J n cap fE sd si sa dl) sz) (xW h a e cI cJ cO cE L I M J n cap fE sd si sa dl)) (va_A (xW h a e cI cJ cO cE L I M J n cap fE sd si sa dl) sz)) 0 0 (va_A (xW h a e cI cJ cO cE L I M J n cap fE sd si sa dl) sz) := by
  have hn : n ≤ 40 := hX0.1.1
  have hX := hX0
  refine Met.ofW (cc := cX5_withNeeded) (maxL := 8) (ret := (some .long)) (by decide) rfl ?_
  intro p e9 s m args below meth c s₁ B hml hv
  obtain ⟨rfl, hsz, hP, hK, hD0, hN⟩ := hv
  have hx := B.exec
  have hb := B.bytes
  have hr := B.returns
  have hts := atoms_spec (ws := wq_x_withNeeded) B.pre
  have hown : s.vm.findClass RX5 = some m.cls := findClass_of_methodNamed B.named
  have hlocks := B.notSynchronized
  subst hsz
  have hD := hD0.self (sz := s.heap.size)
  generalize hAe : va_A (xW h a e cI cJ cO cE L I M J n cap fE sd si sa dl) s.heap.size = A at hD ⊢
  have hA : ∀ q : Nat, s.heap.size ≤ q → A q := fun q h => by rw [← hAe]; exact Or.inr h
  have hS : va_S A s.heap s.heap [] := va_S.rf
  have hl := lv_entry ([.ref (a 1), .long p0]) (n := 8) (Nat.le_of_ble_eq_true rfl)
  rw [lg_entry_eq]
  generalize (lg_sl ([.ref (a 1), .long p0]) ++ List.replicate (8 - (lg_sl ([.ref (a 1), .long p0])).length) Slot.unset).toArray = ls at hl ⊢
  have hl : lv_has ls 8 [(0, .ref (a 1)), (1, .long p0)] := hl
  refine mw_Q (fun Q0 hQ => ?_)
  refine lv_lload_n hx hb dX5_withNeeded_0 rfl (lv_at hl 1 rfl) ?_
  refine lv_lstore_n (lv' := [(3, .long p0), (0, .ref (a 1)), (1, .long p0)]) hx hb dX5_withNeeded_1 rfl hl (by decide) rfl (fun ls hl => ?_)
  refine lv_iconst (v := 0) hx hb dX5_withNeeded_2 (by decide) ?_
  refine lv_istore (lv' := [(5, .int 0), (3, .long p0), (0, .ref (a 1)), (1, .long p0)]) hx hb dX5_withNeeded_3 hl (by decide) rfl (fun ls hl => ?_)
  have lp4 : ∀ (fu2 i1 : Nat) (y5 : Int64)  (H : Heap) (locs : List Loc) (ls : Array Slot), 40 < i1 + fu2 → i1 ≤ 40 → va_P (dC, dI) vwCl (xW h a e cI cJ cO cE L I M J n cap fE sd si sa dl) H → va_D A (xW h a e cI cJ cO cE L I M J n cap fE sd si sa dl) → va_S A s.heap H locs → lv_has ls 8 [(5, .int (nI i1)), (3, .long y5), (0, .ref (a 1)), (1, .long p0)] → W p l e9 (headSpec wq_x_withNeeded rm_x_withNeeded).room s m ([.ref (a 1), .long p0] : List Value).toArray below meth c H locs 0 0 Q0 (F0 m 5 ls []) := by
    intro fu2
    induction fu2 with
    | zero =>
      intro i1 y5  H locs ls hf hi
      exact absurd hf (by omega)
    | succ fu2 ih3 =>
      intro i1 y5  H locs ls hfi1 hii1 hP hD hS hl
      refine lv_iload hx hb dX5_withNeeded_5 (lv_at hl 0 rfl) ?_
      refine lv_bipush (v := 40) hx hb dX5_withNeeded_7 (by decide) ?_
      refine lv_icmp_ge (tgt := 45) hx hb dX5_withNeeded_9 (by decide) (fun c6 => ?_) (fun c6 => ?_)
      · replace c6 : 40 ≤ i1 := (nI_leI (a := 40) (b := i1) (by omega) (by omega)).mp c6
        refine lv_lload_n hx hb dX5_withNeeded_45 rfl (lv_at hl 1 rfl) ?_
        rw [hQ]
        exact W.lret (v := y5) hx hb hr (fun t ht hW => ⟨⟨y5, (), rfl, trivial, by rw [ht]; exact hP, hD⟩, hS.F ht⟩) hS.2.2 dX5_withNeeded_46
      · replace c6 : ¬ (40 ≤ i1) := fun q9 => c6 ((nI_leI (a := 40) (b := i1) (by omega) (by omega)).mpr q9)
        refine lv_lload_n hx hb dX5_withNeeded_12 rfl (lv_at hl 1 rfl) ?_
        refine lv_aload_n hx hb dX5_withNeeded_13 rfl (lv_at hl 2 rfl) ?_
        refine va_get (D := (dC, dI)) (ci := 6) (v := .ref (a 10)) (C := RX5) (T := TX5) (N := 3) hx hb hts in_x_withNeeded_X5 hown hK hP 2 rfl rfl 0 (by decide) (hts (.fieldLink RX5 11 "ServiceTree$Relations" "froms" "[[J") (by decide +kernel)) (fun _ h9 => h9) rfl dX5_withNeeded_14 ?_
        refine lv_iconst (v := 0) hx hb dX5_withNeeded_17 (by decide) ?_
        refine p1_aldA (n := 4) (f := fun i => if i < 4 then some (a (20 + i)) else none) hx hb hK hP 3 2 rfl rfl (vp_in_nI (n := 0) (by omega) (by decide)) dX5_withNeeded_18 ?_
        refine p1_topr (v := .ref (a 20)) rfl ?_
        refine lv_lload_n hx hb dX5_withNeeded_19 rfl (lv_at hl 1 rfl) ?_
        have hFc := mw_free hD hS hA
        refine va_calll (va_runS (As := [.ref (a 20), .long y5]) (rest := [.long y5]) ⟨hx, hb, hml, hown, hts⟩ (c_x_union0 l dC dI h a e cI cJ cO cE L I M J n cap fE sd si sa dl (b) y5 H.size hX (by omega) ) (va_cwS 2 hts wc_x_withNeeded_x_union0_40 rfl rfl rfl (by decide +kernel) ⟨Nat.le_of_ble_eq_true rfl, Nat.le_of_ble_eq_true rfl⟩) ⟨fun a9 U g mk q => by obtain ⟨q0, q1, qP, qK, qD, qN⟩ := q; exact ⟨q0, q1, qP, va_K.moved (u := U) (U := U.calling g mk a9) (Vm.Alike.refl U.vm) qK, qD, pw_N.same (u := U) (U := U.calling g mk a9) rfl qN⟩, fun U hU hW => ⟨rfl, by rw [hU], by rw [hU]; exact hP, va_K.moved hW.alike hK, hD.weaken (fun _ _ _ _ => trivial), pw_N.warm hW hN⟩⟩ rfl rfl hl.1 rfl (lv_room (Nat.le_of_ble_eq_true rfl)) dX5_withNeeded_20 ⟨Nat.le_of_ble_eq_true rfl, Nat.le_of_ble_eq_true rfl⟩) hS (fun q _ h => hFc q h) hFc (fun r7 u t H1 locs ht hvm hw hB hz1 hk1 hS => ?_)
        replace hP := hB.1
        rw [ht] at hP
        replace hD : va_D A (xW h a e cI cJ cO cE L I M J n cap fE sd si sa dl) := hB.2.weaken (fun _ q _ h9 => hFc q.1 h9)
        clear hB
        generalize H1 = H at hP hS ⊢
        replace hP : va_P (dC, dI) vwCl (xW h a e cI cJ cO cE L I M J n cap fE sd si sa dl) H := hP
        refine lv_lor hx hb dX5_withNeeded_23 ?_
        refine lv_topl (fun x8 ex8 => ?_)
        refine lv_lstore (lv' := [(6, .long x8), (5, .int (nI i1)), (3, .long y5), (0, .ref (a 1)), (1, .long p0)]) hx hb dX5_withNeeded_24 hl (by decide) rfl (fun ls hl => ?_)
        refine lv_lload hx hb dX5_withNeeded_26 (lv_at hl 0 rfl) ?_
        refine lv_lload_n hx hb dX5_withNeeded_28 rfl (lv_at hl 2 rfl) ?_
        refine W.lcmp hx hb dX5_withNeeded_29 ?_
        refine lv_topi (fun x9 ex9 => ?_)
        refine lv_if_ne (tgt := 36) hx hb dX5_withNeeded_30 (by decide) (fun c10 => ?_) (fun c10 => ?_)
        · refine lv_lload hx hb dX5_withNeeded_36 (lv_at hl 0 rfl) ?_
          refine lv_lstore_n (lv' := [(3, .long x8), (6, .long x8), (5, .int (nI i1)), (0, .ref (a 1)), (1, .long p0)]) hx hb dX5_withNeeded_38 rfl hl (by decide) rfl (fun ls hl => ?_)
          refine lv_iinc (v := (nI (i1 + 1))) (lv' := [(5, .int (nI (i1 + 1))), (3, .long x8), (6, .long x8), (0, .ref (a 1)), (1, .long p0)]) hx hb dX5_withNeeded_39 hl (k := 2) rfl (nI_add i1 1) (by decide) rfl (fun ls hl => ?_)
          refine lv_goto (tgt := 5) hx hb dX5_withNeeded_42 (by decide) ?_
          exact ih3 (i1 + 1) x8  _ _ _ (by omega) (by omega)  hP hD hS (lv_sub hl [0, 1, 3, 4] rfl)
        · refine lv_goto (tgt := 45) hx hb dX5_withNeeded_33 (by decide) ?_
          refine lv_lload_n hx hb dX5_withNeeded_45 rfl (lv_at hl 2 rfl) ?_
          rw [hQ]
          exact W.lret (v := y5) hx hb hr (fun t ht hW => ⟨⟨y5, (), rfl, trivial, by rw [ht]; exact hP, hD⟩, hS.F ht⟩) hS.2.2 dX5_withNeeded_46
  exact lp4 (40 + 1) 0 p0  _ _ _ (by omega) (by omega)  hP hD hS hl
def wq_x_withNeeders : List Cond := [.code yX5_withNeeders cX5_withNeeders 10 (some .long), .fieldLink RX5 16 "ServiceTree$Relations" "tos" "[[J", .methodLink RX5 40 yX5_union, .static yX5_union, .initialized RX5] ++ (wsX50 ++ (wq_x_union4))
theorem in_x_withNeeders_X5 : ∀ w ∈ wsX50, w ∈ wq_x_withNeeders := fun _ h => List.mem_append_right _ (List.mem_append_left _ (h))
set_option maxRecDepth 20000 in
theorem wi_x_withNeeders : ∀ w ∈ wq_x_withNeeders, w ∈ lw_tbl := List.forall_mem_append.mpr ⟨(by decide +kernel), List.forall_mem_append.mpr ⟨inKX5, wi_x_union4⟩⟩
set_option maxRecDepth 20000 in
theorem wg_x_withNeeders : GoodIn wq_x_withNeeders wq_x_withNeeders := goodIn_sub (fun _ h => h) (by decide +kernel)
set_option maxRecDepth 20000 in
theorem wc_x_withNeeders_x_union4_40 : GoodIn wq_x_withNeeders (va_wsS RX5 40 yX5_union wq_x_union4) := goodIn_app (goodIn_of _ (by decide +kernel)) (fun w h => ⟨List.mem_append_right _ (List.mem_append_right _ (h)), (wg_x_union4 w h).2⟩)
def rm_x_withNeeders : Room := { frames := 2, cells := 0, slots := 0, locals := 47 }
set_option maxHeartbeats 4000000 in
set_option maxRecDepth 100000 in
theorem c_x_withNeeders (l : Launch) (dC : Nat → ClassId) (dI : Nat → Nat → Nat) (h : Nat) (a : Nat → Nat) (e : Nat) (cI cJ cO cE : ClassId) (L : Nat → Int64) (I : Nat → Int32) (M : Nat → Nat → Int64) (J : Nat → Nat → Int32) (n cap : Nat) (fE : Nat → Option Nat) (sd : Nat → Nat → Nat) (si : Nat → Nat → Int32) (sa : Nat → Nat → Nat → Int32) (dl : Nat → Nat) (b : Nat) (p0 : Int64) (p1 : Int64) (sz : Nat) (hX0 : InvX n cap fE sd dl b I J si) (hb0 : b + 0 < 2147483648)  : Met l yX5_withNeeders wq_x_withNeeders rm_x_withNeeders (va_Pc [.ref (a 1), .long p0, .long p1] (fun U => U.heap.size = sz ∧ va_P (dC, dI) vwCl (xW h a e cI cJ cO cE L I M J n cap fE sd si sa dl) U.heap ∧ va_K (dC, dI) vwCl (xT cI cJ cO cE) U ∧ va_D (fun _ => True) (xW h a e cI cJ cO cE L I M J n cap fE sd si sa dl) ∧ pw_N U)) (va_Ql (fun (r : Int64) (u : Unit) => (True)) (fun (u : Unit) (t : State) => va_P (dC, dI) vwCl (xW h a e cI cJ cO cE L I M J n cap fE sd si sa dl) t.heap ∧ va_D (va_A (xW h a e cI cJ cO cE L I M J n cap fE sd si sa dl) sz) (xW h a e cI cJ cO cE L I M J n cap fE sd si sa dl)) (va_A (xW h a e cI cJ cO cE L I M J n cap fE sd si sa dl) sz)) 0 0 (va_A (xW h a e cI cJ cO cE L I M J n cap fE sd si sa dl) sz) := by
  have hn : n ≤ 40 := hX0.1.1
  have hX := hX0
  refine Met.ofW (cc := cX5_withNeeders) (maxL := 10) (ret := (some .long)) (by decide) rfl ?_
  intro p e9 s m args below meth c s₁ B hml hv
  obtain ⟨rfl, hsz, hP, hK, hD0, hN⟩ := hv
  have hx := B.exec
  have hb := B.bytes
  have hr := B.returns
  have hts := atoms_spec (ws := wq_x_withNeeders) B.pre
  have hown : s.vm.findClass RX5 = some m.cls := findClass_of_methodNamed B.named
  have hlocks := B.notSynchronized
  subst hsz
  have hD := hD0.self (sz := s.heap.size)
  generalize hAe : va_A (xW h a e cI cJ cO cE L I M J n cap fE sd si sa dl) s.heap.size = A at hD ⊢
  have hA : ∀ q : Nat, s.heap.size ≤ q → A q := fun q h => by rw [← hAe]; exact Or.inr h
  have hS : va_S A s.heap s.heap [] := va_S.rf
  have hl := lv_entry ([.ref (a 1), .long p0, .long p1]) (n := 10) (Nat.le_of_ble_eq_true rfl)
  rw [lg_entry_eq]
  generalize (lg_sl ([.ref (a 1), .long p0, .long p1]) ++ List.replicate (10 - (lg_sl ([.ref (a 1), .long p0, .long p1])).length) Slot.unset).toArray = ls at hl ⊢
  have hl : lv_has ls 10 [(0, .ref (a 1)), (1, .long p0), (3, .long p1)] := hl
  refine mw_Q (fun Q0 hQ => ?_)
  refine lv_lload_n hx hb dX5_withNeeders_0 rfl (lv_at hl 1 rfl) ?_
  refine lv_lstore (lv' := [(5, .long p0), (0, .ref (a 1)), (1, .long p0), (3, .long p1)]) hx hb dX5_withNeeders_1 hl (by decide) rfl (fun ls hl => ?_)
  refine lv_iconst (v := 0) hx hb dX5_withNeeders_3 (by decide) ?_
  refine lv_istore (lv' := [(7, .int 0), (5, .long p0), (0, .ref (a 1)), (1, .long p0), (3, .long p1)]) hx hb dX5_withNeeders_4 hl (by decide) rfl (fun ls hl => ?_)
  have lp4 : ∀ (fu2 i1 : Nat) (y5 : Int64)  (H : Heap) (locs : List Loc) (ls : Array Slot), 40 < i1 + fu2 → i1 ≤ 40 → va_P (dC, dI) vwCl (xW h a e cI cJ cO cE L I M J n cap fE sd si sa dl) H → va_D A (xW h a e cI cJ cO cE L I M J n cap fE sd si sa dl) → va_S A s.heap H locs → lv_has ls 10 [(7, .int (nI i1)), (5, .long y5), (0, .ref (a 1)), (1, .long p0), (3, .long p1)] → W p l e9 (headSpec wq_x_withNeeders rm_x_withNeeders).room s m ([.ref (a 1), .long p0, .long p1] : List Value).toArray below meth c H locs 0 0 Q0 (F0 m 6 ls []) := by
    intro fu2
    induction fu2 with
    | zero =>
      intro i1 y5  H locs ls hf hi
      exact absurd hf (by omega)
    | succ fu2 ih3 =>
      intro i1 y5  H locs ls hfi1 hii1 hP hD hS hl
      refine lv_iload hx hb dX5_withNeeders_6 (lv_at hl 0 rfl) ?_
      refine lv_bipush (v := 40) hx hb dX5_withNeeders_8 (by decide) ?_
      refine lv_icmp_ge (tgt := 52) hx hb dX5_withNeeders_10 (by decide) (fun c6 => ?_) (fun c6 => ?_)
      · replace c6 : 40 ≤ i1 := (nI_leI (a := 40) (b := i1) (by omega) (by omega)).mp c6
        refine lv_lload hx hb dX5_withNeeders_52 (lv_at hl 1 rfl) ?_
        rw [hQ]
        exact W.lret (v := y5) hx hb hr (fun t ht hW => ⟨⟨y5, (), rfl, trivial, by rw [ht]; exact hP, hD⟩, hS.F ht⟩) hS.2.2 dX5_withNeeders_54
      · replace c6 : ¬ (40 ≤ i1) := fun q9 => c6 ((nI_leI (a := 40) (b := i1) (by omega) (by omega)).mpr q9)
        refine lv_lload hx hb dX5_withNeeders_13 (lv_at hl 1 rfl) ?_
        refine lv_aload_n hx hb dX5_withNeeders_15 rfl (lv_at hl 2 rfl) ?_
        refine va_get (D := (dC, dI)) (ci := 6) (v := .ref (a 11)) (C := RX5) (T := TX5) (N := 3) hx hb hts in_x_withNeeders_X5 hown hK hP 2 rfl rfl 1 (by decide) (hts (.fieldLink RX5 16 "ServiceTree$Relations" "tos" "[[J") (by decide +kernel)) (fun _ h9 => h9) rfl dX5_withNeeders_16 ?_
        refine lv_iconst (v := 0) hx hb dX5_withNeeders_19 (by decide) ?_
        refine p1_aldA (n := 4) (f := fun i => if i < 4 then some (a (24 + i)) else none) hx hb hK hP 4 2 rfl rfl (vp_in_nI (n := 0) (by omega) (by decide)) dX5_withNeeders_20 ?_
        refine p1_topr (v := .ref (a 24)) rfl ?_
        refine lv_lload hx hb dX5_withNeeders_21 (lv_at hl 1 rfl) ?_
        have hFc := mw_free hD hS hA
        refine va_calll (va_runS (As := [.ref (a 24), .long y5]) (rest := [.long y5]) ⟨hx, hb, hml, hown, hts⟩ (c_x_union4 l dC dI h a e cI cJ cO cE L I M J n cap fE sd si sa dl (b) y5 H.size hX (by omega) ) (va_cwS 2 hts wc_x_withNeeders_x_union4_40 rfl rfl rfl (by decide +kernel) ⟨Nat.le_of_ble_eq_true rfl, Nat.le_of_ble_eq_true rfl⟩) ⟨fun a9 U g mk q => by obtain ⟨q0, q1, qP, qK, qD, qN⟩ := q; exact ⟨q0, q1, qP, va_K.moved (u := U) (U := U.calling g mk a9) (Vm.Alike.refl U.vm) qK, qD, pw_N.same (u := U) (U := U.calling g mk a9) rfl qN⟩, fun U hU hW => ⟨rfl, by rw [hU], by rw [hU]; exact hP, va_K.moved hW.alike hK, hD.weaken (fun _ _ _ _ => trivial), pw_N.warm hW hN⟩⟩ rfl rfl hl.1 rfl (lv_room (Nat.le_of_ble_eq_true rfl)) dX5_withNeeders_23 ⟨Nat.le_of_ble_eq_true rfl, Nat.le_of_ble_eq_true rfl⟩) hS (fun q _ h => hFc q h) hFc (fun r7 u t H1 locs ht hvm hw hB hz1 hk1 hS => ?_)
        replace hP := hB.1
        rw [ht] at hP
        replace hD : va_D A (xW h a e cI cJ cO cE L I M J n cap fE sd si sa dl) := hB.2.weaken (fun _ q _ h9 => hFc q.1 h9)
        clear hB
        generalize H1 = H at hP hS ⊢
        replace hP : va_P (dC, dI) vwCl (xW h a e cI cJ cO cE L I M J n cap fE sd si sa dl) H := hP
        refine lv_lload_n hx hb dX5_withNeeders_26 rfl (lv_at hl 4 rfl) ?_
        refine lv_land hx hb dX5_withNeeders_27 ?_
        refine lv_topl (fun x8 ex8 => ?_)
        refine lv_lor hx hb dX5_withNeeders_28 ?_
        refine lv_topl (fun x9 ex9 => ?_)
        refine lv_lstore (lv' := [(8, .long x9), (7, .int (nI i1)), (5, .long y5), (0, .ref (a 1)), (1, .long p0), (3, .long p1)]) hx hb dX5_withNeeders_29 hl (by decide) rfl (fun ls hl => ?_)
        refine lv_lload hx hb dX5_withNeeders_31 (lv_at hl 0 rfl) ?_
        refine lv_lload hx hb dX5_withNeeders_33 (lv_at hl 2 rfl) ?_
        refine W.lcmp hx hb dX5_withNeeders_35 ?_
        refine lv_topi (fun x10 ex10 => ?_)
        refine lv_if_ne (tgt := 42) hx hb dX5_withNeeders_36 (by decide) (fun c11 => ?_) (fun c11 => ?_)
        · refine lv_lload hx hb dX5_withNeeders_42 (lv_at hl 0 rfl) ?_
          refine lv_lstore (lv' := [(5, .long x9), (8, .long x9), (7, .int (nI i1)), (0, .ref (a 1)), (1, .long p0), (3, .long p1)]) hx hb dX5_withNeeders_44 hl (by decide) rfl (fun ls hl => ?_)
          refine lv_iinc (v := (nI (i1 + 1))) (lv' := [(7, .int (nI (i1 + 1))), (5, .long x9), (8, .long x9), (0, .ref (a 1)), (1, .long p0), (3, .long p1)]) hx hb dX5_withNeeders_46 hl (k := 2) rfl (nI_add i1 1) (by decide) rfl (fun ls hl => ?_)
          refine lv_goto (tgt := 6) hx hb dX5_withNeeders_49 (by decide) ?_
          exact ih3 (i1 + 1) x9  _ _ _ (by omega) (by omega)  hP hD hS (lv_sub hl [0, 1, 3, 4, 5] rfl)
        · refine lv_goto (tgt := 52) hx hb dX5_withNeeders_39 (by decide) ?_
          refine lv_lload hx hb dX5_withNeeders_52 (lv_at hl 2 rfl) ?_
          rw [hQ]
          exact W.lret (v := y5) hx hb hr (fun t ht hW => ⟨⟨y5, (), rfl, trivial, by rw [ht]; exact hP, hD⟩, hS.F ht⟩) hS.2.2 dX5_withNeeders_54
  exact lp4 (40 + 1) 0 p0  _ _ _ (by omega) (by omega)  hP hD hS hl
def wq_x_clash : List Cond := [.code yX5_clash cX5_clash 3 (some .boolean), .fieldLink RX5 11 "ServiceTree$Relations" "froms" "[[J", .methodLink RX5 40 yX5_union, .static yX5_union, .initialized RX5] ++ (wsX50 ++ (wq_x_union3))
theorem in_x_clash_X5 : ∀ w ∈ wsX50, w ∈ wq_x_clash := fun _ h => List.mem_append_right _ (List.mem_append_left _ (h))
set_option maxRecDepth 20000 in
theorem wi_x_clash : ∀ w ∈ wq_x_clash, w ∈ lw_tbl := List.forall_mem_append.mpr ⟨(by decide +kernel), List.forall_mem_append.mpr ⟨inKX5, wi_x_union3⟩⟩
set_option maxRecDepth 20000 in
theorem wg_x_clash : GoodIn wq_x_clash wq_x_clash := goodIn_sub (fun _ h => h) (by decide +kernel)
set_option maxRecDepth 20000 in
theorem wc_x_clash_x_union3_40 : GoodIn wq_x_clash (va_wsS RX5 40 yX5_union wq_x_union3) := goodIn_app (goodIn_of _ (by decide +kernel)) (fun w h => ⟨List.mem_append_right _ (List.mem_append_right _ (h)), (wg_x_union3 w h).2⟩)
def rm_x_clash : Room := { frames := 2, cells := 0, slots := 0, locals := 47 }
set_option maxHeartbeats 4000000 in
set_option maxRecDepth 100000 in
theorem c_x_clash (l : Launch) (dC : Nat → ClassId) (dI : Nat → Nat → Nat) (h : Nat) (a : Nat → Nat) (e : Nat) (cI cJ cO cE : ClassId) (L : Nat → Int64) (I : Nat → Int32) (M : Nat → Nat → Int64) (J : Nat → Nat → Int32) (n cap : Nat) (fE : Nat → Option Nat) (sd : Nat → Nat → Nat) (si : Nat → Nat → Int32) (sa : Nat → Nat → Nat → Int32) (dl : Nat → Nat) (b : Nat) (p0 : Int64) (sz : Nat) (hX0 : InvX n cap fE sd dl b I J si) (hb0 : b + 0 < 2147483648)  : Met l yX5_clash wq_x_clash rm_x_clash (va_Pc [.ref (a 1), .long p0] (fun U => U.heap.size = sz ∧ va_P (dC, dI) vwCl (xW h a e cI cJ cO cE L I M J n cap fE sd si sa dl) U.heap ∧ va_K (dC, dI) vwCl (xT cI cJ cO cE) U ∧ va_D (fun _ => True) (xW h a e cI cJ cO cE L I M J n cap fE sd si sa dl) ∧ pw_N U)) (va_Qi (fun (r : Int32) (u : Unit) => (r = 0 ∨ r = 1)) (fun (u : Unit) (t : State) => va_P (dC, dI) vwCl (xW h a e cI cJ cO cE L I M J n cap fE sd si sa dl) t.heap ∧ va_D (va_A (xW h a e cI cJ cO cE L I M J n cap fE sd si sa dl) sz) (xW h a e cI cJ cO cE L I M J n cap fE sd si sa dl)) (va_A (xW h a e cI cJ cO cE L I M J n cap fE sd si sa dl) sz)) 0 0 (va_A (xW h a e cI cJ cO cE L I M J n cap fE sd si sa dl) sz) := by
  have hn : n ≤ 40 := hX0.1.1
  have hX := hX0
  refine Met.ofW (cc := cX5_clash) (maxL := 3) (ret := (some .boolean)) (by decide) rfl ?_
  intro p e9 s m args below meth c s₁ B hml hv
  obtain ⟨rfl, hsz, hP, hK, hD0, hN⟩ := hv
  have hx := B.exec
  have hb := B.bytes
  have hr := B.returns
  have hts := atoms_spec (ws := wq_x_clash) B.pre
  have hown : s.vm.findClass RX5 = some m.cls := findClass_of_methodNamed B.named
  have hlocks := B.notSynchronized
  subst hsz
  have hD := hD0.self (sz := s.heap.size)
  generalize hAe : va_A (xW h a e cI cJ cO cE L I M J n cap fE sd si sa dl) s.heap.size = A at hD ⊢
  have hA : ∀ q : Nat, s.heap.size ≤ q → A q := fun q h => by rw [← hAe]; exact Or.inr h
  have hS : va_S A s.heap s.heap [] := va_S.rf
  have hl := lv_entry ([.ref (a 1), .long p0]) (n := 3) (Nat.le_of_ble_eq_true rfl)
  rw [lg_entry_eq]
  generalize (lg_sl ([.ref (a 1), .long p0]) ++ List.replicate (3 - (lg_sl ([.ref (a 1), .long p0])).length) Slot.unset).toArray = ls at hl ⊢
  have hl : lv_has ls 3 [(0, .ref (a 1)), (1, .long p0)] := hl
  refine lv_aload_n hx hb dX5_clash_0 rfl (lv_at hl 0 rfl) ?_
  refine va_get (D := (dC, dI)) (ci := 6) (v := .ref (a 10)) (C := RX5) (T := TX5) (N := 3) hx hb hts in_x_clash_X5 hown hK hP 2 rfl rfl 0 (by decide) (hts (.fieldLink RX5 11 "ServiceTree$Relations" "froms" "[[J") (by decide +kernel)) (fun _ h9 => h9) rfl dX5_clash_1 ?_
  refine lv_iconst (v := 3) hx hb dX5_clash_4 (by decide) ?_
  refine p1_aldA (n := 4) (f := fun i => if i < 4 then some (a (20 + i)) else none) hx hb hK hP 3 2 rfl rfl (vp_in_nI (n := 3) (by omega) (by decide)) dX5_clash_5 ?_
  refine p1_topr (v := .ref (a 23)) rfl ?_
  refine lv_lload_n hx hb dX5_clash_6 rfl (lv_at hl 1 rfl) ?_
  have hFc := mw_free hD hS hA
  refine va_calll (va_runS (As := [.ref (a 23), .long p0]) (rest := []) ⟨hx, hb, hml, hown, hts⟩ (c_x_union3 l dC dI h a e cI cJ cO cE L I M J n cap fE sd si sa dl (b) p0 s.heap.size hX (by omega) ) (va_cwS 2 hts wc_x_clash_x_union3_40 rfl rfl rfl (by decide +kernel) ⟨Nat.le_of_ble_eq_true rfl, Nat.le_of_ble_eq_true rfl⟩) ⟨fun a9 U g mk q => by obtain ⟨q0, q1, qP, qK, qD, qN⟩ := q; exact ⟨q0, q1, qP, va_K.moved (u := U) (U := U.calling g mk a9) (Vm.Alike.refl U.vm) qK, qD, pw_N.same (u := U) (U := U.calling g mk a9) rfl qN⟩, fun U hU hW => ⟨rfl, by rw [hU], by rw [hU]; exact hP, va_K.moved hW.alike hK, hD.weaken (fun _ _ _ _ => trivial), pw_N.warm hW hN⟩⟩ rfl rfl hl.1 rfl (lv_room (Nat.le_of_ble_eq_true rfl)) dX5_clash_7 ⟨Nat.le_of_ble_eq_true rfl, Nat.le_of_ble_eq_true rfl⟩) hS (fun q _ h => hFc q h) hFc (fun r1 u t H1 locs ht hvm hw hB hz1 hk1 hS => ?_)
  replace hP := hB.1
  rw [ht] at hP
  replace hD : va_D A (xW h a e cI cJ cO cE L I M J n cap fE sd si sa dl) := hB.2.weaken (fun _ q _ h9 => hFc q.1 h9)
  clear hB
  generalize H1 = H at hP hS ⊢
  replace hP : va_P (dC, dI) vwCl (xW h a e cI cJ cO cE L I M J n cap fE sd si sa dl) H := hP
  refine lv_lload_n hx hb dX5_clash_10 rfl (lv_at hl 1 rfl) ?_
  refine lv_land hx hb dX5_clash_11 ?_
  refine lv_topl (fun x2 ex2 => ?_)
  refine lv_lconst (v := 0) hx hb dX5_clash_12 (by decide) ?_
  refine W.lcmp hx hb dX5_clash_13 ?_
  refine lv_topi (fun x3 ex3 => ?_)
  refine lv_if_eq (tgt := 21) hx hb dX5_clash_14 (by decide) (fun c4 => ?_) (fun c4 => ?_)
  · refine lv_iconst (v := 0) hx hb dX5_clash_21 (by decide) ?_
    exact W.zret (v := 0) hx hb hr (by decide) (fun t ht hW => ⟨⟨0, (), rfl, Or.inl rfl, by rw [ht]; exact hP, hD⟩, hS.F ht⟩) hS.2.2 dX5_clash_22
  · refine lv_iconst (v := 1) hx hb dX5_clash_17 (by decide) ?_
    refine lv_goto (tgt := 22) hx hb dX5_clash_18 (by decide) ?_
    exact W.zret (v := 1) hx hb hr (by decide) (fun t ht hW => ⟨⟨1, (), rfl, Or.inr rfl, by rw [ht]; exact hP, hD⟩, hS.F ht⟩) hS.2.2 dX5_clash_22
def wq_x_rawaited : List Cond := [.code yX5_awaitedBy cX5_awaitedBy 6 (some .long), .initialized RX8, .static yX8_holds, .fieldLink RX5 16 "ServiceTree$Relations" "tos" "[[J", .fieldLink RX5 11 "ServiceTree$Relations" "froms" "[[J"] ++ (wsX50 ++ (wq_x_holds))
theorem in_x_rawaited_X5 : ∀ w ∈ wsX50, w ∈ wq_x_rawaited := fun _ h => List.mem_append_right _ (List.mem_append_left _ (h))
set_option maxRecDepth 20000 in
theorem wi_x_rawaited : ∀ w ∈ wq_x_rawaited, w ∈ lw_tbl := List.forall_mem_append.mpr ⟨(by decide +kernel), List.forall_mem_append.mpr ⟨inKX5, wi_x_holds⟩⟩
set_option maxRecDepth 20000 in
theorem wg_x_rawaited : GoodIn wq_x_rawaited wq_x_rawaited := goodIn_sub (fun _ h => h) (by decide +kernel)
theorem wc_x_rawaited_x_holds_19 : GoodIn wq_x_rawaited wq_x_holds := (fun w h => ⟨List.mem_append_right _ (List.mem_append_right _ (h)), (wg_x_holds w h).2⟩)
def rm_x_rawaited : Room := { frames := 1, cells := 0, slots := 0, locals := 22 }
set_option maxHeartbeats 4000000 in
set_option maxRecDepth 100000 in
theorem c_x_rawaited (l : Launch) (dC : Nat → ClassId) (dI : Nat → Nat → Nat) (h : Nat) (a : Nat → Nat) (e : Nat) (cI cJ cO cE : ClassId) (L : Nat → Int64) (I : Nat → Int32) (M : Nat → Nat → Int64) (J : Nat → Nat → Int32) (n cap : Nat) (fE : Nat → Option Nat) (sd : Nat → Nat → Nat) (si : Nat → Nat → Int32) (sa : Nat → Nat → Nat → Int32) (dl : Nat → Nat) (b : Nat) (av : Nat) (p1 : Int64) (p2 : Int64) (sz : Nat) (hX0 : InvX n cap fE sd dl b I J si) (hb0 : b + 0 < 2147483648) (hp0 : av < 40) : Met l yX5_awaitedBy wq_x_rawaited rm_x_rawaited (va_Pc [.ref (a 1), .int (nI av), .long p1, .long p2] (fun U => U.heap.size = sz ∧ va_P (dC, dI) vwCl (xW h a e cI cJ cO cE L I M J n cap fE sd si sa dl) U.heap ∧ va_K (dC, dI) vwCl (xT cI cJ cO cE) U ∧ va_D (fun _ => True) (xW h a e cI cJ cO cE L I M J n cap fE sd si sa dl) ∧ pw_N U)) (va_Ql (fun (r : Int64) (u : Unit) => (True)) (fun (u : Unit) (t : State) => va_P (dC, dI) vwCl (xW h a e cI cJ cO cE L I M J n cap fE sd si sa dl) t.heap ∧ va_D (va_A (xW h a e cI cJ cO cE L I M J n cap fE sd si sa dl) sz) (xW h a e cI cJ cO cE L I M J n cap fE sd si sa dl)) (va_A (xW h a e cI cJ cO cE L I M J n cap fE sd si sa dl) sz)) 0 0 (va_A (xW h a e cI cJ cO cE L I M J n cap fE sd si sa dl) sz) := by
  have hn : n ≤ 40 := hX0.1.1
  have hX := hX0
  refine Met.ofW (cc := cX5_awaitedBy) (maxL := 6) (ret := (some .long)) (by decide) rfl ?_
  intro p e9 s m args below meth c s₁ B hml hv
  obtain ⟨rfl, hsz, hP, hK, hD0, hN⟩ := hv
  have hx := B.exec
  have hb := B.bytes
  have hr := B.returns
  have hts := atoms_spec (ws := wq_x_rawaited) B.pre
  have hown : s.vm.findClass RX5 = some m.cls := findClass_of_methodNamed B.named
  have hlocks := B.notSynchronized
  subst hsz
  have hD := hD0.self (sz := s.heap.size)
  generalize hAe : va_A (xW h a e cI cJ cO cE L I M J n cap fE sd si sa dl) s.heap.size = A at hD ⊢
  have hA : ∀ q : Nat, s.heap.size ≤ q → A q := fun q h => by rw [← hAe]; exact Or.inr h
  have hS : va_S A s.heap s.heap [] := va_S.rf
  have hl := lv_entry ([.ref (a 1), .int (nI av), .long p1, .long p2]) (n := 6) (Nat.le_of_ble_eq_true rfl)
  rw [lg_entry_eq]
  generalize (lg_sl ([.ref (a 1), .int (nI av), .long p1, .long p2]) ++ List.replicate (6 - (lg_sl ([.ref (a 1), .int (nI av), .long p1, .long p2])).length) Slot.unset).toArray = ls at hl ⊢
  have hl : lv_has ls 6 [(0, .ref (a 1)), (1, .int (nI av)), (2, .long p1), (4, .long p2)] := hl
  refine lv_lload_n hx hb dX5_awaitedBy_0 rfl (lv_at hl 2 rfl) ?_
  refine lv_iload_n hx hb dX5_awaitedBy_1 rfl (lv_at hl 1 rfl) ?_
  have hFc := mw_free hD hS hA
  refine va_calli (va_runSN (As := [.long p1, .int (nI av)]) (rest := []) ⟨hx, hb, hml, hown, hts⟩ (c_x_holds l dC dI h a e cI cJ cO cE L I M J n cap fE sd si sa dl (b) p1 (nI av) s.heap.size hX (by omega) ) ⟨va_cnB 2 hts wc_x_rawaited_x_holds_19 rfl rfl rfl (hN (.methodLinkNest RX5 19 yX8_holds "ServiceTree") (by decide +kernel)) (hts (.initialized RX8) (by decide +kernel)) (by decide +kernel) ⟨Nat.le_of_ble_eq_true rfl, Nat.le_of_ble_eq_true rfl⟩, hts (.static yX8_holds) (by decide +kernel), trivial⟩ ⟨fun a9 U g mk q => by obtain ⟨q0, q1, qP, qK, qD, qN⟩ := q; exact ⟨q0, q1, qP, va_K.moved (u := U) (U := U.calling g mk a9) (Vm.Alike.refl U.vm) qK, qD, pw_N.same (u := U) (U := U.calling g mk a9) rfl qN⟩, fun U hU hW => ⟨rfl, by rw [hU], by rw [hU]; exact hP, va_K.moved hW.alike hK, hD.weaken (fun _ _ _ _ => trivial), pw_N.warm hW hN⟩⟩ rfl rfl hl.1 rfl (lv_room (Nat.le_of_ble_eq_true rfl)) dX5_awaitedBy_2 ⟨Nat.le_of_ble_eq_true rfl, Nat.le_of_ble_eq_true rfl⟩) hS (fun q _ h => hFc q h) hFc (fun r1 u t H1 locs ht hvm hw hB hz1 hk1 hS => ?_)
  replace hP := hB.1
  rw [ht] at hP
  replace hD : va_D A (xW h a e cI cJ cO cE L I M J n cap fE sd si sa dl) := hB.2.weaken (fun _ q _ h9 => hFc q.1 h9)
  clear hB
  generalize H1 = H at hP hS ⊢
  replace hP : va_P (dC, dI) vwCl (xW h a e cI cJ cO cE L I M J n cap fE sd si sa dl) H := hP
  have br1 := hw
  refine lv_if_eq (tgt := 40) hx hb dX5_awaitedBy_5 (by decide) (fun c2 => ?_) (fun c2 => ?_)
  · refine lv_lload hx hb dX5_awaitedBy_40 (lv_at hl 3 rfl) ?_
    refine lv_iload_n hx hb dX5_awaitedBy_42 rfl (lv_at hl 1 rfl) ?_
    have hFc := mw_free hD hS hA
    refine va_calli (va_runSN (As := [.long p2, .int (nI av)]) (rest := []) ⟨hx, hb, hml, hown, hts⟩ (c_x_holds l dC dI h a e cI cJ cO cE L I M J n cap fE sd si sa dl (b) p2 (nI av) H.size hX (by omega) ) ⟨va_cnB 2 hts wc_x_rawaited_x_holds_19 rfl rfl rfl (hN (.methodLinkNest RX5 19 yX8_holds "ServiceTree") (by decide +kernel)) (hts (.initialized RX8) (by decide +kernel)) (by decide +kernel) ⟨Nat.le_of_ble_eq_true rfl, Nat.le_of_ble_eq_true rfl⟩, hts (.static yX8_holds) (by decide +kernel), trivial⟩ ⟨fun a9 U g mk q => by obtain ⟨q0, q1, qP, qK, qD, qN⟩ := q; exact ⟨q0, q1, qP, va_K.moved (u := U) (U := U.calling g mk a9) (Vm.Alike.refl U.vm) qK, qD, pw_N.same (u := U) (U := U.calling g mk a9) rfl qN⟩, fun U hU hW => ⟨rfl, by rw [hU], by rw [hU]; exact hP, va_K.moved hW.alike hK, hD.weaken (fun _ _ _ _ => trivial), pw_N.warm hW hN⟩⟩ rfl rfl hl.1 rfl (lv_room (Nat.le_of_ble_eq_true rfl)) dX5_awaitedBy_43 ⟨Nat.le_of_ble_eq_true rfl, Nat.le_of_ble_eq_true rfl⟩) hS (fun q _ h => hFc q h) hFc (fun r3 u t H1 locs ht hvm hw hB hz1 hk1 hS => ?_)
    replace hP := hB.1
    rw [ht] at hP
    replace hD : va_D A (xW h a e cI cJ cO cE L I M J n cap fE sd si sa dl) := hB.2.weaken (fun _ q _ h9 => hFc q.1 h9)
    clear hB
    generalize H1 = H at hP hS ⊢
    replace hP : va_P (dC, dI) vwCl (xW h a e cI cJ cO cE L I M J n cap fE sd si sa dl) H := hP
    have br3 := hw
    refine lv_if_eq (tgt := 70) hx hb dX5_awaitedBy_46 (by decide) (fun c4 => ?_) (fun c4 => ?_)
    · refine lv_lconst (v := 0) hx hb dX5_awaitedBy_70 (by decide) ?_
      exact W.lret (v := 0) hx hb hr (fun t ht hW => ⟨⟨0, (), rfl, trivial, by rw [ht]; exact hP, hD⟩, hS.F ht⟩) hS.2.2 dX5_awaitedBy_71
    · refine lv_aload_n hx hb dX5_awaitedBy_49 rfl (lv_at hl 0 rfl) ?_
      refine va_get (D := (dC, dI)) (ci := 6) (v := .ref (a 11)) (C := RX5) (T := TX5) (N := 3) hx hb hts in_x_rawaited_X5 hown hK hP 2 rfl rfl 1 (by decide) (hts (.fieldLink RX5 16 "ServiceTree$Relations" "tos" "[[J") (by decide +kernel)) (fun _ h9 => h9) rfl dX5_awaitedBy_50 ?_
      refine lv_iconst (v := 0) hx hb dX5_awaitedBy_53 (by decide) ?_
      refine p1_aldA (n := 4) (f := fun i => if i < 4 then some (a (24 + i)) else none) hx hb hK hP 4 2 rfl rfl (vp_in_nI (n := 0) (by omega) (by decide)) dX5_awaitedBy_54 ?_
      refine p1_topr (v := .ref (a 24)) rfl ?_
      refine lv_iload_n hx hb dX5_awaitedBy_55 rfl (lv_at hl 1 rfl) ?_
      refine va_lald (n := 40) (f := M 4) hx hb hK hP 9 1 rfl rfl (vp_in_nI (n := av) (by omega) (by omega)) dX5_awaitedBy_56 ?_
      refine lv_topl (fun x5 ex5 => ?_)
      refine lv_aload_n hx hb dX5_awaitedBy_57 rfl (lv_at hl 0 rfl) ?_
      refine va_get (D := (dC, dI)) (ci := 6) (v := .ref (a 11)) (C := RX5) (T := TX5) (N := 3) hx hb hts in_x_rawaited_X5 hown hK hP 2 rfl rfl 1 (by decide) (hts (.fieldLink RX5 16 "ServiceTree$Relations" "tos" "[[J") (by decide +kernel)) (fun _ h9 => h9) rfl dX5_awaitedBy_58 ?_
      refine lv_iconst (v := 2) hx hb dX5_awaitedBy_61 (by decide) ?_
      refine p1_aldA (n := 4) (f := fun i => if i < 4 then some (a (24 + i)) else none) hx hb hK hP 4 2 rfl rfl (vp_in_nI (n := 2) (by omega) (by decide)) dX5_awaitedBy_62 ?_
      refine p1_topr (v := .ref (a 26)) rfl ?_
      refine lv_iload_n hx hb dX5_awaitedBy_63 rfl (lv_at hl 1 rfl) ?_
      refine va_lald (n := 40) (f := M 6) hx hb hK hP 11 1 rfl rfl (vp_in_nI (n := av) (by omega) (by omega)) dX5_awaitedBy_64 ?_
      refine lv_topl (fun x6 ex6 => ?_)
      refine lv_lor hx hb dX5_awaitedBy_65 ?_
      refine lv_topl (fun x7 ex7 => ?_)
      refine lv_lload hx hb dX5_awaitedBy_66 (lv_at hl 3 rfl) ?_
      refine lv_land hx hb dX5_awaitedBy_68 ?_
      refine lv_topl (fun x8 ex8 => ?_)
      exact W.lret (v := x8) hx hb hr (fun t ht hW => ⟨⟨x8, (), rfl, trivial, by rw [ht]; exact hP, hD⟩, hS.F ht⟩) hS.2.2 dX5_awaitedBy_69
  · refine lv_aload_n hx hb dX5_awaitedBy_8 rfl (lv_at hl 0 rfl) ?_
    refine va_get (D := (dC, dI)) (ci := 6) (v := .ref (a 10)) (C := RX5) (T := TX5) (N := 3) hx hb hts in_x_rawaited_X5 hown hK hP 2 rfl rfl 0 (by decide) (hts (.fieldLink RX5 11 "ServiceTree$Relations" "froms" "[[J") (by decide +kernel)) (fun _ h9 => h9) rfl dX5_awaitedBy_9 ?_
    refine lv_iconst (v := 0) hx hb dX5_awaitedBy_12 (by decide) ?_
    refine p1_aldA (n := 4) (f := fun i => if i < 4 then some (a (20 + i)) else none) hx hb hK hP 3 2 rfl rfl (vp_in_nI (n := 0) (by omega) (by decide)) dX5_awaitedBy_13 ?_
    refine p1_topr (v := .ref (a 20)) rfl ?_
    refine lv_iload_n hx hb dX5_awaitedBy_14 rfl (lv_at hl 1 rfl) ?_
    refine va_lald (n := 40) (f := M 0) hx hb hK hP 5 1 rfl rfl (vp_in_nI (n := av) (by omega) (by omega)) dX5_awaitedBy_15 ?_
    refine lv_topl (fun x9 ex9 => ?_)
    refine lv_aload_n hx hb dX5_awaitedBy_16 rfl (lv_at hl 0 rfl) ?_
    refine va_get (D := (dC, dI)) (ci := 6) (v := .ref (a 10)) (C := RX5) (T := TX5) (N := 3) hx hb hts in_x_rawaited_X5 hown hK hP 2 rfl rfl 0 (by decide) (hts (.fieldLink RX5 11 "ServiceTree$Relations" "froms" "[[J") (by decide +kernel)) (fun _ h9 => h9) rfl dX5_awaitedBy_17 ?_
    refine lv_iconst (v := 2) hx hb dX5_awaitedBy_20 (by decide) ?_
    refine p1_aldA (n := 4) (f := fun i => if i < 4 then some (a (20 + i)) else none) hx hb hK hP 3 2 rfl rfl (vp_in_nI (n := 2) (by omega) (by decide)) dX5_awaitedBy_21 ?_
    refine p1_topr (v := .ref (a 22)) rfl ?_
    refine lv_iload_n hx hb dX5_awaitedBy_22 rfl (lv_at hl 1 rfl) ?_
    refine va_lald (n := 40) (f := M 2) hx hb hK hP 7 1 rfl rfl (vp_in_nI (n := av) (by omega) (by omega)) dX5_awaitedBy_23 ?_
    refine lv_topl (fun x10 ex10 => ?_)
    refine lv_lor hx hb dX5_awaitedBy_24 ?_
    refine lv_topl (fun x11 ex11 => ?_)
    refine lv_lload_n hx hb dX5_awaitedBy_25 rfl (lv_at hl 2 rfl) ?_
    refine lv_land hx hb dX5_awaitedBy_26 ?_
    refine lv_topl (fun x12 ex12 => ?_)
    refine lv_aload_n hx hb dX5_awaitedBy_27 rfl (lv_at hl 0 rfl) ?_
    refine va_get (D := (dC, dI)) (ci := 6) (v := .ref (a 10)) (C := RX5) (T := TX5) (N := 3) hx hb hts in_x_rawaited_X5 hown hK hP 2 rfl rfl 0 (by decide) (hts (.fieldLink RX5 11 "ServiceTree$Relations" "froms" "[[J") (by decide +kernel)) (fun _ h9 => h9) rfl dX5_awaitedBy_28 ?_
    refine lv_iconst (v := 3) hx hb dX5_awaitedBy_31 (by decide) ?_
    refine p1_aldA (n := 4) (f := fun i => if i < 4 then some (a (20 + i)) else none) hx hb hK hP 3 2 rfl rfl (vp_in_nI (n := 3) (by omega) (by decide)) dX5_awaitedBy_32 ?_
    refine p1_topr (v := .ref (a 23)) rfl ?_
    refine lv_iload_n hx hb dX5_awaitedBy_33 rfl (lv_at hl 1 rfl) ?_
    refine va_lald (n := 40) (f := M 3) hx hb hK hP 8 1 rfl rfl (vp_in_nI (n := av) (by omega) (by omega)) dX5_awaitedBy_34 ?_
    refine lv_topl (fun x13 ex13 => ?_)
    refine lv_lload hx hb dX5_awaitedBy_35 (lv_at hl 3 rfl) ?_
    refine lv_land hx hb dX5_awaitedBy_37 ?_
    refine lv_topl (fun x14 ex14 => ?_)
    refine lv_lor hx hb dX5_awaitedBy_38 ?_
    refine lv_topl (fun x15 ex15 => ?_)
    exact W.lret (v := x15) hx hb hr (fun t ht hW => ⟨⟨x15, (), rfl, trivial, by rw [ht]; exact hP, hD⟩, hS.F ht⟩) hS.2.2 dX5_awaitedBy_39
def wq_x_after : List Cond := [.code yX5_after cX5_after 2 (some .long), .fieldLink RX5 11 "ServiceTree$Relations" "froms" "[[J"] ++ (wsX50)
theorem in_x_after_X5 : ∀ w ∈ wsX50, w ∈ wq_x_after := fun _ h => List.mem_append_right _ (h)
set_option maxRecDepth 20000 in
theorem wi_x_after : ∀ w ∈ wq_x_after, w ∈ lw_tbl := List.forall_mem_append.mpr ⟨(by decide +kernel), inKX5⟩
set_option maxRecDepth 20000 in
theorem wg_x_after : GoodIn wq_x_after wq_x_after := goodIn_sub (fun _ h => h) (by decide +kernel)
def rm_x_after : Room := { frames := 0, cells := 0, slots := 0, locals := 0 }
set_option maxHeartbeats 4000000 in
set_option maxRecDepth 100000 in
theorem c_x_after (l : Launch) (dC : Nat → ClassId) (dI : Nat → Nat → Nat) (h : Nat) (a : Nat → Nat) (e : Nat) (cI cJ cO cE : ClassId) (L : Nat → Int64) (I : Nat → Int32) (M : Nat → Nat → Int64) (J : Nat → Nat → Int32) (n cap : Nat) (fE : Nat → Option Nat) (sd : Nat → Nat → Nat) (si : Nat → Nat → Int32) (sa : Nat → Nat → Nat → Int32) (dl : Nat → Nat) (b : Nat) (av : Nat) (sz : Nat) (hX0 : InvX n cap fE sd dl b I J si) (hb0 : b + 0 < 2147483648) (hp0 : av < 40) : Met l yX5_after wq_x_after rm_x_after (va_Pc [.ref (a 1), .int (nI av)] (fun U => U.heap.size = sz ∧ va_P (dC, dI) vwCl (xW h a e cI cJ cO cE L I M J n cap fE sd si sa dl) U.heap ∧ va_K (dC, dI) vwCl (xT cI cJ cO cE) U ∧ va_D (fun _ => True) (xW h a e cI cJ cO cE L I M J n cap fE sd si sa dl) ∧ pw_N U)) (va_Ql (fun (r : Int64) (u : Unit) => (True)) (fun (u : Unit) (t : State) => va_P (dC, dI) vwCl (xW h a e cI cJ cO cE L I M J n cap fE sd si sa dl) t.heap ∧ va_D (va_A (xW h a e cI cJ cO cE L I M J n cap fE sd si sa dl) sz) (xW h a e cI cJ cO cE L I M J n cap fE sd si sa dl)) (va_A (xW h a e cI cJ cO cE L I M J n cap fE sd si sa dl) sz)) 0 0 (va_A (xW h a e cI cJ cO cE L I M J n cap fE sd si sa dl) sz) := by
  have hn : n ≤ 40 := hX0.1.1
  have hX := hX0
  refine Met.ofW (cc := cX5_after) (maxL := 2) (ret := (some .long)) (by decide) rfl ?_
  intro p e9 s m args below meth c s₁ B hml hv
  obtain ⟨rfl, hsz, hP, hK, hD0, hN⟩ := hv
  have hx := B.exec
  have hb := B.bytes
  have hr := B.returns
  have hts := atoms_spec (ws := wq_x_after) B.pre
  have hown : s.vm.findClass RX5 = some m.cls := findClass_of_methodNamed B.named
  have hlocks := B.notSynchronized
  subst hsz
  have hD := hD0.self (sz := s.heap.size)
  generalize hAe : va_A (xW h a e cI cJ cO cE L I M J n cap fE sd si sa dl) s.heap.size = A at hD ⊢
  have hA : ∀ q : Nat, s.heap.size ≤ q → A q := fun q h => by rw [← hAe]; exact Or.inr h
  have hS : va_S A s.heap s.heap [] := va_S.rf
  have hl := lv_entry ([.ref (a 1), .int (nI av)]) (n := 2) (Nat.le_of_ble_eq_true rfl)
  rw [lg_entry_eq]
  generalize (lg_sl ([.ref (a 1), .int (nI av)]) ++ List.replicate (2 - (lg_sl ([.ref (a 1), .int (nI av)])).length) Slot.unset).toArray = ls at hl ⊢
  have hl : lv_has ls 2 [(0, .ref (a 1)), (1, .int (nI av))] := hl
  refine lv_aload_n hx hb dX5_after_0 rfl (lv_at hl 0 rfl) ?_
  refine va_get (D := (dC, dI)) (ci := 6) (v := .ref (a 10)) (C := RX5) (T := TX5) (N := 3) hx hb hts in_x_after_X5 hown hK hP 2 rfl rfl 0 (by decide) (hts (.fieldLink RX5 11 "ServiceTree$Relations" "froms" "[[J") (by decide +kernel)) (fun _ h9 => h9) rfl dX5_after_1 ?_
  refine lv_iconst (v := 0) hx hb dX5_after_4 (by decide) ?_
  refine p1_aldA (n := 4) (f := fun i => if i < 4 then some (a (20 + i)) else none) hx hb hK hP 3 2 rfl rfl (vp_in_nI (n := 0) (by omega) (by decide)) dX5_after_5 ?_
  refine p1_topr (v := .ref (a 20)) rfl ?_
  refine lv_iload_n hx hb dX5_after_6 rfl (lv_at hl 1 rfl) ?_
  refine va_lald (n := 40) (f := M 0) hx hb hK hP 5 1 rfl rfl (vp_in_nI (n := av) (by omega) (by omega)) dX5_after_7 ?_
  refine lv_topl (fun x1 ex1 => ?_)
  refine lv_aload_n hx hb dX5_after_8 rfl (lv_at hl 0 rfl) ?_
  refine va_get (D := (dC, dI)) (ci := 6) (v := .ref (a 10)) (C := RX5) (T := TX5) (N := 3) hx hb hts in_x_after_X5 hown hK hP 2 rfl rfl 0 (by decide) (hts (.fieldLink RX5 11 "ServiceTree$Relations" "froms" "[[J") (by decide +kernel)) (fun _ h9 => h9) rfl dX5_after_9 ?_
  refine lv_iconst (v := 2) hx hb dX5_after_12 (by decide) ?_
  refine p1_aldA (n := 4) (f := fun i => if i < 4 then some (a (20 + i)) else none) hx hb hK hP 3 2 rfl rfl (vp_in_nI (n := 2) (by omega) (by decide)) dX5_after_13 ?_
  refine p1_topr (v := .ref (a 22)) rfl ?_
  refine lv_iload_n hx hb dX5_after_14 rfl (lv_at hl 1 rfl) ?_
  refine va_lald (n := 40) (f := M 2) hx hb hK hP 7 1 rfl rfl (vp_in_nI (n := av) (by omega) (by omega)) dX5_after_15 ?_
  refine lv_topl (fun x2 ex2 => ?_)
  refine lv_lor hx hb dX5_after_16 ?_
  refine lv_topl (fun x3 ex3 => ?_)
  exact W.lret (v := x3) hx hb hr (fun t ht hW => ⟨⟨x3, (), rfl, trivial, by rw [ht]; exact hP, hD⟩, hS.F ht⟩) hS.2.2 dX5_after_17
def wq_x_tangled : List Cond := [.code yX5_tangled cX5_tangled 9 (some .long), .initialized RX8, .static yX8_holds, .static yX8_only, .methodLink RX5 44 yX5_after, .instanceMethod yX5_after, .selects RX5 yX5_after yX5_after, .initialized RX5] ++ (wq_x_holds ++ (wq_x_after ++ (wq_x_only)))
set_option maxRecDepth 20000 in
theorem wi_x_tangled : ∀ w ∈ wq_x_tangled, w ∈ lw_tbl := List.forall_mem_append.mpr ⟨(by decide +kernel), List.forall_mem_append.mpr ⟨wi_x_holds, List.forall_mem_append.mpr ⟨wi_x_after, wi_x_only⟩⟩⟩
set_option maxRecDepth 20000 in
theorem wg_x_tangled : GoodIn wq_x_tangled wq_x_tangled := goodIn_sub (fun _ h => h) (by decide +kernel)
theorem wc_x_tangled_x_holds_19 : GoodIn wq_x_tangled wq_x_holds := (fun w h => ⟨List.mem_append_right _ (List.mem_append_left _ (h)), (wg_x_holds w h).2⟩)
set_option maxRecDepth 20000 in
theorem wc_x_tangled_x_after_44 : GoodIn wq_x_tangled (wsV RX5 44 RX5 yX5_after wq_x_after) := goodIn_app (goodIn_of _ (by decide +kernel)) (fun w h => ⟨List.mem_append_right _ (List.mem_append_right _ (List.mem_append_left _ (h))), (wg_x_after w h).2⟩)
theorem wc_x_tangled_x_only_34 : GoodIn wq_x_tangled wq_x_only := (fun w h => ⟨List.mem_append_right _ (List.mem_append_right _ (List.mem_append_right _ (h))), (wg_x_only w h).2⟩)
def rm_x_tangled : Room := { frames := 1, cells := 0, slots := 0, locals := 22 }
set_option maxHeartbeats 4000000 in
set_option maxRecDepth 100000 in
theorem c_x_tangled (l : Launch) (dC : Nat → ClassId) (dI : Nat → Nat → Nat) (h : Nat) (a : Nat → Nat) (e : Nat) (cI cJ cO cE : ClassId) (L : Nat → Int64) (I : Nat → Int32) (M : Nat → Nat → Int64) (J : Nat → Nat → Int32) (n cap : Nat) (fE : Nat → Option Nat) (sd : Nat → Nat → Nat) (si : Nat → Nat → Int32) (sa : Nat → Nat → Nat → Int32) (dl : Nat → Nat) (b : Nat) (p0 : Int64) (sz : Nat) (hX0 : InvX n cap fE sd dl b I J si) (hb0 : b + 0 < 2147483648)  : Met l yX5_tangled wq_x_tangled rm_x_tangled (va_Pc [.ref (a 1), .long p0] (fun U => U.heap.size = sz ∧ va_P (dC, dI) vwCl (xW h a e cI cJ cO cE L I M J n cap fE sd si sa dl) U.heap ∧ va_K (dC, dI) vwCl (xT cI cJ cO cE) U ∧ va_D (fun _ => True) (xW h a e cI cJ cO cE L I M J n cap fE sd si sa dl) ∧ pw_N U)) (va_Ql (fun (r : Int64) (u : Unit) => (True)) (fun (u : Unit) (t : State) => va_P (dC, dI) vwCl (xW h a e cI cJ cO cE L I M J n cap fE sd si sa dl) t.heap ∧ va_D (va_A (xW h a e cI cJ cO cE L I M J n cap fE sd si sa dl) sz) (xW h a e cI cJ cO cE L I M J n cap fE sd si sa dl)) (va_A (xW h a e cI cJ cO cE L I M J n cap fE sd si sa dl) sz)) 0 0 (va_A (xW h a e cI cJ cO cE L I M J n cap fE sd si sa dl) sz) := by
  have hn : n ≤ 40 := hX0.1.1
  have hX := hX0
  refine Met.ofW (cc := cX5_tangled) (maxL := 9) (ret := (some .long)) (by decide) rfl ?_
  intro p e9 s m args below meth c s₁ B hml hv
  obtain ⟨rfl, hsz, hP, hK, hD0, hN⟩ := hv
  have hx := B.exec
  have hb := B.bytes
  have hr := B.returns
  have hts := atoms_spec (ws := wq_x_tangled) B.pre
  have hown : s.vm.findClass RX5 = some m.cls := findClass_of_methodNamed B.named
  have hlocks := B.notSynchronized
  subst hsz
  have hD := hD0.self (sz := s.heap.size)
  generalize hAe : va_A (xW h a e cI cJ cO cE L I M J n cap fE sd si sa dl) s.heap.size = A at hD ⊢
  have hA : ∀ q : Nat, s.heap.size ≤ q → A q := fun q h => by rw [← hAe]; exact Or.inr h
  have hS : va_S A s.heap s.heap [] := va_S.rf
  have hl := lv_entry ([.ref (a 1), .long p0]) (n := 9) (Nat.le_of_ble_eq_true rfl)
  rw [lg_entry_eq]
  generalize (lg_sl ([.ref (a 1), .long p0]) ++ List.replicate (9 - (lg_sl ([.ref (a 1), .long p0])).length) Slot.unset).toArray = ls at hl ⊢
  have hl : lv_has ls 9 [(0, .ref (a 1)), (1, .long p0)] := hl
  refine mw_Q (fun Q0 hQ => ?_)
  refine lv_lload_n hx hb dX5_tangled_0 rfl (lv_at hl 1 rfl) ?_
  refine lv_lstore_n (lv' := [(3, .long p0), (0, .ref (a 1)), (1, .long p0)]) hx hb dX5_tangled_1 rfl hl (by decide) rfl (fun ls hl => ?_)
  refine lv_iconst (v := 0) hx hb dX5_tangled_2 (by decide) ?_
  refine lv_istore (lv' := [(5, .int 0), (3, .long p0), (0, .ref (a 1)), (1, .long p0)]) hx hb dX5_tangled_3 hl (by decide) rfl (fun ls hl => ?_)
  have lp4 : ∀ (fu2 i1 : Nat) (y5 : Int64)  (H : Heap) (locs : List Loc) (ls : Array Slot), 40 < i1 + fu2 → i1 ≤ 40 → va_P (dC, dI) vwCl (xW h a e cI cJ cO cE L I M J n cap fE sd si sa dl) H → va_D A (xW h a e cI cJ cO cE L I M J n cap fE sd si sa dl) → va_S A s.heap H locs → lv_has ls 9 [(5, .int (nI i1)), (3, .long y5), (0, .ref (a 1)), (1, .long p0)] → W p l e9 (headSpec wq_x_tangled rm_x_tangled).room s m ([.ref (a 1), .long p0] : List Value).toArray below meth c H locs 0 0 Q0 (F0 m 5 ls []) := by
    intro fu2
    induction fu2 with
    | zero =>
      intro i1 y5  H locs ls hf hi
      exact absurd hf (by omega)
    | succ fu2 ih3 =>
      intro i1 y5  H locs ls hfi1 hii1 hP hD hS hl
      refine lv_iload hx hb dX5_tangled_5 (lv_at hl 0 rfl) ?_
      refine lv_bipush (v := 40) hx hb dX5_tangled_7 (by decide) ?_
      refine lv_icmp_ge (tgt := 82) hx hb dX5_tangled_9 (by decide) (fun c6 => ?_) (fun c6 => ?_)
      · replace c6 : 40 ≤ i1 := (nI_leI (a := 40) (b := i1) (by omega) (by omega)).mp c6
        refine lv_lload_n hx hb dX5_tangled_82 rfl (lv_at hl 1 rfl) ?_
        rw [hQ]
        exact W.lret (v := y5) hx hb hr (fun t ht hW => ⟨⟨y5, (), rfl, trivial, by rw [ht]; exact hP, hD⟩, hS.F ht⟩) hS.2.2 dX5_tangled_83
      · replace c6 : ¬ (40 ≤ i1) := fun q9 => c6 ((nI_leI (a := 40) (b := i1) (by omega) (by omega)).mpr q9)
        refine lv_lconst (v := 0) hx hb dX5_tangled_12 (by decide) ?_
        refine lv_lstore (lv' := [(6, .long 0), (5, .int (nI i1)), (3, .long y5), (0, .ref (a 1)), (1, .long p0)]) hx hb dX5_tangled_13 hl (by decide) rfl (fun ls hl => ?_)
        refine lv_iconst (v := 0) hx hb dX5_tangled_15 (by decide) ?_
        refine lv_istore (lv' := [(8, .int 0), (6, .long 0), (5, .int (nI i1)), (3, .long y5), (0, .ref (a 1)), (1, .long p0)]) hx hb dX5_tangled_16 hl (by decide) rfl (fun ls hl => ?_)
        have lp10 : ∀ (fu8 i7 : Nat) (y11 : Int64)  (H : Heap) (locs : List Loc) (ls : Array Slot), 40 < i7 + fu8 → i7 ≤ 40 → va_P (dC, dI) vwCl (xW h a e cI cJ cO cE L I M J n cap fE sd si sa dl) H → va_D A (xW h a e cI cJ cO cE L I M J n cap fE sd si sa dl) → va_S A s.heap H locs → lv_has ls 9 [(8, .int (nI i7)), (6, .long y11), (5, .int (nI i1)), (3, .long y5), (0, .ref (a 1)), (1, .long p0)] → W p l e9 (headSpec wq_x_tangled rm_x_tangled).room s m ([.ref (a 1), .long p0] : List Value).toArray below meth c H locs 0 0 Q0 (F0 m 18 ls []) := by
          intro fu8
          induction fu8 with
          | zero =>
            intro i7 y11  H locs ls hf hi
            exact absurd hf (by omega)
          | succ fu8 ih9 =>
            intro i7 y11  H locs ls hfi7 hii7 hP hD hS hl
            refine lv_iload hx hb dX5_tangled_18 (lv_at hl 0 rfl) ?_
            refine lv_bipush (v := 40) hx hb dX5_tangled_20 (by decide) ?_
            refine lv_icmp_ge (tgt := 63) hx hb dX5_tangled_22 (by decide) (fun c12 => ?_) (fun c12 => ?_)
            · replace c12 : 40 ≤ i7 := (nI_leI (a := 40) (b := i7) (by omega) (by omega)).mp c12
              refine lv_lload hx hb dX5_tangled_63 (lv_at hl 1 rfl) ?_
              refine lv_lload_n hx hb dX5_tangled_65 rfl (lv_at hl 3 rfl) ?_
              refine W.lcmp hx hb dX5_tangled_66 ?_
              refine lv_topi (fun x13 ex13 => ?_)
              refine lv_if_ne (tgt := 73) hx hb dX5_tangled_67 (by decide) (fun c14 => ?_) (fun c14 => ?_)
              · refine lv_lload hx hb dX5_tangled_73 (lv_at hl 1 rfl) ?_
                refine lv_lstore_n (lv' := [(3, .long y11), (8, .int (nI i7)), (6, .long y11), (5, .int (nI i1)), (0, .ref (a 1)), (1, .long p0)]) hx hb dX5_tangled_75 rfl hl (by decide) rfl (fun ls hl => ?_)
                refine lv_iinc (v := (nI (i1 + 1))) (lv' := [(5, .int (nI (i1 + 1))), (3, .long y11), (8, .int (nI i7)), (6, .long y11), (0, .ref (a 1)), (1, .long p0)]) hx hb dX5_tangled_76 hl (k := 3) rfl (nI_add i1 1) (by decide) rfl (fun ls hl => ?_)
                refine lv_goto (tgt := 5) hx hb dX5_tangled_79 (by decide) ?_
                exact ih3 (i1 + 1) y11  _ _ _ (by omega) (by omega)  hP hD hS (lv_sub hl [0, 1, 4, 5] rfl)
              · refine lv_goto (tgt := 82) hx hb dX5_tangled_70 (by decide) ?_
                refine lv_lload_n hx hb dX5_tangled_82 rfl (lv_at hl 3 rfl) ?_
                rw [hQ]
                exact W.lret (v := y5) hx hb hr (fun t ht hW => ⟨⟨y5, (), rfl, trivial, by rw [ht]; exact hP, hD⟩, hS.F ht⟩) hS.2.2 dX5_tangled_83
            · replace c12 : ¬ (40 ≤ i7) := fun q9 => c12 ((nI_leI (a := 40) (b := i7) (by omega) (by omega)).mpr q9)
              refine lv_lload_n hx hb dX5_tangled_25 rfl (lv_at hl 3 rfl) ?_
              refine lv_iload hx hb dX5_tangled_26 (lv_at hl 0 rfl) ?_
              have hFc := mw_free hD hS hA
              refine va_calli (va_runSN (As := [.long y5, .int (nI i7)]) (rest := []) ⟨hx, hb, hml, hown, hts⟩ (c_x_holds l dC dI h a e cI cJ cO cE L I M J n cap fE sd si sa dl (b) y5 (nI i7) H.size hX (by omega) ) ⟨va_cnB 2 hts wc_x_tangled_x_holds_19 rfl rfl rfl (hN (.methodLinkNest RX5 19 yX8_holds "ServiceTree") (by decide +kernel)) (hts (.initialized RX8) (by decide +kernel)) (by decide +kernel) ⟨Nat.le_of_ble_eq_true rfl, Nat.le_of_ble_eq_true rfl⟩, hts (.static yX8_holds) (by decide +kernel), trivial⟩ ⟨fun a9 U g mk q => by obtain ⟨q0, q1, qP, qK, qD, qN⟩ := q; exact ⟨q0, q1, qP, va_K.moved (u := U) (U := U.calling g mk a9) (Vm.Alike.refl U.vm) qK, qD, pw_N.same (u := U) (U := U.calling g mk a9) rfl qN⟩, fun U hU hW => ⟨rfl, by rw [hU], by rw [hU]; exact hP, va_K.moved hW.alike hK, hD.weaken (fun _ _ _ _ => trivial), pw_N.warm hW hN⟩⟩ rfl rfl hl.1 rfl (lv_room (Nat.le_of_ble_eq_true rfl)) dX5_tangled_28 ⟨Nat.le_of_ble_eq_true rfl, Nat.le_of_ble_eq_true rfl⟩) hS (fun q _ h => hFc q h) hFc (fun r15 u t H1 locs ht hvm hw hB hz1 hk1 hS => ?_)
              replace hP := hB.1
              rw [ht] at hP
              replace hD : va_D A (xW h a e cI cJ cO cE L I M J n cap fE sd si sa dl) := hB.2.weaken (fun _ q _ h9 => hFc q.1 h9)
              clear hB
              generalize H1 = H at hP hS ⊢
              replace hP : va_P (dC, dI) vwCl (xW h a e cI cJ cO cE L I M J n cap fE sd si sa dl) H := hP
              have br15 := hw
              refine lv_if_eq (tgt := 57) hx hb dX5_tangled_31 (by decide) (fun c16 => ?_) (fun c16 => ?_)
              · refine lv_iinc (v := (nI (i7 + 1))) (lv' := [(8, .int (nI (i7 + 1))), (6, .long y11), (5, .int (nI i1)), (3, .long y5), (0, .ref (a 1)), (1, .long p0)]) hx hb dX5_tangled_57 hl (k := 0) rfl (nI_add i7 1) (by decide) rfl (fun ls hl => ?_)
                refine lv_goto (tgt := 18) hx hb dX5_tangled_60 (by decide) ?_
                exact ih9 (i7 + 1) y11  _ _ _ (by omega) (by omega)  hP hD hS (lv_sub hl [0, 1, 2, 3, 4, 5] rfl)
              · refine lv_aload_n hx hb dX5_tangled_34 rfl (lv_at hl 4 rfl) ?_
                refine lv_iload hx hb dX5_tangled_35 (lv_at hl 0 rfl) ?_
                have hFc := mw_free hD hS hA
                refine va_calll (va_runV (As := [.int (nI i7)]) (rest := []) ⟨hx, hb, hml, hown, hts⟩ (c_x_after l dC dI h a e cI cJ cO cE L I M J n cap fE sd si sa dl (b) i7 H.size hX (by omega) (by omega)) (cwV 1 hts wc_x_tangled_x_after_44 rfl rfl rfl (by decide +kernel) ⟨Nat.le_of_ble_eq_true rfl, Nat.le_of_ble_eq_true rfl⟩) ⟨fun a9 U g mk q => by obtain ⟨q0, q1, qP, qK, qD, qN⟩ := q; exact ⟨q0, q1, qP, va_K.moved (u := U) (U := U.calling g mk a9) (Vm.Alike.refl U.vm) qK, qD, pw_N.same (u := U) (U := U.calling g mk a9) rfl qN⟩, va_recv hK hP (ci := 6) (q0 := 2) rfl rfl, fun U hU hW => ⟨rfl, by rw [hU], by rw [hU]; exact hP, va_K.moved hW.alike hK, hD.weaken (fun _ _ _ _ => trivial), pw_N.warm hW hN⟩⟩ rfl rfl hl.1 rfl (lv_room (Nat.le_of_ble_eq_true rfl)) dX5_tangled_37 ⟨Nat.le_of_ble_eq_true rfl, Nat.le_of_ble_eq_true rfl⟩) hS (fun q _ h => hFc q h) hFc (fun r17 u t H1 locs ht hvm hw hB hz1 hk1 hS => ?_)
                replace hP := hB.1
                rw [ht] at hP
                replace hD : va_D A (xW h a e cI cJ cO cE L I M J n cap fE sd si sa dl) := hB.2.weaken (fun _ q _ h9 => hFc q.1 h9)
                clear hB
                generalize H1 = H at hP hS ⊢
                replace hP : va_P (dC, dI) vwCl (xW h a e cI cJ cO cE L I M J n cap fE sd si sa dl) H := hP
                refine lv_lload_n hx hb dX5_tangled_40 rfl (lv_at hl 3 rfl) ?_
                refine lv_land hx hb dX5_tangled_41 ?_
                refine lv_topl (fun x18 ex18 => ?_)
                refine lv_lconst (v := 0) hx hb dX5_tangled_42 (by decide) ?_
                refine W.lcmp hx hb dX5_tangled_43 ?_
                refine lv_topi (fun x19 ex19 => ?_)
                refine lv_if_eq (tgt := 57) hx hb dX5_tangled_44 (by decide) (fun c20 => ?_) (fun c20 => ?_)
                · refine lv_iinc (v := (nI (i7 + 1))) (lv' := [(8, .int (nI (i7 + 1))), (6, .long y11), (5, .int (nI i1)), (3, .long y5), (0, .ref (a 1)), (1, .long p0)]) hx hb dX5_tangled_57 hl (k := 0) rfl (nI_add i7 1) (by decide) rfl (fun ls hl => ?_)
                  refine lv_goto (tgt := 18) hx hb dX5_tangled_60 (by decide) ?_
                  exact ih9 (i7 + 1) y11  _ _ _ (by omega) (by omega)  hP hD hS (lv_sub hl [0, 1, 2, 3, 4, 5] rfl)
                · refine lv_lload hx hb dX5_tangled_47 (lv_at hl 1 rfl) ?_
                  refine lv_iload hx hb dX5_tangled_49 (lv_at hl 0 rfl) ?_
                  have hFc := mw_free hD hS hA
                  refine va_calll (va_runSN (As := [.int (nI i7)]) (rest := [.long y11]) ⟨hx, hb, hml, hown, hts⟩ (c_x_only l dC dI h a e cI cJ cO cE L I M J n cap fE sd si sa dl (b) (nI i7) H.size hX (by omega) ) ⟨va_cnB 1 hts wc_x_tangled_x_only_34 rfl rfl rfl (hN (.methodLinkNest RX5 34 yX8_only "ServiceTree") (by decide +kernel)) (hts (.initialized RX8) (by decide +kernel)) (by decide +kernel) ⟨Nat.le_of_ble_eq_true rfl, Nat.le_of_ble_eq_true rfl⟩, hts (.static yX8_only) (by decide +kernel), trivial⟩ ⟨fun a9 U g mk q => by obtain ⟨q0, q1, qP, qK, qD, qN⟩ := q; exact ⟨q0, q1, qP, va_K.moved (u := U) (U := U.calling g mk a9) (Vm.Alike.refl U.vm) qK, qD, pw_N.same (u := U) (U := U.calling g mk a9) rfl qN⟩, fun U hU hW => ⟨rfl, by rw [hU], by rw [hU]; exact hP, va_K.moved hW.alike hK, hD.weaken (fun _ _ _ _ => trivial), pw_N.warm hW hN⟩⟩ rfl rfl hl.1 rfl (lv_room (Nat.le_of_ble_eq_true rfl)) dX5_tangled_51 ⟨Nat.le_of_ble_eq_true rfl, Nat.le_of_ble_eq_true rfl⟩) hS (fun q _ h => hFc q h) hFc (fun r21 u t H1 locs ht hvm hw hB hz1 hk1 hS => ?_)
                  replace hP := hB.1
                  rw [ht] at hP
                  replace hD : va_D A (xW h a e cI cJ cO cE L I M J n cap fE sd si sa dl) := hB.2.weaken (fun _ q _ h9 => hFc q.1 h9)
                  clear hB
                  generalize H1 = H at hP hS ⊢
                  replace hP : va_P (dC, dI) vwCl (xW h a e cI cJ cO cE L I M J n cap fE sd si sa dl) H := hP
                  refine lv_lor hx hb dX5_tangled_54 ?_
                  refine lv_topl (fun x22 ex22 => ?_)
                  refine lv_lstore (lv' := [(6, .long x22), (8, .int (nI i7)), (5, .int (nI i1)), (3, .long y5), (0, .ref (a 1)), (1, .long p0)]) hx hb dX5_tangled_55 hl (by decide) rfl (fun ls hl => ?_)
                  refine lv_iinc (v := (nI (i7 + 1))) (lv' := [(8, .int (nI (i7 + 1))), (6, .long x22), (5, .int (nI i1)), (3, .long y5), (0, .ref (a 1)), (1, .long p0)]) hx hb dX5_tangled_57 hl (k := 1) rfl (nI_add i7 1) (by decide) rfl (fun ls hl => ?_)
                  refine lv_goto (tgt := 18) hx hb dX5_tangled_60 (by decide) ?_
                  exact ih9 (i7 + 1) x22  _ _ _ (by omega) (by omega)  hP hD hS (lv_sub hl [0, 1, 2, 3, 4, 5] rfl)
        exact lp10 (40 + 1) 0 0  _ _ _ (by omega) (by omega)  hP hD hS hl
  exact lp4 (40 + 1) 0 p0  _ _ _ (by omega) (by omega)  hP hD hS hl
def wq_x_ringThrough : List Cond := [.code yX5_ringThrough cX5_ringThrough 11 (some .int), .initialized RX8, .static yX8_holds, .fieldLink RX5 11 "ServiceTree$Relations" "froms" "[[J", .constantLong RX5 38 (-1), .methodLink RX5 44 yX5_after, .instanceMethod yX5_after, .selects RX5 yX5_after yX5_after, .initialized RX5, .methodLink RX5 40 yX5_union, .static yX5_union] ++ (wsX50 ++ (wq_x_after ++ (wq_x_holds ++ (wq_x_union0 ++ (wq_x_union2)))))
theorem in_x_ringThrough_X5 : ∀ w ∈ wsX50, w ∈ wq_x_ringThrough := fun _ h => List.mem_append_right _ (List.mem_append_left _ (h))
set_option maxRecDepth 20000 in
theorem wi_x_ringThrough : ∀ w ∈ wq_x_ringThrough, w ∈ lw_tbl := List.forall_mem_append.mpr ⟨(by decide +kernel), List.forall_mem_append.mpr ⟨inKX5, List.forall_mem_append.mpr ⟨wi_x_after, List.forall_mem_append.mpr ⟨wi_x_holds, List.forall_mem_append.mpr ⟨wi_x_union0, wi_x_union2⟩⟩⟩⟩⟩
set_option maxRecDepth 20000 in
theorem wg_x_ringThrough : GoodIn wq_x_ringThrough wq_x_ringThrough := goodIn_sub (fun _ h => h) (by decide +kernel)
set_option maxRecDepth 20000 in
theorem wc_x_ringThrough_x_after_44 : GoodIn wq_x_ringThrough (wsV RX5 44 RX5 yX5_after wq_x_after) := goodIn_app (goodIn_of _ (by decide +kernel)) (fun w h => ⟨List.mem_append_right _ (List.mem_append_right _ (List.mem_append_left _ (h))), (wg_x_after w h).2⟩)
theorem wc_x_ringThrough_x_holds_19 : GoodIn wq_x_ringThrough wq_x_holds := (fun w h => ⟨List.mem_append_right _ (List.mem_append_right _ (List.mem_append_right _ (List.mem_append_left _ (h)))), (wg_x_holds w h).2⟩)
set_option maxRecDepth 20000 in
theorem wc_x_ringThrough_x_union0_40 : GoodIn wq_x_ringThrough (va_wsS RX5 40 yX5_union wq_x_union0) := goodIn_app (goodIn_of _ (by decide +kernel)) (fun w h => ⟨List.mem_append_right _ (List.mem_append_right _ (List.mem_append_right _ (List.mem_append_right _ (List.mem_append_left _ (h))))), (wg_x_union0 w h).2⟩)
set_option maxRecDepth 20000 in
theorem wc_x_ringThrough_x_union2_40 : GoodIn wq_x_ringThrough (va_wsS RX5 40 yX5_union wq_x_union2) := goodIn_app (goodIn_of _ (by decide +kernel)) (fun w h => ⟨List.mem_append_right _ (List.mem_append_right _ (List.mem_append_right _ (List.mem_append_right _ (List.mem_append_right _ (h))))), (wg_x_union2 w h).2⟩)
def rm_x_ringThrough : Room := { frames := 2, cells := 0, slots := 0, locals := 47 }
set_option maxHeartbeats 4000000 in
set_option maxRecDepth 100000 in
theorem c_x_ringThrough (l : Launch) (dC : Nat → ClassId) (dI : Nat → Nat → Nat) (h : Nat) (a : Nat → Nat) (e : Nat) (cI cJ cO cE : ClassId) (L : Nat → Int64) (I : Nat → Int32) (M : Nat → Nat → Int64) (J : Nat → Nat → Int32) (n cap : Nat) (fE : Nat → Option Nat) (sd : Nat → Nat → Nat) (si : Nat → Nat → Int32) (sa : Nat → Nat → Nat → Int32) (dl : Nat → Nat) (b : Nat) (av : Nat) (p1 : Int64) (sz : Nat) (hX0 : InvX n cap fE sd dl b I J si) (hb0 : b + 0 < 2147483648) (hp0 : av < 40) : Met l yX5_ringThrough wq_x_ringThrough rm_x_ringThrough (va_Pc [.ref (a 1), .int (nI av), .long p1] (fun U => U.heap.size = sz ∧ va_P (dC, dI) vwCl (xW h a e cI cJ cO cE L I M J n cap fE sd si sa dl) U.heap ∧ va_K (dC, dI) vwCl (xT cI cJ cO cE) U ∧ va_D (fun _ => True) (xW h a e cI cJ cO cE L I M J n cap fE sd si sa dl) ∧ pw_N U)) (va_Qi (fun (r : Int32) (u : Unit) => (True)) (fun (u : Unit) (t : State) => va_P (dC, dI) vwCl (xW h a e cI cJ cO cE L I M J n cap fE sd si sa dl) t.heap ∧ va_D (va_A (xW h a e cI cJ cO cE L I M J n cap fE sd si sa dl) sz) (xW h a e cI cJ cO cE L I M J n cap fE sd si sa dl)) (va_A (xW h a e cI cJ cO cE L I M J n cap fE sd si sa dl) sz)) 0 0 (va_A (xW h a e cI cJ cO cE L I M J n cap fE sd si sa dl) sz) := by
  have hn : n ≤ 40 := hX0.1.1
  have hX := hX0
  refine Met.ofW (cc := cX5_ringThrough) (maxL := 11) (ret := (some .int)) (by decide) rfl ?_
  intro p e9 s m args below meth c s₁ B hml hv
  obtain ⟨rfl, hsz, hP, hK, hD0, hN⟩ := hv
  have hx := B.exec
  have hb := B.bytes
  have hr := B.returns
  have hts := atoms_spec (ws := wq_x_ringThrough) B.pre
  have hown : s.vm.findClass RX5 = some m.cls := findClass_of_methodNamed B.named
  have hlocks := B.notSynchronized
  subst hsz
  have hD := hD0.self (sz := s.heap.size)
  generalize hAe : va_A (xW h a e cI cJ cO cE L I M J n cap fE sd si sa dl) s.heap.size = A at hD ⊢
  have hA : ∀ q : Nat, s.heap.size ≤ q → A q := fun q h => by rw [← hAe]; exact Or.inr h
  have hS : va_S A s.heap s.heap [] := va_S.rf
  have hl := lv_entry ([.ref (a 1), .int (nI av), .long p1]) (n := 11) (Nat.le_of_ble_eq_true rfl)
  rw [lg_entry_eq]
  generalize (lg_sl ([.ref (a 1), .int (nI av), .long p1]) ++ List.replicate (11 - (lg_sl ([.ref (a 1), .int (nI av), .long p1])).length) Slot.unset).toArray = ls at hl ⊢
  have hl : lv_has ls 11 [(0, .ref (a 1)), (1, .int (nI av)), (2, .long p1)] := hl
  refine mw_Q (fun Q0 hQ => ?_)
  refine lv_lconst (v := 0) hx hb dX5_ringThrough_0 (by decide) ?_
  refine lv_lstore (lv' := [(4, .long 0), (0, .ref (a 1)), (1, .int (nI av)), (2, .long p1)]) hx hb dX5_ringThrough_1 hl (by decide) rfl (fun ls hl => ?_)
  refine lv_aload_n hx hb dX5_ringThrough_3 rfl (lv_at hl 1 rfl) ?_
  refine lv_iload_n hx hb dX5_ringThrough_4 rfl (lv_at hl 2 rfl) ?_
  have hFc := mw_free hD hS hA
  refine va_calll (va_runV (As := [.int (nI av)]) (rest := []) ⟨hx, hb, hml, hown, hts⟩ (c_x_after l dC dI h a e cI cJ cO cE L I M J n cap fE sd si sa dl (b) av s.heap.size hX (by omega) (by omega)) (cwV 1 hts wc_x_ringThrough_x_after_44 rfl rfl rfl (by decide +kernel) ⟨Nat.le_of_ble_eq_true rfl, Nat.le_of_ble_eq_true rfl⟩) ⟨fun a9 U g mk q => by obtain ⟨q0, q1, qP, qK, qD, qN⟩ := q; exact ⟨q0, q1, qP, va_K.moved (u := U) (U := U.calling g mk a9) (Vm.Alike.refl U.vm) qK, qD, pw_N.same (u := U) (U := U.calling g mk a9) rfl qN⟩, va_recv hK hP (ci := 6) (q0 := 2) rfl rfl, fun U hU hW => ⟨rfl, by rw [hU], by rw [hU]; exact hP, va_K.moved hW.alike hK, hD.weaken (fun _ _ _ _ => trivial), pw_N.warm hW hN⟩⟩ rfl rfl hl.1 rfl (lv_room (Nat.le_of_ble_eq_true rfl)) dX5_ringThrough_5 ⟨Nat.le_of_ble_eq_true rfl, Nat.le_of_ble_eq_true rfl⟩) hS (fun q _ h => hFc q h) hFc (fun r1 u t H1 locs ht hvm hw hB hz1 hk1 hS => ?_)
  replace hP := hB.1
  rw [ht] at hP
  replace hD : va_D A (xW h a e cI cJ cO cE L I M J n cap fE sd si sa dl) := hB.2.weaken (fun _ q _ h9 => hFc q.1 h9)
  clear hB
  generalize H1 = H at hP hS ⊢
  replace hP : va_P (dC, dI) vwCl (xW h a e cI cJ cO cE L I M J n cap fE sd si sa dl) H := hP
  refine lv_lload_n hx hb dX5_ringThrough_8 rfl (lv_at hl 3 rfl) ?_
  refine lv_land hx hb dX5_ringThrough_9 ?_
  refine lv_topl (fun x2 ex2 => ?_)
  refine lv_lstore (lv' := [(6, .long x2), (4, .long 0), (0, .ref (a 1)), (1, .int (nI av)), (2, .long p1)]) hx hb dX5_ringThrough_10 hl (by decide) rfl (fun ls hl => ?_)
  refine lv_iconst (v := 1) hx hb dX5_ringThrough_12 (by decide) ?_
  refine lv_istore (lv' := [(8, .int 1), (6, .long x2), (4, .long 0), (0, .ref (a 1)), (1, .int (nI av)), (2, .long p1)]) hx hb dX5_ringThrough_13 hl (by decide) rfl (fun ls hl => ?_)
  have lp6 : ∀ (fu4 i3 : Nat) (y7 : Int64) (y8 : Int64)  (H : Heap) (locs : List Loc) (ls : Array Slot), 41 < i3 + fu4 → i3 ≤ 41 → va_P (dC, dI) vwCl (xW h a e cI cJ cO cE L I M J n cap fE sd si sa dl) H → va_D A (xW h a e cI cJ cO cE L I M J n cap fE sd si sa dl) → va_S A s.heap H locs → lv_has ls 11 [(8, .int (nI i3)), (6, .long y7), (4, .long y8), (0, .ref (a 1)), (1, .int (nI av)), (2, .long p1)] → W p l e9 (headSpec wq_x_ringThrough rm_x_ringThrough).room s m ([.ref (a 1), .int (nI av), .long p1] : List Value).toArray below meth c H locs 0 0 Q0 (F0 m 15 ls []) := by
    intro fu4
    induction fu4 with
    | zero =>
      intro i3 y7 y8  H locs ls hf hi
      exact absurd hf (by omega)
    | succ fu4 ih5 =>
      intro i3 y7 y8  H locs ls hfi3 hii3 hP hD hS hl
      refine lv_iload hx hb dX5_ringThrough_15 (lv_at hl 0 rfl) ?_
      refine lv_bipush (v := 40) hx hb dX5_ringThrough_17 (by decide) ?_
      refine lv_icmp_gt (tgt := 92) hx hb dX5_ringThrough_19 (by decide) (fun c9 => ?_) (fun c9 => ?_)
      · replace c9 : 40 < i3 := (nI_ltI (a := 40) (b := i3) (by omega) (by omega)).mp c9
        refine lv_iconst (v := 0) hx hb dX5_ringThrough_92 (by decide) ?_
        rw [hQ]
        exact W.iret (v := 0) hx hb hr (fun t ht hW => ⟨⟨0, (), rfl, trivial, by rw [ht]; exact hP, hD⟩, hS.F ht⟩) hS.2.2 dX5_ringThrough_93
      · replace c9 : ¬ (40 < i3) := fun q9 => c9 ((nI_ltI (a := 40) (b := i3) (by omega) (by omega)).mpr q9)
        refine lv_lload hx hb dX5_ringThrough_22 (lv_at hl 1 rfl) ?_
        refine lv_lconst (v := 0) hx hb dX5_ringThrough_24 (by decide) ?_
        refine W.lcmp hx hb dX5_ringThrough_25 ?_
        refine lv_topi (fun x10 ex10 => ?_)
        refine lv_if_eq (tgt := 92) hx hb dX5_ringThrough_26 (by decide) (fun c11 => ?_) (fun c11 => ?_)
        · refine lv_iconst (v := 0) hx hb dX5_ringThrough_92 (by decide) ?_
          rw [hQ]
          exact W.iret (v := 0) hx hb hr (fun t ht hW => ⟨⟨0, (), rfl, trivial, by rw [ht]; exact hP, hD⟩, hS.F ht⟩) hS.2.2 dX5_ringThrough_93
        · refine lv_lload hx hb dX5_ringThrough_29 (lv_at hl 1 rfl) ?_
          refine lv_iload_n hx hb dX5_ringThrough_31 rfl (lv_at hl 4 rfl) ?_
          have hFc := mw_free hD hS hA
          refine va_calli (va_runSN (As := [.long y7, .int (nI av)]) (rest := []) ⟨hx, hb, hml, hown, hts⟩ (c_x_holds l dC dI h a e cI cJ cO cE L I M J n cap fE sd si sa dl (b) y7 (nI av) H.size hX (by omega) ) ⟨va_cnB 2 hts wc_x_ringThrough_x_holds_19 rfl rfl rfl (hN (.methodLinkNest RX5 19 yX8_holds "ServiceTree") (by decide +kernel)) (hts (.initialized RX8) (by decide +kernel)) (by decide +kernel) ⟨Nat.le_of_ble_eq_true rfl, Nat.le_of_ble_eq_true rfl⟩, hts (.static yX8_holds) (by decide +kernel), trivial⟩ ⟨fun a9 U g mk q => by obtain ⟨q0, q1, qP, qK, qD, qN⟩ := q; exact ⟨q0, q1, qP, va_K.moved (u := U) (U := U.calling g mk a9) (Vm.Alike.refl U.vm) qK, qD, pw_N.same (u := U) (U := U.calling g mk a9) rfl qN⟩, fun U hU hW => ⟨rfl, by rw [hU], by rw [hU]; exact hP, va_K.moved hW.alike hK, hD.weaken (fun _ _ _ _ => trivial), pw_N.warm hW hN⟩⟩ rfl rfl hl.1 rfl (lv_room (Nat.le_of_ble_eq_true rfl)) dX5_ringThrough_32 ⟨Nat.le_of_ble_eq_true rfl, Nat.le_of_ble_eq_true rfl⟩) hS (fun q _ h => hFc q h) hFc (fun r12 u t H1 locs ht hvm hw hB hz1 hk1 hS => ?_)
          replace hP := hB.1
          rw [ht] at hP
          replace hD : va_D A (xW h a e cI cJ cO cE L I M J n cap fE sd si sa dl) := hB.2.weaken (fun _ q _ h9 => hFc q.1 h9)
          clear hB
          generalize H1 = H at hP hS ⊢
          replace hP : va_P (dC, dI) vwCl (xW h a e cI cJ cO cE L I M J n cap fE sd si sa dl) H := hP
          have br12 := hw
          refine lv_if_eq (tgt := 41) hx hb dX5_ringThrough_35 (by decide) (fun c13 => ?_) (fun c13 => ?_)
          · refine lv_lload hx hb dX5_ringThrough_41 (lv_at hl 2 rfl) ?_
            refine lv_lload hx hb dX5_ringThrough_43 (lv_at hl 1 rfl) ?_
            refine lv_lor hx hb dX5_ringThrough_45 ?_
            refine lv_topl (fun x14 ex14 => ?_)
            refine lv_lstore (lv' := [(4, .long x14), (8, .int (nI i3)), (6, .long y7), (0, .ref (a 1)), (1, .int (nI av)), (2, .long p1)]) hx hb dX5_ringThrough_46 hl (by decide) rfl (fun ls hl => ?_)
            refine lv_aload_n hx hb dX5_ringThrough_48 rfl (lv_at hl 3 rfl) ?_
            refine va_get (D := (dC, dI)) (ci := 6) (v := .ref (a 10)) (C := RX5) (T := TX5) (N := 3) hx hb hts in_x_ringThrough_X5 hown hK hP 2 rfl rfl 0 (by decide) (hts (.fieldLink RX5 11 "ServiceTree$Relations" "froms" "[[J") (by decide +kernel)) (fun _ h9 => h9) rfl dX5_ringThrough_49 ?_
            refine lv_iconst (v := 0) hx hb dX5_ringThrough_52 (by decide) ?_
            refine p1_aldA (n := 4) (f := fun i => if i < 4 then some (a (20 + i)) else none) hx hb hK hP 3 2 rfl rfl (vp_in_nI (n := 0) (by omega) (by decide)) dX5_ringThrough_53 ?_
            refine p1_topr (v := .ref (a 20)) rfl ?_
            refine lv_lload hx hb dX5_ringThrough_54 (lv_at hl 2 rfl) ?_
            have hFc := mw_free hD hS hA
            refine va_calll (va_runS (As := [.ref (a 20), .long y7]) (rest := []) ⟨hx, hb, hml, hown, hts⟩ (c_x_union0 l dC dI h a e cI cJ cO cE L I M J n cap fE sd si sa dl (b) y7 H.size hX (by omega) ) (va_cwS 2 hts wc_x_ringThrough_x_union0_40 rfl rfl rfl (by decide +kernel) ⟨Nat.le_of_ble_eq_true rfl, Nat.le_of_ble_eq_true rfl⟩) ⟨fun a9 U g mk q => by obtain ⟨q0, q1, qP, qK, qD, qN⟩ := q; exact ⟨q0, q1, qP, va_K.moved (u := U) (U := U.calling g mk a9) (Vm.Alike.refl U.vm) qK, qD, pw_N.same (u := U) (U := U.calling g mk a9) rfl qN⟩, fun U hU hW => ⟨rfl, by rw [hU], by rw [hU]; exact hP, va_K.moved hW.alike hK, hD.weaken (fun _ _ _ _ => trivial), pw_N.warm hW hN⟩⟩ rfl rfl hl.1 rfl (lv_room (Nat.le_of_ble_eq_true rfl)) dX5_ringThrough_56 ⟨Nat.le_of_ble_eq_true rfl, Nat.le_of_ble_eq_true rfl⟩) hS (fun q _ h => hFc q h) hFc (fun r15 u t H1 locs ht hvm hw hB hz1 hk1 hS => ?_)
            replace hP := hB.1
            rw [ht] at hP
            replace hD : va_D A (xW h a e cI cJ cO cE L I M J n cap fE sd si sa dl) := hB.2.weaken (fun _ q _ h9 => hFc q.1 h9)
            clear hB
            generalize H1 = H at hP hS ⊢
            replace hP : va_P (dC, dI) vwCl (xW h a e cI cJ cO cE L I M J n cap fE sd si sa dl) H := hP
            refine lv_aload_n hx hb dX5_ringThrough_59 rfl (lv_at hl 3 rfl) ?_
            refine va_get (D := (dC, dI)) (ci := 6) (v := .ref (a 10)) (C := RX5) (T := TX5) (N := 3) hx hb hts in_x_ringThrough_X5 hown hK hP 2 rfl rfl 0 (by decide) (hts (.fieldLink RX5 11 "ServiceTree$Relations" "froms" "[[J") (by decide +kernel)) (fun _ h9 => h9) rfl dX5_ringThrough_60 ?_
            refine lv_iconst (v := 2) hx hb dX5_ringThrough_63 (by decide) ?_
            refine p1_aldA (n := 4) (f := fun i => if i < 4 then some (a (20 + i)) else none) hx hb hK hP 3 2 rfl rfl (vp_in_nI (n := 2) (by omega) (by decide)) dX5_ringThrough_64 ?_
            refine p1_topr (v := .ref (a 22)) rfl ?_
            refine lv_lload hx hb dX5_ringThrough_65 (lv_at hl 2 rfl) ?_
            have hFc := mw_free hD hS hA
            refine va_calll (va_runS (As := [.ref (a 22), .long y7]) (rest := [.long r15]) ⟨hx, hb, hml, hown, hts⟩ (c_x_union2 l dC dI h a e cI cJ cO cE L I M J n cap fE sd si sa dl (b) y7 H.size hX (by omega) ) (va_cwS 2 hts wc_x_ringThrough_x_union2_40 rfl rfl rfl (by decide +kernel) ⟨Nat.le_of_ble_eq_true rfl, Nat.le_of_ble_eq_true rfl⟩) ⟨fun a9 U g mk q => by obtain ⟨q0, q1, qP, qK, qD, qN⟩ := q; exact ⟨q0, q1, qP, va_K.moved (u := U) (U := U.calling g mk a9) (Vm.Alike.refl U.vm) qK, qD, pw_N.same (u := U) (U := U.calling g mk a9) rfl qN⟩, fun U hU hW => ⟨rfl, by rw [hU], by rw [hU]; exact hP, va_K.moved hW.alike hK, hD.weaken (fun _ _ _ _ => trivial), pw_N.warm hW hN⟩⟩ rfl rfl hl.1 rfl (lv_room (Nat.le_of_ble_eq_true rfl)) dX5_ringThrough_67 ⟨Nat.le_of_ble_eq_true rfl, Nat.le_of_ble_eq_true rfl⟩) hS (fun q _ h => hFc q h) hFc (fun r16 u t H1 locs ht hvm hw hB hz1 hk1 hS => ?_)
            replace hP := hB.1
            rw [ht] at hP
            replace hD : va_D A (xW h a e cI cJ cO cE L I M J n cap fE sd si sa dl) := hB.2.weaken (fun _ q _ h9 => hFc q.1 h9)
            clear hB
            generalize H1 = H at hP hS ⊢
            replace hP : va_P (dC, dI) vwCl (xW h a e cI cJ cO cE L I M J n cap fE sd si sa dl) H := hP
            refine lv_lor hx hb dX5_ringThrough_70 ?_
            refine lv_topl (fun x17 ex17 => ?_)
            refine lv_lstore (lv' := [(9, .long x17), (4, .long x14), (8, .int (nI i3)), (6, .long y7), (0, .ref (a 1)), (1, .int (nI av)), (2, .long p1)]) hx hb dX5_ringThrough_71 hl (by decide) rfl (fun ls hl => ?_)
            refine lv_lload hx hb dX5_ringThrough_73 (lv_at hl 0 rfl) ?_
            refine lv_lload_n hx hb dX5_ringThrough_75 rfl (lv_at hl 6 rfl) ?_
            refine lv_land hx hb dX5_ringThrough_76 ?_
            refine lv_topl (fun x18 ex18 => ?_)
            refine lv_lload hx hb dX5_ringThrough_77 (lv_at hl 1 rfl) ?_
            refine lv_ldc2 (v := (-1)) hx hb hown (hts (.constantLong RX5 38 (-1)) (by decide +kernel)) dX5_ringThrough_79 ?_
            refine lv_lxor hx hb dX5_ringThrough_82 ?_
            refine lv_topl (fun x19 ex19 => ?_)
            refine lv_land hx hb dX5_ringThrough_83 ?_
            refine lv_topl (fun x20 ex20 => ?_)
            refine lv_lstore (lv' := [(6, .long x20), (9, .long x17), (4, .long x14), (8, .int (nI i3)), (0, .ref (a 1)), (1, .int (nI av)), (2, .long p1)]) hx hb dX5_ringThrough_84 hl (by decide) rfl (fun ls hl => ?_)
            refine lv_iinc (v := (nI (i3 + 1))) (lv' := [(8, .int (nI (i3 + 1))), (6, .long x20), (9, .long x17), (4, .long x14), (0, .ref (a 1)), (1, .int (nI av)), (2, .long p1)]) hx hb dX5_ringThrough_86 hl (k := 3) rfl (nI_add i3 1) (by decide) rfl (fun ls hl => ?_)
            refine lv_goto (tgt := 15) hx hb dX5_ringThrough_89 (by decide) ?_
            exact ih5 (i3 + 1) x20 x14  _ _ _ (by omega) (by omega)  hP hD hS (lv_sub hl [0, 1, 3, 4, 5, 6] rfl)
          · refine lv_iload hx hb dX5_ringThrough_38 (lv_at hl 0 rfl) ?_
            rw [hQ]
            exact W.iret (v := (nI i3)) hx hb hr (fun t ht hW => ⟨⟨(nI i3), (), rfl, trivial, by rw [ht]; exact hP, hD⟩, hS.F ht⟩) hS.2.2 dX5_ringThrough_40
  exact lp6 (41 + 1) 1 x2 0  _ _ _ (by omega) (by omega)  hP hD hS hl
def wq_x_shortestRing : List Cond := [.code yX5_shortestRing cX5_shortestRing 8 (some .int), .initialized RX8, .static yX8_holds, .methodLink RX5 47 yX5_tangled, .instanceMethod yX5_tangled, .selects RX5 yX5_tangled yX5_tangled, .initialized RX5, .methodLink RX5 51 yX5_ringThrough, .instanceMethod yX5_ringThrough, .selects RX5 yX5_ringThrough yX5_ringThrough] ++ (wq_x_tangled ++ (wq_x_holds ++ (wq_x_ringThrough)))
set_option maxRecDepth 20000 in
theorem wi_x_shortestRing : ∀ w ∈ wq_x_shortestRing, w ∈ lw_tbl := List.forall_mem_append.mpr ⟨(by decide +kernel), List.forall_mem_append.mpr ⟨wi_x_tangled, List.forall_mem_append.mpr ⟨wi_x_holds, wi_x_ringThrough⟩⟩⟩
set_option maxRecDepth 20000 in
theorem wg_x_shortestRing : GoodIn wq_x_shortestRing wq_x_shortestRing := goodIn_sub (fun _ h => h) (by decide +kernel)
set_option maxRecDepth 20000 in
theorem wc_x_shortestRing_x_tangled_47 : GoodIn wq_x_shortestRing (wsV RX5 47 RX5 yX5_tangled wq_x_tangled) := goodIn_app (goodIn_of _ (by decide +kernel)) (fun w h => ⟨List.mem_append_right _ (List.mem_append_left _ (h)), (wg_x_tangled w h).2⟩)
theorem wc_x_shortestRing_x_holds_19 : GoodIn wq_x_shortestRing wq_x_holds := (fun w h => ⟨List.mem_append_right _ (List.mem_append_right _ (List.mem_append_left _ (h))), (wg_x_holds w h).2⟩)
set_option maxRecDepth 20000 in
theorem wc_x_shortestRing_x_ringThrough_51 : GoodIn wq_x_shortestRing (wsV RX5 51 RX5 yX5_ringThrough wq_x_ringThrough) := goodIn_app (goodIn_of _ (by decide +kernel)) (fun w h => ⟨List.mem_append_right _ (List.mem_append_right _ (List.mem_append_right _ (h))), (wg_x_ringThrough w h).2⟩)
def rm_x_shortestRing : Room := { frames := 3, cells := 0, slots := 0, locals := 77 }
set_option maxHeartbeats 4000000 in
set_option maxRecDepth 100000 in
theorem c_x_shortestRing (l : Launch) (dC : Nat → ClassId) (dI : Nat → Nat → Nat) (h : Nat) (a : Nat → Nat) (e : Nat) (cI cJ cO cE : ClassId) (L : Nat → Int64) (I : Nat → Int32) (M : Nat → Nat → Int64) (J : Nat → Nat → Int32) (n cap : Nat) (fE : Nat → Option Nat) (sd : Nat → Nat → Nat) (si : Nat → Nat → Int32) (sa : Nat → Nat → Nat → Int32) (dl : Nat → Nat) (b : Nat) (p0 : Int64) (sz : Nat) (hX0 : InvX n cap fE sd dl b I J si) (hb0 : b + 0 < 2147483648)  : Met l yX5_shortestRing wq_x_shortestRing rm_x_shortestRing (va_Pc [.ref (a 1), .long p0] (fun U => U.heap.size = sz ∧ va_P (dC, dI) vwCl (xW h a e cI cJ cO cE L I M J n cap fE sd si sa dl) U.heap ∧ va_K (dC, dI) vwCl (xT cI cJ cO cE) U ∧ va_D (fun _ => True) (xW h a e cI cJ cO cE L I M J n cap fE sd si sa dl) ∧ pw_N U)) (va_Qi (fun (r : Int32) (u : Unit) => (True)) (fun (u : Unit) (t : State) => va_P (dC, dI) vwCl (xW h a e cI cJ cO cE L I M J n cap fE sd si sa dl) t.heap ∧ va_D (va_A (xW h a e cI cJ cO cE L I M J n cap fE sd si sa dl) sz) (xW h a e cI cJ cO cE L I M J n cap fE sd si sa dl)) (va_A (xW h a e cI cJ cO cE L I M J n cap fE sd si sa dl) sz)) 0 0 (va_A (xW h a e cI cJ cO cE L I M J n cap fE sd si sa dl) sz) := by
  have hn : n ≤ 40 := hX0.1.1
  have hX := hX0
  refine Met.ofW (cc := cX5_shortestRing) (maxL := 8) (ret := (some .int)) (by decide) rfl ?_
  intro p e9 s m args below meth c s₁ B hml hv
  obtain ⟨rfl, hsz, hP, hK, hD0, hN⟩ := hv
  have hx := B.exec
  have hb := B.bytes
  have hr := B.returns
  have hts := atoms_spec (ws := wq_x_shortestRing) B.pre
  have hown : s.vm.findClass RX5 = some m.cls := findClass_of_methodNamed B.named
  have hlocks := B.notSynchronized
  subst hsz
  have hD := hD0.self (sz := s.heap.size)
  generalize hAe : va_A (xW h a e cI cJ cO cE L I M J n cap fE sd si sa dl) s.heap.size = A at hD ⊢
  have hA : ∀ q : Nat, s.heap.size ≤ q → A q := fun q h => by rw [← hAe]; exact Or.inr h
  have hS : va_S A s.heap s.heap [] := va_S.rf
  have hl := lv_entry ([.ref (a 1), .long p0]) (n := 8) (Nat.le_of_ble_eq_true rfl)
  rw [lg_entry_eq]
  generalize (lg_sl ([.ref (a 1), .long p0]) ++ List.replicate (8 - (lg_sl ([.ref (a 1), .long p0])).length) Slot.unset).toArray = ls at hl ⊢
  have hl : lv_has ls 8 [(0, .ref (a 1)), (1, .long p0)] := hl
  refine mw_Q (fun Q0 hQ => ?_)
  refine lv_aload_n hx hb dX5_shortestRing_0 rfl (lv_at hl 0 rfl) ?_
  refine lv_lload_n hx hb dX5_shortestRing_1 rfl (lv_at hl 1 rfl) ?_
  have hFc := mw_free hD hS hA
  refine va_calll (va_runV (As := [.long p0]) (rest := []) ⟨hx, hb, hml, hown, hts⟩ (c_x_tangled l dC dI h a e cI cJ cO cE L I M J n cap fE sd si sa dl (b) p0 s.heap.size hX (by omega) ) (cwV 1 hts wc_x_shortestRing_x_tangled_47 rfl rfl rfl (by decide +kernel) ⟨Nat.le_of_ble_eq_true rfl, Nat.le_of_ble_eq_true rfl⟩) ⟨fun a9 U g mk q => by obtain ⟨q0, q1, qP, qK, qD, qN⟩ := q; exact ⟨q0, q1, qP, va_K.moved (u := U) (U := U.calling g mk a9) (Vm.Alike.refl U.vm) qK, qD, pw_N.same (u := U) (U := U.calling g mk a9) rfl qN⟩, va_recv hK hP (ci := 6) (q0 := 2) rfl rfl, fun U hU hW => ⟨rfl, by rw [hU], by rw [hU]; exact hP, va_K.moved hW.alike hK, hD.weaken (fun _ _ _ _ => trivial), pw_N.warm hW hN⟩⟩ rfl rfl hl.1 rfl (lv_room (Nat.le_of_ble_eq_true rfl)) dX5_shortestRing_2 ⟨Nat.le_of_ble_eq_true rfl, Nat.le_of_ble_eq_true rfl⟩) hS (fun q _ h => hFc q h) hFc (fun r1 u t H1 locs ht hvm hw hB hz1 hk1 hS => ?_)
  replace hP := hB.1
  rw [ht] at hP
  replace hD : va_D A (xW h a e cI cJ cO cE L I M J n cap fE sd si sa dl) := hB.2.weaken (fun _ q _ h9 => hFc q.1 h9)
  clear hB
  generalize H1 = H at hP hS ⊢
  replace hP : va_P (dC, dI) vwCl (xW h a e cI cJ cO cE L I M J n cap fE sd si sa dl) H := hP
  refine lv_lstore_n (lv' := [(3, .long r1), (0, .ref (a 1)), (1, .long p0)]) hx hb dX5_shortestRing_5 rfl hl (by decide) rfl (fun ls hl => ?_)
  refine lv_iconst (v := 0) hx hb dX5_shortestRing_6 (by decide) ?_
  refine lv_istore (lv' := [(5, .int 0), (3, .long r1), (0, .ref (a 1)), (1, .long p0)]) hx hb dX5_shortestRing_7 hl (by decide) rfl (fun ls hl => ?_)
  refine lv_iconst (v := 0) hx hb dX5_shortestRing_9 (by decide) ?_
  refine lv_istore (lv' := [(6, .int 0), (5, .int 0), (3, .long r1), (0, .ref (a 1)), (1, .long p0)]) hx hb dX5_shortestRing_10 hl (by decide) rfl (fun ls hl => ?_)
  have lp5 : ∀ (fu3 i2 : Nat) (y6 : Int32)  (H : Heap) (locs : List Loc) (ls : Array Slot), 40 < i2 + fu3 → i2 ≤ 40 → va_P (dC, dI) vwCl (xW h a e cI cJ cO cE L I M J n cap fE sd si sa dl) H → va_D A (xW h a e cI cJ cO cE L I M J n cap fE sd si sa dl) → va_S A s.heap H locs → lv_has ls 8 [(6, .int (nI i2)), (5, .int y6), (3, .long r1), (0, .ref (a 1)), (1, .long p0)] → W p l e9 (headSpec wq_x_shortestRing rm_x_shortestRing).room s m ([.ref (a 1), .long p0] : List Value).toArray below meth c H locs 0 0 Q0 (F0 m 12 ls []) := by
    intro fu3
    induction fu3 with
    | zero =>
      intro i2 y6  H locs ls hf hi
      exact absurd hf (by omega)
    | succ fu3 ih4 =>
      intro i2 y6  H locs ls hfi2 hii2 hP hD hS hl
      refine lv_iload hx hb dX5_shortestRing_12 (lv_at hl 0 rfl) ?_
      refine lv_bipush (v := 40) hx hb dX5_shortestRing_14 (by decide) ?_
      refine lv_icmp_ge (tgt := 68) hx hb dX5_shortestRing_16 (by decide) (fun c7 => ?_) (fun c7 => ?_)
      · replace c7 : 40 ≤ i2 := (nI_leI (a := 40) (b := i2) (by omega) (by omega)).mp c7
        refine lv_iload hx hb dX5_shortestRing_68 (lv_at hl 1 rfl) ?_
        rw [hQ]
        exact W.iret (v := y6) hx hb hr (fun t ht hW => ⟨⟨y6, (), rfl, trivial, by rw [ht]; exact hP, hD⟩, hS.F ht⟩) hS.2.2 dX5_shortestRing_70
      · replace c7 : ¬ (40 ≤ i2) := fun q9 => c7 ((nI_leI (a := 40) (b := i2) (by omega) (by omega)).mpr q9)
        refine lv_lload_n hx hb dX5_shortestRing_19 rfl (lv_at hl 2 rfl) ?_
        refine lv_iload hx hb dX5_shortestRing_20 (lv_at hl 0 rfl) ?_
        have hFc := mw_free hD hS hA
        refine va_calli (va_runSN (As := [.long r1, .int (nI i2)]) (rest := []) ⟨hx, hb, hml, hown, hts⟩ (c_x_holds l dC dI h a e cI cJ cO cE L I M J n cap fE sd si sa dl (b) r1 (nI i2) H.size hX (by omega) ) ⟨va_cnB 2 hts wc_x_shortestRing_x_holds_19 rfl rfl rfl (hN (.methodLinkNest RX5 19 yX8_holds "ServiceTree") (by decide +kernel)) (hts (.initialized RX8) (by decide +kernel)) (by decide +kernel) ⟨Nat.le_of_ble_eq_true rfl, Nat.le_of_ble_eq_true rfl⟩, hts (.static yX8_holds) (by decide +kernel), trivial⟩ ⟨fun a9 U g mk q => by obtain ⟨q0, q1, qP, qK, qD, qN⟩ := q; exact ⟨q0, q1, qP, va_K.moved (u := U) (U := U.calling g mk a9) (Vm.Alike.refl U.vm) qK, qD, pw_N.same (u := U) (U := U.calling g mk a9) rfl qN⟩, fun U hU hW => ⟨rfl, by rw [hU], by rw [hU]; exact hP, va_K.moved hW.alike hK, hD.weaken (fun _ _ _ _ => trivial), pw_N.warm hW hN⟩⟩ rfl rfl hl.1 rfl (lv_room (Nat.le_of_ble_eq_true rfl)) dX5_shortestRing_22 ⟨Nat.le_of_ble_eq_true rfl, Nat.le_of_ble_eq_true rfl⟩) hS (fun q _ h => hFc q h) hFc (fun r8 u t H1 locs ht hvm hw hB hz1 hk1 hS => ?_)
        replace hP := hB.1
        rw [ht] at hP
        replace hD : va_D A (xW h a e cI cJ cO cE L I M J n cap fE sd si sa dl) := hB.2.weaken (fun _ q _ h9 => hFc q.1 h9)
        clear hB
        generalize H1 = H at hP hS ⊢
        replace hP : va_P (dC, dI) vwCl (xW h a e cI cJ cO cE L I M J n cap fE sd si sa dl) H := hP
        have br8 := hw
        refine lv_if_eq (tgt := 38) hx hb dX5_shortestRing_25 (by decide) (fun c9 => ?_) (fun c9 => ?_)
        · refine lv_iconst (v := 0) hx hb dX5_shortestRing_38 (by decide) ?_
          refine lv_istore (lv' := [(7, .int 0), (6, .int (nI i2)), (5, .int y6), (3, .long r1), (0, .ref (a 1)), (1, .long p0)]) hx hb dX5_shortestRing_39 hl (by decide) rfl (fun ls hl => ?_)
          refine lv_iload hx hb dX5_shortestRing_41 (lv_at hl 0 rfl) ?_
          refine lv_if_le (tgt := 62) hx hb dX5_shortestRing_43 (by decide) (fun _ => ?_) (fun c9 => absurd (by decide) c9)
          refine lv_iinc (v := (nI (i2 + 1))) (lv' := [(6, .int (nI (i2 + 1))), (7, .int 0), (5, .int y6), (3, .long r1), (0, .ref (a 1)), (1, .long p0)]) hx hb dX5_shortestRing_62 hl (k := 1) rfl (nI_add i2 1) (by decide) rfl (fun ls hl => ?_)
          refine lv_goto (tgt := 12) hx hb dX5_shortestRing_65 (by decide) ?_
          exact ih4 (i2 + 1) y6  _ _ _ (by omega) (by omega)  hP hD hS (lv_sub hl [0, 2, 3, 4, 5] rfl)
        · refine lv_aload_n hx hb dX5_shortestRing_28 rfl (lv_at hl 3 rfl) ?_
          refine lv_iload hx hb dX5_shortestRing_29 (lv_at hl 0 rfl) ?_
          refine lv_lload_n hx hb dX5_shortestRing_31 rfl (lv_at hl 2 rfl) ?_
          have hFc := mw_free hD hS hA
          refine va_calli (va_runV (As := [.int (nI i2), .long r1]) (rest := []) ⟨hx, hb, hml, hown, hts⟩ (c_x_ringThrough l dC dI h a e cI cJ cO cE L I M J n cap fE sd si sa dl (b) i2 r1 H.size hX (by omega) (by omega)) (cwV 2 hts wc_x_shortestRing_x_ringThrough_51 rfl rfl rfl (by decide +kernel) ⟨Nat.le_of_ble_eq_true rfl, Nat.le_of_ble_eq_true rfl⟩) ⟨fun a9 U g mk q => by obtain ⟨q0, q1, qP, qK, qD, qN⟩ := q; exact ⟨q0, q1, qP, va_K.moved (u := U) (U := U.calling g mk a9) (Vm.Alike.refl U.vm) qK, qD, pw_N.same (u := U) (U := U.calling g mk a9) rfl qN⟩, va_recv hK hP (ci := 6) (q0 := 2) rfl rfl, fun U hU hW => ⟨rfl, by rw [hU], by rw [hU]; exact hP, va_K.moved hW.alike hK, hD.weaken (fun _ _ _ _ => trivial), pw_N.warm hW hN⟩⟩ rfl rfl hl.1 rfl (lv_room (Nat.le_of_ble_eq_true rfl)) dX5_shortestRing_32 ⟨Nat.le_of_ble_eq_true rfl, Nat.le_of_ble_eq_true rfl⟩) hS (fun q _ h => hFc q h) hFc (fun r10 u t H1 locs ht hvm hw hB hz1 hk1 hS => ?_)
          replace hP := hB.1
          rw [ht] at hP
          replace hD : va_D A (xW h a e cI cJ cO cE L I M J n cap fE sd si sa dl) := hB.2.weaken (fun _ q _ h9 => hFc q.1 h9)
          clear hB
          generalize H1 = H at hP hS ⊢
          replace hP : va_P (dC, dI) vwCl (xW h a e cI cJ cO cE L I M J n cap fE sd si sa dl) H := hP
          refine lv_goto (tgt := 39) hx hb dX5_shortestRing_35 (by decide) ?_
          refine lv_istore (lv' := [(7, .int r10), (6, .int (nI i2)), (5, .int y6), (3, .long r1), (0, .ref (a 1)), (1, .long p0)]) hx hb dX5_shortestRing_39 hl (by decide) rfl (fun ls hl => ?_)
          refine lv_iload hx hb dX5_shortestRing_41 (lv_at hl 0 rfl) ?_
          refine lv_if_le (tgt := 62) hx hb dX5_shortestRing_43 (by decide) (fun c11 => ?_) (fun c11 => ?_)
          · refine lv_iinc (v := (nI (i2 + 1))) (lv' := [(6, .int (nI (i2 + 1))), (7, .int r10), (5, .int y6), (3, .long r1), (0, .ref (a 1)), (1, .long p0)]) hx hb dX5_shortestRing_62 hl (k := 1) rfl (nI_add i2 1) (by decide) rfl (fun ls hl => ?_)
            refine lv_goto (tgt := 12) hx hb dX5_shortestRing_65 (by decide) ?_
            exact ih4 (i2 + 1) y6  _ _ _ (by omega) (by omega)  hP hD hS (lv_sub hl [0, 2, 3, 4, 5] rfl)
          · refine lv_iload hx hb dX5_shortestRing_46 (lv_at hl 2 rfl) ?_
            refine lv_if_eq (tgt := 58) hx hb dX5_shortestRing_48 (by decide) (fun c12 => ?_) (fun c12 => ?_)
            · refine lv_iload hx hb dX5_shortestRing_58 (lv_at hl 0 rfl) ?_
              refine lv_istore (lv' := [(5, .int r10), (7, .int r10), (6, .int (nI i2)), (3, .long r1), (0, .ref (a 1)), (1, .long p0)]) hx hb dX5_shortestRing_60 hl (by decide) rfl (fun ls hl => ?_)
              refine lv_iinc (v := (nI (i2 + 1))) (lv' := [(6, .int (nI (i2 + 1))), (5, .int r10), (7, .int r10), (3, .long r1), (0, .ref (a 1)), (1, .long p0)]) hx hb dX5_shortestRing_62 hl (k := 2) rfl (nI_add i2 1) (by decide) rfl (fun ls hl => ?_)
              refine lv_goto (tgt := 12) hx hb dX5_shortestRing_65 (by decide) ?_
              exact ih4 (i2 + 1) r10  _ _ _ (by omega) (by omega)  hP hD hS (lv_sub hl [0, 1, 3, 4, 5] rfl)
            · refine lv_iload hx hb dX5_shortestRing_51 (lv_at hl 0 rfl) ?_
              refine lv_iload hx hb dX5_shortestRing_53 (lv_at hl 2 rfl) ?_
              refine lv_icmp_ge (tgt := 62) hx hb dX5_shortestRing_55 (by decide) (fun c13 => ?_) (fun c13 => ?_)
              · refine lv_iinc (v := (nI (i2 + 1))) (lv' := [(6, .int (nI (i2 + 1))), (7, .int r10), (5, .int y6), (3, .long r1), (0, .ref (a 1)), (1, .long p0)]) hx hb dX5_shortestRing_62 hl (k := 1) rfl (nI_add i2 1) (by decide) rfl (fun ls hl => ?_)
                refine lv_goto (tgt := 12) hx hb dX5_shortestRing_65 (by decide) ?_
                exact ih4 (i2 + 1) y6  _ _ _ (by omega) (by omega)  hP hD hS (lv_sub hl [0, 2, 3, 4, 5] rfl)
              · refine lv_iload hx hb dX5_shortestRing_58 (lv_at hl 0 rfl) ?_
                refine lv_istore (lv' := [(5, .int r10), (7, .int r10), (6, .int (nI i2)), (3, .long r1), (0, .ref (a 1)), (1, .long p0)]) hx hb dX5_shortestRing_60 hl (by decide) rfl (fun ls hl => ?_)
                refine lv_iinc (v := (nI (i2 + 1))) (lv' := [(6, .int (nI (i2 + 1))), (5, .int r10), (7, .int r10), (3, .long r1), (0, .ref (a 1)), (1, .long p0)]) hx hb dX5_shortestRing_62 hl (k := 2) rfl (nI_add i2 1) (by decide) rfl (fun ls hl => ?_)
                refine lv_goto (tgt := 12) hx hb dX5_shortestRing_65 (by decide) ?_
                exact ih4 (i2 + 1) r10  _ _ _ (by omega) (by omega)  hP hD hS (lv_sub hl [0, 1, 3, 4, 5] rfl)
  exact lp5 (40 + 1) 0 0  _ _ _ (by omega) (by omega)  hP hD hS hl
