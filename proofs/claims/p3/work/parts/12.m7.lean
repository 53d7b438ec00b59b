theorem dX9_addNeeds_0 : decode cX9_addNeeds 0 = .ok (.iconst 1, 1) := by decide +kernel
theorem dX9_addNeeds_1 : decode cX9_addNeeds 1 = .ok (.istore_n 2, 1) := by decide +kernel
theorem dX9_addNeeds_2 : decode cX9_addNeeds 2 = .ok (.iload_n 2, 1) := by decide +kernel
theorem dX9_addNeeds_3 : decode cX9_addNeeds 3 = .ok (.ifCond .eq 73, 3) := by decide +kernel
theorem dX9_addNeeds_6 : decode cX9_addNeeds 6 = .ok (.iconst 0, 1) := by decide +kernel
theorem dX9_addNeeds_7 : decode cX9_addNeeds 7 = .ok (.istore_n 2, 1) := by decide +kernel
theorem dX9_addNeeds_8 : decode cX9_addNeeds 8 = .ok (.iconst 0, 1) := by decide +kernel
theorem dX9_addNeeds_9 : decode cX9_addNeeds 9 = .ok (.istore_n 3, 1) := by decide +kernel
theorem dX9_addNeeds_10 : decode cX9_addNeeds 10 = .ok (.iload_n 3, 1) := by decide +kernel
theorem dX9_addNeeds_11 : decode cX9_addNeeds 11 = .ok (.aload_n 0, 1) := by decide +kernel
theorem dX9_addNeeds_12 : decode cX9_addNeeds 12 = .ok (.getfield 126, 3) := by decide +kernel
theorem dX9_addNeeds_15 : decode cX9_addNeeds 15 = .ok (.if_icmp .ge 58, 3) := by decide +kernel
theorem dX9_addNeeds_18 : decode cX9_addNeeds 18 = .ok (.iconst 0, 1) := by decide +kernel
theorem dX9_addNeeds_19 : decode cX9_addNeeds 19 = .ok (.istore 4, 2) := by decide +kernel
theorem dX9_addNeeds_21 : decode cX9_addNeeds 21 = .ok (.iload 4, 2) := by decide +kernel
theorem dX9_addNeeds_23 : decode cX9_addNeeds 23 = .ok (.aload_n 0, 1) := by decide +kernel
theorem dX9_addNeeds_24 : decode cX9_addNeeds 24 = .ok (.getfield 126, 3) := by decide +kernel
theorem dX9_addNeeds_27 : decode cX9_addNeeds 27 = .ok (.if_icmp .ge 40, 3) := by decide +kernel
theorem dX9_addNeeds_30 : decode cX9_addNeeds 30 = .ok (.aload_n 1, 1) := by decide +kernel
theorem dX9_addNeeds_31 : decode cX9_addNeeds 31 = .ok (.iload_n 3, 1) := by decide +kernel
theorem dX9_addNeeds_32 : decode cX9_addNeeds 32 = .ok (.baload, 1) := by decide +kernel
theorem dX9_addNeeds_33 : decode cX9_addNeeds 33 = .ok (.ifCond .eq 28, 3) := by decide +kernel
theorem dX9_addNeeds_36 : decode cX9_addNeeds 36 = .ok (.aload_n 1, 1) := by decide +kernel
theorem dX9_addNeeds_37 : decode cX9_addNeeds 37 = .ok (.iload 4, 2) := by decide +kernel
theorem dX9_addNeeds_39 : decode cX9_addNeeds 39 = .ok (.baload, 1) := by decide +kernel
theorem dX9_addNeeds_40 : decode cX9_addNeeds 40 = .ok (.ifCond .ne 21, 3) := by decide +kernel
theorem dX9_addNeeds_43 : decode cX9_addNeeds 43 = .ok (.aload_n 0, 1) := by decide +kernel
theorem dX9_addNeeds_44 : decode cX9_addNeeds 44 = .ok (.iconst 0, 1) := by decide +kernel
theorem dX9_addNeeds_45 : decode cX9_addNeeds 45 = .ok (.iload_n 3, 1) := by decide +kernel
theorem dX9_addNeeds_46 : decode cX9_addNeeds 46 = .ok (.iload 4, 2) := by decide +kernel
theorem dX9_addNeeds_48 : decode cX9_addNeeds 48 = .ok (.invokevirtual 150, 3) := by decide +kernel
theorem dX9_addNeeds_51 : decode cX9_addNeeds 51 = .ok (.ifCond .eq 10, 3) := by decide +kernel
theorem dX9_addNeeds_54 : decode cX9_addNeeds 54 = .ok (.aload_n 1, 1) := by decide +kernel
theorem dX9_addNeeds_55 : decode cX9_addNeeds 55 = .ok (.iload 4, 2) := by decide +kernel
theorem dX9_addNeeds_57 : decode cX9_addNeeds 57 = .ok (.iconst 1, 1) := by decide +kernel
theorem dX9_addNeeds_58 : decode cX9_addNeeds 58 = .ok (.bastore, 1) := by decide +kernel
theorem dX9_addNeeds_59 : decode cX9_addNeeds 59 = .ok (.iconst 1, 1) := by decide +kernel
theorem dX9_addNeeds_60 : decode cX9_addNeeds 60 = .ok (.istore_n 2, 1) := by decide +kernel
theorem dX9_addNeeds_61 : decode cX9_addNeeds 61 = .ok (.iinc 4 1, 3) := by decide +kernel
theorem dX9_addNeeds_64 : decode cX9_addNeeds 64 = .ok (.goto (-43), 3) := by decide +kernel
theorem dX9_addNeeds_67 : decode cX9_addNeeds 67 = .ok (.iinc 3 1, 3) := by decide +kernel
theorem dX9_addNeeds_70 : decode cX9_addNeeds 70 = .ok (.goto (-60), 3) := by decide +kernel
theorem dX9_addNeeds_73 : decode cX9_addNeeds 73 = .ok (.goto (-71), 3) := by decide +kernel
theorem dX9_addNeeds_76 : decode cX9_addNeeds 76 = .ok (.return_, 1) := by decide +kernel
theorem dX9_addNeeding_0 : decode cX9_addNeeding 0 = .ok (.iconst 1, 1) := by decide +kernel
theorem dX9_addNeeding_1 : decode cX9_addNeeding 1 = .ok (.istore_n 2, 1) := by decide +kernel
theorem dX9_addNeeding_2 : decode cX9_addNeeding 2 = .ok (.iload_n 2, 1) := by decide +kernel
theorem dX9_addNeeding_3 : decode cX9_addNeeding 3 = .ok (.ifCond .eq 97, 3) := by decide +kernel
theorem dX9_addNeeding_6 : decode cX9_addNeeding 6 = .ok (.iconst 0, 1) := by decide +kernel
theorem dX9_addNeeding_7 : decode cX9_addNeeding 7 = .ok (.istore_n 2, 1) := by decide +kernel
theorem dX9_addNeeding_8 : decode cX9_addNeeding 8 = .ok (.iconst 0, 1) := by decide +kernel
theorem dX9_addNeeding_9 : decode cX9_addNeeding 9 = .ok (.istore_n 3, 1) := by decide +kernel
theorem dX9_addNeeding_10 : decode cX9_addNeeding 10 = .ok (.iload_n 3, 1) := by decide +kernel
theorem dX9_addNeeding_11 : decode cX9_addNeeding 11 = .ok (.aload_n 0, 1) := by decide +kernel
theorem dX9_addNeeding_12 : decode cX9_addNeeding 12 = .ok (.getfield 126, 3) := by decide +kernel
theorem dX9_addNeeding_15 : decode cX9_addNeeding 15 = .ok (.if_icmp .ge 82, 3) := by decide +kernel
theorem dX9_addNeeding_18 : decode cX9_addNeeding 18 = .ok (.iconst 0, 1) := by decide +kernel
theorem dX9_addNeeding_19 : decode cX9_addNeeding 19 = .ok (.istore 4, 2) := by decide +kernel
theorem dX9_addNeeding_21 : decode cX9_addNeeding 21 = .ok (.iload 4, 2) := by decide +kernel
theorem dX9_addNeeding_23 : decode cX9_addNeeding 23 = .ok (.aload_n 0, 1) := by decide +kernel
theorem dX9_addNeeding_24 : decode cX9_addNeeding 24 = .ok (.getfield 126, 3) := by decide +kernel
theorem dX9_addNeeding_27 : decode cX9_addNeeding 27 = .ok (.if_icmp .ge 64, 3) := by decide +kernel
theorem dX9_addNeeding_30 : decode cX9_addNeeding 30 = .ok (.aload_n 0, 1) := by decide +kernel
theorem dX9_addNeeding_31 : decode cX9_addNeeding 31 = .ok (.getfield 86, 3) := by decide +kernel
theorem dX9_addNeeding_34 : decode cX9_addNeeding 34 = .ok (.iload_n 3, 1) := by decide +kernel
theorem dX9_addNeeding_35 : decode cX9_addNeeding 35 = .ok (.iaload, 1) := by decide +kernel
theorem dX9_addNeeding_36 : decode cX9_addNeeding 36 = .ok (.iconst 2, 1) := by decide +kernel
theorem dX9_addNeeding_37 : decode cX9_addNeeding 37 = .ok (.if_icmp .eq 48, 3) := by decide +kernel
theorem dX9_addNeeding_40 : decode cX9_addNeeding 40 = .ok (.aload_n 0, 1) := by decide +kernel
theorem dX9_addNeeding_41 : decode cX9_addNeeding 41 = .ok (.iload_n 3, 1) := by decide +kernel
theorem dX9_addNeeding_42 : decode cX9_addNeeding 42 = .ok (.invokevirtual 171, 3) := by decide +kernel
theorem dX9_addNeeding_45 : decode cX9_addNeeding 45 = .ok (.ifCond .eq 40, 3) := by decide +kernel
theorem dX9_addNeeding_48 : decode cX9_addNeeding 48 = .ok (.aload_n 0, 1) := by decide +kernel
theorem dX9_addNeeding_49 : decode cX9_addNeeding 49 = .ok (.iconst 0, 1) := by decide +kernel
theorem dX9_addNeeding_50 : decode cX9_addNeeding 50 = .ok (.iload_n 3, 1) := by decide +kernel
theorem dX9_addNeeding_51 : decode cX9_addNeeding 51 = .ok (.iload 4, 2) := by decide +kernel
theorem dX9_addNeeding_53 : decode cX9_addNeeding 53 = .ok (.invokevirtual 150, 3) := by decide +kernel
theorem dX9_addNeeding_56 : decode cX9_addNeeding 56 = .ok (.ifCond .eq 29, 3) := by decide +kernel
theorem dX9_addNeeding_59 : decode cX9_addNeeding 59 = .ok (.aload_n 0, 1) := by decide +kernel
theorem dX9_addNeeding_60 : decode cX9_addNeeding 60 = .ok (.getfield 86, 3) := by decide +kernel
theorem dX9_addNeeding_63 : decode cX9_addNeeding 63 = .ok (.iload 4, 2) := by decide +kernel
theorem dX9_addNeeding_65 : decode cX9_addNeeding 65 = .ok (.iaload, 1) := by decide +kernel
theorem dX9_addNeeding_66 : decode cX9_addNeeding 66 = .ok (.iconst 2, 1) := by decide +kernel
theorem dX9_addNeeding_67 : decode cX9_addNeeding 67 = .ok (.if_icmp .eq 9, 3) := by decide +kernel
theorem dX9_addNeeding_70 : decode cX9_addNeeding 70 = .ok (.iload 4, 2) := by decide +kernel
theorem dX9_addNeeding_72 : decode cX9_addNeeding 72 = .ok (.iload_n 1, 1) := by decide +kernel
theorem dX9_addNeeding_73 : decode cX9_addNeeding 73 = .ok (.if_icmp .ne 12, 3) := by decide +kernel
theorem dX9_addNeeding_76 : decode cX9_addNeeding 76 = .ok (.aload_n 0, 1) := by decide +kernel
theorem dX9_addNeeding_77 : decode cX9_addNeeding 77 = .ok (.getfield 86, 3) := by decide +kernel
theorem dX9_addNeeding_80 : decode cX9_addNeeding 80 = .ok (.iload_n 3, 1) := by decide +kernel
theorem dX9_addNeeding_81 : decode cX9_addNeeding 81 = .ok (.iconst 2, 1) := by decide +kernel
theorem dX9_addNeeding_82 : decode cX9_addNeeding 82 = .ok (.iastore, 1) := by decide +kernel
theorem dX9_addNeeding_83 : decode cX9_addNeeding 83 = .ok (.iconst 1, 1) := by decide +kernel
theorem dX9_addNeeding_84 : decode cX9_addNeeding 84 = .ok (.istore_n 2, 1) := by decide +kernel
theorem dX9_addNeeding_85 : decode cX9_addNeeding 85 = .ok (.iinc 4 1, 3) := by decide +kernel
theorem dX9_addNeeding_88 : decode cX9_addNeeding 88 = .ok (.goto (-67), 3) := by decide +kernel
theorem dX9_addNeeding_91 : decode cX9_addNeeding 91 = .ok (.iinc 3 1, 3) := by decide +kernel
theorem dX9_addNeeding_94 : decode cX9_addNeeding 94 = .ok (.goto (-84), 3) := by decide +kernel
theorem dX9_addNeeding_97 : decode cX9_addNeeding 97 = .ok (.goto (-95), 3) := by decide +kernel
theorem dX9_addNeeding_100 : decode cX9_addNeeding 100 = .ok (.return_, 1) := by decide +kernel
theorem dX9_members_0 : decode cX9_members 0 = .ok (.iconst 0, 1) := by decide +kernel
theorem dX9_members_1 : decode cX9_members 1 = .ok (.istore_n 2, 1) := by decide +kernel
theorem dX9_members_2 : decode cX9_members 2 = .ok (.iload_n 2, 1) := by decide +kernel
theorem dX9_members_3 : decode cX9_members 3 = .ok (.aload_n 0, 1) := by decide +kernel
theorem dX9_members_4 : decode cX9_members 4 = .ok (.getfield 126, 3) := by decide +kernel
theorem dX9_members_7 : decode cX9_members 7 = .ok (.if_icmp .ge 32, 3) := by decide +kernel
theorem dX9_members_10 : decode cX9_members 10 = .ok (.aload_n 0, 1) := by decide +kernel
theorem dX9_members_11 : decode cX9_members 11 = .ok (.getfield 77, 3) := by decide +kernel
theorem dX9_members_14 : decode cX9_members 14 = .ok (.iload_n 2, 1) := by decide +kernel
theorem dX9_members_15 : decode cX9_members 15 = .ok (.iload_n 2, 1) := by decide +kernel
theorem dX9_members_16 : decode cX9_members 16 = .ok (.iload_n 1, 1) := by decide +kernel
theorem dX9_members_17 : decode cX9_members 17 = .ok (.if_icmp .ne 7, 3) := by decide +kernel
theorem dX9_members_20 : decode cX9_members 20 = .ok (.iconst 1, 1) := by decide +kernel
theorem dX9_members_21 : decode cX9_members 21 = .ok (.goto 4, 3) := by decide +kernel
theorem dX9_members_24 : decode cX9_members 24 = .ok (.iconst 0, 1) := by decide +kernel
theorem dX9_members_25 : decode cX9_members 25 = .ok (.bastore, 1) := by decide +kernel
theorem dX9_members_26 : decode cX9_members 26 = .ok (.aload_n 0, 1) := by decide +kernel
theorem dX9_members_27 : decode cX9_members 27 = .ok (.getfield 83, 3) := by decide +kernel
theorem dX9_members_30 : decode cX9_members 30 = .ok (.iload_n 2, 1) := by decide +kernel
theorem dX9_members_31 : decode cX9_members 31 = .ok (.iconst 0, 1) := by decide +kernel
theorem dX9_members_32 : decode cX9_members 32 = .ok (.bastore, 1) := by decide +kernel
theorem dX9_members_33 : decode cX9_members 33 = .ok (.iinc 2 1, 3) := by decide +kernel
theorem dX9_members_36 : decode cX9_members 36 = .ok (.goto (-34), 3) := by decide +kernel
theorem dX9_members_39 : decode cX9_members 39 = .ok (.aload_n 0, 1) := by decide +kernel
theorem dX9_members_40 : decode cX9_members 40 = .ok (.aload_n 0, 1) := by decide +kernel
theorem dX9_members_41 : decode cX9_members 41 = .ok (.getfield 77, 3) := by decide +kernel
theorem dX9_members_44 : decode cX9_members 44 = .ok (.invokevirtual 174, 3) := by decide +kernel
theorem dX9_members_47 : decode cX9_members 47 = .ok (.return_, 1) := by decide +kernel
theorem dX9_begin_0 : decode cX9_begin 0 = .ok (.iconst 1, 1) := by decide +kernel
theorem dX9_begin_1 : decode cX9_begin 1 = .ok (.istore_n 1, 1) := by decide +kernel
theorem dX9_begin_2 : decode cX9_begin 2 = .ok (.iload_n 1, 1) := by decide +kernel
theorem dX9_begin_3 : decode cX9_begin 3 = .ok (.ifCond .eq 75, 3) := by decide +kernel
theorem dX9_begin_6 : decode cX9_begin 6 = .ok (.aload_n 0, 1) := by decide +kernel
theorem dX9_begin_7 : decode cX9_begin 7 = .ok (.invokevirtual 222, 3) := by decide +kernel
theorem dX9_begin_10 : decode cX9_begin 10 = .ok (.iconst 0, 1) := by decide +kernel
theorem dX9_begin_11 : decode cX9_begin 11 = .ok (.istore_n 2, 1) := by decide +kernel
theorem dX9_begin_12 : decode cX9_begin 12 = .ok (.iload_n 2, 1) := by decide +kernel
theorem dX9_begin_13 : decode cX9_begin 13 = .ok (.aload_n 0, 1) := by decide +kernel
theorem dX9_begin_14 : decode cX9_begin 14 = .ok (.getfield 126, 3) := by decide +kernel
theorem dX9_begin_17 : decode cX9_begin 17 = .ok (.if_icmp .ge 35, 3) := by decide +kernel
theorem dX9_begin_20 : decode cX9_begin 20 = .ok (.aload_n 0, 1) := by decide +kernel
theorem dX9_begin_21 : decode cX9_begin 21 = .ok (.getfield 71, 3) := by decide +kernel
theorem dX9_begin_24 : decode cX9_begin 24 = .ok (.iload_n 2, 1) := by decide +kernel
theorem dX9_begin_25 : decode cX9_begin 25 = .ok (.iaload, 1) := by decide +kernel
theorem dX9_begin_26 : decode cX9_begin 26 = .ok (.ifCond .eq 20, 3) := by decide +kernel
theorem dX9_begin_29 : decode cX9_begin 29 = .ok (.aload_n 0, 1) := by decide +kernel
theorem dX9_begin_30 : decode cX9_begin 30 = .ok (.getfield 74, 3) := by decide +kernel
theorem dX9_begin_33 : decode cX9_begin 33 = .ok (.iload_n 2, 1) := by decide +kernel
theorem dX9_begin_34 : decode cX9_begin 34 = .ok (.baload, 1) := by decide +kernel
theorem dX9_begin_35 : decode cX9_begin 35 = .ok (.ifCond .ne 11, 3) := by decide +kernel
theorem dX9_begin_38 : decode cX9_begin 38 = .ok (.aload_n 0, 1) := by decide +kernel
theorem dX9_begin_39 : decode cX9_begin 39 = .ok (.iload_n 2, 1) := by decide +kernel
theorem dX9_begin_40 : decode cX9_begin 40 = .ok (.invokevirtual 225, 3) := by decide +kernel
theorem dX9_begin_43 : decode cX9_begin 43 = .ok (.ifCond .eq 9, 3) := by decide +kernel
theorem dX9_begin_46 : decode cX9_begin 46 = .ok (.iinc 2 1, 3) := by decide +kernel
theorem dX9_begin_49 : decode cX9_begin 49 = .ok (.goto (-37), 3) := by decide +kernel
theorem dX9_begin_52 : decode cX9_begin 52 = .ok (.iload_n 2, 1) := by decide +kernel
theorem dX9_begin_53 : decode cX9_begin 53 = .ok (.aload_n 0, 1) := by decide +kernel
theorem dX9_begin_54 : decode cX9_begin 54 = .ok (.getfield 126, 3) := by decide +kernel
theorem dX9_begin_57 : decode cX9_begin 57 = .ok (.if_icmp .ge 7, 3) := by decide +kernel
theorem dX9_begin_60 : decode cX9_begin 60 = .ok (.iconst 1, 1) := by decide +kernel
theorem dX9_begin_61 : decode cX9_begin 61 = .ok (.goto 4, 3) := by decide +kernel
theorem dX9_begin_64 : decode cX9_begin 64 = .ok (.iconst 0, 1) := by decide +kernel
theorem dX9_begin_65 : decode cX9_begin 65 = .ok (.istore_n 1, 1) := by decide +kernel
theorem dX9_begin_66 : decode cX9_begin 66 = .ok (.iload_n 1, 1) := by decide +kernel
theorem dX9_begin_67 : decode cX9_begin 67 = .ok (.ifCond .eq 8, 3) := by decide +kernel
theorem dX9_begin_70 : decode cX9_begin 70 = .ok (.aload_n 0, 1) := by decide +kernel
theorem dX9_begin_71 : decode cX9_begin 71 = .ok (.iload_n 2, 1) := by decide +kernel
theorem dX9_begin_72 : decode cX9_begin 72 = .ok (.invokevirtual 228, 3) := by decide +kernel
theorem dX9_begin_75 : decode cX9_begin 75 = .ok (.goto (-73), 3) := by decide +kernel
theorem dX9_begin_78 : decode cX9_begin 78 = .ok (.return_, 1) := by decide +kernel
def wq_m_addNeeds_member : List Cond := [.code yX9_addNeeds cX9_addNeeds 5 none, .fieldLink RX9 126 "ServiceTreeModel" "services" "I", .methodLink RX9 150 yX9_has, .instanceMethod yX9_has, .selects RX9 yX9_has yX9_has, .initialized RX9] ++ (wsX90 ++ (wq_m_has))
theorem in_m_addNeeds_member_X9 : ∀ w ∈ wsX90, w ∈ wq_m_addNeeds_member := fun _ h => List.mem_append_right _ (List.mem_append_left _ (h))
set_option maxRecDepth 20000 in
theorem wi_m_addNeeds_member : ∀ w ∈ wq_m_addNeeds_member, w ∈ lw_tbl := List.forall_mem_append.mpr ⟨(by decide +kernel), List.forall_mem_append.mpr ⟨inKX9, wi_m_has⟩⟩
set_option maxRecDepth 20000 in
theorem wg_m_addNeeds_member : GoodIn wq_m_addNeeds_member wq_m_addNeeds_member := goodIn_sub (fun _ h => h) (by decide +kernel)
set_option maxRecDepth 20000 in
theorem wc_m_addNeeds_member_m_has_150 : GoodIn wq_m_addNeeds_member (wsV RX9 150 RX9 yX9_has wq_m_has) := goodIn_app (goodIn_of _ (by decide +kernel)) (fun w h => ⟨List.mem_append_right _ (List.mem_append_right _ (h)), (wg_m_has w h).2⟩)
def rm_m_addNeeds_member : Room := { frames := 1, cells := 0, slots := 0, locals := 23 }
set_option maxHeartbeats 4000000 in
set_option maxRecDepth 100000 in
theorem c_m_addNeeds_member (l : Launch) (dC : Nat → ClassId) (dI : Nat → Nat → Nat) (h : Nat) (a : Nat → Nat) (k : Nat → ClassId) (F : Nat → Nat → Int32) (V : Nat → Int32) (n b : Nat)  (sz : Nat) (hI0 : InvM n b F V) (hb0 : b + 0 < 2147483648)  : Met l yX9_addNeeds wq_m_addNeeds_member rm_m_addNeeds_member (va_Pc [.ref h, .ref (a 27)] (fun U => U.heap.size = sz ∧ va_P (dC, dI) vwCl (mW h a k F V) U.heap ∧ va_K (dC, dI) vwCl (mT k) U ∧ va_D (fun _ => True) (mW h a k F V))) (va_Qv (fun (u : (Nat → Nat → Int32) × (Nat → Int32)) => StM n (b + 0) F V u.1 u.2 ∧ (∀ j : Nat, j ∉ ([27] : List Nat) → u.1 j = F j) ∧ (∀ j : Nat, j ∉ ([] : List Nat) → u.2 j = V j) ∧ (True)) (fun (u : (Nat → Nat → Int32) × (Nat → Int32)) (t : State) => va_P (dC, dI) vwCl (mW h a k u.1 u.2) t.heap ∧ va_D (va_A (mW h a k F V) sz) (mW h a k u.1 u.2)) (va_A (mW h a k F V) sz)) 0 0 (va_A (mW h a k F V) sz) := by
  have hn : n ≤ 40 := hI0.1
  have hI : StM n b F V F V := StM.rf hI0
  have hU : ∀ j : Nat, j ∉ ([27] : List Nat) → F j = F j := fun _ _ => rfl
  have hV : ∀ j : Nat, j ∉ ([] : List Nat) → V j = V j := fun _ _ => rfl
  refine Met.ofW (cc := cX9_addNeeds) (maxL := 5) (ret := none) (by decide) rfl ?_
  intro p e s m args below meth c s₁ B hml hv
  obtain ⟨rfl, hsz, hP, hK, hD0⟩ := hv
  have hx := B.exec
  have hb := B.bytes
  have hr := B.returns
  have hts := atoms_spec (ws := wq_m_addNeeds_member) B.pre
  have hown : s.vm.findClass RX9 = some m.cls := findClass_of_methodNamed B.named
  have hlocks := B.notSynchronized
  subst hsz
  have hD := hD0.self (sz := s.heap.size)
  generalize hAe : va_A (mW h a k F V) s.heap.size = A at hD ⊢
  have hA : ∀ q : Nat, s.heap.size ≤ q → A q := fun q h => by rw [← hAe]; exact Or.inr h
  have hS : va_S A s.heap s.heap [] := va_S.rf
  have hl := lv_entry ([.ref h, .ref (a 27)]) (n := 5) (Nat.le_of_ble_eq_true rfl)
  rw [lg_entry_eq]
  generalize (lg_sl ([.ref h, .ref (a 27)]) ++ List.replicate (5 - (lg_sl ([.ref h, .ref (a 27)])).length) Slot.unset).toArray = ls at hl ⊢
  have hl : lv_has ls 5 [(0, .ref h), (1, .ref (a 27))] := hl
  refine mw_Q (fun Q0 hQ => ?_)
  refine lv_iconst (v := 1) hx hb dX9_addNeeds_0 (by decide) ?_
  refine lv_istore_n (lv' := [(2, .int 1), (0, .ref h), (1, .ref (a 27))]) hx hb dX9_addNeeds_1 rfl hl (by decide) rfl (fun ls hl => ?_)
  have lp4 : ∀ (fu2 i1 : Nat) (y7 : Int32) (F5 : Nat → Nat → Int32) (V6 : Nat → Int32) (H : Heap) (locs : List Loc) (ls : Array Slot), 41 < i1 + fu2 → i1 ≤ 41 → StM n (b) F V F5 V6 → (∀ j : Nat, j ∉ ([27] : List Nat) → F5 j = F j) → (∀ j : Nat, j ∉ ([] : List Nat) → V6 j = V j) → (¬ y7 = 0 → i1 + zc (F5 27) 40 ≤ 40) → va_P (dC, dI) vwCl (mW h a k F5 V6) H → va_D A (mW h a k F5 V6) → va_S A s.heap H locs → lv_has ls 5 [(2, .int y7), (0, .ref h), (1, .ref (a 27))] → W p l e (headSpec wq_m_addNeeds_member rm_m_addNeeds_member).room s m ([.ref h, .ref (a 27)] : List Value).toArray below meth c H locs 0 0 Q0 (F0 m 2 ls []) := by
    intro fu2
    induction fu2 with
    | zero =>
      intro i1 y7 F5 V6 H locs ls hf hi
      exact absurd hf (by omega)
    | succ fu2 ih3 =>
      intro i1 y7 F5 V6 H locs ls hfi1 hii1 hI hU hV hEi1 hP hD hS hl
      refine lv_iload_n hx hb dX9_addNeeds_2 rfl (lv_at hl 0 rfl) ?_
      refine lv_if_eq (tgt := 76) hx hb dX9_addNeeds_3 (by decide) (fun c8 => ?_) (fun c8 => ?_)
      · rw [hQ]
        exact W.vret hx hb hr (fun t ht hW => ⟨⟨(F5, V6), rfl, ⟨hI.mono (by omega), hU, hV, trivial⟩, by rw [ht]; exact hP, hD⟩, hS.F ht⟩) hS.2.2 dX9_addNeeds_76
      · have hz0 := hEi1 c8
        refine lv_iconst (v := 0) hx hb dX9_addNeeds_6 (by decide) ?_
        refine lv_istore_n (lv' := [(2, .int 0), (0, .ref h), (1, .ref (a 27))]) hx hb dX9_addNeeds_7 rfl hl (by decide) rfl (fun ls hl => ?_)
        refine lv_iconst (v := 0) hx hb dX9_addNeeds_8 (by decide) ?_
        refine lv_istore_n (lv' := [(3, .int 0), (2, .int 0), (0, .ref h), (1, .ref (a 27))]) hx hb dX9_addNeeds_9 rfl hl (by decide) rfl (fun ls hl => ?_)
        have lp12 : ∀ (fu10 i9 : Nat) (y15 : Int32) (F13 : Nat → Nat → Int32) (V14 : Nat → Int32) (H : Heap) (locs : List Loc) (ls : Array Slot), n < i9 + fu10 → i9 ≤ n → StM n (b) F V F13 V14 → (∀ j : Nat, j ∉ ([27] : List Nat) → F13 j = F j) → (∀ j : Nat, j ∉ ([] : List Nat) → V14 j = V j) → zc (F13 27) 40 ≤ zc (F5 27) 40 → (¬ y15 = 0 → zc (F13 27) 40 < zc (F5 27) 40) → va_P (dC, dI) vwCl (mW h a k F13 V14) H → va_D A (mW h a k F13 V14) → va_S A s.heap H locs → lv_has ls 5 [(3, .int (nI i9)), (2, .int y15), (0, .ref h), (1, .ref (a 27))] → W p l e (headSpec wq_m_addNeeds_member rm_m_addNeeds_member).room s m ([.ref h, .ref (a 27)] : List Value).toArray below meth c H locs 0 0 Q0 (F0 m 10 ls []) := by
          intro fu10
          induction fu10 with
          | zero =>
            intro i9 y15 F13 V14 H locs ls hf hi
            exact absurd hf (by omega)
          | succ fu10 ih11 =>
            intro i9 y15 F13 V14 H locs ls hfi9 hii9 hI hU hV hzi9 hgi9 hP hD hS hl
            refine lv_iload_n hx hb dX9_addNeeds_10 rfl (lv_at hl 0 rfl) ?_
            refine lv_aload_n hx hb dX9_addNeeds_11 rfl (lv_at hl 2 rfl) ?_
            refine va_get (D := (dC, dI)) (ci := 10) (v := .int (V14 21)) (C := RX9) (T := TX9) (N := 46) hx hb hts in_m_addNeeds_member_X9 hown hK hP 0 rfl rfl 21 (by decide) (hts (.fieldLink RX9 126 "ServiceTreeModel" "services" "I") (by decide +kernel)) (fun _ h9 => h9) rfl dX9_addNeeds_12 ?_
            refine p1_topr (v := .int (nI n)) (congrArg Value.int hI.1.2.1) ?_
            refine lv_icmp_ge (tgt := 73) hx hb dX9_addNeeds_15 (by decide) (fun c16 => ?_) (fun c16 => ?_)
            · replace c16 : n ≤ i9 := (nI_leI (a := n) (b := i9) (by omega) (by omega)).mp c16
              refine lv_goto (tgt := 2) hx hb dX9_addNeeds_73 (by decide) ?_
              exact ih3 (i1 + 1) y15 F13 V14 _ _ _ (by omega) (by omega) (hI.mono (by omega)) hU hV (fun q9 => (show i1 + 1 + zc (F13 27) 40 ≤ 40 by have h9 : zc (F13 27) 40 < zc (F5 27) 40 := (show ¬ y15 = 0 → zc (F13 27) 40 < zc (F5 27) 40 by assumption) q9; omega)) hP hD hS (lv_sub hl [1, 2, 3] rfl)
            · replace c16 : ¬ (n ≤ i9) := fun q9 => c16 ((nI_leI (a := n) (b := i9) (by omega) (by omega)).mpr q9)
              refine lv_iconst (v := 0) hx hb dX9_addNeeds_18 (by decide) ?_
              refine lv_istore (lv' := [(4, .int 0), (3, .int (nI i9)), (2, .int y15), (0, .ref h), (1, .ref (a 27))]) hx hb dX9_addNeeds_19 hl (by decide) rfl (fun ls hl => ?_)
              have lp20 : ∀ (fu18 i17 : Nat) (y23 : Int32) (F21 : Nat → Nat → Int32) (V22 : Nat → Int32) (H : Heap) (locs : List Loc) (ls : Array Slot), n < i17 + fu18 → i17 ≤ n → StM n (b) F V F21 V22 → (∀ j : Nat, j ∉ ([27] : List Nat) → F21 j = F j) → (∀ j : Nat, j ∉ ([] : List Nat) → V22 j = V j) → zc (F21 27) 40 ≤ zc (F5 27) 40 → (¬ y23 = 0 → zc (F21 27) 40 < zc (F5 27) 40) → va_P (dC, dI) vwCl (mW h a k F21 V22) H → va_D A (mW h a k F21 V22) → va_S A s.heap H locs → lv_has ls 5 [(4, .int (nI i17)), (3, .int (nI i9)), (2, .int y23), (0, .ref h), (1, .ref (a 27))] → W p l e (headSpec wq_m_addNeeds_member rm_m_addNeeds_member).room s m ([.ref h, .ref (a 27)] : List Value).toArray below meth c H locs 0 0 Q0 (F0 m 21 ls []) := by
                intro fu18
                induction fu18 with
                | zero =>
                  intro i17 y23 F21 V22 H locs ls hf hi
                  exact absurd hf (by omega)
                | succ fu18 ih19 =>
                  intro i17 y23 F21 V22 H locs ls hfi17 hii17 hI hU hV hzi17 hgi17 hP hD hS hl
                  refine lv_iload hx hb dX9_addNeeds_21 (lv_at hl 0 rfl) ?_
                  refine lv_aload_n hx hb dX9_addNeeds_23 rfl (lv_at hl 3 rfl) ?_
                  refine va_get (D := (dC, dI)) (ci := 10) (v := .int (V22 21)) (C := RX9) (T := TX9) (N := 46) hx hb hts in_m_addNeeds_member_X9 hown hK hP 0 rfl rfl 21 (by decide) (hts (.fieldLink RX9 126 "ServiceTreeModel" "services" "I") (by decide +kernel)) (fun _ h9 => h9) rfl dX9_addNeeds_24 ?_
                  refine p1_topr (v := .int (nI n)) (congrArg Value.int hI.1.2.1) ?_
                  refine lv_icmp_ge (tgt := 67) hx hb dX9_addNeeds_27 (by decide) (fun c24 => ?_) (fun c24 => ?_)
                  · replace c24 : n ≤ i17 := (nI_leI (a := n) (b := i17) (by omega) (by omega)).mp c24
                    refine lv_iinc (v := nI (i9 + 1)) (lv' := [(3, .int (nI (i9 + 1))), (4, .int (nI i17)), (2, .int y23), (0, .ref h), (1, .ref (a 27))]) hx hb dX9_addNeeds_67 hl (k := 1) rfl (nI_add i9 1) (by decide) rfl (fun ls hl => ?_)
                    refine lv_goto (tgt := 10) hx hb dX9_addNeeds_70 (by decide) ?_
                    exact ih11 (i9 + 1) y23 F21 V22 _ _ _ (by omega) (by omega) (hI.mono (by omega)) hU hV (show zc (F21 27) 40 ≤ zc (F5 27) 40 by first | assumption | exact Nat.le_refl _) (show ¬ y23 = 0 → zc (F21 27) 40 < zc (F5 27) 40 by assumption) hP hD hS (lv_sub hl [0, 2, 3, 4] rfl)
                  · replace c24 : ¬ (n ≤ i17) := fun q9 => c24 ((nI_leI (a := n) (b := i17) (by omega) (by omega)).mpr q9)
                    refine lv_aload_n hx hb dX9_addNeeds_30 rfl (lv_at hl 4 rfl) ?_
                    refine lv_iload_n hx hb dX9_addNeeds_31 rfl (lv_at hl 1 rfl) ?_
                    refine va_zald (n := 40) (f := F21 27) hx hb hK hP 23 22 rfl rfl (vp_in_nI (n := i9) (by omega) (by decide)) dX9_addNeeds_32 ?_
                    refine lv_topi (fun x25 ex25 => ?_)
                    refine lv_if_eq (tgt := 61) hx hb dX9_addNeeds_33 (by decide) (fun c26 => ?_) (fun c26 => ?_)
                    · refine lv_iinc (v := nI (i17 + 1)) (lv' := [(4, .int (nI (i17 + 1))), (3, .int (nI i9)), (2, .int y23), (0, .ref h), (1, .ref (a 27))]) hx hb dX9_addNeeds_61 hl (k := 0) rfl (nI_add i17 1) (by decide) rfl (fun ls hl => ?_)
                      refine lv_goto (tgt := 21) hx hb dX9_addNeeds_64 (by decide) ?_
                      exact ih19 (i17 + 1) y23 F21 V22 _ _ _ (by omega) (by omega) (hI.mono (by omega)) hU hV (show zc (F21 27) 40 ≤ zc (F5 27) 40 by first | assumption | exact Nat.le_refl _) (show ¬ y23 = 0 → zc (F21 27) 40 < zc (F5 27) 40 by assumption) hP hD hS (lv_sub hl [0, 1, 2, 3, 4] rfl)
                    · refine lv_aload_n hx hb dX9_addNeeds_36 rfl (lv_at hl 4 rfl) ?_
                      refine lv_iload hx hb dX9_addNeeds_37 (lv_at hl 0 rfl) ?_
                      refine va_zald (n := 40) (f := F21 27) hx hb hK hP 23 22 rfl rfl (vp_in_nI (n := i17) (by omega) (by decide)) dX9_addNeeds_39 ?_
                      refine lv_topi (fun x27 ex27 => ?_)
                      refine lv_if_ne (tgt := 61) hx hb dX9_addNeeds_40 (by decide) (fun c28 => ?_) (fun c28 => ?_)
                      · refine lv_iinc (v := nI (i17 + 1)) (lv' := [(4, .int (nI (i17 + 1))), (3, .int (nI i9)), (2, .int y23), (0, .ref h), (1, .ref (a 27))]) hx hb dX9_addNeeds_61 hl (k := 0) rfl (nI_add i17 1) (by decide) rfl (fun ls hl => ?_)
                        refine lv_goto (tgt := 21) hx hb dX9_addNeeds_64 (by decide) ?_
                        exact ih19 (i17 + 1) y23 F21 V22 _ _ _ (by omega) (by omega) (hI.mono (by omega)) hU hV (show zc (F21 27) 40 ≤ zc (F5 27) 40 by first | assumption | exact Nat.le_refl _) (show ¬ y23 = 0 → zc (F21 27) 40 < zc (F5 27) 40 by assumption) hP hD hS (lv_sub hl [0, 1, 2, 3, 4] rfl)
                      · refine lv_aload_n hx hb dX9_addNeeds_43 rfl (lv_at hl 3 rfl) ?_
                        refine lv_iconst (v := 0) hx hb dX9_addNeeds_44 (by decide) ?_
                        refine lv_iload_n hx hb dX9_addNeeds_45 rfl (lv_at hl 1 rfl) ?_
                        refine lv_iload hx hb dX9_addNeeds_46 (lv_at hl 0 rfl) ?_
                        have hFc := mw_free hD hS hA
                        refine va_calli (va_runV (As := [.int 0, .int (nI i9), .int (nI i17)]) (rest := []) ⟨hx, hb, hml, hown, hts⟩ (c_m_has l dC dI h a k F21 V22 n (b) 0 i9 i17 H.size hI.1 (by omega) (by omega) (by omega) (by omega)) (cwV 3 hts wc_m_addNeeds_member_m_has_150 rfl rfl rfl (by decide +kernel) ⟨Nat.le_of_ble_eq_true rfl, Nat.le_of_ble_eq_true rfl⟩) ⟨fun a9 U g mk q => by obtain ⟨q0, q1, qP, qK, qD⟩ := q; exact ⟨q0, q1, qP, va_K.moved (u := U) (U := U.calling g mk a9) (Vm.Alike.refl U.vm) qK, qD⟩, va_recv hK hP (ci := 10) (q0 := 0) rfl rfl, fun U hU hW => ⟨rfl, by rw [hU], by rw [hU]; exact hP, va_K.moved hW.alike hK, hD.weaken (fun _ _ _ _ => trivial)⟩⟩ rfl rfl hl.1 rfl (lv_room (Nat.le_of_ble_eq_true rfl)) dX9_addNeeds_48 ⟨Nat.le_of_ble_eq_true rfl, Nat.le_of_ble_eq_true rfl⟩) hS (fun q _ h => hFc q h) hFc (fun r29 u t H1 locs ht hvm hw hB hz1 hk1 hS => ?_)
                        obtain ⟨F30, V31⟩ := u
                        replace hP := hB.1
                        rw [ht] at hP
                        replace hD : va_D A (mW h a k F30 V31) := hB.2.weaken (fun _ q _ h9 => hFc q.1 h9)
                        clear hB
                        generalize H1 = H at hP hS ⊢
                        replace hP : va_P (dC, dI) vwCl (mW h a k F30 V31) H := hP
                        obtain ⟨hwF, hwV, hw⟩ : F30 = F21 ∧ V31 = V22 ∧ _ := hw
                        rw [hwF, hwV] at hP hD
                        have br29 := hw
                        refine lv_if_eq (tgt := 61) hx hb dX9_addNeeds_51 (by decide) (fun c32 => ?_) (fun c32 => ?_)
                        · refine lv_iinc (v := nI (i17 + 1)) (lv' := [(4, .int (nI (i17 + 1))), (3, .int (nI i9)), (2, .int y23), (0, .ref h), (1, .ref (a 27))]) hx hb dX9_addNeeds_61 hl (k := 0) rfl (nI_add i17 1) (by decide) rfl (fun ls hl => ?_)
                          refine lv_goto (tgt := 21) hx hb dX9_addNeeds_64 (by decide) ?_
                          exact ih19 (i17 + 1) y23 F21 V22 _ _ _ (by omega) (by omega) (hI.mono (by omega)) hU hV (show zc (F21 27) 40 ≤ zc (F5 27) 40 by first | assumption | exact Nat.le_refl _) (show ¬ y23 = 0 → zc (F21 27) 40 < zc (F5 27) 40 by assumption) hP hD hS (lv_sub hl [0, 1, 2, 3, 4] rfl)
                        · refine lv_aload_n hx hb dX9_addNeeds_54 rfl (lv_at hl 4 rfl) ?_
                          refine lv_iload hx hb dX9_addNeeds_55 (lv_at hl 0 rfl) ?_
                          refine lv_iconst (v := 1) hx hb dX9_addNeeds_57 (by decide) ?_
                          refine va_zast (n := 40) (f := F21 27) hx hb hK hP hD hS 23 22 rfl rfl (vp_in_nI (n := i17) (by omega) (by decide)) dX9_addNeeds_58 (fun H locs hP hD hS => ?_)
                          rw [mW_set_27] at hP hD
                          obtain ⟨F33, eF33⟩ : ∃ f9 : Nat → Nat → Int32, f9 = va_up F21 27 (upd (F21 27) (nI i17).toNatClampNeg (vp_nar .boolean 1)) := ⟨_, rfl⟩
                          rw [← eF33] at hP hD
                          replace hI : StM n (b) F V F33 V22 := ⟨by rw [eF33]; exact hI.1.setF (by decide), trivial⟩
                          replace hU : ∀ j : Nat, j ∉ ([27] : List Nat) → F33 j = F j := by rw [eF33]; exact mw_up (by decide) hU
                          have hlt : zc (F33 27) 40 < zc (F21 27) 40 := by rw [eF33, va_up_self]; exact zc_lt (ex27.symm.trans c28) (by decide) 40 (by rw [nI_clamp (by omega)]; omega)
                          refine lv_iconst (v := 1) hx hb dX9_addNeeds_59 (by decide) ?_
                          refine lv_istore_n (lv' := [(2, .int 1), (4, .int (nI i17)), (3, .int (nI i9)), (0, .ref h), (1, .ref (a 27))]) hx hb dX9_addNeeds_60 rfl hl (by decide) rfl (fun ls hl => ?_)
                          refine lv_iinc (v := nI (i17 + 1)) (lv' := [(4, .int (nI (i17 + 1))), (2, .int 1), (3, .int (nI i9)), (0, .ref h), (1, .ref (a 27))]) hx hb dX9_addNeeds_61 hl (k := 1) rfl (nI_add i17 1) (by decide) rfl (fun ls hl => ?_)
                          refine lv_goto (tgt := 21) hx hb dX9_addNeeds_64 (by decide) ?_
                          exact ih19 (i17 + 1) 1 F33 V22 _ _ _ (by omega) (by omega) (hI.mono (by omega)) hU hV (by omega) (fun _ => (show zc (F33 27) 40 < zc (F5 27) 40 by omega)) hP hD hS (lv_sub hl [0, 2, 1, 3, 4] rfl)
              exact lp20 (n + 1) 0 y15 F13 V14 _ _ _ (by omega) (by omega) (hI.mono (by omega)) hU hV (show zc (F13 27) 40 ≤ zc (F5 27) 40 by first | assumption | exact Nat.le_refl _) (show ¬ y15 = 0 → zc (F13 27) 40 < zc (F5 27) 40 by assumption) hP hD hS hl
        exact lp12 (n + 1) 0 0 F5 V6 _ _ _ (by omega) (by omega) (hI.mono (by omega)) hU hV (show zc (F5 27) 40 ≤ zc (F5 27) 40 by first | assumption | exact Nat.le_refl _) (fun q9 => absurd rfl q9) hP hD hS hl
  exact lp4 (41 + 1) 0 1 F V _ _ _ (by omega) (by omega) (hI.mono (by omega)) hU hV (fun _ => (show 0 + zc (F 27) 40 ≤ 40 by have := zc_le (F 27) 40; omega)) hP hD hS hl
def wq_m_addNeeds_more : List Cond := [.code yX9_addNeeds cX9_addNeeds 5 none, .fieldLink RX9 126 "ServiceTreeModel" "services" "I", .methodLink RX9 150 yX9_has, .instanceMethod yX9_has, .selects RX9 yX9_has yX9_has, .initialized RX9] ++ (wsX90 ++ (wq_m_has))
theorem in_m_addNeeds_more_X9 : ∀ w ∈ wsX90, w ∈ wq_m_addNeeds_more := fun _ h => List.mem_append_right _ (List.mem_append_left _ (h))
set_option maxRecDepth 20000 in
theorem wi_m_addNeeds_more : ∀ w ∈ wq_m_addNeeds_more, w ∈ lw_tbl := List.forall_mem_append.mpr ⟨(by decide +kernel), List.forall_mem_append.mpr ⟨inKX9, wi_m_has⟩⟩
set_option maxRecDepth 20000 in
theorem wg_m_addNeeds_more : GoodIn wq_m_addNeeds_more wq_m_addNeeds_more := goodIn_sub (fun _ h => h) (by decide +kernel)
set_option maxRecDepth 20000 in
theorem wc_m_addNeeds_more_m_has_150 : GoodIn wq_m_addNeeds_more (wsV RX9 150 RX9 yX9_has wq_m_has) := goodIn_app (goodIn_of _ (by decide +kernel)) (fun w h => ⟨List.mem_append_right _ (List.mem_append_right _ (h)), (wg_m_has w h).2⟩)
def rm_m_addNeeds_more : Room := { frames := 1, cells := 0, slots := 0, locals := 23 }
set_option maxHeartbeats 4000000 in
set_option maxRecDepth 100000 in
theorem c_m_addNeeds_more (l : Launch) (dC : Nat → ClassId) (dI : Nat → Nat → Nat) (h : Nat) (a : Nat → Nat) (k : Nat → ClassId) (F : Nat → Nat → Int32) (V : Nat → Int32) (n b : Nat)  (sz : Nat) (hI0 : InvM n b F V) (hb0 : b + 0 < 2147483648)  : Met l yX9_addNeeds wq_m_addNeeds_more rm_m_addNeeds_more (va_Pc [.ref h, .ref (a 28)] (fun U => U.heap.size = sz ∧ va_P (dC, dI) vwCl (mW h a k F V) U.heap ∧ va_K (dC, dI) vwCl (mT k) U ∧ va_D (fun _ => True) (mW h a k F V))) (va_Qv (fun (u : (Nat → Nat → Int32) × (Nat → Int32)) => StM n (b + 0) F V u.1 u.2 ∧ (∀ j : Nat, j ∉ ([28] : List Nat) → u.1 j = F j) ∧ (∀ j : Nat, j ∉ ([] : List Nat) → u.2 j = V j) ∧ (True)) (fun (u : (Nat → Nat → Int32) × (Nat → Int32)) (t : State) => va_P (dC, dI) vwCl (mW h a k u.1 u.2) t.heap ∧ va_D (va_A (mW h a k F V) sz) (mW h a k u.1 u.2)) (va_A (mW h a k F V) sz)) 0 0 (va_A (mW h a k F V) sz) := by
  have hn : n ≤ 40 := hI0.1
  have hI : StM n b F V F V := StM.rf hI0
  have hU : ∀ j : Nat, j ∉ ([28] : List Nat) → F j = F j := fun _ _ => rfl
  have hV : ∀ j : Nat, j ∉ ([] : List Nat) → V j = V j := fun _ _ => rfl
  refine Met.ofW (cc := cX9_addNeeds) (maxL := 5) (ret := none) (by decide) rfl ?_
  intro p e s m args below meth c s₁ B hml hv
  obtain ⟨rfl, hsz, hP, hK, hD0⟩ := hv
  have hx := B.exec
  have hb := B.bytes
  have hr := B.returns
  have hts := atoms_spec (ws := wq_m_addNeeds_more) B.pre
  have hown : s.vm.findClass RX9 = some m.cls := findClass_of_methodNamed B.named
  have hlocks := B.notSynchronized
  subst hsz
  have hD := hD0.self (sz := s.heap.size)
  generalize hAe : va_A (mW h a k F V) s.heap.size = A at hD ⊢
  have hA : ∀ q : Nat, s.heap.size ≤ q → A q := fun q h => by rw [← hAe]; exact Or.inr h
  have hS : va_S A s.heap s.heap [] := va_S.rf
  have hl := lv_entry ([.ref h, .ref (a 28)]) (n := 5) (Nat.le_of_ble_eq_true rfl)
  rw [lg_entry_eq]
  generalize (lg_sl ([.ref h, .ref (a 28)]) ++ List.replicate (5 - (lg_sl ([.ref h, .ref (a 28)])).length) Slot.unset).toArray = ls at hl ⊢
  have hl : lv_has ls 5 [(0, .ref h), (1, .ref (a 28))] := hl
  refine mw_Q (fun Q0 hQ => ?_)
  refine lv_iconst (v := 1) hx hb dX9_addNeeds_0 (by decide) ?_
  refine lv_istore_n (lv' := [(2, .int 1), (0, .ref h), (1, .ref (a 28))]) hx hb dX9_addNeeds_1 rfl hl (by decide) rfl (fun ls hl => ?_)
  have lp4 : ∀ (fu2 i1 : Nat) (y7 : Int32) (F5 : Nat → Nat → Int32) (V6 : Nat → Int32) (H : Heap) (locs : List Loc) (ls : Array Slot), 41 < i1 + fu2 → i1 ≤ 41 → StM n (b) F V F5 V6 → (∀ j : Nat, j ∉ ([28] : List Nat) → F5 j = F j) → (∀ j : Nat, j ∉ ([] : List Nat) → V6 j = V j) → (¬ y7 = 0 → i1 + zc (F5 28) 40 ≤ 40) → va_P (dC, dI) vwCl (mW h a k F5 V6) H → va_D A (mW h a k F5 V6) → va_S A s.heap H locs → lv_has ls 5 [(2, .int y7), (0, .ref h), (1, .ref (a 28))] → W p l e (headSpec wq_m_addNeeds_more rm_m_addNeeds_more).room s m ([.ref h, .ref (a 28)] : List Value).toArray below meth c H locs 0 0 Q0 (F0 m 2 ls []) := by
    intro fu2
    induction fu2 with
    | zero =>
      intro i1 y7 F5 V6 H locs ls hf hi
      exact absurd hf (by omega)
    | succ fu2 ih3 =>
      intro i1 y7 F5 V6 H locs ls hfi1 hii1 hI hU hV hEi1 hP hD hS hl
      refine lv_iload_n hx hb dX9_addNeeds_2 rfl (lv_at hl 0 rfl) ?_
      refine lv_if_eq (tgt := 76) hx hb dX9_addNeeds_3 (by decide) (fun c8 => ?_) (fun c8 => ?_)
      · rw [hQ]
        exact W.vret hx hb hr (fun t ht hW => ⟨⟨(F5, V6), rfl, ⟨hI.mono (by omega), hU, hV, trivial⟩, by rw [ht]; exact hP, hD⟩, hS.F ht⟩) hS.2.2 dX9_addNeeds_76
      · have hz0 := hEi1 c8
        refine lv_iconst (v := 0) hx hb dX9_addNeeds_6 (by decide) ?_
        refine lv_istore_n (lv' := [(2, .int 0), (0, .ref h), (1, .ref (a 28))]) hx hb dX9_addNeeds_7 rfl hl (by decide) rfl (fun ls hl => ?_)
        refine lv_iconst (v := 0) hx hb dX9_addNeeds_8 (by decide) ?_
        refine lv_istore_n (lv' := [(3, .int 0), (2, .int 0), (0, .ref h), (1, .ref (a 28))]) hx hb dX9_addNeeds_9 rfl hl (by decide) rfl (fun ls hl => ?_)
        have lp12 : ∀ (fu10 i9 : Nat) (y15 : Int32) (F13 : Nat → Nat → Int32) (V14 : Nat → Int32) (H : Heap) (locs : List Loc) (ls : Array Slot), n < i9 + fu10 → i9 ≤ n → StM n (b) F V F13 V14 → (∀ j : Nat, j ∉ ([28] : List Nat) → F13 j = F j) → (∀ j : Nat, j ∉ ([] : List Nat) → V14 j = V j) → zc (F13 28) 40 ≤ zc (F5 28) 40 → (¬ y15 = 0 → zc (F13 28) 40 < zc (F5 28) 40) → va_P (dC, dI) vwCl (mW h a k F13 V14) H → va_D A (mW h a k F13 V14) → va_S A s.heap H locs → lv_has ls 5 [(3, .int (nI i9)), (2, .int y15), (0, .ref h), (1, .ref (a 28))] → W p l e (headSpec wq_m_addNeeds_more rm_m_addNeeds_more).room s m ([.ref h, .ref (a 28)] : List Value).toArray below meth c H locs 0 0 Q0 (F0 m 10 ls []) := by
          intro fu10
          induction fu10 with
          | zero =>
            intro i9 y15 F13 V14 H locs ls hf hi
            exact absurd hf (by omega)
          | succ fu10 ih11 =>
            intro i9 y15 F13 V14 H locs ls hfi9 hii9 hI hU hV hzi9 hgi9 hP hD hS hl
            refine lv_iload_n hx hb dX9_addNeeds_10 rfl (lv_at hl 0 rfl) ?_
            refine lv_aload_n hx hb dX9_addNeeds_11 rfl (lv_at hl 2 rfl) ?_
            refine va_get (D := (dC, dI)) (ci := 10) (v := .int (V14 21)) (C := RX9) (T := TX9) (N := 46) hx hb hts in_m_addNeeds_more_X9 hown hK hP 0 rfl rfl 21 (by decide) (hts (.fieldLink RX9 126 "ServiceTreeModel" "services" "I") (by decide +kernel)) (fun _ h9 => h9) rfl dX9_addNeeds_12 ?_
            refine p1_topr (v := .int (nI n)) (congrArg Value.int hI.1.2.1) ?_
            refine lv_icmp_ge (tgt := 73) hx hb dX9_addNeeds_15 (by decide) (fun c16 => ?_) (fun c16 => ?_)
            · replace c16 : n ≤ i9 := (nI_leI (a := n) (b := i9) (by omega) (by omega)).mp c16
              refine lv_goto (tgt := 2) hx hb dX9_addNeeds_73 (by decide) ?_
              exact ih3 (i1 + 1) y15 F13 V14 _ _ _ (by omega) (by omega) (hI.mono (by omega)) hU hV (fun q9 => (show i1 + 1 + zc (F13 28) 40 ≤ 40 by have h9 : zc (F13 28) 40 < zc (F5 28) 40 := (show ¬ y15 = 0 → zc (F13 28) 40 < zc (F5 28) 40 by assumption) q9; omega)) hP hD hS (lv_sub hl [1, 2, 3] rfl)
            · replace c16 : ¬ (n ≤ i9) := fun q9 => c16 ((nI_leI (a := n) (b := i9) (by omega) (by omega)).mpr q9)
              refine lv_iconst (v := 0) hx hb dX9_addNeeds_18 (by decide) ?_
              refine lv_istore (lv' := [(4, .int 0), (3, .int (nI i9)), (2, .int y15), (0, .ref h), (1, .ref (a 28))]) hx hb dX9_addNeeds_19 hl (by decide) rfl (fun ls hl => ?_)
              have lp20 : ∀ (fu18 i17 : Nat) (y23 : Int32) (F21 : Nat → Nat → Int32) (V22 : Nat → Int32) (H : Heap) (locs : List Loc) (ls : Array Slot), n < i17 + fu18 → i17 ≤ n → StM n (b) F V F21 V22 → (∀ j : Nat, j ∉ ([28] : List Nat) → F21 j = F j) → (∀ j : Nat, j ∉ ([] : List Nat) → V22 j = V j) → zc (F21 28) 40 ≤ zc (F5 28) 40 → (¬ y23 = 0 → zc (F21 28) 40 < zc (F5 28) 40) → va_P (dC, dI) vwCl (mW h a k F21 V22) H → va_D A (mW h a k F21 V22) → va_S A s.heap H locs → lv_has ls 5 [(4, .int (nI i17)), (3, .int (nI i9)), (2, .int y23), (0, .ref h), (1, .ref (a 28))] → W p l e (headSpec wq_m_addNeeds_more rm_m_addNeeds_more).room s m ([.ref h, .ref (a 28)] : List Value).toArray below meth c H locs 0 0 Q0 (F0 m 21 ls []) := by
                intro fu18
                induction fu18 with
                | zero =>
                  intro i17 y23 F21 V22 H locs ls hf hi
                  exact absurd hf (by omega)
                | succ fu18 ih19 =>
                  intro i17 y23 F21 V22 H locs ls hfi17 hii17 hI hU hV hzi17 hgi17 hP hD hS hl
                  refine lv_iload hx hb dX9_addNeeds_21 (lv_at hl 0 rfl) ?_
                  refine lv_aload_n hx hb dX9_addNeeds_23 rfl (lv_at hl 3 rfl) ?_
                  refine va_get (D := (dC, dI)) (ci := 10) (v := .int (V22 21)) (C := RX9) (T := TX9) (N := 46) hx hb hts in_m_addNeeds_more_X9 hown hK hP 0 rfl rfl 21 (by decide) (hts (.fieldLink RX9 126 "ServiceTreeModel" "services" "I") (by decide +kernel)) (fun _ h9 => h9) rfl dX9_addNeeds_24 ?_
                  refine p1_topr (v := .int (nI n)) (congrArg Value.int hI.1.2.1) ?_
                  refine lv_icmp_ge (tgt := 67) hx hb dX9_addNeeds_27 (by decide) (fun c24 => ?_) (fun c24 => ?_)
                  · replace c24 : n ≤ i17 := (nI_leI (a := n) (b := i17) (by omega) (by omega)).mp c24
                    refine lv_iinc (v := nI (i9 + 1)) (lv' := [(3, .int (nI (i9 + 1))), (4, .int (nI i17)), (2, .int y23), (0, .ref h), (1, .ref (a 28))]) hx hb dX9_addNeeds_67 hl (k := 1) rfl (nI_add i9 1) (by decide) rfl (fun ls hl => ?_)
                    refine lv_goto (tgt := 10) hx hb dX9_addNeeds_70 (by decide) ?_
                    exact ih11 (i9 + 1) y23 F21 V22 _ _ _ (by omega) (by omega) (hI.mono (by omega)) hU hV (show zc (F21 28) 40 ≤ zc (F5 28) 40 by first | assumption | exact Nat.le_refl _) (show ¬ y23 = 0 → zc (F21 28) 40 < zc (F5 28) 40 by assumption) hP hD hS (lv_sub hl [0, 2, 3, 4] rfl)
                  · replace c24 : ¬ (n ≤ i17) := fun q9 => c24 ((nI_leI (a := n) (b := i17) (by omega) (by omega)).mpr q9)
                    refine lv_aload_n hx hb dX9_addNeeds_30 rfl (lv_at hl 4 rfl) ?_
                    refine lv_iload_n hx hb dX9_addNeeds_31 rfl (lv_at hl 1 rfl) ?_
                    refine va_zald (n := 40) (f := F21 28) hx hb hK hP 24 23 rfl rfl (vp_in_nI (n := i9) (by omega) (by decide)) dX9_addNeeds_32 ?_
                    refine lv_topi (fun x25 ex25 => ?_)
                    refine lv_if_eq (tgt := 61) hx hb dX9_addNeeds_33 (by decide) (fun c26 => ?_) (fun c26 => ?_)
                    · refine lv_iinc (v := nI (i17 + 1)) (lv' := [(4, .int (nI (i17 + 1))), (3, .int (nI i9)), (2, .int y23), (0, .ref h), (1, .ref (a 28))]) hx hb dX9_addNeeds_61 hl (k := 0) rfl (nI_add i17 1) (by decide) rfl (fun ls hl => ?_)
                      refine lv_goto (tgt := 21) hx hb dX9_addNeeds_64 (by decide) ?_
                      exact ih19 (i17 + 1) y23 F21 V22 _ _ _ (by omega) (by omega) (hI.mono (by omega)) hU hV (show zc (F21 28) 40 ≤ zc (F5 28) 40 by first | assumption | exact Nat.le_refl _) (show ¬ y23 = 0 → zc (F21 28) 40 < zc (F5 28) 40 by assumption) hP hD hS (lv_sub hl [0, 1, 2, 3, 4] rfl)
                    · refine lv_aload_n hx hb dX9_addNeeds_36 rfl (lv_at hl 4 rfl) ?_
                      refine lv_iload hx hb dX9_addNeeds_37 (lv_at hl 0 rfl) ?_
                      refine va_zald (n := 40) (f := F21 28) hx hb hK hP 24 23 rfl rfl (vp_in_nI (n := i17) (by omega) (by decide)) dX9_addNeeds_39 ?_
                      refine lv_topi (fun x27 ex27 => ?_)
                      refine lv_if_ne (tgt := 61) hx hb dX9_addNeeds_40 (by decide) (fun c28 => ?_) (fun c28 => ?_)
                      · refine lv_iinc (v := nI (i17 + 1)) (lv' := [(4, .int (nI (i17 + 1))), (3, .int (nI i9)), (2, .int y23), (0, .ref h), (1, .ref (a 28))]) hx hb dX9_addNeeds_61 hl (k := 0) rfl (nI_add i17 1) (by decide) rfl (fun ls hl => ?_)
                        refine lv_goto (tgt := 21) hx hb dX9_addNeeds_64 (by decide) ?_
                        exact ih19 (i17 + 1) y23 F21 V22 _ _ _ (by omega) (by omega) (hI.mono (by omega)) hU hV (show zc (F21 28) 40 ≤ zc (F5 28) 40 by first | assumption | exact Nat.le_refl _) (show ¬ y23 = 0 → zc (F21 28) 40 < zc (F5 28) 40 by assumption) hP hD hS (lv_sub hl [0, 1, 2, 3, 4] rfl)
                      · refine lv_aload_n hx hb dX9_addNeeds_43 rfl (lv_at hl 3 rfl) ?_
                        refine lv_iconst (v := 0) hx hb dX9_addNeeds_44 (by decide) ?_
                        refine lv_iload_n hx hb dX9_addNeeds_45 rfl (lv_at hl 1 rfl) ?_
                        refine lv_iload hx hb dX9_addNeeds_46 (lv_at hl 0 rfl) ?_
                        have hFc := mw_free hD hS hA
                        refine va_calli (va_runV (As := [.int 0, .int (nI i9), .int (nI i17)]) (rest := []) ⟨hx, hb, hml, hown, hts⟩ (c_m_has l dC dI h a k F21 V22 n (b) 0 i9 i17 H.size hI.1 (by omega) (by omega) (by omega) (by omega)) (cwV 3 hts wc_m_addNeeds_more_m_has_150 rfl rfl rfl (by decide +kernel) ⟨Nat.le_of_ble_eq_true rfl, Nat.le_of_ble_eq_true rfl⟩) ⟨fun a9 U g mk q => by obtain ⟨q0, q1, qP, qK, qD⟩ := q; exact ⟨q0, q1, qP, va_K.moved (u := U) (U := U.calling g mk a9) (Vm.Alike.refl U.vm) qK, qD⟩, va_recv hK hP (ci := 10) (q0 := 0) rfl rfl, fun U hU hW => ⟨rfl, by rw [hU], by rw [hU]; exact hP, va_K.moved hW.alike hK, hD.weaken (fun _ _ _ _ => trivial)⟩⟩ rfl rfl hl.1 rfl (lv_room (Nat.le_of_ble_eq_true rfl)) dX9_addNeeds_48 ⟨Nat.le_of_ble_eq_true rfl, Nat.le_of_ble_eq_true rfl⟩) hS (fun q _ h => hFc q h) hFc (fun r29 u t H1 locs ht hvm hw hB hz1 hk1 hS => ?_)
                        obtain ⟨F30, V31⟩ := u
                        replace hP := hB.1
                        rw [ht] at hP
                        replace hD : va_D A (mW h a k F30 V31) := hB.2.weaken (fun _ q _ h9 => hFc q.1 h9)
                        clear hB
                        generalize H1 = H at hP hS ⊢
                        replace hP : va_P (dC, dI) vwCl (mW h a k F30 V31) H := hP
                        obtain ⟨hwF, hwV, hw⟩ : F30 = F21 ∧ V31 = V22 ∧ _ := hw
                        rw [hwF, hwV] at hP hD
                        have br29 := hw
                        refine lv_if_eq (tgt := 61) hx hb dX9_addNeeds_51 (by decide) (fun c32 => ?_) (fun c32 => ?_)
                        · refine lv_iinc (v := nI (i17 + 1)) (lv' := [(4, .int (nI (i17 + 1))), (3, .int (nI i9)), (2, .int y23), (0, .ref h), (1, .ref (a 28))]) hx hb dX9_addNeeds_61 hl (k := 0) rfl (nI_add i17 1) (by decide) rfl (fun ls hl => ?_)
                          refine lv_goto (tgt := 21) hx hb dX9_addNeeds_64 (by decide) ?_
                          exact ih19 (i17 + 1) y23 F21 V22 _ _ _ (by omega) (by omega) (hI.mono (by omega)) hU hV (show zc (F21 28) 40 ≤ zc (F5 28) 40 by first | assumption | exact Nat.le_refl _) (show ¬ y23 = 0 → zc (F21 28) 40 < zc (F5 28) 40 by assumption) hP hD hS (lv_sub hl [0, 1, 2, 3, 4] rfl)
                        · refine lv_aload_n hx hb dX9_addNeeds_54 rfl (lv_at hl 4 rfl) ?_
                          refine lv_iload hx hb dX9_addNeeds_55 (lv_at hl 0 rfl) ?_
                          refine lv_iconst (v := 1) hx hb dX9_addNeeds_57 (by decide) ?_
                          refine va_zast (n := 40) (f := F21 28) hx hb hK hP hD hS 24 23 rfl rfl (vp_in_nI (n := i17) (by omega) (by decide)) dX9_addNeeds_58 (fun H locs hP hD hS => ?_)
                          rw [mW_set_28] at hP hD
                          obtain ⟨F33, eF33⟩ : ∃ f9 : Nat → Nat → Int32, f9 = va_up F21 28 (upd (F21 28) (nI i17).toNatClampNeg (vp_nar .boolean 1)) := ⟨_, rfl⟩
                          rw [← eF33] at hP hD
                          replace hI : StM n (b) F V F33 V22 := ⟨by rw [eF33]; exact hI.1.setF (by decide), trivial⟩
                          replace hU : ∀ j : Nat, j ∉ ([28] : List Nat) → F33 j = F j := by rw [eF33]; exact mw_up (by decide) hU
                          have hlt : zc (F33 28) 40 < zc (F21 28) 40 := by rw [eF33, va_up_self]; exact zc_lt (ex27.symm.trans c28) (by decide) 40 (by rw [nI_clamp (by omega)]; omega)
                          refine lv_iconst (v := 1) hx hb dX9_addNeeds_59 (by decide) ?_
                          refine lv_istore_n (lv' := [(2, .int 1), (4, .int (nI i17)), (3, .int (nI i9)), (0, .ref h), (1, .ref (a 28))]) hx hb dX9_addNeeds_60 rfl hl (by decide) rfl (fun ls hl => ?_)
                          refine lv_iinc (v := nI (i17 + 1)) (lv' := [(4, .int (nI (i17 + 1))), (2, .int 1), (3, .int (nI i9)), (0, .ref h), (1, .ref (a 28))]) hx hb dX9_addNeeds_61 hl (k := 1) rfl (nI_add i17 1) (by decide) rfl (fun ls hl => ?_)
                          refine lv_goto (tgt := 21) hx hb dX9_addNeeds_64 (by decide) ?_
                          exact ih19 (i17 + 1) 1 F33 V22 _ _ _ (by omega) (by omega) (hI.mono (by omega)) hU hV (by omega) (fun _ => (show zc (F33 28) 40 < zc (F5 28) 40 by omega)) hP hD hS (lv_sub hl [0, 2, 1, 3, 4] rfl)
              exact lp20 (n + 1) 0 y15 F13 V14 _ _ _ (by omega) (by omega) (hI.mono (by omega)) hU hV (show zc (F13 28) 40 ≤ zc (F5 28) 40 by first | assumption | exact Nat.le_refl _) (show ¬ y15 = 0 → zc (F13 28) 40 < zc (F5 28) 40 by assumption) hP hD hS hl
        exact lp12 (n + 1) 0 0 F5 V6 _ _ _ (by omega) (by omega) (hI.mono (by omega)) hU hV (show zc (F5 28) 40 ≤ zc (F5 28) 40 by first | assumption | exact Nat.le_refl _) (fun q9 => absurd rfl q9) hP hD hS hl
  exact lp4 (41 + 1) 0 1 F V _ _ _ (by omega) (by omega) (hI.mono (by omega)) hU hV (fun _ => (show 0 + zc (F 28) 40 ≤ 40 by have := zc_le (F 28) 40; omega)) hP hD hS hl
def wq_m_addNeeding : List Cond := [.code yX9_addNeeding cX9_addNeeding 5 none, .fieldLink RX9 126 "ServiceTreeModel" "services" "I", .fieldLink RX9 86 "ServiceTreeModel" "newJob" "[I", .methodLink RX9 171 yX9_isUpOrWaiting, .instanceMethod yX9_isUpOrWaiting, .selects RX9 yX9_isUpOrWaiting yX9_isUpOrWaiting, .initialized RX9, .methodLink RX9 150 yX9_has, .instanceMethod yX9_has, .selects RX9 yX9_has yX9_has] ++ (wsX90 ++ (wq_m_isUpOrWaiting ++ (wq_m_has)))
theorem in_m_addNeeding_X9 : ∀ w ∈ wsX90, w ∈ wq_m_addNeeding := fun _ h => List.mem_append_right _ (List.mem_append_left _ (h))
set_option maxRecDepth 20000 in
theorem wi_m_addNeeding : ∀ w ∈ wq_m_addNeeding, w ∈ lw_tbl := List.forall_mem_append.mpr ⟨(by decide +kernel), List.forall_mem_append.mpr ⟨inKX9, List.forall_mem_append.mpr ⟨wi_m_isUpOrWaiting, wi_m_has⟩⟩⟩
set_option maxRecDepth 20000 in
theorem wg_m_addNeeding : GoodIn wq_m_addNeeding wq_m_addNeeding := goodIn_sub (fun _ h => h) (by decide +kernel)
set_option maxRecDepth 20000 in
theorem wc_m_addNeeding_m_isUpOrWaiting_171 : GoodIn wq_m_addNeeding (wsV RX9 171 RX9 yX9_isUpOrWaiting wq_m_isUpOrWaiting) := goodIn_app (goodIn_of _ (by decide +kernel)) (fun w h => ⟨List.mem_append_right _ (List.mem_append_right _ (List.mem_append_left _ (h))), (wg_m_isUpOrWaiting w h).2⟩)
set_option maxRecDepth 20000 in
theorem wc_m_addNeeding_m_has_150 : GoodIn wq_m_addNeeding (wsV RX9 150 RX9 yX9_has wq_m_has) := goodIn_app (goodIn_of _ (by decide +kernel)) (fun w h => ⟨List.mem_append_right _ (List.mem_append_right _ (List.mem_append_right _ (h))), (wg_m_has w h).2⟩)
def rm_m_addNeeding : Room := { frames := 1, cells := 0, slots := 0, locals := 23 }
set_option maxHeartbeats 4000000 in
set_option maxRecDepth 100000 in
theorem c_m_addNeeding (l : Launch) (dC : Nat → ClassId) (dI : Nat → Nat → Nat) (h : Nat) (a : Nat → Nat) (k : Nat → ClassId) (F : Nat → Nat → Int32) (V : Nat → Int32) (n b : Nat) (p0 : Int32) (sz : Nat) (hI0 : InvM n b F V) (hb0 : b + 0 < 2147483648)  : Met l yX9_addNeeding wq_m_addNeeding rm_m_addNeeding (va_Pc [.ref h, .int p0] (fun U => U.heap.size = sz ∧ va_P (dC, dI) vwCl (mW h a k F V) U.heap ∧ va_K (dC, dI) vwCl (mT k) U ∧ va_D (fun _ => True) (mW h a k F V))) (va_Qv (fun (u : (Nat → Nat → Int32) × (Nat → Int32)) => StM n (b + 0) F V u.1 u.2 ∧ (∀ j : Nat, j ∉ ([30] : List Nat) → u.1 j = F j) ∧ (∀ j : Nat, j ∉ ([] : List Nat) → u.2 j = V j) ∧ (True)) (fun (u : (Nat → Nat → Int32) × (Nat → Int32)) (t : State) => va_P (dC, dI) vwCl (mW h a k u.1 u.2) t.heap ∧ va_D (va_A (mW h a k F V) sz) (mW h a k u.1 u.2)) (va_A (mW h a k F V) sz)) 0 0 (va_A (mW h a k F V) sz) := by
  have hn : n ≤ 40 := hI0.1
  have hI : StM n b F V F V := StM.rf hI0
  have hU : ∀ j : Nat, j ∉ ([30] : List Nat) → F j = F j := fun _ _ => rfl
  have hV : ∀ j : Nat, j ∉ ([] : List Nat) → V j = V j := fun _ _ => rfl
  refine Met.ofW (cc := cX9_addNeeding) (maxL := 5) (ret := none) (by decide) rfl ?_
  intro p e s m args below meth c s₁ B hml hv
  obtain ⟨rfl, hsz, hP, hK, hD0⟩ := hv
  have hx := B.exec
  have hb := B.bytes
  have hr := B.returns
  have hts := atoms_spec (ws := wq_m_addNeeding) B.pre
  have hown : s.vm.findClass RX9 = some m.cls := findClass_of_methodNamed B.named
  have hlocks := B.notSynchronized
  subst hsz
  have hD := hD0.self (sz := s.heap.size)
  generalize hAe : va_A (mW h a k F V) s.heap.size = A at hD ⊢
  have hA : ∀ q : Nat, s.heap.size ≤ q → A q := fun q h => by rw [← hAe]; exact Or.inr h
  have hS : va_S A s.heap s.heap [] := va_S.rf
  have hl := lv_entry ([.ref h, .int p0]) (n := 5) (Nat.le_of_ble_eq_true rfl)
  rw [lg_entry_eq]
  generalize (lg_sl ([.ref h, .int p0]) ++ List.replicate (5 - (lg_sl ([.ref h, .int p0])).length) Slot.unset).toArray = ls at hl ⊢
  have hl : lv_has ls 5 [(0, .ref h), (1, .int p0)] := hl
  refine mw_Q (fun Q0 hQ => ?_)
  refine lv_iconst (v := 1) hx hb dX9_addNeeding_0 (by decide) ?_
  refine lv_istore_n (lv' := [(2, .int 1), (0, .ref h), (1, .int p0)]) hx hb dX9_addNeeding_1 rfl hl (by decide) rfl (fun ls hl => ?_)
  have lp4 : ∀ (fu2 i1 : Nat) (y7 : Int32) (F5 : Nat → Nat → Int32) (V6 : Nat → Int32) (H : Heap) (locs : List Loc) (ls : Array Slot), 41 < i1 + fu2 → i1 ≤ 41 → StM n (b) F V F5 V6 → (∀ j : Nat, j ∉ ([30] : List Nat) → F5 j = F j) → (∀ j : Nat, j ∉ ([] : List Nat) → V6 j = V j) → (¬ y7 = 0 → i1 + zc (nz 2 (F5 30)) 40 ≤ 40) → va_P (dC, dI) vwCl (mW h a k F5 V6) H → va_D A (mW h a k F5 V6) → va_S A s.heap H locs → lv_has ls 5 [(2, .int y7), (0, .ref h), (1, .int p0)] → W p l e (headSpec wq_m_addNeeding rm_m_addNeeding).room s m ([.ref h, .int p0] : List Value).toArray below meth c H locs 0 0 Q0 (F0 m 2 ls []) := by
    intro fu2
    induction fu2 with
    | zero =>
      intro i1 y7 F5 V6 H locs ls hf hi
      exact absurd hf (by omega)
    | succ fu2 ih3 =>
      intro i1 y7 F5 V6 H locs ls hfi1 hii1 hI hU hV hEi1 hP hD hS hl
      refine lv_iload_n hx hb dX9_addNeeding_2 rfl (lv_at hl 0 rfl) ?_
      refine lv_if_eq (tgt := 100) hx hb dX9_addNeeding_3 (by decide) (fun c8 => ?_) (fun c8 => ?_)
      · rw [hQ]
        exact W.vret hx hb hr (fun t ht hW => ⟨⟨(F5, V6), rfl, ⟨hI.mono (by omega), hU, hV, trivial⟩, by rw [ht]; exact hP, hD⟩, hS.F ht⟩) hS.2.2 dX9_addNeeding_100
      · have hz0 := hEi1 c8
        refine lv_iconst (v := 0) hx hb dX9_addNeeding_6 (by decide) ?_
        refine lv_istore_n (lv' := [(2, .int 0), (0, .ref h), (1, .int p0)]) hx hb dX9_addNeeding_7 rfl hl (by decide) rfl (fun ls hl => ?_)
        refine lv_iconst (v := 0) hx hb dX9_addNeeding_8 (by decide) ?_
        refine lv_istore_n (lv' := [(3, .int 0), (2, .int 0), (0, .ref h), (1, .int p0)]) hx hb dX9_addNeeding_9 rfl hl (by decide) rfl (fun ls hl => ?_)
        have lp12 : ∀ (fu10 i9 : Nat) (y15 : Int32) (F13 : Nat → Nat → Int32) (V14 : Nat → Int32) (H : Heap) (locs : List Loc) (ls : Array Slot), n < i9 + fu10 → i9 ≤ n → StM n (b) F V F13 V14 → (∀ j : Nat, j ∉ ([30] : List Nat) → F13 j = F j) → (∀ j : Nat, j ∉ ([] : List Nat) → V14 j = V j) → zc (nz 2 (F13 30)) 40 ≤ zc (nz 2 (F5 30)) 40 → (¬ y15 = 0 → zc (nz 2 (F13 30)) 40 < zc (nz 2 (F5 30)) 40) → va_P (dC, dI) vwCl (mW h a k F13 V14) H → va_D A (mW h a k F13 V14) → va_S A s.heap H locs → lv_has ls 5 [(3, .int (nI i9)), (2, .int y15), (0, .ref h), (1, .int p0)] → W p l e (headSpec wq_m_addNeeding rm_m_addNeeding).room s m ([.ref h, .int p0] : List Value).toArray below meth c H locs 0 0 Q0 (F0 m 10 ls []) := by
          intro fu10
          induction fu10 with
          | zero =>
            intro i9 y15 F13 V14 H locs ls hf hi
            exact absurd hf (by omega)
          | succ fu10 ih11 =>
            intro i9 y15 F13 V14 H locs ls hfi9 hii9 hI hU hV hzi9 hgi9 hP hD hS hl
            refine lv_iload_n hx hb dX9_addNeeding_10 rfl (lv_at hl 0 rfl) ?_
            refine lv_aload_n hx hb dX9_addNeeding_11 rfl (lv_at hl 2 rfl) ?_
            refine va_get (D := (dC, dI)) (ci := 10) (v := .int (V14 21)) (C := RX9) (T := TX9) (N := 46) hx hb hts in_m_addNeeding_X9 hown hK hP 0 rfl rfl 21 (by decide) (hts (.fieldLink RX9 126 "ServiceTreeModel" "services" "I") (by decide +kernel)) (fun _ h9 => h9) rfl dX9_addNeeding_12 ?_
            refine p1_topr (v := .int (nI n)) (congrArg Value.int hI.1.2.1) ?_
            refine lv_icmp_ge (tgt := 97) hx hb dX9_addNeeding_15 (by decide) (fun c16 => ?_) (fun c16 => ?_)
            · replace c16 : n ≤ i9 := (nI_leI (a := n) (b := i9) (by omega) (by omega)).mp c16
              refine lv_goto (tgt := 2) hx hb dX9_addNeeding_97 (by decide) ?_
              exact ih3 (i1 + 1) y15 F13 V14 _ _ _ (by omega) (by omega) (hI.mono (by omega)) hU hV (fun q9 => (show i1 + 1 + zc (nz 2 (F13 30)) 40 ≤ 40 by have h9 : zc (nz 2 (F13 30)) 40 < zc (nz 2 (F5 30)) 40 := (show ¬ y15 = 0 → zc (nz 2 (F13 30)) 40 < zc (nz 2 (F5 30)) 40 by assumption) q9; omega)) hP hD hS (lv_sub hl [1, 2, 3] rfl)
            · replace c16 : ¬ (n ≤ i9) := fun q9 => c16 ((nI_leI (a := n) (b := i9) (by omega) (by omega)).mpr q9)
              refine lv_iconst (v := 0) hx hb dX9_addNeeding_18 (by decide) ?_
              refine lv_istore (lv' := [(4, .int 0), (3, .int (nI i9)), (2, .int y15), (0, .ref h), (1, .int p0)]) hx hb dX9_addNeeding_19 hl (by decide) rfl (fun ls hl => ?_)
              have lp20 : ∀ (fu18 i17 : Nat) (y23 : Int32) (F21 : Nat → Nat → Int32) (V22 : Nat → Int32) (H : Heap) (locs : List Loc) (ls : Array Slot), n < i17 + fu18 → i17 ≤ n → StM n (b) F V F21 V22 → (∀ j : Nat, j ∉ ([30] : List Nat) → F21 j = F j) → (∀ j : Nat, j ∉ ([] : List Nat) → V22 j = V j) → zc (nz 2 (F21 30)) 40 ≤ zc (nz 2 (F5 30)) 40 → (¬ y23 = 0 → zc (nz 2 (F21 30)) 40 < zc (nz 2 (F5 30)) 40) → va_P (dC, dI) vwCl (mW h a k F21 V22) H → va_D A (mW h a k F21 V22) → va_S A s.heap H locs → lv_has ls 5 [(4, .int (nI i17)), (3, .int (nI i9)), (2, .int y23), (0, .ref h), (1, .int p0)] → W p l e (headSpec wq_m_addNeeding rm_m_addNeeding).room s m ([.ref h, .int p0] : List Value).toArray below meth c H locs 0 0 Q0 (F0 m 21 ls []) := by
                intro fu18
                induction fu18 with
                | zero =>
                  intro i17 y23 F21 V22 H locs ls hf hi
                  exact absurd hf (by omega)
                | succ fu18 ih19 =>
                  intro i17 y23 F21 V22 H locs ls hfi17 hii17 hI hU hV hzi17 hgi17 hP hD hS hl
                  refine lv_iload hx hb dX9_addNeeding_21 (lv_at hl 0 rfl) ?_
                  refine lv_aload_n hx hb dX9_addNeeding_23 rfl (lv_at hl 3 rfl) ?_
                  refine va_get (D := (dC, dI)) (ci := 10) (v := .int (V22 21)) (C := RX9) (T := TX9) (N := 46) hx hb hts in_m_addNeeding_X9 hown hK hP 0 rfl rfl 21 (by decide) (hts (.fieldLink RX9 126 "ServiceTreeModel" "services" "I") (by decide +kernel)) (fun _ h9 => h9) rfl dX9_addNeeding_24 ?_
                  refine p1_topr (v := .int (nI n)) (congrArg Value.int hI.1.2.1) ?_
                  refine lv_icmp_ge (tgt := 91) hx hb dX9_addNeeding_27 (by decide) (fun c24 => ?_) (fun c24 => ?_)
                  · replace c24 : n ≤ i17 := (nI_leI (a := n) (b := i17) (by omega) (by omega)).mp c24
                    refine lv_iinc (v := nI (i9 + 1)) (lv' := [(3, .int (nI (i9 + 1))), (4, .int (nI i17)), (2, .int y23), (0, .ref h), (1, .int p0)]) hx hb dX9_addNeeding_91 hl (k := 1) rfl (nI_add i9 1) (by decide) rfl (fun ls hl => ?_)
                    refine lv_goto (tgt := 10) hx hb dX9_addNeeding_94 (by decide) ?_
                    exact ih11 (i9 + 1) y23 F21 V22 _ _ _ (by omega) (by omega) (hI.mono (by omega)) hU hV (show zc (nz 2 (F21 30)) 40 ≤ zc (nz 2 (F5 30)) 40 by first | assumption | exact Nat.le_refl _) (show ¬ y23 = 0 → zc (nz 2 (F21 30)) 40 < zc (nz 2 (F5 30)) 40 by assumption) hP hD hS (lv_sub hl [0, 2, 3, 4] rfl)
                  · replace c24 : ¬ (n ≤ i17) := fun q9 => c24 ((nI_leI (a := n) (b := i17) (by omega) (by omega)).mpr q9)
                    refine lv_aload_n hx hb dX9_addNeeding_30 rfl (lv_at hl 3 rfl) ?_
                    refine va_get (D := (dC, dI)) (ci := 10) (v := .ref (a 30)) (C := RX9) (T := TX9) (N := 46) hx hb hts in_m_addNeeding_X9 hown hK hP 0 rfl rfl 30 (by decide) (hts (.fieldLink RX9 86 "ServiceTreeModel" "newJob" "[I") (by decide +kernel)) (fun _ h9 => h9) rfl dX9_addNeeding_31 ?_
                    refine lv_iload_n hx hb dX9_addNeeding_34 rfl (lv_at hl 1 rfl) ?_
                    refine va_iald (n := 40) (f := F21 30) hx hb hK hP 26 25 rfl rfl (vp_in_nI (n := i9) (by omega) (by decide)) dX9_addNeeding_35 ?_
                    refine lv_topi (fun x25 ex25 => ?_)
                    refine lv_iconst (v := 2) hx hb dX9_addNeeding_36 (by decide) ?_
                    refine lv_icmp_eq (tgt := 85) hx hb dX9_addNeeding_37 (by decide) (fun c26 => ?_) (fun c26 => ?_)
                    · refine lv_iinc (v := nI (i17 + 1)) (lv' := [(4, .int (nI (i17 + 1))), (3, .int (nI i9)), (2, .int y23), (0, .ref h), (1, .int p0)]) hx hb dX9_addNeeding_85 hl (k := 0) rfl (nI_add i17 1) (by decide) rfl (fun ls hl => ?_)
                      refine lv_goto (tgt := 21) hx hb dX9_addNeeding_88 (by decide) ?_
                      exact ih19 (i17 + 1) y23 F21 V22 _ _ _ (by omega) (by omega) (hI.mono (by omega)) hU hV (show zc (nz 2 (F21 30)) 40 ≤ zc (nz 2 (F5 30)) 40 by first | assumption | exact Nat.le_refl _) (show ¬ y23 = 0 → zc (nz 2 (F21 30)) 40 < zc (nz 2 (F5 30)) 40 by assumption) hP hD hS (lv_sub hl [0, 1, 2, 3, 4] rfl)
                    · refine lv_aload_n hx hb dX9_addNeeding_40 rfl (lv_at hl 3 rfl) ?_
                      refine lv_iload_n hx hb dX9_addNeeding_41 rfl (lv_at hl 1 rfl) ?_
                      have hFc := mw_free hD hS hA
                      refine va_calli (va_runV (As := [.int (nI i9)]) (rest := []) ⟨hx, hb, hml, hown, hts⟩ (c_m_isUpOrWaiting l dC dI h a k F21 V22 n (b) i9 H.size hI.1 (by omega) (by omega)) (cwV 1 hts wc_m_addNeeding_m_isUpOrWaiting_171 rfl rfl rfl (by decide +kernel) ⟨Nat.le_of_ble_eq_true rfl, Nat.le_of_ble_eq_true rfl⟩) ⟨fun a9 U g mk q => by obtain ⟨q0, q1, qP, qK, qD⟩ := q; exact ⟨q0, q1, qP, va_K.moved (u := U) (U := U.calling g mk a9) (Vm.Alike.refl U.vm) qK, qD⟩, va_recv hK hP (ci := 10) (q0 := 0) rfl rfl, fun U hU hW => ⟨rfl, by rw [hU], by rw [hU]; exact hP, va_K.moved hW.alike hK, hD.weaken (fun _ _ _ _ => trivial)⟩⟩ rfl rfl hl.1 rfl (lv_room (Nat.le_of_ble_eq_true rfl)) dX9_addNeeding_42 ⟨Nat.le_of_ble_eq_true rfl, Nat.le_of_ble_eq_true rfl⟩) hS (fun q _ h => hFc q h) hFc (fun r27 u t H1 locs ht hvm hw hB hz1 hk1 hS => ?_)
                      obtain ⟨F28, V29⟩ := u
                      replace hP := hB.1
                      rw [ht] at hP
                      replace hD : va_D A (mW h a k F28 V29) := hB.2.weaken (fun _ q _ h9 => hFc q.1 h9)
                      clear hB
                      generalize H1 = H at hP hS ⊢
                      replace hP : va_P (dC, dI) vwCl (mW h a k F28 V29) H := hP
                      obtain ⟨hwF, hwV, hw⟩ : F28 = F21 ∧ V29 = V22 ∧ _ := hw
                      rw [hwF, hwV] at hP hD
                      refine lv_if_eq (tgt := 85) hx hb dX9_addNeeding_45 (by decide) (fun c30 => ?_) (fun c30 => ?_)
                      · refine lv_iinc (v := nI (i17 + 1)) (lv' := [(4, .int (nI (i17 + 1))), (3, .int (nI i9)), (2, .int y23), (0, .ref h), (1, .int p0)]) hx hb dX9_addNeeding_85 hl (k := 0) rfl (nI_add i17 1) (by decide) rfl (fun ls hl => ?_)
                        refine lv_goto (tgt := 21) hx hb dX9_addNeeding_88 (by decide) ?_
                        exact ih19 (i17 + 1) y23 F21 V22 _ _ _ (by omega) (by omega) (hI.mono (by omega)) hU hV (show zc (nz 2 (F21 30)) 40 ≤ zc (nz 2 (F5 30)) 40 by first | assumption | exact Nat.le_refl _) (show ¬ y23 = 0 → zc (nz 2 (F21 30)) 40 < zc (nz 2 (F5 30)) 40 by assumption) hP hD hS (lv_sub hl [0, 1, 2, 3, 4] rfl)
                      · refine lv_aload_n hx hb dX9_addNeeding_48 rfl (lv_at hl 3 rfl) ?_
                        refine lv_iconst (v := 0) hx hb dX9_addNeeding_49 (by decide) ?_
                        refine lv_iload_n hx hb dX9_addNeeding_50 rfl (lv_at hl 1 rfl) ?_
                        refine lv_iload hx hb dX9_addNeeding_51 (lv_at hl 0 rfl) ?_
                        have hFc := mw_free hD hS hA
                        refine va_calli (va_runV (As := [.int 0, .int (nI i9), .int (nI i17)]) (rest := []) ⟨hx, hb, hml, hown, hts⟩ (c_m_has l dC dI h a k F21 V22 n (b) 0 i9 i17 H.size hI.1 (by omega) (by omega) (by omega) (by omega)) (cwV 3 hts wc_m_addNeeding_m_has_150 rfl rfl rfl (by decide +kernel) ⟨Nat.le_of_ble_eq_true rfl, Nat.le_of_ble_eq_true rfl⟩) ⟨fun a9 U g mk q => by obtain ⟨q0, q1, qP, qK, qD⟩ := q; exact ⟨q0, q1, qP, va_K.moved (u := U) (U := U.calling g mk a9) (Vm.Alike.refl U.vm) qK, qD⟩, va_recv hK hP (ci := 10) (q0 := 0) rfl rfl, fun U hU hW => ⟨rfl, by rw [hU], by rw [hU]; exact hP, va_K.moved hW.alike hK, hD.weaken (fun _ _ _ _ => trivial)⟩⟩ rfl rfl hl.1 rfl (lv_room (Nat.le_of_ble_eq_true rfl)) dX9_addNeeding_53 ⟨Nat.le_of_ble_eq_true rfl, Nat.le_of_ble_eq_true rfl⟩) hS (fun q _ h => hFc q h) hFc (fun r31 u t H1 locs ht hvm hw hB hz1 hk1 hS => ?_)
                        obtain ⟨F32, V33⟩ := u
                        replace hP := hB.1
                        rw [ht] at hP
                        replace hD : va_D A (mW h a k F32 V33) := hB.2.weaken (fun _ q _ h9 => hFc q.1 h9)
                        clear hB
                        generalize H1 = H at hP hS ⊢
                        replace hP : va_P (dC, dI) vwCl (mW h a k F32 V33) H := hP
                        obtain ⟨hwF, hwV, hw⟩ : F32 = F21 ∧ V33 = V22 ∧ _ := hw
                        rw [hwF, hwV] at hP hD
                        have br31 := hw
                        refine lv_if_eq (tgt := 85) hx hb dX9_addNeeding_56 (by decide) (fun c34 => ?_) (fun c34 => ?_)
                        · refine lv_iinc (v := nI (i17 + 1)) (lv' := [(4, .int (nI (i17 + 1))), (3, .int (nI i9)), (2, .int y23), (0, .ref h), (1, .int p0)]) hx hb dX9_addNeeding_85 hl (k := 0) rfl (nI_add i17 1) (by decide) rfl (fun ls hl => ?_)
                          refine lv_goto (tgt := 21) hx hb dX9_addNeeding_88 (by decide) ?_
                          exact ih19 (i17 + 1) y23 F21 V22 _ _ _ (by omega) (by omega) (hI.mono (by omega)) hU hV (show zc (nz 2 (F21 30)) 40 ≤ zc (nz 2 (F5 30)) 40 by first | assumption | exact Nat.le_refl _) (show ¬ y23 = 0 → zc (nz 2 (F21 30)) 40 < zc (nz 2 (F5 30)) 40 by assumption) hP hD hS (lv_sub hl [0, 1, 2, 3, 4] rfl)
                        · refine lv_aload_n hx hb dX9_addNeeding_59 rfl (lv_at hl 3 rfl) ?_
                          refine va_get (D := (dC, dI)) (ci := 10) (v := .ref (a 30)) (C := RX9) (T := TX9) (N := 46) hx hb hts in_m_addNeeding_X9 hown hK hP 0 rfl rfl 30 (by decide) (hts (.fieldLink RX9 86 "ServiceTreeModel" "newJob" "[I") (by decide +kernel)) (fun _ h9 => h9) rfl dX9_addNeeding_60 ?_
                          refine lv_iload hx hb dX9_addNeeding_63 (lv_at hl 0 rfl) ?_
                          refine va_iald (n := 40) (f := F21 30) hx hb hK hP 26 25 rfl rfl (vp_in_nI (n := i17) (by omega) (by decide)) dX9_addNeeding_65 ?_
                          refine lv_topi (fun x35 ex35 => ?_)
                          refine lv_iconst (v := 2) hx hb dX9_addNeeding_66 (by decide) ?_
                          refine lv_icmp_eq (tgt := 76) hx hb dX9_addNeeding_67 (by decide) (fun c36 => ?_) (fun c36 => ?_)
                          · refine lv_aload_n hx hb dX9_addNeeding_76 rfl (lv_at hl 3 rfl) ?_
                            refine va_get (D := (dC, dI)) (ci := 10) (v := .ref (a 30)) (C := RX9) (T := TX9) (N := 46) hx hb hts in_m_addNeeding_X9 hown hK hP 0 rfl rfl 30 (by decide) (hts (.fieldLink RX9 86 "ServiceTreeModel" "newJob" "[I") (by decide +kernel)) (fun _ h9 => h9) rfl dX9_addNeeding_77 ?_
                            refine lv_iload_n hx hb dX9_addNeeding_80 rfl (lv_at hl 1 rfl) ?_
                            refine lv_iconst (v := 2) hx hb dX9_addNeeding_81 (by decide) ?_
                            refine va_iast (n := 40) (f := F21 30) hx hb hK hP hD hS 26 25 rfl rfl (vp_in_nI (n := i9) (by omega) (by decide)) dX9_addNeeding_82 (fun H locs hP hD hS => ?_)
                            rw [mW_set_30] at hP hD
                            obtain ⟨F37, eF37⟩ : ∃ f9 : Nat → Nat → Int32, f9 = va_up F21 30 (upd (F21 30) (nI i9).toNatClampNeg 2) := ⟨_, rfl⟩
                            rw [← eF37] at hP hD
                            replace hI : StM n (b) F V F37 V22 := ⟨by rw [eF37]; exact hI.1.setF (by decide), trivial⟩
                            replace hU : ∀ j : Nat, j ∉ ([30] : List Nat) → F37 j = F j := by rw [eF37]; exact mw_up (by decide) hU
                            have hlt : zc (nz 2 (F37 30)) 40 < zc (nz 2 (F21 30)) 40 := by rw [eF37, va_up_self]; exact nz_lt (fun q9 => c26 (ex25.trans q9)) (by rw [nI_clamp (by omega)]; omega)
                            refine lv_iconst (v := 1) hx hb dX9_addNeeding_83 (by decide) ?_
                            refine lv_istore_n (lv' := [(2, .int 1), (4, .int (nI i17)), (3, .int (nI i9)), (0, .ref h), (1, .int p0)]) hx hb dX9_addNeeding_84 rfl hl (by decide) rfl (fun ls hl => ?_)
                            refine lv_iinc (v := nI (i17 + 1)) (lv' := [(4, .int (nI (i17 + 1))), (2, .int 1), (3, .int (nI i9)), (0, .ref h), (1, .int p0)]) hx hb dX9_addNeeding_85 hl (k := 1) rfl (nI_add i17 1) (by decide) rfl (fun ls hl => ?_)
                            refine lv_goto (tgt := 21) hx hb dX9_addNeeding_88 (by decide) ?_
                            exact ih19 (i17 + 1) 1 F37 V22 _ _ _ (by omega) (by omega) (hI.mono (by omega)) hU hV (by omega) (fun _ => (show zc (nz 2 (F37 30)) 40 < zc (nz 2 (F5 30)) 40 by omega)) hP hD hS (lv_sub hl [0, 2, 1, 3, 4] rfl)
                          · refine lv_iload hx hb dX9_addNeeding_70 (lv_at hl 0 rfl) ?_
                            refine lv_iload_n hx hb dX9_addNeeding_72 rfl (lv_at hl 4 rfl) ?_
                            refine lv_icmp_ne (tgt := 85) hx hb dX9_addNeeding_73 (by decide) (fun c38 => ?_) (fun c38 => ?_)
                            · refine lv_iinc (v := nI (i17 + 1)) (lv' := [(4, .int (nI (i17 + 1))), (3, .int (nI i9)), (2, .int y23), (0, .ref h), (1, .int p0)]) hx hb dX9_addNeeding_85 hl (k := 0) rfl (nI_add i17 1) (by decide) rfl (fun ls hl => ?_)
                              refine lv_goto (tgt := 21) hx hb dX9_addNeeding_88 (by decide) ?_
                              exact ih19 (i17 + 1) y23 F21 V22 _ _ _ (by omega) (by omega) (hI.mono (by omega)) hU hV (show zc (nz 2 (F21 30)) 40 ≤ zc (nz 2 (F5 30)) 40 by first | assumption | exact Nat.le_refl _) (show ¬ y23 = 0 → zc (nz 2 (F21 30)) 40 < zc (nz 2 (F5 30)) 40 by assumption) hP hD hS (lv_sub hl [0, 1, 2, 3, 4] rfl)
                            · refine lv_aload_n hx hb dX9_addNeeding_76 rfl (lv_at hl 3 rfl) ?_
                              refine va_get (D := (dC, dI)) (ci := 10) (v := .ref (a 30)) (C := RX9) (T := TX9) (N := 46) hx hb hts in_m_addNeeding_X9 hown hK hP 0 rfl rfl 30 (by decide) (hts (.fieldLink RX9 86 "ServiceTreeModel" "newJob" "[I") (by decide +kernel)) (fun _ h9 => h9) rfl dX9_addNeeding_77 ?_
                              refine lv_iload_n hx hb dX9_addNeeding_80 rfl (lv_at hl 1 rfl) ?_
                              refine lv_iconst (v := 2) hx hb dX9_addNeeding_81 (by decide) ?_
                              refine va_iast (n := 40) (f := F21 30) hx hb hK hP hD hS 26 25 rfl rfl (vp_in_nI (n := i9) (by omega) (by decide)) dX9_addNeeding_82 (fun H locs hP hD hS => ?_)
                              rw [mW_set_30] at hP hD
                              obtain ⟨F39, eF39⟩ : ∃ f9 : Nat → Nat → Int32, f9 = va_up F21 30 (upd (F21 30) (nI i9).toNatClampNeg 2) := ⟨_, rfl⟩
                              rw [← eF39] at hP hD
                              replace hI : StM n (b) F V F39 V22 := ⟨by rw [eF39]; exact hI.1.setF (by decide), trivial⟩
                              replace hU : ∀ j : Nat, j ∉ ([30] : List Nat) → F39 j = F j := by rw [eF39]; exact mw_up (by decide) hU
                              have hlt : zc (nz 2 (F39 30)) 40 < zc (nz 2 (F21 30)) 40 := by rw [eF39, va_up_self]; exact nz_lt (fun q9 => c26 (ex25.trans q9)) (by rw [nI_clamp (by omega)]; omega)
                              refine lv_iconst (v := 1) hx hb dX9_addNeeding_83 (by decide) ?_
                              refine lv_istore_n (lv' := [(2, .int 1), (4, .int (nI i17)), (3, .int (nI i9)), (0, .ref h), (1, .int p0)]) hx hb dX9_addNeeding_84 rfl hl (by decide) rfl (fun ls hl => ?_)
                              refine lv_iinc (v := nI (i17 + 1)) (lv' := [(4, .int (nI (i17 + 1))), (2, .int 1), (3, .int (nI i9)), (0, .ref h), (1, .int p0)]) hx hb dX9_addNeeding_85 hl (k := 1) rfl (nI_add i17 1) (by decide) rfl (fun ls hl => ?_)
                              refine lv_goto (tgt := 21) hx hb dX9_addNeeding_88 (by decide) ?_
                              exact ih19 (i17 + 1) 1 F39 V22 _ _ _ (by omega) (by omega) (hI.mono (by omega)) hU hV (by omega) (fun _ => (show zc (nz 2 (F39 30)) 40 < zc (nz 2 (F5 30)) 40 by omega)) hP hD hS (lv_sub hl [0, 2, 1, 3, 4] rfl)
              exact lp20 (n + 1) 0 y15 F13 V14 _ _ _ (by omega) (by omega) (hI.mono (by omega)) hU hV (show zc (nz 2 (F13 30)) 40 ≤ zc (nz 2 (F5 30)) 40 by first | assumption | exact Nat.le_refl _) (show ¬ y15 = 0 → zc (nz 2 (F13 30)) 40 < zc (nz 2 (F5 30)) 40 by assumption) hP hD hS hl
        exact lp12 (n + 1) 0 0 F5 V6 _ _ _ (by omega) (by omega) (hI.mono (by omega)) hU hV (show zc (nz 2 (F5 30)) 40 ≤ zc (nz 2 (F5 30)) 40 by first | assumption | exact Nat.le_refl _) (fun q9 => absurd rfl q9) hP hD hS hl
  exact lp4 (41 + 1) 0 1 F V _ _ _ (by omega) (by omega) (hI.mono (by omega)) hU hV (fun _ => (show 0 + zc (nz 2 (F 30)) 40 ≤ 40 by have := zc_le (nz 2 (F 30)) 40; omega)) hP hD hS hl
def wq_m_begin : List Cond := [.code yX9_begin cX9_begin 3 none, .fieldLink RX9 126 "ServiceTreeModel" "services" "I", .fieldLink RX9 71 "ServiceTreeModel" "job" "[I", .fieldLink RX9 74 "ServiceTreeModel" "hasBegun" "[Z", .methodLink RX9 222 yX9_endJobs, .instanceMethod yX9_endJobs, .selects RX9 yX9_endJobs yX9_endJobs, .initialized RX9, .methodLink RX9 225 yX9_waitsForAny, .instanceMethod yX9_waitsForAny, .selects RX9 yX9_waitsForAny yX9_waitsForAny, .methodLink RX9 228 yX9_beginOne, .instanceMethod yX9_beginOne, .selects RX9 yX9_beginOne yX9_beginOne] ++ (wsX90 ++ (wq_m_endJobs ++ (wq_m_waitsForAny ++ (wq_m_beginOne))))
theorem in_m_begin_X9 : ∀ w ∈ wsX90, w ∈ wq_m_begin := fun _ h => List.mem_append_right _ (List.mem_append_left _ (h))
set_option maxRecDepth 20000 in
theorem wi_m_begin : ∀ w ∈ wq_m_begin, w ∈ lw_tbl := List.forall_mem_append.mpr ⟨(by decide +kernel), List.forall_mem_append.mpr ⟨inKX9, List.forall_mem_append.mpr ⟨wi_m_endJobs, List.forall_mem_append.mpr ⟨wi_m_waitsForAny, wi_m_beginOne⟩⟩⟩⟩
set_option maxRecDepth 20000 in
theorem wg_m_begin : GoodIn wq_m_begin wq_m_begin := goodIn_sub (fun _ h => h) (by decide +kernel)
set_option maxRecDepth 20000 in
theorem wc_m_begin_m_endJobs_222 : GoodIn wq_m_begin (wsV RX9 222 RX9 yX9_endJobs wq_m_endJobs) := goodIn_app (goodIn_of _ (by decide +kernel)) (fun w h => ⟨List.mem_append_right _ (List.mem_append_right _ (List.mem_append_left _ (h))), (wg_m_endJobs w h).2⟩)
set_option maxRecDepth 20000 in
theorem wc_m_begin_m_waitsForAny_225 : GoodIn wq_m_begin (wsV RX9 225 RX9 yX9_waitsForAny wq_m_waitsForAny) := goodIn_app (goodIn_of _ (by decide +kernel)) (fun w h => ⟨List.mem_append_right _ (List.mem_append_right _ (List.mem_append_right _ (List.mem_append_left _ (h)))), (wg_m_waitsForAny w h).2⟩)
set_option maxRecDepth 20000 in
theorem wc_m_begin_m_beginOne_228 : GoodIn wq_m_begin (wsV RX9 228 RX9 yX9_beginOne wq_m_beginOne) := goodIn_app (goodIn_of _ (by decide +kernel)) (fun w h => ⟨List.mem_append_right _ (List.mem_append_right _ (List.mem_append_right _ (List.mem_append_right _ (h)))), (wg_m_beginOne w h).2⟩)
def rm_m_begin : Room := { frames := 3, cells := 0, slots := 0, locals := 69 }
set_option maxHeartbeats 4000000 in
set_option maxRecDepth 100000 in
theorem c_m_begin (l : Launch) (dC : Nat → ClassId) (dI : Nat → Nat → Nat) (h : Nat) (a : Nat → Nat) (k : Nat → ClassId) (F : Nat → Nat → Int32) (V : Nat → Int32) (n b : Nat)  (sz : Nat) (hI0 : InvM n b F V) (hb0 : b + 82 < 2147483648)  : Met l yX9_begin wq_m_begin rm_m_begin (va_Pc [.ref h] (fun U => U.heap.size = sz ∧ va_P (dC, dI) vwCl (mW h a k F V) U.heap ∧ va_K (dC, dI) vwCl (mT k) U ∧ va_D (fun _ => True) (mW h a k F V))) (va_Qv (fun (u : (Nat → Nat → Int32) × (Nat → Int32)) => StM n (b + 82) F V u.1 u.2 ∧ (∀ j : Nat, j ∉ ([7, 8, 9, 11, 12, 25, 26, 42, 43, 44] : List Nat) → u.1 j = F j) ∧ (∀ j : Nat, j ∉ ([45] : List Nat) → u.2 j = V j) ∧ (True)) (fun (u : (Nat → Nat → Int32) × (Nat → Int32)) (t : State) => va_P (dC, dI) vwCl (mW h a k u.1 u.2) t.heap ∧ va_D (va_A (mW h a k F V) sz) (mW h a k u.1 u.2)) (va_A (mW h a k F V) sz)) 0 0 (va_A (mW h a k F V) sz) := by
  have hn : n ≤ 40 := hI0.1
  have hI : StM n b F V F V := StM.rf hI0
  have hU : ∀ j : Nat, j ∉ ([7, 8, 9, 11, 12, 25, 26, 42, 43, 44] : List Nat) → F j = F j := fun _ _ => rfl
  have hV : ∀ j : Nat, j ∉ ([45] : List Nat) → V j = V j := fun _ _ => rfl
  refine Met.ofW (cc := cX9_begin) (maxL := 3) (ret := none) (by decide) rfl ?_
  intro p e s m args below meth c s₁ B hml hv
  obtain ⟨rfl, hsz, hP, hK, hD0⟩ := hv
  have hx := B.exec
  have hb := B.bytes
  have hr := B.returns
  have hts := atoms_spec (ws := wq_m_begin) B.pre
  have hown : s.vm.findClass RX9 = some m.cls := findClass_of_methodNamed B.named
  have hlocks := B.notSynchronized
  subst hsz
  have hD := hD0.self (sz := s.heap.size)
  generalize hAe : va_A (mW h a k F V) s.heap.size = A at hD ⊢
  have hA : ∀ q : Nat, s.heap.size ≤ q → A q := fun q h => by rw [← hAe]; exact Or.inr h
  have hS : va_S A s.heap s.heap [] := va_S.rf
  have hl := lv_entry ([.ref h]) (n := 3) (Nat.le_of_ble_eq_true rfl)
  rw [lg_entry_eq]
  generalize (lg_sl ([.ref h]) ++ List.replicate (3 - (lg_sl ([.ref h])).length) Slot.unset).toArray = ls at hl ⊢
  have hl : lv_has ls 3 [(0, .ref h)] := hl
  refine mw_Q (fun Q0 hQ => ?_)
  refine lv_iconst (v := 1) hx hb dX9_begin_0 (by decide) ?_
  refine lv_istore_n (lv' := [(1, .int 1), (0, .ref h)]) hx hb dX9_begin_1 rfl hl (by decide) rfl (fun ls hl => ?_)
  have lp4 : ∀ (fu2 i1 : Nat) (y7 : Int32) (F5 : Nat → Nat → Int32) (V6 : Nat → Int32) (H : Heap) (locs : List Loc) (ls : Array Slot), 41 < i1 + fu2 → i1 ≤ 41 → StM n (b + 2 * i1) F V F5 V6 → (∀ j : Nat, j ∉ ([7, 8, 9, 11, 12, 25, 26, 42, 43, 44] : List Nat) → F5 j = F j) → (∀ j : Nat, j ∉ ([45] : List Nat) → V6 j = V j) → (¬ y7 = 0 → i1 + zc (F5 26) 40 ≤ 40) → va_P (dC, dI) vwCl (mW h a k F5 V6) H → va_D A (mW h a k F5 V6) → va_S A s.heap H locs → lv_has ls 3 [(1, .int y7), (0, .ref h)] → W p l e (headSpec wq_m_begin rm_m_begin).room s m ([.ref h] : List Value).toArray below meth c H locs 0 0 Q0 (F0 m 2 ls []) := by
    intro fu2
    induction fu2 with
    | zero =>
      intro i1 y7 F5 V6 H locs ls hf hi
      exact absurd hf (by omega)
    | succ fu2 ih3 =>
      intro i1 y7 F5 V6 H locs ls hfi1 hii1 hI hU hV hEi1 hP hD hS hl
      have t26 : F5 26 = F5 26 := rfl
      refine lv_iload_n hx hb dX9_begin_2 rfl (lv_at hl 0 rfl) ?_
      refine lv_if_eq (tgt := 78) hx hb dX9_begin_3 (by decide) (fun c8 => ?_) (fun c8 => ?_)
      · rw [hQ]
        exact W.vret hx hb hr (fun t ht hW => ⟨⟨(F5, V6), rfl, ⟨hI.mono (by omega), hU, hV, trivial⟩, by rw [ht]; exact hP, hD⟩, hS.F ht⟩) hS.2.2 dX9_begin_78
      · have hz0 := hEi1 c8
        refine lv_aload_n hx hb dX9_begin_6 rfl (lv_at hl 1 rfl) ?_
        have hFc := mw_free hD hS hA
        refine va_callv (va_runV (As := []) (rest := []) ⟨hx, hb, hml, hown, hts⟩ (c_m_endJobs l dC dI h a k F5 V6 n (b + 2 * i1)  H.size hI.1 (by omega) ) (cwV 0 hts wc_m_begin_m_endJobs_222 rfl rfl rfl (by decide +kernel) ⟨Nat.le_of_ble_eq_true rfl, Nat.le_of_ble_eq_true rfl⟩) ⟨fun a9 U g mk q => by obtain ⟨q0, q1, qP, qK, qD⟩ := q; exact ⟨q0, q1, qP, va_K.moved (u := U) (U := U.calling g mk a9) (Vm.Alike.refl U.vm) qK, qD⟩, va_recv hK hP (ci := 10) (q0 := 0) rfl rfl, fun U hU hW => ⟨rfl, by rw [hU], by rw [hU]; exact hP, va_K.moved hW.alike hK, hD.weaken (fun _ _ _ _ => trivial)⟩⟩ rfl rfl hl.1 rfl (lv_room (Nat.le_of_ble_eq_true rfl)) dX9_begin_7 ⟨Nat.le_of_ble_eq_true rfl, Nat.le_of_ble_eq_true rfl⟩) hS (fun q _ h => hFc q h) hFc (fun u t H1 locs ht hvm hw hB hz1 hk1 hS => ?_)
        obtain ⟨F10, V11⟩ := u
        replace hP := hB.1
        rw [ht] at hP
        replace hD : va_D A (mW h a k F10 V11) := hB.2.weaken (fun _ q _ h9 => hFc q.1 h9)
        clear hB
        generalize H1 = H at hP hS ⊢
        replace hP : va_P (dC, dI) vwCl (mW h a k F10 V11) H := hP
        obtain ⟨hwI, hwU, hwV, hw⟩ := hw
        replace hU : ∀ j : Nat, j ∉ ([7, 8, 9, 11, 12, 25, 26, 42, 43, 44] : List Nat) → F10 j = F j := mw_tr (by decide) hwU hU
        replace hV : ∀ j : Nat, j ∉ ([45] : List Nat) → V11 j = V j := mw_tr (by decide) hwV hV
        replace hI : StM n (b + 2 * i1 + 0) F V F10 V11 := hI.trans hwI
        replace t26 : F10 26 = F5 26 := (hwU 26 (by decide)).trans t26
        replace hI : StM n (b + 2 * i1) F V F10 V11 := hI
        refine lv_iconst (v := 0) hx hb dX9_begin_10 (by decide) ?_
        refine lv_istore_n (lv' := [(2, .int 0), (1, .int y7), (0, .ref h)]) hx hb dX9_begin_11 rfl hl (by decide) rfl (fun ls hl => ?_)
        have lp15 : ∀ (fu13 i12 : Nat)  (H : Heap) (locs : List Loc) (ls : Array Slot), n < i12 + fu13 → i12 ≤ n → va_P (dC, dI) vwCl (mW h a k F10 V11) H → va_D A (mW h a k F10 V11) → va_S A s.heap H locs → lv_has ls 3 [(2, .int (nI i12)), (1, .int y7), (0, .ref h)] → W p l e (headSpec wq_m_begin rm_m_begin).room s m ([.ref h] : List Value).toArray below meth c H locs 0 0 Q0 (F0 m 12 ls []) := by
          intro fu13
          induction fu13 with
          | zero =>
            intro i12  H locs ls hf hi
            exact absurd hf (by omega)
          | succ fu13 ih14 =>
            intro i12  H locs ls hfi12 hii12 hP hD hS hl
            refine lv_iload_n hx hb dX9_begin_12 rfl (lv_at hl 0 rfl) ?_
            refine lv_aload_n hx hb dX9_begin_13 rfl (lv_at hl 2 rfl) ?_
            refine va_get (D := (dC, dI)) (ci := 10) (v := .int (V11 21)) (C := RX9) (T := TX9) (N := 46) hx hb hts in_m_begin_X9 hown hK hP 0 rfl rfl 21 (by decide) (hts (.fieldLink RX9 126 "ServiceTreeModel" "services" "I") (by decide +kernel)) (fun _ h9 => h9) rfl dX9_begin_14 ?_
            refine p1_topr (v := .int (nI n)) (congrArg Value.int hI.1.2.1) ?_
            refine lv_icmp_ge (tgt := 52) hx hb dX9_begin_17 (by decide) (fun c16 => ?_) (fun c16 => ?_)
            · replace c16 : n ≤ i12 := (nI_leI (a := n) (b := i12) (by omega) (by omega)).mp c16
              refine lv_iload_n hx hb dX9_begin_52 rfl (lv_at hl 0 rfl) ?_
              refine lv_aload_n hx hb dX9_begin_53 rfl (lv_at hl 2 rfl) ?_
              refine va_get (D := (dC, dI)) (ci := 10) (v := .int (V11 21)) (C := RX9) (T := TX9) (N := 46) hx hb hts in_m_begin_X9 hown hK hP 0 rfl rfl 21 (by decide) (hts (.fieldLink RX9 126 "ServiceTreeModel" "services" "I") (by decide +kernel)) (fun _ h9 => h9) rfl dX9_begin_54 ?_
              refine p1_topr (v := .int (nI n)) (congrArg Value.int hI.1.2.1) ?_
              refine lv_icmp_ge (tgt := 64) hx hb dX9_begin_57 (by decide) (fun c17 => ?_) (fun c17 => ?_)
              · replace c17 : n ≤ i12 := (nI_leI (a := n) (b := i12) (by omega) (by omega)).mp c17
                refine lv_iconst (v := 0) hx hb dX9_begin_64 (by decide) ?_
                refine lv_istore_n (lv' := [(1, .int 0), (2, .int (nI i12)), (0, .ref h)]) hx hb dX9_begin_65 rfl hl (by decide) rfl (fun ls hl => ?_)
                refine lv_iload_n hx hb dX9_begin_66 rfl (lv_at hl 0 rfl) ?_
                refine lv_if_eq (tgt := 75) hx hb dX9_begin_67 (by decide) (fun _ => ?_) (fun c9 => absurd (by decide) c9)
                refine lv_goto (tgt := 2) hx hb dX9_begin_75 (by decide) ?_
                exact ih3 (i1 + 1) 0 F10 V11 _ _ _ (by omega) (by omega) (hI.mono (by omega)) hU hV (fun q9 => absurd rfl q9) hP hD hS (lv_sub hl [0, 2] rfl)
              · replace c17 : ¬ (n ≤ i12) := fun q9 => c17 ((nI_leI (a := n) (b := i12) (by omega) (by omega)).mpr q9)
                exact False.elim (by omega)
            · replace c16 : ¬ (n ≤ i12) := fun q9 => c16 ((nI_leI (a := n) (b := i12) (by omega) (by omega)).mpr q9)
              refine lv_aload_n hx hb dX9_begin_20 rfl (lv_at hl 2 rfl) ?_
              refine va_get (D := (dC, dI)) (ci := 10) (v := .ref (a 25)) (C := RX9) (T := TX9) (N := 46) hx hb hts in_m_begin_X9 hown hK hP 0 rfl rfl 25 (by decide) (hts (.fieldLink RX9 71 "ServiceTreeModel" "job" "[I") (by decide +kernel)) (fun _ h9 => h9) rfl dX9_begin_21 ?_
              refine lv_iload_n hx hb dX9_begin_24 rfl (lv_at hl 0 rfl) ?_
              refine va_iald (n := 40) (f := F10 25) hx hb hK hP 21 20 rfl rfl (vp_in_nI (n := i12) (by omega) (by decide)) dX9_begin_25 ?_
              refine lv_topi (fun x18 ex18 => ?_)
              refine lv_if_eq (tgt := 46) hx hb dX9_begin_26 (by decide) (fun c19 => ?_) (fun c19 => ?_)
              · refine lv_iinc (v := nI (i12 + 1)) (lv' := [(2, .int (nI (i12 + 1))), (1, .int y7), (0, .ref h)]) hx hb dX9_begin_46 hl (k := 0) rfl (nI_add i12 1) (by decide) rfl (fun ls hl => ?_)
                refine lv_goto (tgt := 12) hx hb dX9_begin_49 (by decide) ?_
                exact ih14 (i12 + 1)  _ _ _ (by omega) (by omega)  hP hD hS (lv_sub hl [0, 1, 2] rfl)
              · refine lv_aload_n hx hb dX9_begin_29 rfl (lv_at hl 2 rfl) ?_
                refine va_get (D := (dC, dI)) (ci := 10) (v := .ref (a 26)) (C := RX9) (T := TX9) (N := 46) hx hb hts in_m_begin_X9 hown hK hP 0 rfl rfl 26 (by decide) (hts (.fieldLink RX9 74 "ServiceTreeModel" "hasBegun" "[Z") (by decide +kernel)) (fun _ h9 => h9) rfl dX9_begin_30 ?_
                refine lv_iload_n hx hb dX9_begin_33 rfl (lv_at hl 0 rfl) ?_
                refine va_zald (n := 40) (f := F10 26) hx hb hK hP 22 21 rfl rfl (vp_in_nI (n := i12) (by omega) (by decide)) dX9_begin_34 ?_
                refine lv_topi (fun x20 ex20 => ?_)
                rw [t26] at ex20
                refine lv_if_ne (tgt := 46) hx hb dX9_begin_35 (by decide) (fun c21 => ?_) (fun c21 => ?_)
                · refine lv_iinc (v := nI (i12 + 1)) (lv' := [(2, .int (nI (i12 + 1))), (1, .int y7), (0, .ref h)]) hx hb dX9_begin_46 hl (k := 0) rfl (nI_add i12 1) (by decide) rfl (fun ls hl => ?_)
                  refine lv_goto (tgt := 12) hx hb dX9_begin_49 (by decide) ?_
                  exact ih14 (i12 + 1)  _ _ _ (by omega) (by omega)  hP hD hS (lv_sub hl [0, 1, 2] rfl)
                · refine lv_aload_n hx hb dX9_begin_38 rfl (lv_at hl 2 rfl) ?_
                  refine lv_iload_n hx hb dX9_begin_39 rfl (lv_at hl 0 rfl) ?_
                  have hFc := mw_free hD hS hA
                  refine va_calli (va_runV (As := [.int (nI i12)]) (rest := []) ⟨hx, hb, hml, hown, hts⟩ (c_m_waitsForAny l dC dI h a k F10 V11 n (b + 2 * i1) i12 H.size hI.1 (by omega) (by omega)) (cwV 1 hts wc_m_begin_m_waitsForAny_225 rfl rfl rfl (by decide +kernel) ⟨Nat.le_of_ble_eq_true rfl, Nat.le_of_ble_eq_true rfl⟩) ⟨fun a9 U g mk q => by obtain ⟨q0, q1, qP, qK, qD⟩ := q; exact ⟨q0, q1, qP, va_K.moved (u := U) (U := U.calling g mk a9) (Vm.Alike.refl U.vm) qK, qD⟩, va_recv hK hP (ci := 10) (q0 := 0) rfl rfl, fun U hU hW => ⟨rfl, by rw [hU], by rw [hU]; exact hP, va_K.moved hW.alike hK, hD.weaken (fun _ _ _ _ => trivial)⟩⟩ rfl rfl hl.1 rfl (lv_room (Nat.le_of_ble_eq_true rfl)) dX9_begin_40 ⟨Nat.le_of_ble_eq_true rfl, Nat.le_of_ble_eq_true rfl⟩) hS (fun q _ h => hFc q h) hFc (fun r22 u t H1 locs ht hvm hw hB hz1 hk1 hS => ?_)
                  obtain ⟨F23, V24⟩ := u
                  replace hP := hB.1
                  rw [ht] at hP
                  replace hD : va_D A (mW h a k F23 V24) := hB.2.weaken (fun _ q _ h9 => hFc q.1 h9)
                  clear hB
                  generalize H1 = H at hP hS ⊢
                  replace hP : va_P (dC, dI) vwCl (mW h a k F23 V24) H := hP
                  obtain ⟨hwF, hwV, hw⟩ : F23 = F10 ∧ V24 = V11 ∧ _ := hw
                  rw [hwF, hwV] at hP hD
                  have br22 := hw
                  refine lv_if_eq (tgt := 52) hx hb dX9_begin_43 (by decide) (fun c25 => ?_) (fun c25 => ?_)
                  · refine lv_iload_n hx hb dX9_begin_52 rfl (lv_at hl 0 rfl) ?_
                    refine lv_aload_n hx hb dX9_begin_53 rfl (lv_at hl 2 rfl) ?_
                    refine va_get (D := (dC, dI)) (ci := 10) (v := .int (V11 21)) (C := RX9) (T := TX9) (N := 46) hx hb hts in_m_begin_X9 hown hK hP 0 rfl rfl 21 (by decide) (hts (.fieldLink RX9 126 "ServiceTreeModel" "services" "I") (by decide +kernel)) (fun _ h9 => h9) rfl dX9_begin_54 ?_
                    refine p1_topr (v := .int (nI n)) (congrArg Value.int hI.1.2.1) ?_
                    refine lv_icmp_ge (tgt := 64) hx hb dX9_begin_57 (by decide) (fun c26 => ?_) (fun c26 => ?_)
                    · replace c26 : n ≤ i12 := (nI_leI (a := n) (b := i12) (by omega) (by omega)).mp c26
                      exact False.elim (by omega)
                    · replace c26 : ¬ (n ≤ i12) := fun q9 => c26 ((nI_leI (a := n) (b := i12) (by omega) (by omega)).mpr q9)
                      refine lv_iconst (v := 1) hx hb dX9_begin_60 (by decide) ?_
                      refine lv_goto (tgt := 65) hx hb dX9_begin_61 (by decide) ?_
                      refine lv_istore_n (lv' := [(1, .int 1), (2, .int (nI i12)), (0, .ref h)]) hx hb dX9_begin_65 rfl hl (by decide) rfl (fun ls hl => ?_)
                      refine lv_iload_n hx hb dX9_begin_66 rfl (lv_at hl 0 rfl) ?_
                      refine lv_if_eq (tgt := 75) hx hb dX9_begin_67 (by decide) (fun c9 => absurd c9 (by decide)) (fun _ => ?_)
                      refine lv_aload_n hx hb dX9_begin_70 rfl (lv_at hl 2 rfl) ?_
                      refine lv_iload_n hx hb dX9_begin_71 rfl (lv_at hl 1 rfl) ?_
                      have hFc := mw_free hD hS hA
                      refine va_callv (va_runV (As := [.int (nI i12)]) (rest := []) ⟨hx, hb, hml, hown, hts⟩ (c_m_beginOne l dC dI h a k F10 V11 n (b + 2 * i1) i12 H.size hI.1 (by omega) (by omega)) (cwV 1 hts wc_m_begin_m_beginOne_228 rfl rfl rfl (by decide +kernel) ⟨Nat.le_of_ble_eq_true rfl, Nat.le_of_ble_eq_true rfl⟩) ⟨fun a9 U g mk q => by obtain ⟨q0, q1, qP, qK, qD⟩ := q; exact ⟨q0, q1, qP, va_K.moved (u := U) (U := U.calling g mk a9) (Vm.Alike.refl U.vm) qK, qD⟩, va_recv hK hP (ci := 10) (q0 := 0) rfl rfl, fun U hU hW => ⟨rfl, by rw [hU], by rw [hU]; exact hP, va_K.moved hW.alike hK, hD.weaken (fun _ _ _ _ => trivial)⟩⟩ rfl rfl hl.1 rfl (lv_room (Nat.le_of_ble_eq_true rfl)) dX9_begin_72 ⟨Nat.le_of_ble_eq_true rfl, Nat.le_of_ble_eq_true rfl⟩) hS (fun q _ h => hFc q h) hFc (fun u t H1 locs ht hvm hw hB hz1 hk1 hS => ?_)
                      obtain ⟨F28, V29⟩ := u
                      replace hP := hB.1
                      rw [ht] at hP
                      replace hD : va_D A (mW h a k F28 V29) := hB.2.weaken (fun _ q _ h9 => hFc q.1 h9)
                      clear hB
                      generalize H1 = H at hP hS ⊢
                      replace hP : va_P (dC, dI) vwCl (mW h a k F28 V29) H := hP
                      obtain ⟨hwI, hwU, hwV, hw⟩ := hw
                      replace hU : ∀ j : Nat, j ∉ ([7, 8, 9, 11, 12, 25, 26, 42, 43, 44] : List Nat) → F28 j = F j := mw_tr (by decide) hwU hU
                      replace hV : ∀ j : Nat, j ∉ ([45] : List Nat) → V29 j = V j := mw_tr (by decide) hwV hV
                      replace hI : StM n (b + 2 * i1 + 2) F V F28 V29 := hI.trans hwI
                      have hlt : zc (F28 26) 40 < zc (F5 26) 40 := by rw [show F28 26 = _ from hw, t26]; exact zc_lt (ex20.symm.trans c21) (by decide) 40 (by rw [nI_clamp (by omega)]; omega)
                      have hbo := hw
                      refine lv_goto (tgt := 2) hx hb dX9_begin_75 (by decide) ?_
                      exact ih3 (i1 + 1) 1 F28 V29 _ _ _ (by omega) (by omega) (hI.mono (by omega)) hU hV (fun _ => (show i1 + 1 + zc (F28 26) 40 ≤ 40 by omega)) hP hD hS (lv_sub hl [0, 2] rfl)
                  · refine lv_iinc (v := nI (i12 + 1)) (lv' := [(2, .int (nI (i12 + 1))), (1, .int y7), (0, .ref h)]) hx hb dX9_begin_46 hl (k := 0) rfl (nI_add i12 1) (by decide) rfl (fun ls hl => ?_)
                    refine lv_goto (tgt := 12) hx hb dX9_begin_49 (by decide) ?_
                    exact ih14 (i12 + 1)  _ _ _ (by omega) (by omega)  hP hD hS (lv_sub hl [0, 1, 2] rfl)
        exact lp15 (n + 1) 0  _ _ _ (by omega) (by omega)  hP hD hS hl
  exact lp4 (41 + 1) 0 1 F V _ _ _ (by omega) (by omega) (hI.mono (by omega)) hU hV (fun _ => (show 0 + zc (F 26) 40 ≤ 40 by have := zc_le (F 26) 40; omega)) hP hD hS hl
def wq_m_members : List Cond := [.code yX9_members cX9_members 3 none, .fieldLink RX9 126 "ServiceTreeModel" "services" "I", .fieldLink RX9 77 "ServiceTreeModel" "member" "[Z", .fieldLink RX9 83 "ServiceTreeModel" "looked" "[Z", .methodLink RX9 174 yX9_addNeeds, .instanceMethod yX9_addNeeds, .selects RX9 yX9_addNeeds yX9_addNeeds, .initialized RX9] ++ (wsX90 ++ (wq_m_addNeeds_member))
theorem in_m_members_X9 : ∀ w ∈ wsX90, w ∈ wq_m_members := fun _ h => List.mem_append_right _ (List.mem_append_left _ (h))
set_option maxRecDepth 20000 in
theorem wi_m_members : ∀ w ∈ wq_m_members, w ∈ lw_tbl := List.forall_mem_append.mpr ⟨(by decide +kernel), List.forall_mem_append.mpr ⟨inKX9, wi_m_addNeeds_member⟩⟩
set_option maxRecDepth 20000 in
theorem wg_m_members : GoodIn wq_m_members wq_m_members := goodIn_sub (fun _ h => h) (by decide +kernel)
set_option maxRecDepth 20000 in
theorem wc_m_members_m_addNeeds_member_174 : GoodIn wq_m_members (wsV RX9 174 RX9 yX9_addNeeds wq_m_addNeeds_member) := goodIn_app (goodIn_of _ (by decide +kernel)) (fun w h => ⟨List.mem_append_right _ (List.mem_append_right _ (h)), (wg_m_addNeeds_member w h).2⟩)
def rm_m_members : Room := { frames := 2, cells := 0, slots := 0, locals := 47 }
set_option maxHeartbeats 4000000 in
set_option maxRecDepth 100000 in
theorem c_m_members (l : Launch) (dC : Nat → ClassId) (dI : Nat → Nat → Nat) (h : Nat) (a : Nat → Nat) (k : Nat → ClassId) (F : Nat → Nat → Int32) (V : Nat → Int32) (n b : Nat) (xv : Nat) (sz : Nat) (hI0 : InvM n b F V) (hb0 : b + 0 < 2147483648) (hp0 : xv < n) : Met l yX9_members wq_m_members rm_m_members (va_Pc [.ref h, .int (nI xv)] (fun U => U.heap.size = sz ∧ va_P (dC, dI) vwCl (mW h a k F V) U.heap ∧ va_K (dC, dI) vwCl (mT k) U ∧ va_D (fun _ => True) (mW h a k F V))) (va_Qv (fun (u : (Nat → Nat → Int32) × (Nat → Int32)) => StM n (b + 0) F V u.1 u.2 ∧ (∀ j : Nat, j ∉ ([27, 29] : List Nat) → u.1 j = F j) ∧ (∀ j : Nat, j ∉ ([] : List Nat) → u.2 j = V j) ∧ (True)) (fun (u : (Nat → Nat → Int32) × (Nat → Int32)) (t : State) => va_P (dC, dI) vwCl (mW h a k u.1 u.2) t.heap ∧ va_D (va_A (mW h a k F V) sz) (mW h a k u.1 u.2)) (va_A (mW h a k F V) sz)) 0 0 (va_A (mW h a k F V) sz) := by
  have hn : n ≤ 40 := hI0.1
  have hI : StM n b F V F V := StM.rf hI0
  have hU : ∀ j : Nat, j ∉ ([27, 29] : List Nat) → F j = F j := fun _ _ => rfl
  have hV : ∀ j : Nat, j ∉ ([] : List Nat) → V j = V j := fun _ _ => rfl
  refine Met.ofW (cc := cX9_members) (maxL := 3) (ret := none) (by decide) rfl ?_
  intro p e s m args below meth c s₁ B hml hv
  obtain ⟨rfl, hsz, hP, hK, hD0⟩ := hv
  have hx := B.exec
  have hb := B.bytes
  have hr := B.returns
  have hts := atoms_spec (ws := wq_m_members) B.pre
  have hown : s.vm.findClass RX9 = some m.cls := findClass_of_methodNamed B.named
  have hlocks := B.notSynchronized
  subst hsz
  have hD := hD0.self (sz := s.heap.size)
  generalize hAe : va_A (mW h a k F V) s.heap.size = A at hD ⊢
  have hA : ∀ q : Nat, s.heap.size ≤ q → A q := fun q h => by rw [← hAe]; exact Or.inr h
  have hS : va_S A s.heap s.heap [] := va_S.rf
  have hl := lv_entry ([.ref h, .int (nI xv)]) (n := 3) (Nat.le_of_ble_eq_true rfl)
  rw [lg_entry_eq]
  generalize (lg_sl ([.ref h, .int (nI xv)]) ++ List.replicate (3 - (lg_sl ([.ref h, .int (nI xv)])).length) Slot.unset).toArray = ls at hl ⊢
  have hl : lv_has ls 3 [(0, .ref h), (1, .int (nI xv))] := hl
  refine mw_Q (fun Q0 hQ => ?_)
  refine lv_iconst (v := 0) hx hb dX9_members_0 (by decide) ?_
  refine lv_istore_n (lv' := [(2, .int 0), (0, .ref h), (1, .int (nI xv))]) hx hb dX9_members_1 rfl hl (by decide) rfl (fun ls hl => ?_)
  have lp4 : ∀ (fu2 i1 : Nat)  (F5 : Nat → Nat → Int32) (V6 : Nat → Int32) (H : Heap) (locs : List Loc) (ls : Array Slot), n < i1 + fu2 → i1 ≤ n → StM n (b) F V F5 V6 → (∀ j : Nat, j ∉ ([27, 29] : List Nat) → F5 j = F j) → (∀ j : Nat, j ∉ ([] : List Nat) → V6 j = V j) → va_P (dC, dI) vwCl (mW h a k F5 V6) H → va_D A (mW h a k F5 V6) → va_S A s.heap H locs → lv_has ls 3 [(2, .int (nI i1)), (0, .ref h), (1, .int (nI xv))] → W p l e (headSpec wq_m_members rm_m_members).room s m ([.ref h, .int (nI xv)] : List Value).toArray below meth c H locs 0 0 Q0 (F0 m 2 ls []) := by
    intro fu2
    induction fu2 with
    | zero =>
      intro i1  F5 V6 H locs ls hf hi
      exact absurd hf (by omega)
    | succ fu2 ih3 =>
      intro i1  F5 V6 H locs ls hfi1 hii1 hI hU hV hP hD hS hl
      refine lv_iload_n hx hb dX9_members_2 rfl (lv_at hl 0 rfl) ?_
      refine lv_aload_n hx hb dX9_members_3 rfl (lv_at hl 1 rfl) ?_
      refine va_get (D := (dC, dI)) (ci := 10) (v := .int (V6 21)) (C := RX9) (T := TX9) (N := 46) hx hb hts in_m_members_X9 hown hK hP 0 rfl rfl 21 (by decide) (hts (.fieldLink RX9 126 "ServiceTreeModel" "services" "I") (by decide +kernel)) (fun _ h9 => h9) rfl dX9_members_4 ?_
      refine p1_topr (v := .int (nI n)) (congrArg Value.int hI.1.2.1) ?_
      refine lv_icmp_ge (tgt := 39) hx hb dX9_members_7 (by decide) (fun c7 => ?_) (fun c7 => ?_)
      · replace c7 : n ≤ i1 := (nI_leI (a := n) (b := i1) (by omega) (by omega)).mp c7
        refine lv_aload_n hx hb dX9_members_39 rfl (lv_at hl 1 rfl) ?_
        refine lv_aload_n hx hb dX9_members_40 rfl (lv_at hl 1 rfl) ?_
        refine va_get (D := (dC, dI)) (ci := 10) (v := .ref (a 27)) (C := RX9) (T := TX9) (N := 46) hx hb hts in_m_members_X9 hown hK hP 0 rfl rfl 27 (by decide) (hts (.fieldLink RX9 77 "ServiceTreeModel" "member" "[Z") (by decide +kernel)) (fun _ h9 => h9) rfl dX9_members_41 ?_
        have hFc := mw_free hD hS hA
        refine va_callv (va_runV (As := [.ref (a 27)]) (rest := []) ⟨hx, hb, hml, hown, hts⟩ (c_m_addNeeds_member l dC dI h a k F5 V6 n (b)  H.size hI.1 (by omega) ) (cwV 1 hts wc_m_members_m_addNeeds_member_174 rfl rfl rfl (by decide +kernel) ⟨Nat.le_of_ble_eq_true rfl, Nat.le_of_ble_eq_true rfl⟩) ⟨fun a9 U g mk q => by obtain ⟨q0, q1, qP, qK, qD⟩ := q; exact ⟨q0, q1, qP, va_K.moved (u := U) (U := U.calling g mk a9) (Vm.Alike.refl U.vm) qK, qD⟩, va_recv hK hP (ci := 10) (q0 := 0) rfl rfl, fun U hU hW => ⟨rfl, by rw [hU], by rw [hU]; exact hP, va_K.moved hW.alike hK, hD.weaken (fun _ _ _ _ => trivial)⟩⟩ rfl rfl hl.1 rfl (lv_room (Nat.le_of_ble_eq_true rfl)) dX9_members_44 ⟨Nat.le_of_ble_eq_true rfl, Nat.le_of_ble_eq_true rfl⟩) hS (fun q _ h => hFc q h) hFc (fun u t H1 locs ht hvm hw hB hz1 hk1 hS => ?_)
        obtain ⟨F9, V10⟩ := u
        replace hP := hB.1
        rw [ht] at hP
        replace hD : va_D A (mW h a k F9 V10) := hB.2.weaken (fun _ q _ h9 => hFc q.1 h9)
        clear hB
        generalize H1 = H at hP hS ⊢
        replace hP : va_P (dC, dI) vwCl (mW h a k F9 V10) H := hP
        obtain ⟨hwI, hwU, hwV, hw⟩ := hw
        replace hU : ∀ j : Nat, j ∉ ([27, 29] : List Nat) → F9 j = F j := mw_tr (by decide) hwU hU
        replace hV : ∀ j : Nat, j ∉ ([] : List Nat) → V10 j = V j := mw_tr (by decide) hwV hV
        replace hI : StM n (b + 0) F V F9 V10 := hI.trans hwI
        replace hI : StM n (b) F V F9 V10 := hI
        rw [hQ]
        exact W.vret hx hb hr (fun t ht hW => ⟨⟨(F9, V10), rfl, ⟨hI.mono (by omega), hU, hV, trivial⟩, by rw [ht]; exact hP, hD⟩, hS.F ht⟩) hS.2.2 dX9_members_47
      · replace c7 : ¬ (n ≤ i1) := fun q9 => c7 ((nI_leI (a := n) (b := i1) (by omega) (by omega)).mpr q9)
        refine lv_aload_n hx hb dX9_members_10 rfl (lv_at hl 1 rfl) ?_
        refine va_get (D := (dC, dI)) (ci := 10) (v := .ref (a 27)) (C := RX9) (T := TX9) (N := 46) hx hb hts in_m_members_X9 hown hK hP 0 rfl rfl 27 (by decide) (hts (.fieldLink RX9 77 "ServiceTreeModel" "member" "[Z") (by decide +kernel)) (fun _ h9 => h9) rfl dX9_members_11 ?_
        refine lv_iload_n hx hb dX9_members_14 rfl (lv_at hl 0 rfl) ?_
        refine lv_iload_n hx hb dX9_members_15 rfl (lv_at hl 0 rfl) ?_
        refine lv_iload_n hx hb dX9_members_16 rfl (lv_at hl 2 rfl) ?_
        refine lv_icmp_ne (tgt := 24) hx hb dX9_members_17 (by decide) (fun c11 => ?_) (fun c11 => ?_)
        · replace c11 : ¬ (i1 = xv) := fun q9 => c11 ((nI_eq (a := i1) (b := xv) (by omega) (by omega)).mpr q9)
          refine lv_iconst (v := 0) hx hb dX9_members_24 (by decide) ?_
          refine va_zast (n := 40) (f := F5 27) hx hb hK hP hD hS 23 22 rfl rfl (vp_in_nI (n := i1) (by omega) (by decide)) dX9_members_25 (fun H locs hP hD hS => ?_)
          rw [mW_set_27] at hP hD
          obtain ⟨F12, eF12⟩ : ∃ f9 : Nat → Nat → Int32, f9 = va_up F5 27 (upd (F5 27) (nI i1).toNatClampNeg (vp_nar .boolean 0)) := ⟨_, rfl⟩
          rw [← eF12] at hP hD
          replace hI : StM n (b) F V F12 V6 := ⟨by rw [eF12]; exact hI.1.setF (by decide), trivial⟩
          replace hU : ∀ j : Nat, j ∉ ([27, 29] : List Nat) → F12 j = F j := by rw [eF12]; exact mw_up (by decide) hU
          refine lv_aload_n hx hb dX9_members_26 rfl (lv_at hl 1 rfl) ?_
          refine va_get (D := (dC, dI)) (ci := 10) (v := .ref (a 29)) (C := RX9) (T := TX9) (N := 46) hx hb hts in_m_members_X9 hown hK hP 0 rfl rfl 29 (by decide) (hts (.fieldLink RX9 83 "ServiceTreeModel" "looked" "[Z") (by decide +kernel)) (fun _ h9 => h9) rfl dX9_members_27 ?_
          refine lv_iload_n hx hb dX9_members_30 rfl (lv_at hl 0 rfl) ?_
          refine lv_iconst (v := 0) hx hb dX9_members_31 (by decide) ?_
          refine va_zast (n := 40) (f := F12 29) hx hb hK hP hD hS 25 24 rfl rfl (vp_in_nI (n := i1) (by omega) (by decide)) dX9_members_32 (fun H locs hP hD hS => ?_)
          rw [mW_set_29] at hP hD
          obtain ⟨F13, eF13⟩ : ∃ f9 : Nat → Nat → Int32, f9 = va_up F12 29 (upd (F12 29) (nI i1).toNatClampNeg (vp_nar .boolean 0)) := ⟨_, rfl⟩
          rw [← eF13] at hP hD
          replace hI : StM n (b) F V F13 V6 := ⟨by rw [eF13]; exact hI.1.setF (by decide), trivial⟩
          replace hU : ∀ j : Nat, j ∉ ([27, 29] : List Nat) → F13 j = F j := by rw [eF13]; exact mw_up (by decide) hU
          refine lv_iinc (v := nI (i1 + 1)) (lv' := [(2, .int (nI (i1 + 1))), (0, .ref h), (1, .int (nI xv))]) hx hb dX9_members_33 hl (k := 0) rfl (nI_add i1 1) (by decide) rfl (fun ls hl => ?_)
          refine lv_goto (tgt := 2) hx hb dX9_members_36 (by decide) ?_
          exact ih3 (i1 + 1)  F13 V6 _ _ _ (by omega) (by omega) (hI.mono (by omega)) hU hV  hP hD hS (lv_sub hl [0, 1, 2] rfl)
        · replace c11 : i1 = xv := (nI_eq (a := i1) (b := xv) (by omega) (by omega)).mp c11
          refine lv_iconst (v := 1) hx hb dX9_members_20 (by decide) ?_
          refine lv_goto (tgt := 25) hx hb dX9_members_21 (by decide) ?_
          refine va_zast (n := 40) (f := F5 27) hx hb hK hP hD hS 23 22 rfl rfl (vp_in_nI (n := i1) (by omega) (by decide)) dX9_members_25 (fun H locs hP hD hS => ?_)
          rw [mW_set_27] at hP hD
          obtain ⟨F14, eF14⟩ : ∃ f9 : Nat → Nat → Int32, f9 = va_up F5 27 (upd (F5 27) (nI i1).toNatClampNeg (vp_nar .boolean 1)) := ⟨_, rfl⟩
          rw [← eF14] at hP hD
          replace hI : StM n (b) F V F14 V6 := ⟨by rw [eF14]; exact hI.1.setF (by decide), trivial⟩
          replace hU : ∀ j : Nat, j ∉ ([27, 29] : List Nat) → F14 j = F j := by rw [eF14]; exact mw_up (by decide) hU
          refine lv_aload_n hx hb dX9_members_26 rfl (lv_at hl 1 rfl) ?_
          refine va_get (D := (dC, dI)) (ci := 10) (v := .ref (a 29)) (C := RX9) (T := TX9) (N := 46) hx hb hts in_m_members_X9 hown hK hP 0 rfl rfl 29 (by decide) (hts (.fieldLink RX9 83 "ServiceTreeModel" "looked" "[Z") (by decide +kernel)) (fun _ h9 => h9) rfl dX9_members_27 ?_
          refine lv_iload_n hx hb dX9_members_30 rfl (lv_at hl 0 rfl) ?_
          refine lv_iconst (v := 0) hx hb dX9_members_31 (by decide) ?_
          refine va_zast (n := 40) (f := F14 29) hx hb hK hP hD hS 25 24 rfl rfl (vp_in_nI (n := i1) (by omega) (by decide)) dX9_members_32 (fun H locs hP hD hS => ?_)
          rw [mW_set_29] at hP hD
          obtain ⟨F15, eF15⟩ : ∃ f9 : Nat → Nat → Int32, f9 = va_up F14 29 (upd (F14 29) (nI i1).toNatClampNeg (vp_nar .boolean 0)) := ⟨_, rfl⟩
          rw [← eF15] at hP hD
          replace hI : StM n (b) F V F15 V6 := ⟨by rw [eF15]; exact hI.1.setF (by decide), trivial⟩
          replace hU : ∀ j : Nat, j ∉ ([27, 29] : List Nat) → F15 j = F j := by rw [eF15]; exact mw_up (by decide) hU
          refine lv_iinc (v := nI (i1 + 1)) (lv' := [(2, .int (nI (i1 + 1))), (0, .ref h), (1, .int (nI xv))]) hx hb dX9_members_33 hl (k := 0) rfl (nI_add i1 1) (by decide) rfl (fun ls hl => ?_)
          refine lv_goto (tgt := 2) hx hb dX9_members_36 (by decide) ?_
          exact ih3 (i1 + 1)  F15 V6 _ _ _ (by omega) (by omega) (hI.mono (by omega)) hU hV  hP hD hS (lv_sub hl [0, 1, 2] rfl)
  exact lp4 (n + 1) 0  F V _ _ _ (by omega) (by omega) (hI.mono (by omega)) hU hV  hP hD hS hl
