theorem dX9_jobs_0 : decode cX9_jobs 0 = .ok (.iconst 0, 1) := by decide +kernel
theorem dX9_jobs_1 : decode cX9_jobs 1 = .ok (.istore_n 1, 1) := by decide +kernel
theorem dX9_jobs_2 : decode cX9_jobs 2 = .ok (.iconst 0, 1) := by decide +kernel
theorem dX9_jobs_3 : decode cX9_jobs 3 = .ok (.istore_n 2, 1) := by decide +kernel
theorem dX9_jobs_4 : decode cX9_jobs 4 = .ok (.iload_n 2, 1) := by decide +kernel
theorem dX9_jobs_5 : decode cX9_jobs 5 = .ok (.aload_n 0, 1) := by decide +kernel
theorem dX9_jobs_6 : decode cX9_jobs 6 = .ok (.getfield 126, 3) := by decide +kernel
theorem dX9_jobs_9 : decode cX9_jobs 9 = .ok (.if_icmp .ge 26, 3) := by decide +kernel
theorem dX9_jobs_12 : decode cX9_jobs 12 = .ok (.iload_n 1, 1) := by decide +kernel
theorem dX9_jobs_13 : decode cX9_jobs 13 = .ok (.aload_n 0, 1) := by decide +kernel
theorem dX9_jobs_14 : decode cX9_jobs 14 = .ok (.getfield 71, 3) := by decide +kernel
theorem dX9_jobs_17 : decode cX9_jobs 17 = .ok (.iload_n 2, 1) := by decide +kernel
theorem dX9_jobs_18 : decode cX9_jobs 18 = .ok (.iaload, 1) := by decide +kernel
theorem dX9_jobs_19 : decode cX9_jobs 19 = .ok (.ifCond .eq 7, 3) := by decide +kernel
theorem dX9_jobs_22 : decode cX9_jobs 22 = .ok (.iconst 1, 1) := by decide +kernel
theorem dX9_jobs_23 : decode cX9_jobs 23 = .ok (.goto 4, 3) := by decide +kernel
theorem dX9_jobs_26 : decode cX9_jobs 26 = .ok (.iconst 0, 1) := by decide +kernel
theorem dX9_jobs_27 : decode cX9_jobs 27 = .ok (.iadd, 1) := by decide +kernel
theorem dX9_jobs_28 : decode cX9_jobs 28 = .ok (.istore_n 1, 1) := by decide +kernel
theorem dX9_jobs_29 : decode cX9_jobs 29 = .ok (.iinc 2 1, 3) := by decide +kernel
theorem dX9_jobs_32 : decode cX9_jobs 32 = .ok (.goto (-28), 3) := by decide +kernel
theorem dX9_jobs_35 : decode cX9_jobs 35 = .ok (.iload_n 1, 1) := by decide +kernel
theorem dX9_jobs_36 : decode cX9_jobs 36 = .ok (.ireturn, 1) := by decide +kernel
theorem dX9_isPair_0 : decode cX9_isPair 0 = .ok (.iload_n 1, 1) := by decide +kernel
theorem dX9_isPair_1 : decode cX9_isPair 1 = .ok (.ifCond .lt 33, 3) := by decide +kernel
theorem dX9_isPair_4 : decode cX9_isPair 4 = .ok (.iload_n 1, 1) := by decide +kernel
theorem dX9_isPair_5 : decode cX9_isPair 5 = .ok (.iconst 3, 1) := by decide +kernel
theorem dX9_isPair_6 : decode cX9_isPair 6 = .ok (.if_icmp .gt 28, 3) := by decide +kernel
theorem dX9_isPair_9 : decode cX9_isPair 9 = .ok (.aload_n 0, 1) := by decide +kernel
theorem dX9_isPair_10 : decode cX9_isPair 10 = .ok (.iload_n 2, 1) := by decide +kernel
theorem dX9_isPair_11 : decode cX9_isPair 11 = .ok (.invokevirtual 135, 3) := by decide +kernel
theorem dX9_isPair_14 : decode cX9_isPair 14 = .ok (.ifCond .eq 20, 3) := by decide +kernel
theorem dX9_isPair_17 : decode cX9_isPair 17 = .ok (.aload_n 0, 1) := by decide +kernel
theorem dX9_isPair_18 : decode cX9_isPair 18 = .ok (.iload_n 3, 1) := by decide +kernel
theorem dX9_isPair_19 : decode cX9_isPair 19 = .ok (.invokevirtual 135, 3) := by decide +kernel
theorem dX9_isPair_22 : decode cX9_isPair 22 = .ok (.ifCond .eq 12, 3) := by decide +kernel
theorem dX9_isPair_25 : decode cX9_isPair 25 = .ok (.iload_n 2, 1) := by decide +kernel
theorem dX9_isPair_26 : decode cX9_isPair 26 = .ok (.iload_n 3, 1) := by decide +kernel
theorem dX9_isPair_27 : decode cX9_isPair 27 = .ok (.if_icmp .eq 7, 3) := by decide +kernel
theorem dX9_isPair_30 : decode cX9_isPair 30 = .ok (.iconst 1, 1) := by decide +kernel
theorem dX9_isPair_31 : decode cX9_isPair 31 = .ok (.goto 4, 3) := by decide +kernel
theorem dX9_isPair_34 : decode cX9_isPair 34 = .ok (.iconst 0, 1) := by decide +kernel
theorem dX9_isPair_35 : decode cX9_isPair 35 = .ok (.ireturn, 1) := by decide +kernel
theorem dX9_set_0 : decode cX9_set 0 = .ok (.aload_n 0, 1) := by decide +kernel
theorem dX9_set_1 : decode cX9_set 1 = .ok (.getfield 68, 3) := by decide +kernel
theorem dX9_set_4 : decode cX9_set 4 = .ok (.iload_n 1, 1) := by decide +kernel
theorem dX9_set_5 : decode cX9_set 5 = .ok (.bipush 40, 2) := by decide +kernel
theorem dX9_set_7 : decode cX9_set 7 = .ok (.imul, 1) := by decide +kernel
theorem dX9_set_8 : decode cX9_set 8 = .ok (.iload_n 2, 1) := by decide +kernel
theorem dX9_set_9 : decode cX9_set 9 = .ok (.iadd, 1) := by decide +kernel
theorem dX9_set_10 : decode cX9_set 10 = .ok (.bipush 40, 2) := by decide +kernel
theorem dX9_set_12 : decode cX9_set 12 = .ok (.imul, 1) := by decide +kernel
theorem dX9_set_13 : decode cX9_set 13 = .ok (.iload_n 3, 1) := by decide +kernel
theorem dX9_set_14 : decode cX9_set 14 = .ok (.iadd, 1) := by decide +kernel
theorem dX9_set_15 : decode cX9_set 15 = .ok (.iload 4, 2) := by decide +kernel
theorem dX9_set_17 : decode cX9_set 17 = .ok (.bastore, 1) := by decide +kernel
theorem dX9_set_18 : decode cX9_set 18 = .ok (.iload_n 1, 1) := by decide +kernel
theorem dX9_set_19 : decode cX9_set 19 = .ok (.iconst 3, 1) := by decide +kernel
theorem dX9_set_20 : decode cX9_set 20 = .ok (.if_icmp .ne 21, 3) := by decide +kernel
theorem dX9_set_23 : decode cX9_set 23 = .ok (.aload_n 0, 1) := by decide +kernel
theorem dX9_set_24 : decode cX9_set 24 = .ok (.getfield 68, 3) := by decide +kernel
theorem dX9_set_27 : decode cX9_set 27 = .ok (.iload_n 1, 1) := by decide +kernel
theorem dX9_set_28 : decode cX9_set 28 = .ok (.bipush 40, 2) := by decide +kernel
theorem dX9_set_30 : decode cX9_set 30 = .ok (.imul, 1) := by decide +kernel
theorem dX9_set_31 : decode cX9_set 31 = .ok (.iload_n 3, 1) := by decide +kernel
theorem dX9_set_32 : decode cX9_set 32 = .ok (.iadd, 1) := by decide +kernel
theorem dX9_set_33 : decode cX9_set 33 = .ok (.bipush 40, 2) := by decide +kernel
theorem dX9_set_35 : decode cX9_set 35 = .ok (.imul, 1) := by decide +kernel
theorem dX9_set_36 : decode cX9_set 36 = .ok (.iload_n 2, 1) := by decide +kernel
theorem dX9_set_37 : decode cX9_set 37 = .ok (.iadd, 1) := by decide +kernel
theorem dX9_set_38 : decode cX9_set 38 = .ok (.iload 4, 2) := by decide +kernel
theorem dX9_set_40 : decode cX9_set 40 = .ok (.bastore, 1) := by decide +kernel
theorem dX9_set_41 : decode cX9_set 41 = .ok (.return_, 1) := by decide +kernel
theorem dX9_relation_0 : decode cX9_relation 0 = .ok (.aload_n 0, 1) := by decide +kernel
theorem dX9_relation_1 : decode cX9_relation 1 = .ok (.iload_n 1, 1) := by decide +kernel
theorem dX9_relation_2 : decode cX9_relation 2 = .ok (.iload_n 2, 1) := by decide +kernel
theorem dX9_relation_3 : decode cX9_relation 3 = .ok (.iload_n 3, 1) := by decide +kernel
theorem dX9_relation_4 : decode cX9_relation 4 = .ok (.invokevirtual 139, 3) := by decide +kernel
theorem dX9_relation_7 : decode cX9_relation 7 = .ok (.ifCond .ne 5, 3) := by decide +kernel
theorem dX9_relation_10 : decode cX9_relation 10 = .ok (.iconst (-1), 1) := by decide +kernel
theorem dX9_relation_11 : decode cX9_relation 11 = .ok (.ireturn, 1) := by decide +kernel
theorem dX9_relation_12 : decode cX9_relation 12 = .ok (.aload_n 0, 1) := by decide +kernel
theorem dX9_relation_13 : decode cX9_relation 13 = .ok (.invokevirtual 143, 3) := by decide +kernel
theorem dX9_relation_16 : decode cX9_relation 16 = .ok (.ifCond .le 6, 3) := by decide +kernel
theorem dX9_relation_19 : decode cX9_relation 19 = .ok (.bipush (-3), 2) := by decide +kernel
theorem dX9_relation_21 : decode cX9_relation 21 = .ok (.ireturn, 1) := by decide +kernel
theorem dX9_relation_22 : decode cX9_relation 22 = .ok (.iload_n 1, 1) := by decide +kernel
theorem dX9_relation_23 : decode cX9_relation 23 = .ok (.ifCond .eq 8, 3) := by decide +kernel
theorem dX9_relation_26 : decode cX9_relation 26 = .ok (.iload_n 1, 1) := by decide +kernel
theorem dX9_relation_27 : decode cX9_relation 27 = .ok (.iconst 3, 1) := by decide +kernel
theorem dX9_relation_28 : decode cX9_relation 28 = .ok (.if_icmp .ne 30, 3) := by decide +kernel
theorem dX9_relation_31 : decode cX9_relation 31 = .ok (.aload_n 0, 1) := by decide +kernel
theorem dX9_relation_32 : decode cX9_relation 32 = .ok (.getfield 31, 3) := by decide +kernel
theorem dX9_relation_35 : decode cX9_relation 35 = .ok (.iload_n 2, 1) := by decide +kernel
theorem dX9_relation_36 : decode cX9_relation 36 = .ok (.iaload, 1) := by decide +kernel
theorem dX9_relation_37 : decode cX9_relation 37 = .ok (.invokestatic 147, 3) := by decide +kernel
theorem dX9_relation_40 : decode cX9_relation 40 = .ok (.ifCond .eq 15, 3) := by decide +kernel
theorem dX9_relation_43 : decode cX9_relation 43 = .ok (.aload_n 0, 1) := by decide +kernel
theorem dX9_relation_44 : decode cX9_relation 44 = .ok (.getfield 31, 3) := by decide +kernel
theorem dX9_relation_47 : decode cX9_relation 47 = .ok (.iload_n 3, 1) := by decide +kernel
theorem dX9_relation_48 : decode cX9_relation 48 = .ok (.iaload, 1) := by decide +kernel
theorem dX9_relation_49 : decode cX9_relation 49 = .ok (.invokestatic 147, 3) := by decide +kernel
theorem dX9_relation_52 : decode cX9_relation 52 = .ok (.ifCond .ne 6, 3) := by decide +kernel
theorem dX9_relation_55 : decode cX9_relation 55 = .ok (.bipush (-4), 2) := by decide +kernel
theorem dX9_relation_57 : decode cX9_relation 57 = .ok (.ireturn, 1) := by decide +kernel
theorem dX9_relation_58 : decode cX9_relation 58 = .ok (.aload_n 0, 1) := by decide +kernel
theorem dX9_relation_59 : decode cX9_relation 59 = .ok (.iload_n 1, 1) := by decide +kernel
theorem dX9_relation_60 : decode cX9_relation 60 = .ok (.iload_n 2, 1) := by decide +kernel
theorem dX9_relation_61 : decode cX9_relation 61 = .ok (.iload_n 3, 1) := by decide +kernel
theorem dX9_relation_62 : decode cX9_relation 62 = .ok (.invokevirtual 150, 3) := by decide +kernel
theorem dX9_relation_65 : decode cX9_relation 65 = .ok (.ifCond .eq 5, 3) := by decide +kernel
theorem dX9_relation_68 : decode cX9_relation 68 = .ok (.iconst 0, 1) := by decide +kernel
theorem dX9_relation_69 : decode cX9_relation 69 = .ok (.ireturn, 1) := by decide +kernel
theorem dX9_relation_70 : decode cX9_relation 70 = .ok (.aload_n 0, 1) := by decide +kernel
theorem dX9_relation_71 : decode cX9_relation 71 = .ok (.getfield 153, 3) := by decide +kernel
theorem dX9_relation_74 : decode cX9_relation 74 = .ok (.sipush 400, 3) := by decide +kernel
theorem dX9_relation_77 : decode cX9_relation 77 = .ok (.if_icmp .ne 6, 3) := by decide +kernel
theorem dX9_relation_80 : decode cX9_relation 80 = .ok (.bipush (-6), 2) := by decide +kernel
theorem dX9_relation_82 : decode cX9_relation 82 = .ok (.ireturn, 1) := by decide +kernel
theorem dX9_relation_83 : decode cX9_relation 83 = .ok (.aload_n 0, 1) := by decide +kernel
theorem dX9_relation_84 : decode cX9_relation 84 = .ok (.iload_n 1, 1) := by decide +kernel
theorem dX9_relation_85 : decode cX9_relation 85 = .ok (.iload_n 2, 1) := by decide +kernel
theorem dX9_relation_86 : decode cX9_relation 86 = .ok (.iload_n 3, 1) := by decide +kernel
theorem dX9_relation_87 : decode cX9_relation 87 = .ok (.iconst 1, 1) := by decide +kernel
theorem dX9_relation_88 : decode cX9_relation 88 = .ok (.invokevirtual 156, 3) := by decide +kernel
theorem dX9_relation_91 : decode cX9_relation 91 = .ok (.aload_n 0, 1) := by decide +kernel
theorem dX9_relation_92 : decode cX9_relation 92 = .ok (.dup, 1) := by decide +kernel
theorem dX9_relation_93 : decode cX9_relation 93 = .ok (.getfield 153, 3) := by decide +kernel
theorem dX9_relation_96 : decode cX9_relation 96 = .ok (.iconst 1, 1) := by decide +kernel
theorem dX9_relation_97 : decode cX9_relation 97 = .ok (.iadd, 1) := by decide +kernel
theorem dX9_relation_98 : decode cX9_relation 98 = .ok (.putfield 153, 3) := by decide +kernel
theorem dX9_relation_101 : decode cX9_relation 101 = .ok (.iconst 1, 1) := by decide +kernel
theorem dX9_relation_102 : decode cX9_relation 102 = .ok (.ireturn, 1) := by decide +kernel
theorem dX9_undo_0 : decode cX9_undo 0 = .ok (.aload_n 0, 1) := by decide +kernel
theorem dX9_undo_1 : decode cX9_undo 1 = .ok (.iload_n 1, 1) := by decide +kernel
theorem dX9_undo_2 : decode cX9_undo 2 = .ok (.iload_n 2, 1) := by decide +kernel
theorem dX9_undo_3 : decode cX9_undo 3 = .ok (.iload_n 3, 1) := by decide +kernel
theorem dX9_undo_4 : decode cX9_undo 4 = .ok (.invokevirtual 139, 3) := by decide +kernel
theorem dX9_undo_7 : decode cX9_undo 7 = .ok (.ifCond .ne 5, 3) := by decide +kernel
theorem dX9_undo_10 : decode cX9_undo 10 = .ok (.iconst (-1), 1) := by decide +kernel
theorem dX9_undo_11 : decode cX9_undo 11 = .ok (.ireturn, 1) := by decide +kernel
theorem dX9_undo_12 : decode cX9_undo 12 = .ok (.aload_n 0, 1) := by decide +kernel
theorem dX9_undo_13 : decode cX9_undo 13 = .ok (.invokevirtual 143, 3) := by decide +kernel
theorem dX9_undo_16 : decode cX9_undo 16 = .ok (.ifCond .le 6, 3) := by decide +kernel
theorem dX9_undo_19 : decode cX9_undo 19 = .ok (.bipush (-3), 2) := by decide +kernel
theorem dX9_undo_21 : decode cX9_undo 21 = .ok (.ireturn, 1) := by decide +kernel
theorem dX9_undo_22 : decode cX9_undo 22 = .ok (.aload_n 0, 1) := by decide +kernel
theorem dX9_undo_23 : decode cX9_undo 23 = .ok (.iload_n 1, 1) := by decide +kernel
theorem dX9_undo_24 : decode cX9_undo 24 = .ok (.iload_n 2, 1) := by decide +kernel
theorem dX9_undo_25 : decode cX9_undo 25 = .ok (.iload_n 3, 1) := by decide +kernel
theorem dX9_undo_26 : decode cX9_undo 26 = .ok (.invokevirtual 150, 3) := by decide +kernel
theorem dX9_undo_29 : decode cX9_undo 29 = .ok (.ifCond .ne 5, 3) := by decide +kernel
theorem dX9_undo_32 : decode cX9_undo 32 = .ok (.iconst 0, 1) := by decide +kernel
theorem dX9_undo_33 : decode cX9_undo 33 = .ok (.ireturn, 1) := by decide +kernel
theorem dX9_undo_34 : decode cX9_undo 34 = .ok (.aload_n 0, 1) := by decide +kernel
theorem dX9_undo_35 : decode cX9_undo 35 = .ok (.iload_n 1, 1) := by decide +kernel
theorem dX9_undo_36 : decode cX9_undo 36 = .ok (.iload_n 2, 1) := by decide +kernel
theorem dX9_undo_37 : decode cX9_undo 37 = .ok (.iload_n 3, 1) := by decide +kernel
theorem dX9_undo_38 : decode cX9_undo 38 = .ok (.iconst 0, 1) := by decide +kernel
theorem dX9_undo_39 : decode cX9_undo 39 = .ok (.invokevirtual 156, 3) := by decide +kernel
theorem dX9_undo_42 : decode cX9_undo 42 = .ok (.aload_n 0, 1) := by decide +kernel
theorem dX9_undo_43 : decode cX9_undo 43 = .ok (.dup, 1) := by decide +kernel
theorem dX9_undo_44 : decode cX9_undo 44 = .ok (.getfield 153, 3) := by decide +kernel
theorem dX9_undo_47 : decode cX9_undo 47 = .ok (.iconst 1, 1) := by decide +kernel
theorem dX9_undo_48 : decode cX9_undo 48 = .ok (.isub, 1) := by decide +kernel
theorem dX9_undo_49 : decode cX9_undo 49 = .ok (.putfield 153, 3) := by decide +kernel
theorem dX9_undo_52 : decode cX9_undo 52 = .ok (.iconst 1, 1) := by decide +kernel
theorem dX9_undo_53 : decode cX9_undo 53 = .ok (.ireturn, 1) := by decide +kernel
def wq_m_jobs : List Cond := [.code yX9_jobs cX9_jobs 3 (some .int), .fieldLink RX9 126 "ServiceTreeModel" "services" "I", .fieldLink RX9 71 "ServiceTreeModel" "job" "[I"] ++ (wsX90)
theorem in_m_jobs_X9 : ∀ w ∈ wsX90, w ∈ wq_m_jobs := fun _ h => List.mem_append_right _ (h)
set_option maxRecDepth 20000 in
theorem wi_m_jobs : ∀ w ∈ wq_m_jobs, w ∈ lw_tbl := List.forall_mem_append.mpr ⟨(by decide +kernel), inKX9⟩
set_option maxRecDepth 20000 in
theorem wg_m_jobs : GoodIn wq_m_jobs wq_m_jobs := goodIn_sub (fun _ h => h) (by decide +kernel)
def rm_m_jobs : Room := { frames := 0, cells := 0, slots := 0, locals := 0 }
set_option maxHeartbeats 4000000 in
set_option maxRecDepth 100000 in
theorem c_m_jobs (l : Launch) (dC : Nat → ClassId) (dI : Nat → Nat → Nat) (h : Nat) (a : Nat → Nat) (k : Nat → ClassId) (F : Nat → Nat → Int32) (V : Nat → Int32) (n b : Nat)  (sz : Nat) (hI0 : InvM n b F V) (hb0 : b + 0 < 2147483648)  : Met l yX9_jobs wq_m_jobs rm_m_jobs (va_Pc [.ref h] (fun U => U.heap.size = sz ∧ va_P (dC, dI) vwCl (mW h a k F V) U.heap ∧ va_K (dC, dI) vwCl (mT k) U ∧ va_D (fun _ => True) (mW h a k F V))) (va_Qi (fun (r : Int32) (u : (Nat → Nat → Int32) × (Nat → Int32)) => u.1 = F ∧ u.2 = V ∧ (True)) (fun (u : (Nat → Nat → Int32) × (Nat → Int32)) (t : State) => va_P (dC, dI) vwCl (mW h a k u.1 u.2) t.heap ∧ va_D (va_A (mW h a k F V) sz) (mW h a k u.1 u.2)) (va_A (mW h a k F V) sz)) 0 0 (va_A (mW h a k F V) sz) := by
  have hn : n ≤ 40 := hI0.1
  have hI : StM n b F V F V := StM.rf hI0
  have hU : ∀ j : Nat, j ∉ ([] : List Nat) → F j = F j := fun _ _ => rfl
  have hV : ∀ j : Nat, j ∉ ([] : List Nat) → V j = V j := fun _ _ => rfl
  refine Met.ofW (cc := cX9_jobs) (maxL := 3) (ret := (some .int)) (by decide) rfl ?_
  intro p e s m args below meth c s₁ B hml hv
  obtain ⟨rfl, hsz, hP, hK, hD0⟩ := hv
  have hx := B.exec
  have hb := B.bytes
  have hr := B.returns
  have hts := atoms_spec (ws := wq_m_jobs) B.pre
  have hown : s.vm.findClass RX9 = some m.cls := findClass_of_methodNamed B.named
  have hlocks := B.notSynchronized
  subst hsz
  have hD := hD0.self (sz := s.heap.size)
  generalize hAe : va_A (mW h a k F V) s.heap.size = A at hD ⊢
  have hA : ∀ q : Nat, s.heap.size ≤ q → A q := fun q h => by rw [← hAe]; exact Or.inr h
  have hS : va_S A s.heap s.heap [] := va_S.rf
  have hl := lv_entry ([.ref h]) (n := 3) (Nat.le_of_ble_eq_true rfl)
  rw [lg_entry_eq]
  generalize (lg_sl ([.ref h]) ++ List.replicate (3 - (lg_sl ([.ref h])).length) Slot.unset).toArray = ls at hl ⊢
  have hl : lv_has ls 3 [(0, .ref h)] := hl
  refine mw_Q (fun Q0 hQ => ?_)
  refine lv_iconst (v := 0) hx hb dX9_jobs_0 (by decide) ?_
  refine lv_istore_n (lv' := [(1, .int 0), (0, .ref h)]) hx hb dX9_jobs_1 rfl hl (by decide) rfl (fun ls hl => ?_)
  refine lv_iconst (v := 0) hx hb dX9_jobs_2 (by decide) ?_
  refine lv_istore_n (lv' := [(2, .int 0), (1, .int 0), (0, .ref h)]) hx hb dX9_jobs_3 rfl hl (by decide) rfl (fun ls hl => ?_)
  have lp4 : ∀ (fu2 i1 : Nat) (y5 : Int32) (H : Heap) (locs : List Loc) (ls : Array Slot), n < i1 + fu2 → i1 ≤ n → va_P (dC, dI) vwCl (mW h a k F V) H → va_D A (mW h a k F V) → va_S A s.heap H locs → lv_has ls 3 [(2, .int (nI i1)), (1, .int y5), (0, .ref h)] → W p l e (headSpec wq_m_jobs rm_m_jobs).room s m ([.ref h] : List Value).toArray below meth c H locs 0 0 Q0 (F0 m 4 ls []) := by
    intro fu2
    induction fu2 with
    | zero =>
      intro i1 y5 H locs ls hf hi
      exact absurd hf (by omega)
    | succ fu2 ih3 =>
      intro i1 y5 H locs ls hfi1 hii1 hP hD hS hl
      refine lv_iload_n hx hb dX9_jobs_4 rfl (lv_at hl 0 rfl) ?_
      refine lv_aload_n hx hb dX9_jobs_5 rfl (lv_at hl 2 rfl) ?_
      refine va_get (D := (dC, dI)) (ci := 10) (v := .int (V 21)) (C := RX9) (T := TX9) (N := 46) hx hb hts in_m_jobs_X9 hown hK hP 0 rfl rfl 21 (by decide) (hts (.fieldLink RX9 126 "ServiceTreeModel" "services" "I") (by decide +kernel)) (fun _ h9 => h9) rfl dX9_jobs_6 ?_
      refine p1_topr (v := .int (nI n)) (congrArg Value.int hI.1.2.1) ?_
      refine lv_icmp_ge (tgt := 35) hx hb dX9_jobs_9 (by decide) (fun c6 => ?_) (fun c6 => ?_)
      · replace c6 : n ≤ i1 := (nI_leI (a := n) (b := i1) (by omega) (by omega)).mp c6
        refine lv_iload_n hx hb dX9_jobs_35 rfl (lv_at hl 1 rfl) ?_
        rw [hQ]
        exact W.iret (v := y5) hx hb hr (fun t ht hW => ⟨⟨y5, (F, V), rfl, ⟨rfl, rfl, trivial⟩, by rw [ht]; exact hP, hD⟩, hS.F ht⟩) hS.2.2 dX9_jobs_36
      · replace c6 : ¬ (n ≤ i1) := fun q9 => c6 ((nI_leI (a := n) (b := i1) (by omega) (by omega)).mpr q9)
        refine lv_iload_n hx hb dX9_jobs_12 rfl (lv_at hl 1 rfl) ?_
        refine lv_aload_n hx hb dX9_jobs_13 rfl (lv_at hl 2 rfl) ?_
        refine va_get (D := (dC, dI)) (ci := 10) (v := .ref (a 25)) (C := RX9) (T := TX9) (N := 46) hx hb hts in_m_jobs_X9 hown hK hP 0 rfl rfl 25 (by decide) (hts (.fieldLink RX9 71 "ServiceTreeModel" "job" "[I") (by decide +kernel)) (fun _ h9 => h9) rfl dX9_jobs_14 ?_
        refine lv_iload_n hx hb dX9_jobs_17 rfl (lv_at hl 0 rfl) ?_
        refine va_iald (n := 40) (f := F 25) hx hb hK hP 21 20 rfl rfl (vp_in_nI (n := i1) (by omega) (by decide)) dX9_jobs_18 ?_
        refine lv_topi (fun x7 ex7 => ?_)
        refine lv_if_eq (tgt := 26) hx hb dX9_jobs_19 (by decide) (fun c8 => ?_) (fun c8 => ?_)
        · refine lv_iconst (v := 0) hx hb dX9_jobs_26 (by decide) ?_
          refine lv_iadd hx hb dX9_jobs_27 ?_
          refine lv_topi (fun x9 ex9 => ?_)
          refine lv_istore_n (lv' := [(1, .int x9), (2, .int (nI i1)), (0, .ref h)]) hx hb dX9_jobs_28 rfl hl (by decide) rfl (fun ls hl => ?_)
          refine lv_iinc (v := nI (i1 + 1)) (lv' := [(2, .int (nI (i1 + 1))), (1, .int x9), (0, .ref h)]) hx hb dX9_jobs_29 hl (k := 1) rfl (nI_add i1 1) (by decide) rfl (fun ls hl => ?_)
          refine lv_goto (tgt := 4) hx hb dX9_jobs_32 (by decide) ?_
          exact ih3 (i1 + 1) x9 _ _ _ (by omega) (by omega)  hP hD hS (lv_sub hl [0, 1, 2] rfl)
        · refine lv_iconst (v := 1) hx hb dX9_jobs_22 (by decide) ?_
          refine lv_goto (tgt := 27) hx hb dX9_jobs_23 (by decide) ?_
          refine lv_iadd hx hb dX9_jobs_27 ?_
          refine lv_topi (fun x10 ex10 => ?_)
          refine lv_istore_n (lv' := [(1, .int x10), (2, .int (nI i1)), (0, .ref h)]) hx hb dX9_jobs_28 rfl hl (by decide) rfl (fun ls hl => ?_)
          refine lv_iinc (v := nI (i1 + 1)) (lv' := [(2, .int (nI (i1 + 1))), (1, .int x10), (0, .ref h)]) hx hb dX9_jobs_29 hl (k := 1) rfl (nI_add i1 1) (by decide) rfl (fun ls hl => ?_)
          refine lv_goto (tgt := 4) hx hb dX9_jobs_32 (by decide) ?_
          exact ih3 (i1 + 1) x10 _ _ _ (by omega) (by omega)  hP hD hS (lv_sub hl [0, 1, 2] rfl)
  exact lp4 (n + 1) 0 0 _ _ _ (by omega) (by omega)  hP hD hS hl
def wq_m_isPair : List Cond := [.code yX9_isPair cX9_isPair 4 (some .boolean), .methodLink RX9 135 yX9_is, .instanceMethod yX9_is, .selects RX9 yX9_is yX9_is, .initialized RX9] ++ (wsX90 ++ (wq_m_is))
theorem in_m_isPair_X9 : ∀ w ∈ wsX90, w ∈ wq_m_isPair := fun _ h => List.mem_append_right _ (List.mem_append_left _ (h))
set_option maxRecDepth 20000 in
theorem wi_m_isPair : ∀ w ∈ wq_m_isPair, w ∈ lw_tbl := List.forall_mem_append.mpr ⟨(by decide +kernel), List.forall_mem_append.mpr ⟨inKX9, wi_m_is⟩⟩
set_option maxRecDepth 20000 in
theorem wg_m_isPair : GoodIn wq_m_isPair wq_m_isPair := goodIn_sub (fun _ h => h) (by decide +kernel)
set_option maxRecDepth 20000 in
theorem wc_m_isPair_m_is_135 : GoodIn wq_m_isPair (wsV RX9 135 RX9 yX9_is wq_m_is) := goodIn_app (goodIn_of _ (by decide +kernel)) (fun w h => ⟨List.mem_append_right _ (List.mem_append_right _ (h)), (wg_m_is w h).2⟩)
def rm_m_isPair : Room := { frames := 1, cells := 0, slots := 0, locals := 21 }
set_option maxHeartbeats 4000000 in
set_option maxRecDepth 100000 in
theorem c_m_isPair (l : Launch) (dC : Nat → ClassId) (dI : Nat → Nat → Nat) (h : Nat) (a : Nat → Nat) (k : Nat → ClassId) (F : Nat → Nat → Int32) (V : Nat → Int32) (n b : Nat) (p0 : Int32) (p1 : Int32) (p2 : Int32) (sz : Nat) (hI0 : InvM n b F V) (hb0 : b + 0 < 2147483648)  : Met l yX9_isPair wq_m_isPair rm_m_isPair (va_Pc [.ref h, .int p0, .int p1, .int p2] (fun U => U.heap.size = sz ∧ va_P (dC, dI) vwCl (mW h a k F V) U.heap ∧ va_K (dC, dI) vwCl (mT k) U ∧ va_D (fun _ => True) (mW h a k F V))) (va_Qi (fun (r : Int32) (u : (Nat → Nat → Int32) × (Nat → Int32)) => u.1 = F ∧ u.2 = V ∧ ((r = 1 ∧ (∃ j : Nat, j < 4 ∧ p0 = nI j) ∧ (∃ j : Nat, j < n ∧ p1 = nI j) ∧ ∃ j : Nat, j < n ∧ p2 = nI j) ∨ r = 0)) (fun (u : (Nat → Nat → Int32) × (Nat → Int32)) (t : State) => va_P (dC, dI) vwCl (mW h a k u.1 u.2) t.heap ∧ va_D (va_A (mW h a k F V) sz) (mW h a k u.1 u.2)) (va_A (mW h a k F V) sz)) 0 0 (va_A (mW h a k F V) sz) := by
  have hn : n ≤ 40 := hI0.1
  have hI : StM n b F V F V := StM.rf hI0
  have hU : ∀ j : Nat, j ∉ ([] : List Nat) → F j = F j := fun _ _ => rfl
  have hV : ∀ j : Nat, j ∉ ([] : List Nat) → V j = V j := fun _ _ => rfl
  refine Met.ofW (cc := cX9_isPair) (maxL := 4) (ret := (some .boolean)) (by decide) rfl ?_
  intro p e s m args below meth c s₁ B hml hv
  obtain ⟨rfl, hsz, hP, hK, hD0⟩ := hv
  have hx := B.exec
  have hb := B.bytes
  have hr := B.returns
  have hts := atoms_spec (ws := wq_m_isPair) B.pre
  have hown : s.vm.findClass RX9 = some m.cls := findClass_of_methodNamed B.named
  have hlocks := B.notSynchronized
  subst hsz
  have hD := hD0.self (sz := s.heap.size)
  generalize hAe : va_A (mW h a k F V) s.heap.size = A at hD ⊢
  have hA : ∀ q : Nat, s.heap.size ≤ q → A q := fun q h => by rw [← hAe]; exact Or.inr h
  have hS : va_S A s.heap s.heap [] := va_S.rf
  have hl := lv_entry ([.ref h, .int p0, .int p1, .int p2]) (n := 4) (Nat.le_of_ble_eq_true rfl)
  rw [lg_entry_eq]
  generalize (lg_sl ([.ref h, .int p0, .int p1, .int p2]) ++ List.replicate (4 - (lg_sl ([.ref h, .int p0, .int p1, .int p2])).length) Slot.unset).toArray = ls at hl ⊢
  have hl : lv_has ls 4 [(0, .ref h), (1, .int p0), (2, .int p1), (3, .int p2)] := hl
  refine lv_iload_n hx hb dX9_isPair_0 rfl (lv_at hl 1 rfl) ?_
  refine lv_if_lt (tgt := 34) hx hb dX9_isPair_1 (by decide) (fun c1 => ?_) (fun c1 => ?_)
  · refine lv_iconst (v := 0) hx hb dX9_isPair_34 (by decide) ?_
    exact W.zret (v := 0) hx hb hr (by decide) (fun t ht hW => ⟨⟨0, (F, V), rfl, ⟨rfl, rfl, Or.inr rfl⟩, by rw [ht]; exact hP, hD⟩, hS.F ht⟩) hS.2.2 dX9_isPair_35
  · refine lv_iload_n hx hb dX9_isPair_4 rfl (lv_at hl 1 rfl) ?_
    refine lv_iconst (v := 3) hx hb dX9_isPair_5 (by decide) ?_
    refine lv_icmp_gt (tgt := 34) hx hb dX9_isPair_6 (by decide) (fun c2 => ?_) (fun c2 => ?_)
    · refine lv_iconst (v := 0) hx hb dX9_isPair_34 (by decide) ?_
      exact W.zret (v := 0) hx hb hr (by decide) (fun t ht hW => ⟨⟨0, (F, V), rfl, ⟨rfl, rfl, Or.inr rfl⟩, by rw [ht]; exact hP, hD⟩, hS.F ht⟩) hS.2.2 dX9_isPair_35
    · refine lv_aload_n hx hb dX9_isPair_9 rfl (lv_at hl 0 rfl) ?_
      refine lv_iload_n hx hb dX9_isPair_10 rfl (lv_at hl 2 rfl) ?_
      have hFc := mw_free hD hS hA
      refine va_calli (va_runV (As := [.int p1]) (rest := []) ⟨hx, hb, hml, hown, hts⟩ (c_m_is l dC dI h a k F V n (b) p1 s.heap.size hI.1 (by omega) ) (cwV 1 hts wc_m_isPair_m_is_135 rfl rfl rfl (by decide +kernel) ⟨Nat.le_of_ble_eq_true rfl, Nat.le_of_ble_eq_true rfl⟩) ⟨fun a9 U g mk q => by obtain ⟨q0, q1, qP, qK, qD⟩ := q; exact ⟨q0, q1, qP, va_K.moved (u := U) (U := U.calling g mk a9) (Vm.Alike.refl U.vm) qK, qD⟩, va_recv hK hP (ci := 10) (q0 := 0) rfl rfl, fun U hU hW => ⟨rfl, by rw [hU], by rw [hU]; exact hP, va_K.moved hW.alike hK, hD.weaken (fun _ _ _ _ => trivial)⟩⟩ rfl rfl hl.1 rfl (lv_room (Nat.le_of_ble_eq_true rfl)) dX9_isPair_11 ⟨Nat.le_of_ble_eq_true rfl, Nat.le_of_ble_eq_true rfl⟩) hS (fun q _ h => hFc q h) hFc (fun r3 u t H1 locs ht hvm hw hB hz1 hk1 hS => ?_)
      obtain ⟨F4, V5⟩ := u
      replace hP := hB.1
      rw [ht] at hP
      replace hD : va_D A (mW h a k F4 V5) := hB.2.weaken (fun _ q _ h9 => hFc q.1 h9)
      clear hB
      generalize H1 = H at hP hS ⊢
      replace hP : va_P (dC, dI) vwCl (mW h a k F4 V5) H := hP
      obtain ⟨hwF, hwV, hw⟩ : F4 = F ∧ V5 = V ∧ _ := hw
      rw [hwF, hwV] at hP hD
      rcases hw with ⟨rfl, j6, hj6, ej6⟩ | ⟨rfl, noj6⟩
      · subst ej6
        refine lv_if_eq (tgt := 34) hx hb dX9_isPair_14 (by decide) (fun c9 => absurd c9 (by decide)) (fun _ => ?_)
        refine lv_aload_n hx hb dX9_isPair_17 rfl (lv_at hl 0 rfl) ?_
        refine lv_iload_n hx hb dX9_isPair_18 rfl (lv_at hl 3 rfl) ?_
        have hFc := mw_free hD hS hA
        refine va_calli (va_runV (As := [.int p2]) (rest := []) ⟨hx, hb, hml, hown, hts⟩ (c_m_is l dC dI h a k F V n (b) p2 H.size hI.1 (by omega) ) (cwV 1 hts wc_m_isPair_m_is_135 rfl rfl rfl (by decide +kernel) ⟨Nat.le_of_ble_eq_true rfl, Nat.le_of_ble_eq_true rfl⟩) ⟨fun a9 U g mk q => by obtain ⟨q0, q1, qP, qK, qD⟩ := q; exact ⟨q0, q1, qP, va_K.moved (u := U) (U := U.calling g mk a9) (Vm.Alike.refl U.vm) qK, qD⟩, va_recv hK hP (ci := 10) (q0 := 0) rfl rfl, fun U hU hW => ⟨rfl, by rw [hU], by rw [hU]; exact hP, va_K.moved hW.alike hK, hD.weaken (fun _ _ _ _ => trivial)⟩⟩ rfl rfl hl.1 rfl (lv_room (Nat.le_of_ble_eq_true rfl)) dX9_isPair_19 ⟨Nat.le_of_ble_eq_true rfl, Nat.le_of_ble_eq_true rfl⟩) hS (fun q _ h => hFc q h) hFc (fun r7 u t H1 locs ht hvm hw hB hz1 hk1 hS => ?_)
        obtain ⟨F8, V9⟩ := u
        replace hP := hB.1
        rw [ht] at hP
        replace hD : va_D A (mW h a k F8 V9) := hB.2.weaken (fun _ q _ h9 => hFc q.1 h9)
        clear hB
        generalize H1 = H at hP hS ⊢
        replace hP : va_P (dC, dI) vwCl (mW h a k F8 V9) H := hP
        obtain ⟨hwF, hwV, hw⟩ : F8 = F ∧ V9 = V ∧ _ := hw
        rw [hwF, hwV] at hP hD
        rcases hw with ⟨rfl, j10, hj10, ej10⟩ | ⟨rfl, noj10⟩
        · subst ej10
          refine lv_if_eq (tgt := 34) hx hb dX9_isPair_22 (by decide) (fun c9 => absurd c9 (by decide)) (fun _ => ?_)
          refine lv_iload_n hx hb dX9_isPair_25 rfl (lv_at hl 2 rfl) ?_
          refine lv_iload_n hx hb dX9_isPair_26 rfl (lv_at hl 3 rfl) ?_
          refine lv_icmp_eq (tgt := 34) hx hb dX9_isPair_27 (by decide) (fun c11 => ?_) (fun c11 => ?_)
          · replace c11 : j6 = j10 := (nI_eq (a := j6) (b := j10) (by omega) (by omega)).mp c11
            refine lv_iconst (v := 0) hx hb dX9_isPair_34 (by decide) ?_
            exact W.zret (v := 0) hx hb hr (by decide) (fun t ht hW => ⟨⟨0, (F, V), rfl, ⟨rfl, rfl, Or.inr rfl⟩, by rw [ht]; exact hP, hD⟩, hS.F ht⟩) hS.2.2 dX9_isPair_35
          · replace c11 : ¬ (j6 = j10) := fun q9 => c11 ((nI_eq (a := j6) (b := j10) (by omega) (by omega)).mpr q9)
            refine lv_iconst (v := 1) hx hb dX9_isPair_30 (by decide) ?_
            refine lv_goto (tgt := 35) hx hb dX9_isPair_31 (by decide) ?_
            exact W.zret (v := 1) hx hb hr (by decide) (fun t ht hW => ⟨⟨1, (F, V), rfl, ⟨rfl, rfl, Or.inl ⟨rfl, mw_o c1 c2, ⟨j6, hj6, rfl⟩, j10, hj10, rfl⟩⟩, by rw [ht]; exact hP, hD⟩, hS.F ht⟩) hS.2.2 dX9_isPair_35
        · refine lv_if_eq (tgt := 34) hx hb dX9_isPair_22 (by decide) (fun _ => ?_) (fun c9 => absurd (by decide) c9)
          refine lv_iconst (v := 0) hx hb dX9_isPair_34 (by decide) ?_
          exact W.zret (v := 0) hx hb hr (by decide) (fun t ht hW => ⟨⟨0, (F, V), rfl, ⟨rfl, rfl, Or.inr rfl⟩, by rw [ht]; exact hP, hD⟩, hS.F ht⟩) hS.2.2 dX9_isPair_35
      · refine lv_if_eq (tgt := 34) hx hb dX9_isPair_14 (by decide) (fun _ => ?_) (fun c9 => absurd (by decide) c9)
        refine lv_iconst (v := 0) hx hb dX9_isPair_34 (by decide) ?_
        exact W.zret (v := 0) hx hb hr (by decide) (fun t ht hW => ⟨⟨0, (F, V), rfl, ⟨rfl, rfl, Or.inr rfl⟩, by rw [ht]; exact hP, hD⟩, hS.F ht⟩) hS.2.2 dX9_isPair_35
def wq_m_set1 : List Cond := [.code yX9_set cX9_set 5 none, .fieldLink RX9 68 "ServiceTreeModel" "relation" "[Z"] ++ (wsX90)
theorem in_m_set1_X9 : ∀ w ∈ wsX90, w ∈ wq_m_set1 := fun _ h => List.mem_append_right _ (h)
set_option maxRecDepth 20000 in
theorem wi_m_set1 : ∀ w ∈ wq_m_set1, w ∈ lw_tbl := List.forall_mem_append.mpr ⟨(by decide +kernel), inKX9⟩
set_option maxRecDepth 20000 in
theorem wg_m_set1 : GoodIn wq_m_set1 wq_m_set1 := goodIn_sub (fun _ h => h) (by decide +kernel)
def rm_m_set1 : Room := { frames := 0, cells := 0, slots := 0, locals := 0 }
set_option maxHeartbeats 4000000 in
set_option maxRecDepth 100000 in
theorem c_m_set1 (l : Launch) (dC : Nat → ClassId) (dI : Nat → Nat → Nat) (h : Nat) (a : Nat → Nat) (k : Nat → ClassId) (F : Nat → Nat → Int32) (V : Nat → Int32) (n b : Nat) (ov : Nat) (av : Nat) (bv : Nat) (sz : Nat) (hI0 : InvM n b F V) (hb0 : b + 0 < 2147483648) (hp0 : ov < 4) (hp1 : av < 40) (hp2 : bv < 40) : Met l yX9_set wq_m_set1 rm_m_set1 (va_Pc [.ref h, .int (nI ov), .int (nI av), .int (nI bv), .int 1] (fun U => U.heap.size = sz ∧ va_P (dC, dI) vwCl (mW h a k F V) U.heap ∧ va_K (dC, dI) vwCl (mT k) U ∧ va_D (fun _ => True) (mW h a k F V))) (va_Qv (fun (u : (Nat → Nat → Int32) × (Nat → Int32)) => StM n (b + 0) F V u.1 u.2 ∧ (∀ j : Nat, j ∉ ([19] : List Nat) → u.1 j = F j) ∧ (∀ j : Nat, j ∉ ([] : List Nat) → u.2 j = V j) ∧ (True)) (fun (u : (Nat → Nat → Int32) × (Nat → Int32)) (t : State) => va_P (dC, dI) vwCl (mW h a k u.1 u.2) t.heap ∧ va_D (va_A (mW h a k F V) sz) (mW h a k u.1 u.2)) (va_A (mW h a k F V) sz)) 0 0 (va_A (mW h a k F V) sz) := by
  have hn : n ≤ 40 := hI0.1
  have hI : StM n b F V F V := StM.rf hI0
  have hU : ∀ j : Nat, j ∉ ([19] : List Nat) → F j = F j := fun _ _ => rfl
  have hV : ∀ j : Nat, j ∉ ([] : List Nat) → V j = V j := fun _ _ => rfl
  refine Met.ofW (cc := cX9_set) (maxL := 5) (ret := none) (by decide) rfl ?_
  intro p e s m args below meth c s₁ B hml hv
  obtain ⟨rfl, hsz, hP, hK, hD0⟩ := hv
  have hx := B.exec
  have hb := B.bytes
  have hr := B.returns
  have hts := atoms_spec (ws := wq_m_set1) B.pre
  have hown : s.vm.findClass RX9 = some m.cls := findClass_of_methodNamed B.named
  have hlocks := B.notSynchronized
  subst hsz
  have hD := hD0.self (sz := s.heap.size)
  generalize hAe : va_A (mW h a k F V) s.heap.size = A at hD ⊢
  have hA : ∀ q : Nat, s.heap.size ≤ q → A q := fun q h => by rw [← hAe]; exact Or.inr h
  have hS : va_S A s.heap s.heap [] := va_S.rf
  have hl := lv_entry ([.ref h, .int (nI ov), .int (nI av), .int (nI bv), .int 1]) (n := 5) (Nat.le_of_ble_eq_true rfl)
  rw [lg_entry_eq]
  generalize (lg_sl ([.ref h, .int (nI ov), .int (nI av), .int (nI bv), .int 1]) ++ List.replicate (5 - (lg_sl ([.ref h, .int (nI ov), .int (nI av), .int (nI bv), .int 1])).length) Slot.unset).toArray = ls at hl ⊢
  have hl : lv_has ls 5 [(0, .ref h), (1, .int (nI ov)), (2, .int (nI av)), (3, .int (nI bv)), (4, .int 1)] := hl
  refine lv_aload_n hx hb dX9_set_0 rfl (lv_at hl 0 rfl) ?_
  refine va_get (D := (dC, dI)) (ci := 10) (v := .ref (a 19)) (C := RX9) (T := TX9) (N := 46) hx hb hts in_m_set1_X9 hown hK hP 0 rfl rfl 19 (by decide) (hts (.fieldLink RX9 68 "ServiceTreeModel" "relation" "[Z") (by decide +kernel)) (fun _ h9 => h9) rfl dX9_set_1 ?_
  refine lv_iload_n hx hb dX9_set_4 rfl (lv_at hl 1 rfl) ?_
  refine lv_bipush (v := 40) hx hb dX9_set_5 (by decide) ?_
  refine lv_imul hx hb dX9_set_7 ?_
  refine p1_topr (v := .int (nI (ov * 40))) (congrArg Value.int (pk_mul ov 40)) ?_
  refine lv_iload_n hx hb dX9_set_8 rfl (lv_at hl 2 rfl) ?_
  refine lv_iadd hx hb dX9_set_9 ?_
  refine p1_topr (v := .int (nI ((ov * 40) + av))) (congrArg Value.int (nI_add (ov * 40) av)) ?_
  refine lv_bipush (v := 40) hx hb dX9_set_10 (by decide) ?_
  refine lv_imul hx hb dX9_set_12 ?_
  refine p1_topr (v := .int (nI (((ov * 40) + av) * 40))) (congrArg Value.int (pk_mul ((ov * 40) + av) 40)) ?_
  refine lv_iload_n hx hb dX9_set_13 rfl (lv_at hl 3 rfl) ?_
  refine lv_iadd hx hb dX9_set_14 ?_
  refine p1_topr (v := .int (nI ((((ov * 40) + av) * 40) + bv))) (congrArg Value.int (nI_add (((ov * 40) + av) * 40) bv)) ?_
  refine lv_iload hx hb dX9_set_15 (lv_at hl 4 rfl) ?_
  refine va_zast (n := 6400) (f := F 19) hx hb hK hP hD hS 20 19 rfl rfl (vp_in_nI (n := (((ov * 40) + av) * 40) + bv) (by omega) (by decide)) dX9_set_17 (fun H locs hP hD hS => ?_)
  rw [mW_set_19] at hP hD
  obtain ⟨F1, eF1⟩ : ∃ f9 : Nat → Nat → Int32, f9 = va_up F 19 (upd (F 19) (nI ((((ov * 40) + av) * 40) + bv)).toNatClampNeg (vp_nar .boolean 1)) := ⟨_, rfl⟩
  rw [← eF1] at hP hD
  replace hI : StM n (b) F V F1 V := ⟨by rw [eF1]; exact hI.1.set19 (i := (nI ((((ov * 40) + av) * 40) + bv)).toNatClampNeg) (x := vp_nar .boolean 1) (by decide), trivial⟩
  replace hU : ∀ j : Nat, j ∉ ([19] : List Nat) → F1 j = F j := by rw [eF1]; exact mw_up (by decide) hU
  refine lv_iload_n hx hb dX9_set_18 rfl (lv_at hl 1 rfl) ?_
  refine lv_iconst (v := 3) hx hb dX9_set_19 (by decide) ?_
  refine lv_icmp_ne (tgt := 41) hx hb dX9_set_20 (by decide) (fun c2 => ?_) (fun c2 => ?_)
  · replace c2 : ¬ (ov = 3) := fun q9 => c2 ((nI_eq (a := ov) (b := 3) (by omega) (by omega)).mpr q9)
    exact W.vret hx hb hr (fun t ht hW => ⟨⟨(F1, V), rfl, ⟨hI.mono (by omega), hU, hV, trivial⟩, by rw [ht]; exact hP, hD⟩, hS.F ht⟩) hS.2.2 dX9_set_41
  · replace c2 : ov = 3 := (nI_eq (a := ov) (b := 3) (by omega) (by omega)).mp c2
    refine lv_aload_n hx hb dX9_set_23 rfl (lv_at hl 0 rfl) ?_
    refine va_get (D := (dC, dI)) (ci := 10) (v := .ref (a 19)) (C := RX9) (T := TX9) (N := 46) hx hb hts in_m_set1_X9 hown hK hP 0 rfl rfl 19 (by decide) (hts (.fieldLink RX9 68 "ServiceTreeModel" "relation" "[Z") (by decide +kernel)) (fun _ h9 => h9) rfl dX9_set_24 ?_
    refine lv_iload_n hx hb dX9_set_27 rfl (lv_at hl 1 rfl) ?_
    refine lv_bipush (v := 40) hx hb dX9_set_28 (by decide) ?_
    refine lv_imul hx hb dX9_set_30 ?_
    refine p1_topr (v := .int (nI (ov * 40))) (congrArg Value.int (pk_mul ov 40)) ?_
    refine lv_iload_n hx hb dX9_set_31 rfl (lv_at hl 3 rfl) ?_
    refine lv_iadd hx hb dX9_set_32 ?_
    refine p1_topr (v := .int (nI ((ov * 40) + bv))) (congrArg Value.int (nI_add (ov * 40) bv)) ?_
    refine lv_bipush (v := 40) hx hb dX9_set_33 (by decide) ?_
    refine lv_imul hx hb dX9_set_35 ?_
    refine p1_topr (v := .int (nI (((ov * 40) + bv) * 40))) (congrArg Value.int (pk_mul ((ov * 40) + bv) 40)) ?_
    refine lv_iload_n hx hb dX9_set_36 rfl (lv_at hl 2 rfl) ?_
    refine lv_iadd hx hb dX9_set_37 ?_
    refine p1_topr (v := .int (nI ((((ov * 40) + bv) * 40) + av))) (congrArg Value.int (nI_add (((ov * 40) + bv) * 40) av)) ?_
    refine lv_iload hx hb dX9_set_38 (lv_at hl 4 rfl) ?_
    refine va_zast (n := 6400) (f := F1 19) hx hb hK hP hD hS 20 19 rfl rfl (vp_in_nI (n := (((ov * 40) + bv) * 40) + av) (by omega) (by decide)) dX9_set_40 (fun H locs hP hD hS => ?_)
    rw [mW_set_19] at hP hD
    obtain ⟨F3, eF3⟩ : ∃ f9 : Nat → Nat → Int32, f9 = va_up F1 19 (upd (F1 19) (nI ((((ov * 40) + bv) * 40) + av)).toNatClampNeg (vp_nar .boolean 1)) := ⟨_, rfl⟩
    rw [← eF3] at hP hD
    replace hI : StM n (b) F V F3 V := ⟨by rw [eF3]; exact hI.1.set19 (i := (nI ((((ov * 40) + bv) * 40) + av)).toNatClampNeg) (x := vp_nar .boolean 1) (by decide), trivial⟩
    replace hU : ∀ j : Nat, j ∉ ([19] : List Nat) → F3 j = F j := by rw [eF3]; exact mw_up (by decide) hU
    exact W.vret hx hb hr (fun t ht hW => ⟨⟨(F3, V), rfl, ⟨hI.mono (by omega), hU, hV, trivial⟩, by rw [ht]; exact hP, hD⟩, hS.F ht⟩) hS.2.2 dX9_set_41
def wq_m_set0 : List Cond := [.code yX9_set cX9_set 5 none, .fieldLink RX9 68 "ServiceTreeModel" "relation" "[Z"] ++ (wsX90)
theorem in_m_set0_X9 : ∀ w ∈ wsX90, w ∈ wq_m_set0 := fun _ h => List.mem_append_right _ (h)
set_option maxRecDepth 20000 in
theorem wi_m_set0 : ∀ w ∈ wq_m_set0, w ∈ lw_tbl := List.forall_mem_append.mpr ⟨(by decide +kernel), inKX9⟩
set_option maxRecDepth 20000 in
theorem wg_m_set0 : GoodIn wq_m_set0 wq_m_set0 := goodIn_sub (fun _ h => h) (by decide +kernel)
def rm_m_set0 : Room := { frames := 0, cells := 0, slots := 0, locals := 0 }
set_option maxHeartbeats 4000000 in
set_option maxRecDepth 100000 in
theorem c_m_set0 (l : Launch) (dC : Nat → ClassId) (dI : Nat → Nat → Nat) (h : Nat) (a : Nat → Nat) (k : Nat → ClassId) (F : Nat → Nat → Int32) (V : Nat → Int32) (n b : Nat) (ov : Nat) (av : Nat) (bv : Nat) (sz : Nat) (hI0 : InvM n b F V) (hb0 : b + 0 < 2147483648) (hp0 : ov < 4) (hp1 : av < 40) (hp2 : bv < 40) : Met l yX9_set wq_m_set0 rm_m_set0 (va_Pc [.ref h, .int (nI ov), .int (nI av), .int (nI bv), .int 0] (fun U => U.heap.size = sz ∧ va_P (dC, dI) vwCl (mW h a k F V) U.heap ∧ va_K (dC, dI) vwCl (mT k) U ∧ va_D (fun _ => True) (mW h a k F V))) (va_Qv (fun (u : (Nat → Nat → Int32) × (Nat → Int32)) => StM n (b + 0) F V u.1 u.2 ∧ (∀ j : Nat, j ∉ ([19] : List Nat) → u.1 j = F j) ∧ (∀ j : Nat, j ∉ ([] : List Nat) → u.2 j = V j) ∧ (True)) (fun (u : (Nat → Nat → Int32) × (Nat → Int32)) (t : State) => va_P (dC, dI) vwCl (mW h a k u.1 u.2) t.heap ∧ va_D (va_A (mW h a k F V) sz) (mW h a k u.1 u.2)) (va_A (mW h a k F V) sz)) 0 0 (va_A (mW h a k F V) sz) := by
  have hn : n ≤ 40 := hI0.1
  have hI : StM n b F V F V := StM.rf hI0
  have hU : ∀ j : Nat, j ∉ ([19] : List Nat) → F j = F j := fun _ _ => rfl
  have hV : ∀ j : Nat, j ∉ ([] : List Nat) → V j = V j := fun _ _ => rfl
  refine Met.ofW (cc := cX9_set) (maxL := 5) (ret := none) (by decide) rfl ?_
  intro p e s m args below meth c s₁ B hml hv
  obtain ⟨rfl, hsz, hP, hK, hD0⟩ := hv
  have hx := B.exec
  have hb := B.bytes
  have hr := B.returns
  have hts := atoms_spec (ws := wq_m_set0) B.pre
  have hown : s.vm.findClass RX9 = some m.cls := findClass_of_methodNamed B.named
  have hlocks := B.notSynchronized
  subst hsz
  have hD := hD0.self (sz := s.heap.size)
  generalize hAe : va_A (mW h a k F V) s.heap.size = A at hD ⊢
  have hA : ∀ q : Nat, s.heap.size ≤ q → A q := fun q h => by rw [← hAe]; exact Or.inr h
  have hS : va_S A s.heap s.heap [] := va_S.rf
  have hl := lv_entry ([.ref h, .int (nI ov), .int (nI av), .int (nI bv), .int 0]) (n := 5) (Nat.le_of_ble_eq_true rfl)
  rw [lg_entry_eq]
  generalize (lg_sl ([.ref h, .int (nI ov), .int (nI av), .int (nI bv), .int 0]) ++ List.replicate (5 - (lg_sl ([.ref h, .int (nI ov), .int (nI av), .int (nI bv), .int 0])).length) Slot.unset).toArray = ls at hl ⊢
  have hl : lv_has ls 5 [(0, .ref h), (1, .int (nI ov)), (2, .int (nI av)), (3, .int (nI bv)), (4, .int 0)] := hl
  refine lv_aload_n hx hb dX9_set_0 rfl (lv_at hl 0 rfl) ?_
  refine va_get (D := (dC, dI)) (ci := 10) (v := .ref (a 19)) (C := RX9) (T := TX9) (N := 46) hx hb hts in_m_set0_X9 hown hK hP 0 rfl rfl 19 (by decide) (hts (.fieldLink RX9 68 "ServiceTreeModel" "relation" "[Z") (by decide +kernel)) (fun _ h9 => h9) rfl dX9_set_1 ?_
  refine lv_iload_n hx hb dX9_set_4 rfl (lv_at hl 1 rfl) ?_
  refine lv_bipush (v := 40) hx hb dX9_set_5 (by decide) ?_
  refine lv_imul hx hb dX9_set_7 ?_
  refine p1_topr (v := .int (nI (ov * 40))) (congrArg Value.int (pk_mul ov 40)) ?_
  refine lv_iload_n hx hb dX9_set_8 rfl (lv_at hl 2 rfl) ?_
  refine lv_iadd hx hb dX9_set_9 ?_
  refine p1_topr (v := .int (nI ((ov * 40) + av))) (congrArg Value.int (nI_add (ov * 40) av)) ?_
  refine lv_bipush (v := 40) hx hb dX9_set_10 (by decide) ?_
  refine lv_imul hx hb dX9_set_12 ?_
  refine p1_topr (v := .int (nI (((ov * 40) + av) * 40))) (congrArg Value.int (pk_mul ((ov * 40) + av) 40)) ?_
  refine lv_iload_n hx hb dX9_set_13 rfl (lv_at hl 3 rfl) ?_
  refine lv_iadd hx hb dX9_set_14 ?_
  refine p1_topr (v := .int (nI ((((ov * 40) + av) * 40) + bv))) (congrArg Value.int (nI_add (((ov * 40) + av) * 40) bv)) ?_
  refine lv_iload hx hb dX9_set_15 (lv_at hl 4 rfl) ?_
  refine va_zast (n := 6400) (f := F 19) hx hb hK hP hD hS 20 19 rfl rfl (vp_in_nI (n := (((ov * 40) + av) * 40) + bv) (by omega) (by decide)) dX9_set_17 (fun H locs hP hD hS => ?_)
  rw [mW_set_19] at hP hD
  obtain ⟨F1, eF1⟩ : ∃ f9 : Nat → Nat → Int32, f9 = va_up F 19 (upd (F 19) (nI ((((ov * 40) + av) * 40) + bv)).toNatClampNeg (vp_nar .boolean 0)) := ⟨_, rfl⟩
  rw [← eF1] at hP hD
  replace hI : StM n (b) F V F1 V := ⟨by rw [eF1]; exact hI.1.set19 (i := (nI ((((ov * 40) + av) * 40) + bv)).toNatClampNeg) (x := vp_nar .boolean 0) (by decide), trivial⟩
  replace hU : ∀ j : Nat, j ∉ ([19] : List Nat) → F1 j = F j := by rw [eF1]; exact mw_up (by decide) hU
  refine lv_iload_n hx hb dX9_set_18 rfl (lv_at hl 1 rfl) ?_
  refine lv_iconst (v := 3) hx hb dX9_set_19 (by decide) ?_
  refine lv_icmp_ne (tgt := 41) hx hb dX9_set_20 (by decide) (fun c2 => ?_) (fun c2 => ?_)
  · replace c2 : ¬ (ov = 3) := fun q9 => c2 ((nI_eq (a := ov) (b := 3) (by omega) (by omega)).mpr q9)
    exact W.vret hx hb hr (fun t ht hW => ⟨⟨(F1, V), rfl, ⟨hI.mono (by omega), hU, hV, trivial⟩, by rw [ht]; exact hP, hD⟩, hS.F ht⟩) hS.2.2 dX9_set_41
  · replace c2 : ov = 3 := (nI_eq (a := ov) (b := 3) (by omega) (by omega)).mp c2
    refine lv_aload_n hx hb dX9_set_23 rfl (lv_at hl 0 rfl) ?_
    refine va_get (D := (dC, dI)) (ci := 10) (v := .ref (a 19)) (C := RX9) (T := TX9) (N := 46) hx hb hts in_m_set0_X9 hown hK hP 0 rfl rfl 19 (by decide) (hts (.fieldLink RX9 68 "ServiceTreeModel" "relation" "[Z") (by decide +kernel)) (fun _ h9 => h9) rfl dX9_set_24 ?_
    refine lv_iload_n hx hb dX9_set_27 rfl (lv_at hl 1 rfl) ?_
    refine lv_bipush (v := 40) hx hb dX9_set_28 (by decide) ?_
    refine lv_imul hx hb dX9_set_30 ?_
    refine p1_topr (v := .int (nI (ov * 40))) (congrArg Value.int (pk_mul ov 40)) ?_
    refine lv_iload_n hx hb dX9_set_31 rfl (lv_at hl 3 rfl) ?_
    refine lv_iadd hx hb dX9_set_32 ?_
    refine p1_topr (v := .int (nI ((ov * 40) + bv))) (congrArg Value.int (nI_add (ov * 40) bv)) ?_
    refine lv_bipush (v := 40) hx hb dX9_set_33 (by decide) ?_
    refine lv_imul hx hb dX9_set_35 ?_
    refine p1_topr (v := .int (nI (((ov * 40) + bv) * 40))) (congrArg Value.int (pk_mul ((ov * 40) + bv) 40)) ?_
    refine lv_iload_n hx hb dX9_set_36 rfl (lv_at hl 2 rfl) ?_
    refine lv_iadd hx hb dX9_set_37 ?_
    refine p1_topr (v := .int (nI ((((ov * 40) + bv) * 40) + av))) (congrArg Value.int (nI_add (((ov * 40) + bv) * 40) av)) ?_
    refine lv_iload hx hb dX9_set_38 (lv_at hl 4 rfl) ?_
    refine va_zast (n := 6400) (f := F1 19) hx hb hK hP hD hS 20 19 rfl rfl (vp_in_nI (n := (((ov * 40) + bv) * 40) + av) (by omega) (by decide)) dX9_set_40 (fun H locs hP hD hS => ?_)
    rw [mW_set_19] at hP hD
    obtain ⟨F3, eF3⟩ : ∃ f9 : Nat → Nat → Int32, f9 = va_up F1 19 (upd (F1 19) (nI ((((ov * 40) + bv) * 40) + av)).toNatClampNeg (vp_nar .boolean 0)) := ⟨_, rfl⟩
    rw [← eF3] at hP hD
    replace hI : StM n (b) F V F3 V := ⟨by rw [eF3]; exact hI.1.set19 (i := (nI ((((ov * 40) + bv) * 40) + av)).toNatClampNeg) (x := vp_nar .boolean 0) (by decide), trivial⟩
    replace hU : ∀ j : Nat, j ∉ ([19] : List Nat) → F3 j = F j := by rw [eF3]; exact mw_up (by decide) hU
    exact W.vret hx hb hr (fun t ht hW => ⟨⟨(F3, V), rfl, ⟨hI.mono (by omega), hU, hV, trivial⟩, by rw [ht]; exact hP, hD⟩, hS.F ht⟩) hS.2.2 dX9_set_41
def wq_m_relation : List Cond := [.code yX9_relation cX9_relation 4 (some .int), .fieldLink RX9 31 "ServiceTreeModel" "state" "[I", .fieldLink RX9 153 "ServiceTreeModel" "relations" "I", .methodLink RX9 139 yX9_isPair, .instanceMethod yX9_isPair, .selects RX9 yX9_isPair yX9_isPair, .initialized RX9, .methodLink RX9 143 yX9_jobs, .instanceMethod yX9_jobs, .selects RX9 yX9_jobs yX9_jobs, .methodLink RX9 147 yX9_rests, .static yX9_rests, .methodLink RX9 150 yX9_has, .instanceMethod yX9_has, .selects RX9 yX9_has yX9_has, .methodLink RX9 156 yX9_set, .instanceMethod yX9_set, .selects RX9 yX9_set yX9_set] ++ (wsX90 ++ (wq_m_isPair ++ (wq_m_jobs ++ (wq_m_rests ++ (wq_m_has ++ (wq_m_set1))))))
theorem in_m_relation_X9 : ∀ w ∈ wsX90, w ∈ wq_m_relation := fun _ h => List.mem_append_right _ (List.mem_append_left _ (h))
set_option maxRecDepth 20000 in
theorem wi_m_relation : ∀ w ∈ wq_m_relation, w ∈ lw_tbl := List.forall_mem_append.mpr ⟨(by decide +kernel), List.forall_mem_append.mpr ⟨inKX9, List.forall_mem_append.mpr ⟨wi_m_isPair, List.forall_mem_append.mpr ⟨wi_m_jobs, List.forall_mem_append.mpr ⟨wi_m_rests, List.forall_mem_append.mpr ⟨wi_m_has, wi_m_set1⟩⟩⟩⟩⟩⟩
set_option maxRecDepth 20000 in
theorem wg_m_relation : GoodIn wq_m_relation wq_m_relation := goodIn_sub (fun _ h => h) (by decide +kernel)
set_option maxRecDepth 20000 in
theorem wc_m_relation_m_isPair_139 : GoodIn wq_m_relation (wsV RX9 139 RX9 yX9_isPair wq_m_isPair) := goodIn_app (goodIn_of _ (by decide +kernel)) (fun w h => ⟨List.mem_append_right _ (List.mem_append_right _ (List.mem_append_left _ (h))), (wg_m_isPair w h).2⟩)
set_option maxRecDepth 20000 in
theorem wc_m_relation_m_jobs_143 : GoodIn wq_m_relation (wsV RX9 143 RX9 yX9_jobs wq_m_jobs) := goodIn_app (goodIn_of _ (by decide +kernel)) (fun w h => ⟨List.mem_append_right _ (List.mem_append_right _ (List.mem_append_right _ (List.mem_append_left _ (h)))), (wg_m_jobs w h).2⟩)
set_option maxRecDepth 20000 in
theorem wc_m_relation_m_rests_147 : GoodIn wq_m_relation (va_wsS RX9 147 yX9_rests wq_m_rests) := goodIn_app (goodIn_of _ (by decide +kernel)) (fun w h => ⟨List.mem_append_right _ (List.mem_append_right _ (List.mem_append_right _ (List.mem_append_right _ (List.mem_append_left _ (h))))), (wg_m_rests w h).2⟩)
set_option maxRecDepth 20000 in
theorem wc_m_relation_m_has_150 : GoodIn wq_m_relation (wsV RX9 150 RX9 yX9_has wq_m_has) := goodIn_app (goodIn_of _ (by decide +kernel)) (fun w h => ⟨List.mem_append_right _ (List.mem_append_right _ (List.mem_append_right _ (List.mem_append_right _ (List.mem_append_right _ (List.mem_append_left _ (h)))))), (wg_m_has w h).2⟩)
set_option maxRecDepth 20000 in
theorem wc_m_relation_m_set1_156 : GoodIn wq_m_relation (wsV RX9 156 RX9 yX9_set wq_m_set1) := goodIn_app (goodIn_of _ (by decide +kernel)) (fun w h => ⟨List.mem_append_right _ (List.mem_append_right _ (List.mem_append_right _ (List.mem_append_right _ (List.mem_append_right _ (List.mem_append_right _ (h)))))), (wg_m_set1 w h).2⟩)
def rm_m_relation : Room := { frames := 2, cells := 0, slots := 0, locals := 44 }
set_option maxHeartbeats 4000000 in
set_option maxRecDepth 100000 in
theorem c_m_relation (l : Launch) (dC : Nat → ClassId) (dI : Nat → Nat → Nat) (h : Nat) (a : Nat → Nat) (k : Nat → ClassId) (F : Nat → Nat → Int32) (V : Nat → Int32) (n b : Nat) (p0 : Int32) (p1 : Int32) (p2 : Int32) (sz : Nat) (hI0 : InvM n b F V) (hb0 : b + 0 < 2147483648)  : Met l yX9_relation wq_m_relation rm_m_relation (va_Pc [.ref h, .int p0, .int p1, .int p2] (fun U => U.heap.size = sz ∧ va_P (dC, dI) vwCl (mW h a k F V) U.heap ∧ va_K (dC, dI) vwCl (mT k) U ∧ va_D (fun _ => True) (mW h a k F V))) (va_Qi (fun (r : Int32) (u : (Nat → Nat → Int32) × (Nat → Int32)) => StM n (b + 0) F V u.1 u.2 ∧ (∀ j : Nat, j ∉ ([19] : List Nat) → u.1 j = F j) ∧ (∀ j : Nat, j ∉ ([20] : List Nat) → u.2 j = V j) ∧ (True)) (fun (u : (Nat → Nat → Int32) × (Nat → Int32)) (t : State) => va_P (dC, dI) vwCl (mW h a k u.1 u.2) t.heap ∧ va_D (va_A (mW h a k F V) sz) (mW h a k u.1 u.2)) (va_A (mW h a k F V) sz)) 0 0 (va_A (mW h a k F V) sz) := by
  have hn : n ≤ 40 := hI0.1
  have hI : StM n b F V F V := StM.rf hI0
  have hU : ∀ j : Nat, j ∉ ([19] : List Nat) → F j = F j := fun _ _ => rfl
  have hV : ∀ j : Nat, j ∉ ([20] : List Nat) → V j = V j := fun _ _ => rfl
  refine Met.ofW (cc := cX9_relation) (maxL := 4) (ret := (some .int)) (by decide) rfl ?_
  intro p e s m args below meth c s₁ B hml hv
  obtain ⟨rfl, hsz, hP, hK, hD0⟩ := hv
  have hx := B.exec
  have hb := B.bytes
  have hr := B.returns
  have hts := atoms_spec (ws := wq_m_relation) B.pre
  have hown : s.vm.findClass RX9 = some m.cls := findClass_of_methodNamed B.named
  have hlocks := B.notSynchronized
  subst hsz
  have hD := hD0.self (sz := s.heap.size)
  generalize hAe : va_A (mW h a k F V) s.heap.size = A at hD ⊢
  have hA : ∀ q : Nat, s.heap.size ≤ q → A q := fun q h => by rw [← hAe]; exact Or.inr h
  have hS : va_S A s.heap s.heap [] := va_S.rf
  have hl := lv_entry ([.ref h, .int p0, .int p1, .int p2]) (n := 4) (Nat.le_of_ble_eq_true rfl)
  rw [lg_entry_eq]
  generalize (lg_sl ([.ref h, .int p0, .int p1, .int p2]) ++ List.replicate (4 - (lg_sl ([.ref h, .int p0, .int p1, .int p2])).length) Slot.unset).toArray = ls at hl ⊢
  have hl : lv_has ls 4 [(0, .ref h), (1, .int p0), (2, .int p1), (3, .int p2)] := hl
  refine lv_aload_n hx hb dX9_relation_0 rfl (lv_at hl 0 rfl) ?_
  refine lv_iload_n hx hb dX9_relation_1 rfl (lv_at hl 1 rfl) ?_
  refine lv_iload_n hx hb dX9_relation_2 rfl (lv_at hl 2 rfl) ?_
  refine lv_iload_n hx hb dX9_relation_3 rfl (lv_at hl 3 rfl) ?_
  have hFc := mw_free hD hS hA
  refine va_calli (va_runV (As := [.int p0, .int p1, .int p2]) (rest := []) ⟨hx, hb, hml, hown, hts⟩ (c_m_isPair l dC dI h a k F V n (b) p0 p1 p2 s.heap.size hI.1 (by omega) ) (cwV 3 hts wc_m_relation_m_isPair_139 rfl rfl rfl (by decide +kernel) ⟨Nat.le_of_ble_eq_true rfl, Nat.le_of_ble_eq_true rfl⟩) ⟨fun a9 U g mk q => by obtain ⟨q0, q1, qP, qK, qD⟩ := q; exact ⟨q0, q1, qP, va_K.moved (u := U) (U := U.calling g mk a9) (Vm.Alike.refl U.vm) qK, qD⟩, va_recv hK hP (ci := 10) (q0 := 0) rfl rfl, fun U hU hW => ⟨rfl, by rw [hU], by rw [hU]; exact hP, va_K.moved hW.alike hK, hD.weaken (fun _ _ _ _ => trivial)⟩⟩ rfl rfl hl.1 rfl (lv_room (Nat.le_of_ble_eq_true rfl)) dX9_relation_4 ⟨Nat.le_of_ble_eq_true rfl, Nat.le_of_ble_eq_true rfl⟩) hS (fun q _ h => hFc q h) hFc (fun r1 u t H1 locs ht hvm hw hB hz1 hk1 hS => ?_)
  obtain ⟨F2, V3⟩ := u
  replace hP := hB.1
  rw [ht] at hP
  replace hD : va_D A (mW h a k F2 V3) := hB.2.weaken (fun _ q _ h9 => hFc q.1 h9)
  clear hB
  generalize H1 = H at hP hS ⊢
  replace hP : va_P (dC, dI) vwCl (mW h a k F2 V3) H := hP
  obtain ⟨hwF, hwV, hw⟩ : F2 = F ∧ V3 = V ∧ _ := hw
  rw [hwF, hwV] at hP hD
  rcases hw with ⟨rfl, ⟨o4, ho4, eo4⟩, ⟨j5, hj5, ej5⟩, j6, hj6, ej6⟩ | rfl
  · subst eo4
    subst ej5
    subst ej6
    refine lv_if_ne (tgt := 12) hx hb dX9_relation_7 (by decide) (fun _ => ?_) (fun c9 => absurd c9 (by decide))
    refine lv_aload_n hx hb dX9_relation_12 rfl (lv_at hl 0 rfl) ?_
    have hFc := mw_free hD hS hA
    refine va_calli (va_runV (As := []) (rest := []) ⟨hx, hb, hml, hown, hts⟩ (c_m_jobs l dC dI h a k F V n (b)  H.size hI.1 (by omega) ) (cwV 0 hts wc_m_relation_m_jobs_143 rfl rfl rfl (by decide +kernel) ⟨Nat.le_of_ble_eq_true rfl, Nat.le_of_ble_eq_true rfl⟩) ⟨fun a9 U g mk q => by obtain ⟨q0, q1, qP, qK, qD⟩ := q; exact ⟨q0, q1, qP, va_K.moved (u := U) (U := U.calling g mk a9) (Vm.Alike.refl U.vm) qK, qD⟩, va_recv hK hP (ci := 10) (q0 := 0) rfl rfl, fun U hU hW => ⟨rfl, by rw [hU], by rw [hU]; exact hP, va_K.moved hW.alike hK, hD.weaken (fun _ _ _ _ => trivial)⟩⟩ rfl rfl hl.1 rfl (lv_room (Nat.le_of_ble_eq_true rfl)) dX9_relation_13 ⟨Nat.le_of_ble_eq_true rfl, Nat.le_of_ble_eq_true rfl⟩) hS (fun q _ h => hFc q h) hFc (fun r7 u t H1 locs ht hvm hw hB hz1 hk1 hS => ?_)
    obtain ⟨F8, V9⟩ := u
    replace hP := hB.1
    rw [ht] at hP
    replace hD : va_D A (mW h a k F8 V9) := hB.2.weaken (fun _ q _ h9 => hFc q.1 h9)
    clear hB
    generalize H1 = H at hP hS ⊢
    replace hP : va_P (dC, dI) vwCl (mW h a k F8 V9) H := hP
    obtain ⟨hwF, hwV, hw⟩ : F8 = F ∧ V9 = V ∧ _ := hw
    rw [hwF, hwV] at hP hD
    refine lv_if_le (tgt := 22) hx hb dX9_relation_16 (by decide) (fun c10 => ?_) (fun c10 => ?_)
    · refine lv_iload_n hx hb dX9_relation_22 rfl (lv_at hl 1 rfl) ?_
      refine lv_if_eq (tgt := 31) hx hb dX9_relation_23 (by decide) (fun c11 => ?_) (fun c11 => ?_)
      · replace c11 : o4 = 0 := (nI_eq (a := o4) (b := 0) (by omega) (by omega)).mp c11
        refine lv_aload_n hx hb dX9_relation_31 rfl (lv_at hl 0 rfl) ?_
        refine va_get (D := (dC, dI)) (ci := 10) (v := .ref (a 7)) (C := RX9) (T := TX9) (N := 46) hx hb hts in_m_relation_X9 hown hK hP 0 rfl rfl 7 (by decide) (hts (.fieldLink RX9 31 "ServiceTreeModel" "state" "[I") (by decide +kernel)) (fun _ h9 => h9) rfl dX9_relation_32 ?_
        refine lv_iload_n hx hb dX9_relation_35 rfl (lv_at hl 2 rfl) ?_
        refine va_iald (n := 40) (f := F 7) hx hb hK hP 8 7 rfl rfl (vp_in_nI (n := j5) (by omega) (by decide)) dX9_relation_36 ?_
        refine lv_topi (fun x12 ex12 => ?_)
        have hFc := mw_free hD hS hA
        refine va_calli (va_runS (As := [.int x12]) (rest := []) ⟨hx, hb, hml, hown, hts⟩ (c_m_rests l dC dI h a k F V n (b) x12 H.size hI.1 (by omega) ) (va_cwS 1 hts wc_m_relation_m_rests_147 rfl rfl rfl (by decide +kernel) ⟨Nat.le_of_ble_eq_true rfl, Nat.le_of_ble_eq_true rfl⟩) ⟨fun a9 U g mk q => by obtain ⟨q0, q1, qP, qK, qD⟩ := q; exact ⟨q0, q1, qP, va_K.moved (u := U) (U := U.calling g mk a9) (Vm.Alike.refl U.vm) qK, qD⟩, fun U hU hW => ⟨rfl, by rw [hU], by rw [hU]; exact hP, va_K.moved hW.alike hK, hD.weaken (fun _ _ _ _ => trivial)⟩⟩ rfl rfl hl.1 rfl (lv_room (Nat.le_of_ble_eq_true rfl)) dX9_relation_37 ⟨Nat.le_of_ble_eq_true rfl, Nat.le_of_ble_eq_true rfl⟩) hS (fun q _ h => hFc q h) hFc (fun r13 u t H1 locs ht hvm hw hB hz1 hk1 hS => ?_)
        obtain ⟨F14, V15⟩ := u
        replace hP := hB.1
        rw [ht] at hP
        replace hD : va_D A (mW h a k F14 V15) := hB.2.weaken (fun _ q _ h9 => hFc q.1 h9)
        clear hB
        generalize H1 = H at hP hS ⊢
        replace hP : va_P (dC, dI) vwCl (mW h a k F14 V15) H := hP
        obtain ⟨hwF, hwV, hw⟩ : F14 = F ∧ V15 = V ∧ _ := hw
        rw [hwF, hwV] at hP hD
        refine lv_if_eq (tgt := 55) hx hb dX9_relation_40 (by decide) (fun c16 => ?_) (fun c16 => ?_)
        · refine lv_bipush (v := (-4)) hx hb dX9_relation_55 (by decide) ?_
          exact W.iret (v := (-4)) hx hb hr (fun t ht hW => ⟨⟨(-4), (F, V), rfl, ⟨hI.mono (by omega), hU, hV, trivial⟩, by rw [ht]; exact hP, hD⟩, hS.F ht⟩) hS.2.2 dX9_relation_57
        · refine lv_aload_n hx hb dX9_relation_43 rfl (lv_at hl 0 rfl) ?_
          refine va_get (D := (dC, dI)) (ci := 10) (v := .ref (a 7)) (C := RX9) (T := TX9) (N := 46) hx hb hts in_m_relation_X9 hown hK hP 0 rfl rfl 7 (by decide) (hts (.fieldLink RX9 31 "ServiceTreeModel" "state" "[I") (by decide +kernel)) (fun _ h9 => h9) rfl dX9_relation_44 ?_
          refine lv_iload_n hx hb dX9_relation_47 rfl (lv_at hl 3 rfl) ?_
          refine va_iald (n := 40) (f := F 7) hx hb hK hP 8 7 rfl rfl (vp_in_nI (n := j6) (by omega) (by decide)) dX9_relation_48 ?_
          refine lv_topi (fun x17 ex17 => ?_)
          have hFc := mw_free hD hS hA
          refine va_calli (va_runS (As := [.int x17]) (rest := []) ⟨hx, hb, hml, hown, hts⟩ (c_m_rests l dC dI h a k F V n (b) x17 H.size hI.1 (by omega) ) (va_cwS 1 hts wc_m_relation_m_rests_147 rfl rfl rfl (by decide +kernel) ⟨Nat.le_of_ble_eq_true rfl, Nat.le_of_ble_eq_true rfl⟩) ⟨fun a9 U g mk q => by obtain ⟨q0, q1, qP, qK, qD⟩ := q; exact ⟨q0, q1, qP, va_K.moved (u := U) (U := U.calling g mk a9) (Vm.Alike.refl U.vm) qK, qD⟩, fun U hU hW => ⟨rfl, by rw [hU], by rw [hU]; exact hP, va_K.moved hW.alike hK, hD.weaken (fun _ _ _ _ => trivial)⟩⟩ rfl rfl hl.1 rfl (lv_room (Nat.le_of_ble_eq_true rfl)) dX9_relation_49 ⟨Nat.le_of_ble_eq_true rfl, Nat.le_of_ble_eq_true rfl⟩) hS (fun q _ h => hFc q h) hFc (fun r18 u t H1 locs ht hvm hw hB hz1 hk1 hS => ?_)
          obtain ⟨F19, V20⟩ := u
          replace hP := hB.1
          rw [ht] at hP
          replace hD : va_D A (mW h a k F19 V20) := hB.2.weaken (fun _ q _ h9 => hFc q.1 h9)
          clear hB
          generalize H1 = H at hP hS ⊢
          replace hP : va_P (dC, dI) vwCl (mW h a k F19 V20) H := hP
          obtain ⟨hwF, hwV, hw⟩ : F19 = F ∧ V20 = V ∧ _ := hw
          rw [hwF, hwV] at hP hD
          refine lv_if_ne (tgt := 58) hx hb dX9_relation_52 (by decide) (fun c21 => ?_) (fun c21 => ?_)
          · refine lv_aload_n hx hb dX9_relation_58 rfl (lv_at hl 0 rfl) ?_
            refine lv_iload_n hx hb dX9_relation_59 rfl (lv_at hl 1 rfl) ?_
            refine lv_iload_n hx hb dX9_relation_60 rfl (lv_at hl 2 rfl) ?_
            refine lv_iload_n hx hb dX9_relation_61 rfl (lv_at hl 3 rfl) ?_
            have hFc := mw_free hD hS hA
            refine va_calli (va_runV (As := [.int (nI o4), .int (nI j5), .int (nI j6)]) (rest := []) ⟨hx, hb, hml, hown, hts⟩ (c_m_has l dC dI h a k F V n (b) o4 j5 j6 H.size hI.1 (by omega) (by omega) (by omega) (by omega)) (cwV 3 hts wc_m_relation_m_has_150 rfl rfl rfl (by decide +kernel) ⟨Nat.le_of_ble_eq_true rfl, Nat.le_of_ble_eq_true rfl⟩) ⟨fun a9 U g mk q => by obtain ⟨q0, q1, qP, qK, qD⟩ := q; exact ⟨q0, q1, qP, va_K.moved (u := U) (U := U.calling g mk a9) (Vm.Alike.refl U.vm) qK, qD⟩, va_recv hK hP (ci := 10) (q0 := 0) rfl rfl, fun U hU hW => ⟨rfl, by rw [hU], by rw [hU]; exact hP, va_K.moved hW.alike hK, hD.weaken (fun _ _ _ _ => trivial)⟩⟩ rfl rfl hl.1 rfl (lv_room (Nat.le_of_ble_eq_true rfl)) dX9_relation_62 ⟨Nat.le_of_ble_eq_true rfl, Nat.le_of_ble_eq_true rfl⟩) hS (fun q _ h => hFc q h) hFc (fun r22 u t H1 locs ht hvm hw hB hz1 hk1 hS => ?_)
            obtain ⟨F23, V24⟩ := u
            replace hP := hB.1
            rw [ht] at hP
            replace hD : va_D A (mW h a k F23 V24) := hB.2.weaken (fun _ q _ h9 => hFc q.1 h9)
            clear hB
            generalize H1 = H at hP hS ⊢
            replace hP : va_P (dC, dI) vwCl (mW h a k F23 V24) H := hP
            obtain ⟨hwF, hwV, hw⟩ : F23 = F ∧ V24 = V ∧ _ := hw
            rw [hwF, hwV] at hP hD
            have br22 := hw
            refine lv_if_eq (tgt := 70) hx hb dX9_relation_65 (by decide) (fun c25 => ?_) (fun c25 => ?_)
            · refine lv_aload_n hx hb dX9_relation_70 rfl (lv_at hl 0 rfl) ?_
              refine va_get (D := (dC, dI)) (ci := 10) (v := .int (V 20)) (C := RX9) (T := TX9) (N := 46) hx hb hts in_m_relation_X9 hown hK hP 0 rfl rfl 20 (by decide) (hts (.fieldLink RX9 153 "ServiceTreeModel" "relations" "I") (by decide +kernel)) (fun _ h9 => h9) rfl dX9_relation_71 ?_
              refine lv_topi (fun x26 ex26 => ?_)
              refine lv_sipush (v := 400) hx hb dX9_relation_74 (by decide) ?_
              refine lv_icmp_ne (tgt := 83) hx hb dX9_relation_77 (by decide) (fun c27 => ?_) (fun c27 => ?_)
              · refine lv_aload_n hx hb dX9_relation_83 rfl (lv_at hl 0 rfl) ?_
                refine lv_iload_n hx hb dX9_relation_84 rfl (lv_at hl 1 rfl) ?_
                refine lv_iload_n hx hb dX9_relation_85 rfl (lv_at hl 2 rfl) ?_
                refine lv_iload_n hx hb dX9_relation_86 rfl (lv_at hl 3 rfl) ?_
                refine lv_iconst (v := 1) hx hb dX9_relation_87 (by decide) ?_
                have hFc := mw_free hD hS hA
                refine va_callv (va_runV (As := [.int (nI o4), .int (nI j5), .int (nI j6), .int 1]) (rest := []) ⟨hx, hb, hml, hown, hts⟩ (c_m_set1 l dC dI h a k F V n (b) o4 j5 j6 H.size hI.1 (by omega) (by omega) (by omega) (by omega)) (cwV 4 hts wc_m_relation_m_set1_156 rfl rfl rfl (by decide +kernel) ⟨Nat.le_of_ble_eq_true rfl, Nat.le_of_ble_eq_true rfl⟩) ⟨fun a9 U g mk q => by obtain ⟨q0, q1, qP, qK, qD⟩ := q; exact ⟨q0, q1, qP, va_K.moved (u := U) (U := U.calling g mk a9) (Vm.Alike.refl U.vm) qK, qD⟩, va_recv hK hP (ci := 10) (q0 := 0) rfl rfl, fun U hU hW => ⟨rfl, by rw [hU], by rw [hU]; exact hP, va_K.moved hW.alike hK, hD.weaken (fun _ _ _ _ => trivial)⟩⟩ rfl rfl hl.1 rfl (lv_room (Nat.le_of_ble_eq_true rfl)) dX9_relation_88 ⟨Nat.le_of_ble_eq_true rfl, Nat.le_of_ble_eq_true rfl⟩) hS (fun q _ h => hFc q h) hFc (fun u t H1 locs ht hvm hw hB hz1 hk1 hS => ?_)
                obtain ⟨F29, V30⟩ := u
                replace hP := hB.1
                rw [ht] at hP
                replace hD : va_D A (mW h a k F29 V30) := hB.2.weaken (fun _ q _ h9 => hFc q.1 h9)
                clear hB
                generalize H1 = H at hP hS ⊢
                replace hP : va_P (dC, dI) vwCl (mW h a k F29 V30) H := hP
                obtain ⟨hwI, hwU, hwV, hw⟩ := hw
                replace hU : ∀ j : Nat, j ∉ ([19] : List Nat) → F29 j = F j := mw_tr (by decide) hwU hU
                replace hV : ∀ j : Nat, j ∉ ([20] : List Nat) → V30 j = V j := mw_tr (by decide) hwV hV
                replace hI : StM n (b + 0) F V F29 V30 := hI.trans hwI
                replace hI : StM n (b) F V F29 V30 := hI
                refine lv_aload_n hx hb dX9_relation_91 rfl (lv_at hl 0 rfl) ?_
                refine lv_dup hx hb dX9_relation_92 rfl ?_
                refine va_get (D := (dC, dI)) (ci := 10) (v := .int (V30 20)) (C := RX9) (T := TX9) (N := 46) hx hb hts in_m_relation_X9 hown hK hP 0 rfl rfl 20 (by decide) (hts (.fieldLink RX9 153 "ServiceTreeModel" "relations" "I") (by decide +kernel)) (fun _ h9 => h9) rfl dX9_relation_93 ?_
                refine lv_topi (fun x31 ex31 => ?_)
                refine lv_iconst (v := 1) hx hb dX9_relation_96 (by decide) ?_
                refine lv_iadd hx hb dX9_relation_97 ?_
                refine lv_topi (fun x32 ex32 => ?_)
                refine va_put (D := (dC, dI)) (ci := 10) (fs := mF a V30) (v := .int x32) (ty := .int) (C := RX9) (T := TX9) (N := 46) hx hb hts in_m_relation_X9 tyX9 tyX9_ok nmX9 hown hK hP hD hS 0 rfl rfl 20 (by decide) (hts (.fieldLink RX9 153 "ServiceTreeModel" "relations" "I") (by decide +kernel)) (fun _ h9 => h9) rfl (by decide +kernel) rfl rfl (Nat.le_of_ble_eq_true rfl) dX9_relation_98 (fun H locs hP hD hS => ?_)
                rw [mW_put_20] at hP hD
                obtain ⟨V33, eV33⟩ : ∃ f9 : Nat → Int32, f9 = va_up V30 20 x32 := ⟨_, rfl⟩
                rw [← eV33] at hP hD
                replace hI : StM n (b) F V F29 V33 := ⟨by rw [eV33]; exact hI.1.setV (by decide), trivial⟩
                replace hV : ∀ j : Nat, j ∉ ([20] : List Nat) → V33 j = V j := by rw [eV33]; exact mw_up (by decide) hV
                refine lv_iconst (v := 1) hx hb dX9_relation_101 (by decide) ?_
                exact W.iret (v := 1) hx hb hr (fun t ht hW => ⟨⟨1, (F29, V33), rfl, ⟨hI.mono (by omega), hU, hV, trivial⟩, by rw [ht]; exact hP, hD⟩, hS.F ht⟩) hS.2.2 dX9_relation_102
              · refine lv_bipush (v := (-6)) hx hb dX9_relation_80 (by decide) ?_
                exact W.iret (v := (-6)) hx hb hr (fun t ht hW => ⟨⟨(-6), (F, V), rfl, ⟨hI.mono (by omega), hU, hV, trivial⟩, by rw [ht]; exact hP, hD⟩, hS.F ht⟩) hS.2.2 dX9_relation_82
            · refine lv_iconst (v := 0) hx hb dX9_relation_68 (by decide) ?_
              exact W.iret (v := 0) hx hb hr (fun t ht hW => ⟨⟨0, (F, V), rfl, ⟨hI.mono (by omega), hU, hV, trivial⟩, by rw [ht]; exact hP, hD⟩, hS.F ht⟩) hS.2.2 dX9_relation_69
          · refine lv_bipush (v := (-4)) hx hb dX9_relation_55 (by decide) ?_
            exact W.iret (v := (-4)) hx hb hr (fun t ht hW => ⟨⟨(-4), (F, V), rfl, ⟨hI.mono (by omega), hU, hV, trivial⟩, by rw [ht]; exact hP, hD⟩, hS.F ht⟩) hS.2.2 dX9_relation_57
      · replace c11 : ¬ (o4 = 0) := fun q9 => c11 ((nI_eq (a := o4) (b := 0) (by omega) (by omega)).mpr q9)
        refine lv_iload_n hx hb dX9_relation_26 rfl (lv_at hl 1 rfl) ?_
        refine lv_iconst (v := 3) hx hb dX9_relation_27 (by decide) ?_
        refine lv_icmp_ne (tgt := 58) hx hb dX9_relation_28 (by decide) (fun c34 => ?_) (fun c34 => ?_)
        · replace c34 : ¬ (o4 = 3) := fun q9 => c34 ((nI_eq (a := o4) (b := 3) (by omega) (by omega)).mpr q9)
          refine lv_aload_n hx hb dX9_relation_58 rfl (lv_at hl 0 rfl) ?_
          refine lv_iload_n hx hb dX9_relation_59 rfl (lv_at hl 1 rfl) ?_
          refine lv_iload_n hx hb dX9_relation_60 rfl (lv_at hl 2 rfl) ?_
          refine lv_iload_n hx hb dX9_relation_61 rfl (lv_at hl 3 rfl) ?_
          have hFc := mw_free hD hS hA
          refine va_calli (va_runV (As := [.int (nI o4), .int (nI j5), .int (nI j6)]) (rest := []) ⟨hx, hb, hml, hown, hts⟩ (c_m_has l dC dI h a k F V n (b) o4 j5 j6 H.size hI.1 (by omega) (by omega) (by omega) (by omega)) (cwV 3 hts wc_m_relation_m_has_150 rfl rfl rfl (by decide +kernel) ⟨Nat.le_of_ble_eq_true rfl, Nat.le_of_ble_eq_true rfl⟩) ⟨fun a9 U g mk q => by obtain ⟨q0, q1, qP, qK, qD⟩ := q; exact ⟨q0, q1, qP, va_K.moved (u := U) (U := U.calling g mk a9) (Vm.Alike.refl U.vm) qK, qD⟩, va_recv hK hP (ci := 10) (q0 := 0) rfl rfl, fun U hU hW => ⟨rfl, by rw [hU], by rw [hU]; exact hP, va_K.moved hW.alike hK, hD.weaken (fun _ _ _ _ => trivial)⟩⟩ rfl rfl hl.1 rfl (lv_room (Nat.le_of_ble_eq_true rfl)) dX9_relation_62 ⟨Nat.le_of_ble_eq_true rfl, Nat.le_of_ble_eq_true rfl⟩) hS (fun q _ h => hFc q h) hFc (fun r35 u t H1 locs ht hvm hw hB hz1 hk1 hS => ?_)
          obtain ⟨F36, V37⟩ := u
          replace hP := hB.1
          rw [ht] at hP
          replace hD : va_D A (mW h a k F36 V37) := hB.2.weaken (fun _ q _ h9 => hFc q.1 h9)
          clear hB
          generalize H1 = H at hP hS ⊢
          replace hP : va_P (dC, dI) vwCl (mW h a k F36 V37) H := hP
          obtain ⟨hwF, hwV, hw⟩ : F36 = F ∧ V37 = V ∧ _ := hw
          rw [hwF, hwV] at hP hD
          have br35 := hw
          refine lv_if_eq (tgt := 70) hx hb dX9_relation_65 (by decide) (fun c38 => ?_) (fun c38 => ?_)
          · refine lv_aload_n hx hb dX9_relation_70 rfl (lv_at hl 0 rfl) ?_
            refine va_get (D := (dC, dI)) (ci := 10) (v := .int (V 20)) (C := RX9) (T := TX9) (N := 46) hx hb hts in_m_relation_X9 hown hK hP 0 rfl rfl 20 (by decide) (hts (.fieldLink RX9 153 "ServiceTreeModel" "relations" "I") (by decide +kernel)) (fun _ h9 => h9) rfl dX9_relation_71 ?_
            refine lv_topi (fun x39 ex39 => ?_)
            refine lv_sipush (v := 400) hx hb dX9_relation_74 (by decide) ?_
            refine lv_icmp_ne (tgt := 83) hx hb dX9_relation_77 (by decide) (fun c40 => ?_) (fun c40 => ?_)
            · refine lv_aload_n hx hb dX9_relation_83 rfl (lv_at hl 0 rfl) ?_
              refine lv_iload_n hx hb dX9_relation_84 rfl (lv_at hl 1 rfl) ?_
              refine lv_iload_n hx hb dX9_relation_85 rfl (lv_at hl 2 rfl) ?_
              refine lv_iload_n hx hb dX9_relation_86 rfl (lv_at hl 3 rfl) ?_
              refine lv_iconst (v := 1) hx hb dX9_relation_87 (by decide) ?_
              have hFc := mw_free hD hS hA
              refine va_callv (va_runV (As := [.int (nI o4), .int (nI j5), .int (nI j6), .int 1]) (rest := []) ⟨hx, hb, hml, hown, hts⟩ (c_m_set1 l dC dI h a k F V n (b) o4 j5 j6 H.size hI.1 (by omega) (by omega) (by omega) (by omega)) (cwV 4 hts wc_m_relation_m_set1_156 rfl rfl rfl (by decide +kernel) ⟨Nat.le_of_ble_eq_true rfl, Nat.le_of_ble_eq_true rfl⟩) ⟨fun a9 U g mk q => by obtain ⟨q0, q1, qP, qK, qD⟩ := q; exact ⟨q0, q1, qP, va_K.moved (u := U) (U := U.calling g mk a9) (Vm.Alike.refl U.vm) qK, qD⟩, va_recv hK hP (ci := 10) (q0 := 0) rfl rfl, fun U hU hW => ⟨rfl, by rw [hU], by rw [hU]; exact hP, va_K.moved hW.alike hK, hD.weaken (fun _ _ _ _ => trivial)⟩⟩ rfl rfl hl.1 rfl (lv_room (Nat.le_of_ble_eq_true rfl)) dX9_relation_88 ⟨Nat.le_of_ble_eq_true rfl, Nat.le_of_ble_eq_true rfl⟩) hS (fun q _ h => hFc q h) hFc (fun u t H1 locs ht hvm hw hB hz1 hk1 hS => ?_)
              obtain ⟨F42, V43⟩ := u
              replace hP := hB.1
              rw [ht] at hP
              replace hD : va_D A (mW h a k F42 V43) := hB.2.weaken (fun _ q _ h9 => hFc q.1 h9)
              clear hB
              generalize H1 = H at hP hS ⊢
              replace hP : va_P (dC, dI) vwCl (mW h a k F42 V43) H := hP
              obtain ⟨hwI, hwU, hwV, hw⟩ := hw
              replace hU : ∀ j : Nat, j ∉ ([19] : List Nat) → F42 j = F j := mw_tr (by decide) hwU hU
              replace hV : ∀ j : Nat, j ∉ ([20] : List Nat) → V43 j = V j := mw_tr (by decide) hwV hV
              replace hI : StM n (b + 0) F V F42 V43 := hI.trans hwI
              replace hI : StM n (b) F V F42 V43 := hI
              refine lv_aload_n hx hb dX9_relation_91 rfl (lv_at hl 0 rfl) ?_
              refine lv_dup hx hb dX9_relation_92 rfl ?_
              refine va_get (D := (dC, dI)) (ci := 10) (v := .int (V43 20)) (C := RX9) (T := TX9) (N := 46) hx hb hts in_m_relation_X9 hown hK hP 0 rfl rfl 20 (by decide) (hts (.fieldLink RX9 153 "ServiceTreeModel" "relations" "I") (by decide +kernel)) (fun _ h9 => h9) rfl dX9_relation_93 ?_
              refine lv_topi (fun x44 ex44 => ?_)
              refine lv_iconst (v := 1) hx hb dX9_relation_96 (by decide) ?_
              refine lv_iadd hx hb dX9_relation_97 ?_
              refine lv_topi (fun x45 ex45 => ?_)
              refine va_put (D := (dC, dI)) (ci := 10) (fs := mF a V43) (v := .int x45) (ty := .int) (C := RX9) (T := TX9) (N := 46) hx hb hts in_m_relation_X9 tyX9 tyX9_ok nmX9 hown hK hP hD hS 0 rfl rfl 20 (by decide) (hts (.fieldLink RX9 153 "ServiceTreeModel" "relations" "I") (by decide +kernel)) (fun _ h9 => h9) rfl (by decide +kernel) rfl rfl (Nat.le_of_ble_eq_true rfl) dX9_relation_98 (fun H locs hP hD hS => ?_)
              rw [mW_put_20] at hP hD
              obtain ⟨V46, eV46⟩ : ∃ f9 : Nat → Int32, f9 = va_up V43 20 x45 := ⟨_, rfl⟩
              rw [← eV46] at hP hD
              replace hI : StM n (b) F V F42 V46 := ⟨by rw [eV46]; exact hI.1.setV (by decide), trivial⟩
              replace hV : ∀ j : Nat, j ∉ ([20] : List Nat) → V46 j = V j := by rw [eV46]; exact mw_up (by decide) hV
              refine lv_iconst (v := 1) hx hb dX9_relation_101 (by decide) ?_
              exact W.iret (v := 1) hx hb hr (fun t ht hW => ⟨⟨1, (F42, V46), rfl, ⟨hI.mono (by omega), hU, hV, trivial⟩, by rw [ht]; exact hP, hD⟩, hS.F ht⟩) hS.2.2 dX9_relation_102
            · refine lv_bipush (v := (-6)) hx hb dX9_relation_80 (by decide) ?_
              exact W.iret (v := (-6)) hx hb hr (fun t ht hW => ⟨⟨(-6), (F, V), rfl, ⟨hI.mono (by omega), hU, hV, trivial⟩, by rw [ht]; exact hP, hD⟩, hS.F ht⟩) hS.2.2 dX9_relation_82
          · refine lv_iconst (v := 0) hx hb dX9_relation_68 (by decide) ?_
            exact W.iret (v := 0) hx hb hr (fun t ht hW => ⟨⟨0, (F, V), rfl, ⟨hI.mono (by omega), hU, hV, trivial⟩, by rw [ht]; exact hP, hD⟩, hS.F ht⟩) hS.2.2 dX9_relation_69
        · replace c34 : o4 = 3 := (nI_eq (a := o4) (b := 3) (by omega) (by omega)).mp c34
          refine lv_aload_n hx hb dX9_relation_31 rfl (lv_at hl 0 rfl) ?_
          refine va_get (D := (dC, dI)) (ci := 10) (v := .ref (a 7)) (C := RX9) (T := TX9) (N := 46) hx hb hts in_m_relation_X9 hown hK hP 0 rfl rfl 7 (by decide) (hts (.fieldLink RX9 31 "ServiceTreeModel" "state" "[I") (by decide +kernel)) (fun _ h9 => h9) rfl dX9_relation_32 ?_
          refine lv_iload_n hx hb dX9_relation_35 rfl (lv_at hl 2 rfl) ?_
          refine va_iald (n := 40) (f := F 7) hx hb hK hP 8 7 rfl rfl (vp_in_nI (n := j5) (by omega) (by decide)) dX9_relation_36 ?_
          refine lv_topi (fun x47 ex47 => ?_)
          have hFc := mw_free hD hS hA
          refine va_calli (va_runS (As := [.int x47]) (rest := []) ⟨hx, hb, hml, hown, hts⟩ (c_m_rests l dC dI h a k F V n (b) x47 H.size hI.1 (by omega) ) (va_cwS 1 hts wc_m_relation_m_rests_147 rfl rfl rfl (by decide +kernel) ⟨Nat.le_of_ble_eq_true rfl, Nat.le_of_ble_eq_true rfl⟩) ⟨fun a9 U g mk q => by obtain ⟨q0, q1, qP, qK, qD⟩ := q; exact ⟨q0, q1, qP, va_K.moved (u := U) (U := U.calling g mk a9) (Vm.Alike.refl U.vm) qK, qD⟩, fun U hU hW => ⟨rfl, by rw [hU], by rw [hU]; exact hP, va_K.moved hW.alike hK, hD.weaken (fun _ _ _ _ => trivial)⟩⟩ rfl rfl hl.1 rfl (lv_room (Nat.le_of_ble_eq_true rfl)) dX9_relation_37 ⟨Nat.le_of_ble_eq_true rfl, Nat.le_of_ble_eq_true rfl⟩) hS (fun q _ h => hFc q h) hFc (fun r48 u t H1 locs ht hvm hw hB hz1 hk1 hS => ?_)
          obtain ⟨F49, V50⟩ := u
          replace hP := hB.1
          rw [ht] at hP
          replace hD : va_D A (mW h a k F49 V50) := hB.2.weaken (fun _ q _ h9 => hFc q.1 h9)
          clear hB
          generalize H1 = H at hP hS ⊢
          replace hP : va_P (dC, dI) vwCl (mW h a k F49 V50) H := hP
          obtain ⟨hwF, hwV, hw⟩ : F49 = F ∧ V50 = V ∧ _ := hw
          rw [hwF, hwV] at hP hD
          refine lv_if_eq (tgt := 55) hx hb dX9_relation_40 (by decide) (fun c51 => ?_) (fun c51 => ?_)
          · refine lv_bipush (v := (-4)) hx hb dX9_relation_55 (by decide) ?_
            exact W.iret (v := (-4)) hx hb hr (fun t ht hW => ⟨⟨(-4), (F, V), rfl, ⟨hI.mono (by omega), hU, hV, trivial⟩, by rw [ht]; exact hP, hD⟩, hS.F ht⟩) hS.2.2 dX9_relation_57
          · refine lv_aload_n hx hb dX9_relation_43 rfl (lv_at hl 0 rfl) ?_
            refine va_get (D := (dC, dI)) (ci := 10) (v := .ref (a 7)) (C := RX9) (T := TX9) (N := 46) hx hb hts in_m_relation_X9 hown hK hP 0 rfl rfl 7 (by decide) (hts (.fieldLink RX9 31 "ServiceTreeModel" "state" "[I") (by decide +kernel)) (fun _ h9 => h9) rfl dX9_relation_44 ?_
            refine lv_iload_n hx hb dX9_relation_47 rfl (lv_at hl 3 rfl) ?_
            refine va_iald (n := 40) (f := F 7) hx hb hK hP 8 7 rfl rfl (vp_in_nI (n := j6) (by omega) (by decide)) dX9_relation_48 ?_
            refine lv_topi (fun x52 ex52 => ?_)
            have hFc := mw_free hD hS hA
            refine va_calli (va_runS (As := [.int x52]) (rest := []) ⟨hx, hb, hml, hown, hts⟩ (c_m_rests l dC dI h a k F V n (b) x52 H.size hI.1 (by omega) ) (va_cwS 1 hts wc_m_relation_m_rests_147 rfl rfl rfl (by decide +kernel) ⟨Nat.le_of_ble_eq_true rfl, Nat.le_of_ble_eq_true rfl⟩) ⟨fun a9 U g mk q => by obtain ⟨q0, q1, qP, qK, qD⟩ := q; exact ⟨q0, q1, qP, va_K.moved (u := U) (U := U.calling g mk a9) (Vm.Alike.refl U.vm) qK, qD⟩, fun U hU hW => ⟨rfl, by rw [hU], by rw [hU]; exact hP, va_K.moved hW.alike hK, hD.weaken (fun _ _ _ _ => trivial)⟩⟩ rfl rfl hl.1 rfl (lv_room (Nat.le_of_ble_eq_true rfl)) dX9_relation_49 ⟨Nat.le_of_ble_eq_true rfl, Nat.le_of_ble_eq_true rfl⟩) hS (fun q _ h => hFc q h) hFc (fun r53 u t H1 locs ht hvm hw hB hz1 hk1 hS => ?_)
            obtain ⟨F54, V55⟩ := u
            replace hP := hB.1
            rw [ht] at hP
            replace hD : va_D A (mW h a k F54 V55) := hB.2.weaken (fun _ q _ h9 => hFc q.1 h9)
            clear hB
            generalize H1 = H at hP hS ⊢
            replace hP : va_P (dC, dI) vwCl (mW h a k F54 V55) H := hP
            obtain ⟨hwF, hwV, hw⟩ : F54 = F ∧ V55 = V ∧ _ := hw
            rw [hwF, hwV] at hP hD
            refine lv_if_ne (tgt := 58) hx hb dX9_relation_52 (by decide) (fun c56 => ?_) (fun c56 => ?_)
            · refine lv_aload_n hx hb dX9_relation_58 rfl (lv_at hl 0 rfl) ?_
              refine lv_iload_n hx hb dX9_relation_59 rfl (lv_at hl 1 rfl) ?_
              refine lv_iload_n hx hb dX9_relation_60 rfl (lv_at hl 2 rfl) ?_
              refine lv_iload_n hx hb dX9_relation_61 rfl (lv_at hl 3 rfl) ?_
              have hFc := mw_free hD hS hA
              refine va_calli (va_runV (As := [.int (nI o4), .int (nI j5), .int (nI j6)]) (rest := []) ⟨hx, hb, hml, hown, hts⟩ (c_m_has l dC dI h a k F V n (b) o4 j5 j6 H.size hI.1 (by omega) (by omega) (by omega) (by omega)) (cwV 3 hts wc_m_relation_m_has_150 rfl rfl rfl (by decide +kernel) ⟨Nat.le_of_ble_eq_true rfl, Nat.le_of_ble_eq_true rfl⟩) ⟨fun a9 U g mk q => by obtain ⟨q0, q1, qP, qK, qD⟩ := q; exact ⟨q0, q1, qP, va_K.moved (u := U) (U := U.calling g mk a9) (Vm.Alike.refl U.vm) qK, qD⟩, va_recv hK hP (ci := 10) (q0 := 0) rfl rfl, fun U hU hW => ⟨rfl, by rw [hU], by rw [hU]; exact hP, va_K.moved hW.alike hK, hD.weaken (fun _ _ _ _ => trivial)⟩⟩ rfl rfl hl.1 rfl (lv_room (Nat.le_of_ble_eq_true rfl)) dX9_relation_62 ⟨Nat.le_of_ble_eq_true rfl, Nat.le_of_ble_eq_true rfl⟩) hS (fun q _ h => hFc q h) hFc (fun r57 u t H1 locs ht hvm hw hB hz1 hk1 hS => ?_)
              obtain ⟨F58, V59⟩ := u
              replace hP := hB.1
              rw [ht] at hP
              replace hD : va_D A (mW h a k F58 V59) := hB.2.weaken (fun _ q _ h9 => hFc q.1 h9)
              clear hB
              generalize H1 = H at hP hS ⊢
              replace hP : va_P (dC, dI) vwCl (mW h a k F58 V59) H := hP
              obtain ⟨hwF, hwV, hw⟩ : F58 = F ∧ V59 = V ∧ _ := hw
              rw [hwF, hwV] at hP hD
              have br57 := hw
              refine lv_if_eq (tgt := 70) hx hb dX9_relation_65 (by decide) (fun c60 => ?_) (fun c60 => ?_)
              · refine lv_aload_n hx hb dX9_relation_70 rfl (lv_at hl 0 rfl) ?_
                refine va_get (D := (dC, dI)) (ci := 10) (v := .int (V 20)) (C := RX9) (T := TX9) (N := 46) hx hb hts in_m_relation_X9 hown hK hP 0 rfl rfl 20 (by decide) (hts (.fieldLink RX9 153 "ServiceTreeModel" "relations" "I") (by decide +kernel)) (fun _ h9 => h9) rfl dX9_relation_71 ?_
                refine lv_topi (fun x61 ex61 => ?_)
                refine lv_sipush (v := 400) hx hb dX9_relation_74 (by decide) ?_
                refine lv_icmp_ne (tgt := 83) hx hb dX9_relation_77 (by decide) (fun c62 => ?_) (fun c62 => ?_)
                · refine lv_aload_n hx hb dX9_relation_83 rfl (lv_at hl 0 rfl) ?_
                  refine lv_iload_n hx hb dX9_relation_84 rfl (lv_at hl 1 rfl) ?_
                  refine lv_iload_n hx hb dX9_relation_85 rfl (lv_at hl 2 rfl) ?_
                  refine lv_iload_n hx hb dX9_relation_86 rfl (lv_at hl 3 rfl) ?_
                  refine lv_iconst (v := 1) hx hb dX9_relation_87 (by decide) ?_
                  have hFc := mw_free hD hS hA
                  refine va_callv (va_runV (As := [.int (nI o4), .int (nI j5), .int (nI j6), .int 1]) (rest := []) ⟨hx, hb, hml, hown, hts⟩ (c_m_set1 l dC dI h a k F V n (b) o4 j5 j6 H.size hI.1 (by omega) (by omega) (by omega) (by omega)) (cwV 4 hts wc_m_relation_m_set1_156 rfl rfl rfl (by decide +kernel) ⟨Nat.le_of_ble_eq_true rfl, Nat.le_of_ble_eq_true rfl⟩) ⟨fun a9 U g mk q => by obtain ⟨q0, q1, qP, qK, qD⟩ := q; exact ⟨q0, q1, qP, va_K.moved (u := U) (U := U.calling g mk a9) (Vm.Alike.refl U.vm) qK, qD⟩, va_recv hK hP (ci := 10) (q0 := 0) rfl rfl, fun U hU hW => ⟨rfl, by rw [hU], by rw [hU]; exact hP, va_K.moved hW.alike hK, hD.weaken (fun _ _ _ _ => trivial)⟩⟩ rfl rfl hl.1 rfl (lv_room (Nat.le_of_ble_eq_true rfl)) dX9_relation_88 ⟨Nat.le_of_ble_eq_true rfl, Nat.le_of_ble_eq_true rfl⟩) hS (fun q _ h => hFc q h) hFc (fun u t H1 locs ht hvm hw hB hz1 hk1 hS => ?_)
                  obtain ⟨F64, V65⟩ := u
                  replace hP := hB.1
                  rw [ht] at hP
                  replace hD : va_D A (mW h a k F64 V65) := hB.2.weaken (fun _ q _ h9 => hFc q.1 h9)
                  clear hB
                  generalize H1 = H at hP hS ⊢
                  replace hP : va_P (dC, dI) vwCl (mW h a k F64 V65) H := hP
                  obtain ⟨hwI, hwU, hwV, hw⟩ := hw
                  replace hU : ∀ j : Nat, j ∉ ([19] : List Nat) → F64 j = F j := mw_tr (by decide) hwU hU
                  replace hV : ∀ j : Nat, j ∉ ([20] : List Nat) → V65 j = V j := mw_tr (by decide) hwV hV
                  replace hI : StM n (b + 0) F V F64 V65 := hI.trans hwI
                  replace hI : StM n (b) F V F64 V65 := hI
                  refine lv_aload_n hx hb dX9_relation_91 rfl (lv_at hl 0 rfl) ?_
                  refine lv_dup hx hb dX9_relation_92 rfl ?_
                  refine va_get (D := (dC, dI)) (ci := 10) (v := .int (V65 20)) (C := RX9) (T := TX9) (N := 46) hx hb hts in_m_relation_X9 hown hK hP 0 rfl rfl 20 (by decide) (hts (.fieldLink RX9 153 "ServiceTreeModel" "relations" "I") (by decide +kernel)) (fun _ h9 => h9) rfl dX9_relation_93 ?_
                  refine lv_topi (fun x66 ex66 => ?_)
                  refine lv_iconst (v := 1) hx hb dX9_relation_96 (by decide) ?_
                  refine lv_iadd hx hb dX9_relation_97 ?_
                  refine lv_topi (fun x67 ex67 => ?_)
                  refine va_put (D := (dC, dI)) (ci := 10) (fs := mF a V65) (v := .int x67) (ty := .int) (C := RX9) (T := TX9) (N := 46) hx hb hts in_m_relation_X9 tyX9 tyX9_ok nmX9 hown hK hP hD hS 0 rfl rfl 20 (by decide) (hts (.fieldLink RX9 153 "ServiceTreeModel" "relations" "I") (by decide +kernel)) (fun _ h9 => h9) rfl (by decide +kernel) rfl rfl (Nat.le_of_ble_eq_true rfl) dX9_relation_98 (fun H locs hP hD hS => ?_)
                  rw [mW_put_20] at hP hD
                  obtain ⟨V68, eV68⟩ : ∃ f9 : Nat → Int32, f9 = va_up V65 20 x67 := ⟨_, rfl⟩
                  rw [← eV68] at hP hD
                  replace hI : StM n (b) F V F64 V68 := ⟨by rw [eV68]; exact hI.1.setV (by decide), trivial⟩
                  replace hV : ∀ j : Nat, j ∉ ([20] : List Nat) → V68 j = V j := by rw [eV68]; exact mw_up (by decide) hV
                  refine lv_iconst (v := 1) hx hb dX9_relation_101 (by decide) ?_
                  exact W.iret (v := 1) hx hb hr (fun t ht hW => ⟨⟨1, (F64, V68), rfl, ⟨hI.mono (by omega), hU, hV, trivial⟩, by rw [ht]; exact hP, hD⟩, hS.F ht⟩) hS.2.2 dX9_relation_102
                · refine lv_bipush (v := (-6)) hx hb dX9_relation_80 (by decide) ?_
                  exact W.iret (v := (-6)) hx hb hr (fun t ht hW => ⟨⟨(-6), (F, V), rfl, ⟨hI.mono (by omega), hU, hV, trivial⟩, by rw [ht]; exact hP, hD⟩, hS.F ht⟩) hS.2.2 dX9_relation_82
              · refine lv_iconst (v := 0) hx hb dX9_relation_68 (by decide) ?_
                exact W.iret (v := 0) hx hb hr (fun t ht hW => ⟨⟨0, (F, V), rfl, ⟨hI.mono (by omega), hU, hV, trivial⟩, by rw [ht]; exact hP, hD⟩, hS.F ht⟩) hS.2.2 dX9_relation_69
            · refine lv_bipush (v := (-4)) hx hb dX9_relation_55 (by decide) ?_
              exact W.iret (v := (-4)) hx hb hr (fun t ht hW => ⟨⟨(-4), (F, V), rfl, ⟨hI.mono (by omega), hU, hV, trivial⟩, by rw [ht]; exact hP, hD⟩, hS.F ht⟩) hS.2.2 dX9_relation_57
    · refine lv_bipush (v := (-3)) hx hb dX9_relation_19 (by decide) ?_
      exact W.iret (v := (-3)) hx hb hr (fun t ht hW => ⟨⟨(-3), (F, V), rfl, ⟨hI.mono (by omega), hU, hV, trivial⟩, by rw [ht]; exact hP, hD⟩, hS.F ht⟩) hS.2.2 dX9_relation_21
  · refine lv_if_ne (tgt := 12) hx hb dX9_relation_7 (by decide) (fun c9 => absurd (by decide) c9) (fun _ => ?_)
    refine lv_iconst (v := (-1)) hx hb dX9_relation_10 (by decide) ?_
    exact W.iret (v := (-1)) hx hb hr (fun t ht hW => ⟨⟨(-1), (F, V), rfl, ⟨hI.mono (by omega), hU, hV, trivial⟩, by rw [ht]; exact hP, hD⟩, hS.F ht⟩) hS.2.2 dX9_relation_11
def wq_m_undo : List Cond := [.code yX9_undo cX9_undo 4 (some .int), .fieldLink RX9 153 "ServiceTreeModel" "relations" "I", .methodLink RX9 139 yX9_isPair, .instanceMethod yX9_isPair, .selects RX9 yX9_isPair yX9_isPair, .initialized RX9, .methodLink RX9 143 yX9_jobs, .instanceMethod yX9_jobs, .selects RX9 yX9_jobs yX9_jobs, .methodLink RX9 150 yX9_has, .instanceMethod yX9_has, .selects RX9 yX9_has yX9_has, .methodLink RX9 156 yX9_set, .instanceMethod yX9_set, .selects RX9 yX9_set yX9_set] ++ (wsX90 ++ (wq_m_isPair ++ (wq_m_jobs ++ (wq_m_has ++ (wq_m_set0)))))
theorem in_m_undo_X9 : ∀ w ∈ wsX90, w ∈ wq_m_undo := fun _ h => List.mem_append_right _ (List.mem_append_left _ (h))
set_option maxRecDepth 20000 in
theorem wi_m_undo : ∀ w ∈ wq_m_undo, w ∈ lw_tbl := List.forall_mem_append.mpr ⟨(by decide +kernel), List.forall_mem_append.mpr ⟨inKX9, List.forall_mem_append.mpr ⟨wi_m_isPair, List.forall_mem_append.mpr ⟨wi_m_jobs, List.forall_mem_append.mpr ⟨wi_m_has, wi_m_set0⟩⟩⟩⟩⟩
set_option maxRecDepth 20000 in
theorem wg_m_undo : GoodIn wq_m_undo wq_m_undo := goodIn_sub (fun _ h => h) (by decide +kernel)
set_option maxRecDepth 20000 in
theorem wc_m_undo_m_isPair_139 : GoodIn wq_m_undo (wsV RX9 139 RX9 yX9_isPair wq_m_isPair) := goodIn_app (goodIn_of _ (by decide +kernel)) (fun w h => ⟨List.mem_append_right _ (List.mem_append_right _ (List.mem_append_left _ (h))), (wg_m_isPair w h).2⟩)
set_option maxRecDepth 20000 in
theorem wc_m_undo_m_jobs_143 : GoodIn wq_m_undo (wsV RX9 143 RX9 yX9_jobs wq_m_jobs) := goodIn_app (goodIn_of _ (by decide +kernel)) (fun w h => ⟨List.mem_append_right _ (List.mem_append_right _ (List.mem_append_right _ (List.mem_append_left _ (h)))), (wg_m_jobs w h).2⟩)
set_option maxRecDepth 20000 in
theorem wc_m_undo_m_has_150 : GoodIn wq_m_undo (wsV RX9 150 RX9 yX9_has wq_m_has) := goodIn_app (goodIn_of _ (by decide +kernel)) (fun w h => ⟨List.mem_append_right _ (List.mem_append_right _ (List.mem_append_right _ (List.mem_append_right _ (List.mem_append_left _ (h))))), (wg_m_has w h).2⟩)
set_option maxRecDepth 20000 in
theorem wc_m_undo_m_set0_156 : GoodIn wq_m_undo (wsV RX9 156 RX9 yX9_set wq_m_set0) := goodIn_app (goodIn_of _ (by decide +kernel)) (fun w h => ⟨List.mem_append_right _ (List.mem_append_right _ (List.mem_append_right _ (List.mem_append_right _ (List.mem_append_right _ (h))))), (wg_m_set0 w h).2⟩)
def rm_m_undo : Room := { frames := 2, cells := 0, slots := 0, locals := 44 }
set_option maxHeartbeats 4000000 in
set_option maxRecDepth 100000 in
theorem c_m_undo (l : Launch) (dC : Nat → ClassId) (dI : Nat → Nat → Nat) (h : Nat) (a : Nat → Nat) (k : Nat → ClassId) (F : Nat → Nat → Int32) (V : Nat → Int32) (n b : Nat) (p0 : Int32) (p1 : Int32) (p2 : Int32) (sz : Nat) (hI0 : InvM n b F V) (hb0 : b + 0 < 2147483648)  : Met l yX9_undo wq_m_undo rm_m_undo (va_Pc [.ref h, .int p0, .int p1, .int p2] (fun U => U.heap.size = sz ∧ va_P (dC, dI) vwCl (mW h a k F V) U.heap ∧ va_K (dC, dI) vwCl (mT k) U ∧ va_D (fun _ => True) (mW h a k F V))) (va_Qi (fun (r : Int32) (u : (Nat → Nat → Int32) × (Nat → Int32)) => StM n (b + 0) F V u.1 u.2 ∧ (∀ j : Nat, j ∉ ([19] : List Nat) → u.1 j = F j) ∧ (∀ j : Nat, j ∉ ([20] : List Nat) → u.2 j = V j) ∧ (True)) (fun (u : (Nat → Nat → Int32) × (Nat → Int32)) (t : State) => va_P (dC, dI) vwCl (mW h a k u.1 u.2) t.heap ∧ va_D (va_A (mW h a k F V) sz) (mW h a k u.1 u.2)) (va_A (mW h a k F V) sz)) 0 0 (va_A (mW h a k F V) sz) := by
  have hn : n ≤ 40 := hI0.1
  have hI : StM n b F V F V := StM.rf hI0
  have hU : ∀ j : Nat, j ∉ ([19] : List Nat) → F j = F j := fun _ _ => rfl
  have hV : ∀ j : Nat, j ∉ ([20] : List Nat) → V j = V j := fun _ _ => rfl
  refine Met.ofW (cc := cX9_undo) (maxL := 4) (ret := (some .int)) (by decide) rfl ?_
  intro p e s m args below meth c s₁ B hml hv
  obtain ⟨rfl, hsz, hP, hK, hD0⟩ := hv
  have hx := B.exec
  have hb := B.bytes
  have hr := B.returns
  have hts := atoms_spec (ws := wq_m_undo) B.pre
  have hown : s.vm.findClass RX9 = some m.cls := findClass_of_methodNamed B.named
  have hlocks := B.notSynchronized
  subst hsz
  have hD := hD0.self (sz := s.heap.size)
  generalize hAe : va_A (mW h a k F V) s.heap.size = A at hD ⊢
  have hA : ∀ q : Nat, s.heap.size ≤ q → A q := fun q h => by rw [← hAe]; exact Or.inr h
  have hS : va_S A s.heap s.heap [] := va_S.rf
  have hl := lv_entry ([.ref h, .int p0, .int p1, .int p2]) (n := 4) (Nat.le_of_ble_eq_true rfl)
  rw [lg_entry_eq]
  generalize (lg_sl ([.ref h, .int p0, .int p1, .int p2]) ++ List.replicate (4 - (lg_sl ([.ref h, .int p0, .int p1, .int p2])).length) Slot.unset).toArray = ls at hl ⊢
  have hl : lv_has ls 4 [(0, .ref h), (1, .int p0), (2, .int p1), (3, .int p2)] := hl
  refine lv_aload_n hx hb dX9_undo_0 rfl (lv_at hl 0 rfl) ?_
  refine lv_iload_n hx hb dX9_undo_1 rfl (lv_at hl 1 rfl) ?_
  refine lv_iload_n hx hb dX9_undo_2 rfl (lv_at hl 2 rfl) ?_
  refine lv_iload_n hx hb dX9_undo_3 rfl (lv_at hl 3 rfl) ?_
  have hFc := mw_free hD hS hA
  refine va_calli (va_runV (As := [.int p0, .int p1, .int p2]) (rest := []) ⟨hx, hb, hml, hown, hts⟩ (c_m_isPair l dC dI h a k F V n (b) p0 p1 p2 s.heap.size hI.1 (by omega) ) (cwV 3 hts wc_m_undo_m_isPair_139 rfl rfl rfl (by decide +kernel) ⟨Nat.le_of_ble_eq_true rfl, Nat.le_of_ble_eq_true rfl⟩) ⟨fun a9 U g mk q => by obtain ⟨q0, q1, qP, qK, qD⟩ := q; exact ⟨q0, q1, qP, va_K.moved (u := U) (U := U.calling g mk a9) (Vm.Alike.refl U.vm) qK, qD⟩, va_recv hK hP (ci := 10) (q0 := 0) rfl rfl, fun U hU hW => ⟨rfl, by rw [hU], by rw [hU]; exact hP, va_K.moved hW.alike hK, hD.weaken (fun _ _ _ _ => trivial)⟩⟩ rfl rfl hl.1 rfl (lv_room (Nat.le_of_ble_eq_true rfl)) dX9_undo_4 ⟨Nat.le_of_ble_eq_true rfl, Nat.le_of_ble_eq_true rfl⟩) hS (fun q _ h => hFc q h) hFc (fun r1 u t H1 locs ht hvm hw hB hz1 hk1 hS => ?_)
  obtain ⟨F2, V3⟩ := u
  replace hP := hB.1
  rw [ht] at hP
  replace hD : va_D A (mW h a k F2 V3) := hB.2.weaken (fun _ q _ h9 => hFc q.1 h9)
  clear hB
  generalize H1 = H at hP hS ⊢
  replace hP : va_P (dC, dI) vwCl (mW h a k F2 V3) H := hP
  obtain ⟨hwF, hwV, hw⟩ : F2 = F ∧ V3 = V ∧ _ := hw
  rw [hwF, hwV] at hP hD
  rcases hw with ⟨rfl, ⟨o4, ho4, eo4⟩, ⟨j5, hj5, ej5⟩, j6, hj6, ej6⟩ | rfl
  · subst eo4
    subst ej5
    subst ej6
    refine lv_if_ne (tgt := 12) hx hb dX9_undo_7 (by decide) (fun _ => ?_) (fun c9 => absurd c9 (by decide))
    refine lv_aload_n hx hb dX9_undo_12 rfl (lv_at hl 0 rfl) ?_
    have hFc := mw_free hD hS hA
    refine va_calli (va_runV (As := []) (rest := []) ⟨hx, hb, hml, hown, hts⟩ (c_m_jobs l dC dI h a k F V n (b)  H.size hI.1 (by omega) ) (cwV 0 hts wc_m_undo_m_jobs_143 rfl rfl rfl (by decide +kernel) ⟨Nat.le_of_ble_eq_true rfl, Nat.le_of_ble_eq_true rfl⟩) ⟨fun a9 U g mk q => by obtain ⟨q0, q1, qP, qK, qD⟩ := q; exact ⟨q0, q1, qP, va_K.moved (u := U) (U := U.calling g mk a9) (Vm.Alike.refl U.vm) qK, qD⟩, va_recv hK hP (ci := 10) (q0 := 0) rfl rfl, fun U hU hW => ⟨rfl, by rw [hU], by rw [hU]; exact hP, va_K.moved hW.alike hK, hD.weaken (fun _ _ _ _ => trivial)⟩⟩ rfl rfl hl.1 rfl (lv_room (Nat.le_of_ble_eq_true rfl)) dX9_undo_13 ⟨Nat.le_of_ble_eq_true rfl, Nat.le_of_ble_eq_true rfl⟩) hS (fun q _ h => hFc q h) hFc (fun r7 u t H1 locs ht hvm hw hB hz1 hk1 hS => ?_)
    obtain ⟨F8, V9⟩ := u
    replace hP := hB.1
    rw [ht] at hP
    replace hD : va_D A (mW h a k F8 V9) := hB.2.weaken (fun _ q _ h9 => hFc q.1 h9)
    clear hB
    generalize H1 = H at hP hS ⊢
    replace hP : va_P (dC, dI) vwCl (mW h a k F8 V9) H := hP
    obtain ⟨hwF, hwV, hw⟩ : F8 = F ∧ V9 = V ∧ _ := hw
    rw [hwF, hwV] at hP hD
    refine lv_if_le (tgt := 22) hx hb dX9_undo_16 (by decide) (fun c10 => ?_) (fun c10 => ?_)
    · refine lv_aload_n hx hb dX9_undo_22 rfl (lv_at hl 0 rfl) ?_
      refine lv_iload_n hx hb dX9_undo_23 rfl (lv_at hl 1 rfl) ?_
      refine lv_iload_n hx hb dX9_undo_24 rfl (lv_at hl 2 rfl) ?_
      refine lv_iload_n hx hb dX9_undo_25 rfl (lv_at hl 3 rfl) ?_
      have hFc := mw_free hD hS hA
      refine va_calli (va_runV (As := [.int (nI o4), .int (nI j5), .int (nI j6)]) (rest := []) ⟨hx, hb, hml, hown, hts⟩ (c_m_has l dC dI h a k F V n (b) o4 j5 j6 H.size hI.1 (by omega) (by omega) (by omega) (by omega)) (cwV 3 hts wc_m_undo_m_has_150 rfl rfl rfl (by decide +kernel) ⟨Nat.le_of_ble_eq_true rfl, Nat.le_of_ble_eq_true rfl⟩) ⟨fun a9 U g mk q => by obtain ⟨q0, q1, qP, qK, qD⟩ := q; exact ⟨q0, q1, qP, va_K.moved (u := U) (U := U.calling g mk a9) (Vm.Alike.refl U.vm) qK, qD⟩, va_recv hK hP (ci := 10) (q0 := 0) rfl rfl, fun U hU hW => ⟨rfl, by rw [hU], by rw [hU]; exact hP, va_K.moved hW.alike hK, hD.weaken (fun _ _ _ _ => trivial)⟩⟩ rfl rfl hl.1 rfl (lv_room (Nat.le_of_ble_eq_true rfl)) dX9_undo_26 ⟨Nat.le_of_ble_eq_true rfl, Nat.le_of_ble_eq_true rfl⟩) hS (fun q _ h => hFc q h) hFc (fun r11 u t H1 locs ht hvm hw hB hz1 hk1 hS => ?_)
      obtain ⟨F12, V13⟩ := u
      replace hP := hB.1
      rw [ht] at hP
      replace hD : va_D A (mW h a k F12 V13) := hB.2.weaken (fun _ q _ h9 => hFc q.1 h9)
      clear hB
      generalize H1 = H at hP hS ⊢
      replace hP : va_P (dC, dI) vwCl (mW h a k F12 V13) H := hP
      obtain ⟨hwF, hwV, hw⟩ : F12 = F ∧ V13 = V ∧ _ := hw
      rw [hwF, hwV] at hP hD
      have br11 := hw
      refine lv_if_ne (tgt := 34) hx hb dX9_undo_29 (by decide) (fun c14 => ?_) (fun c14 => ?_)
      · refine lv_aload_n hx hb dX9_undo_34 rfl (lv_at hl 0 rfl) ?_
        refine lv_iload_n hx hb dX9_undo_35 rfl (lv_at hl 1 rfl) ?_
        refine lv_iload_n hx hb dX9_undo_36 rfl (lv_at hl 2 rfl) ?_
        refine lv_iload_n hx hb dX9_undo_37 rfl (lv_at hl 3 rfl) ?_
        refine lv_iconst (v := 0) hx hb dX9_undo_38 (by decide) ?_
        have hFc := mw_free hD hS hA
        refine va_callv (va_runV (As := [.int (nI o4), .int (nI j5), .int (nI j6), .int 0]) (rest := []) ⟨hx, hb, hml, hown, hts⟩ (c_m_set0 l dC dI h a k F V n (b) o4 j5 j6 H.size hI.1 (by omega) (by omega) (by omega) (by omega)) (cwV 4 hts wc_m_undo_m_set0_156 rfl rfl rfl (by decide +kernel) ⟨Nat.le_of_ble_eq_true rfl, Nat.le_of_ble_eq_true rfl⟩) ⟨fun a9 U g mk q => by obtain ⟨q0, q1, qP, qK, qD⟩ := q; exact ⟨q0, q1, qP, va_K.moved (u := U) (U := U.calling g mk a9) (Vm.Alike.refl U.vm) qK, qD⟩, va_recv hK hP (ci := 10) (q0 := 0) rfl rfl, fun U hU hW => ⟨rfl, by rw [hU], by rw [hU]; exact hP, va_K.moved hW.alike hK, hD.weaken (fun _ _ _ _ => trivial)⟩⟩ rfl rfl hl.1 rfl (lv_room (Nat.le_of_ble_eq_true rfl)) dX9_undo_39 ⟨Nat.le_of_ble_eq_true rfl, Nat.le_of_ble_eq_true rfl⟩) hS (fun q _ h => hFc q h) hFc (fun u t H1 locs ht hvm hw hB hz1 hk1 hS => ?_)
        obtain ⟨F16, V17⟩ := u
        replace hP := hB.1
        rw [ht] at hP
        replace hD : va_D A (mW h a k F16 V17) := hB.2.weaken (fun _ q _ h9 => hFc q.1 h9)
        clear hB
        generalize H1 = H at hP hS ⊢
        replace hP : va_P (dC, dI) vwCl (mW h a k F16 V17) H := hP
        obtain ⟨hwI, hwU, hwV, hw⟩ := hw
        replace hU : ∀ j : Nat, j ∉ ([19] : List Nat) → F16 j = F j := mw_tr (by decide) hwU hU
        replace hV : ∀ j : Nat, j ∉ ([20] : List Nat) → V17 j = V j := mw_tr (by decide) hwV hV
        replace hI : StM n (b + 0) F V F16 V17 := hI.trans hwI
        replace hI : StM n (b) F V F16 V17 := hI
        refine lv_aload_n hx hb dX9_undo_42 rfl (lv_at hl 0 rfl) ?_
        refine lv_dup hx hb dX9_undo_43 rfl ?_
        refine va_get (D := (dC, dI)) (ci := 10) (v := .int (V17 20)) (C := RX9) (T := TX9) (N := 46) hx hb hts in_m_undo_X9 hown hK hP 0 rfl rfl 20 (by decide) (hts (.fieldLink RX9 153 "ServiceTreeModel" "relations" "I") (by decide +kernel)) (fun _ h9 => h9) rfl dX9_undo_44 ?_
        refine lv_topi (fun x18 ex18 => ?_)
        refine lv_iconst (v := 1) hx hb dX9_undo_47 (by decide) ?_
        refine lv_isub hx hb dX9_undo_48 ?_
        refine lv_topi (fun x19 ex19 => ?_)
        refine va_put (D := (dC, dI)) (ci := 10) (fs := mF a V17) (v := .int x19) (ty := .int) (C := RX9) (T := TX9) (N := 46) hx hb hts in_m_undo_X9 tyX9 tyX9_ok nmX9 hown hK hP hD hS 0 rfl rfl 20 (by decide) (hts (.fieldLink RX9 153 "ServiceTreeModel" "relations" "I") (by decide +kernel)) (fun _ h9 => h9) rfl (by decide +kernel) rfl rfl (Nat.le_of_ble_eq_true rfl) dX9_undo_49 (fun H locs hP hD hS => ?_)
        rw [mW_put_20] at hP hD
        obtain ⟨V20, eV20⟩ : ∃ f9 : Nat → Int32, f9 = va_up V17 20 x19 := ⟨_, rfl⟩
        rw [← eV20] at hP hD
        replace hI : StM n (b) F V F16 V20 := ⟨by rw [eV20]; exact hI.1.setV (by decide), trivial⟩
        replace hV : ∀ j : Nat, j ∉ ([20] : List Nat) → V20 j = V j := by rw [eV20]; exact mw_up (by decide) hV
        refine lv_iconst (v := 1) hx hb dX9_undo_52 (by decide) ?_
        exact W.iret (v := 1) hx hb hr (fun t ht hW => ⟨⟨1, (F16, V20), rfl, ⟨hI.mono (by omega), hU, hV, trivial⟩, by rw [ht]; exact hP, hD⟩, hS.F ht⟩) hS.2.2 dX9_undo_53
      · refine lv_iconst (v := 0) hx hb dX9_undo_32 (by decide) ?_
        exact W.iret (v := 0) hx hb hr (fun t ht hW => ⟨⟨0, (F, V), rfl, ⟨hI.mono (by omega), hU, hV, trivial⟩, by rw [ht]; exact hP, hD⟩, hS.F ht⟩) hS.2.2 dX9_undo_33
    · refine lv_bipush (v := (-3)) hx hb dX9_undo_19 (by decide) ?_
      exact W.iret (v := (-3)) hx hb hr (fun t ht hW => ⟨⟨(-3), (F, V), rfl, ⟨hI.mono (by omega), hU, hV, trivial⟩, by rw [ht]; exact hP, hD⟩, hS.F ht⟩) hS.2.2 dX9_undo_21
  · refine lv_if_ne (tgt := 12) hx hb dX9_undo_7 (by decide) (fun c9 => absurd (by decide) c9) (fun _ => ?_)
    refine lv_iconst (v := (-1)) hx hb dX9_undo_10 (by decide) ?_
    exact W.iret (v := (-1)) hx hb hr (fun t ht hW => ⟨⟨(-1), (F, V), rfl, ⟨hI.mono (by omega), hU, hV, trivial⟩, by rw [ht]; exact hP, hD⟩, hS.F ht⟩) hS.2.2 dX9_undo_11
