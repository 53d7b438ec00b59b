theorem dX9_make_0 : decode cX9_make 0 = .ok (.iload_n 1, 1) := by decide +kernel
theorem dX9_make_1 : decode cX9_make 1 = .ok (.ifCond .lt 41, 3) := by decide +kernel
theorem dX9_make_4 : decode cX9_make 4 = .ok (.iload_n 1, 1) := by decide +kernel
theorem dX9_make_5 : decode cX9_make 5 = .ok (.iconst 3, 1) := by decide +kernel
theorem dX9_make_6 : decode cX9_make 6 = .ok (.if_icmp .gt 36, 3) := by decide +kernel
theorem dX9_make_9 : decode cX9_make 9 = .ok (.iload_n 2, 1) := by decide +kernel
theorem dX9_make_10 : decode cX9_make 10 = .ok (.ifCond .lt 32, 3) := by decide +kernel
theorem dX9_make_13 : decode cX9_make 13 = .ok (.iload_n 2, 1) := by decide +kernel
theorem dX9_make_14 : decode cX9_make 14 = .ok (.bipush 50, 2) := by decide +kernel
theorem dX9_make_16 : decode cX9_make 16 = .ok (.if_icmp .gt 26, 3) := by decide +kernel
theorem dX9_make_19 : decode cX9_make 19 = .ok (.iload_n 3, 1) := by decide +kernel
theorem dX9_make_20 : decode cX9_make 20 = .ok (.ifCond .lt 22, 3) := by decide +kernel
theorem dX9_make_23 : decode cX9_make 23 = .ok (.iload_n 3, 1) := by decide +kernel
theorem dX9_make_24 : decode cX9_make 24 = .ok (.bipush 50, 2) := by decide +kernel
theorem dX9_make_26 : decode cX9_make 26 = .ok (.if_icmp .gt 16, 3) := by decide +kernel
theorem dX9_make_29 : decode cX9_make 29 = .ok (.iload_n 1, 1) := by decide +kernel
theorem dX9_make_30 : decode cX9_make 30 = .ok (.iconst 3, 1) := by decide +kernel
theorem dX9_make_31 : decode cX9_make 31 = .ok (.if_icmp .ne 13, 3) := by decide +kernel
theorem dX9_make_34 : decode cX9_make 34 = .ok (.iload_n 2, 1) := by decide +kernel
theorem dX9_make_35 : decode cX9_make 35 = .ok (.ifCond .gt 7, 3) := by decide +kernel
theorem dX9_make_38 : decode cX9_make 38 = .ok (.iload_n 3, 1) := by decide +kernel
theorem dX9_make_39 : decode cX9_make 39 = .ok (.ifCond .le 5, 3) := by decide +kernel
theorem dX9_make_42 : decode cX9_make 42 = .ok (.iconst (-1), 1) := by decide +kernel
theorem dX9_make_43 : decode cX9_make 43 = .ok (.ireturn, 1) := by decide +kernel
theorem dX9_make_44 : decode cX9_make 44 = .ok (.aload_n 0, 1) := by decide +kernel
theorem dX9_make_45 : decode cX9_make 45 = .ok (.getfield 126, 3) := by decide +kernel
theorem dX9_make_48 : decode cX9_make 48 = .ok (.bipush 40, 2) := by decide +kernel
theorem dX9_make_50 : decode cX9_make 50 = .ok (.if_icmp .ne 6, 3) := by decide +kernel
theorem dX9_make_53 : decode cX9_make 53 = .ok (.bipush (-6), 2) := by decide +kernel
theorem dX9_make_55 : decode cX9_make 55 = .ok (.ireturn, 1) := by decide +kernel
theorem dX9_make_56 : decode cX9_make 56 = .ok (.aload_n 0, 1) := by decide +kernel
theorem dX9_make_57 : decode cX9_make 57 = .ok (.getfield 126, 3) := by decide +kernel
theorem dX9_make_60 : decode cX9_make 60 = .ok (.istore 4, 2) := by decide +kernel
theorem dX9_make_62 : decode cX9_make 62 = .ok (.aload_n 0, 1) := by decide +kernel
theorem dX9_make_63 : decode cX9_make 63 = .ok (.getfield 9, 3) := by decide +kernel
theorem dX9_make_66 : decode cX9_make 66 = .ok (.iload 4, 2) := by decide +kernel
theorem dX9_make_68 : decode cX9_make 68 = .ok (.iload_n 1, 1) := by decide +kernel
theorem dX9_make_69 : decode cX9_make 69 = .ok (.iastore, 1) := by decide +kernel
theorem dX9_make_70 : decode cX9_make 70 = .ok (.aload_n 0, 1) := by decide +kernel
theorem dX9_make_71 : decode cX9_make 71 = .ok (.getfield 13, 3) := by decide +kernel
theorem dX9_make_74 : decode cX9_make 74 = .ok (.iload 4, 2) := by decide +kernel
theorem dX9_make_76 : decode cX9_make 76 = .ok (.iload_n 2, 1) := by decide +kernel
theorem dX9_make_77 : decode cX9_make 77 = .ok (.iastore, 1) := by decide +kernel
theorem dX9_make_78 : decode cX9_make 78 = .ok (.aload_n 0, 1) := by decide +kernel
theorem dX9_make_79 : decode cX9_make 79 = .ok (.getfield 16, 3) := by decide +kernel
theorem dX9_make_82 : decode cX9_make 82 = .ok (.iload 4, 2) := by decide +kernel
theorem dX9_make_84 : decode cX9_make 84 = .ok (.iload_n 3, 1) := by decide +kernel
theorem dX9_make_85 : decode cX9_make 85 = .ok (.iastore, 1) := by decide +kernel
theorem dX9_make_86 : decode cX9_make 86 = .ok (.aload_n 0, 1) := by decide +kernel
theorem dX9_make_87 : decode cX9_make 87 = .ok (.getfield 22, 3) := by decide +kernel
theorem dX9_make_90 : decode cX9_make 90 = .ok (.iload 4, 2) := by decide +kernel
theorem dX9_make_92 : decode cX9_make 92 = .ok (.iconst 1, 1) := by decide +kernel
theorem dX9_make_93 : decode cX9_make 93 = .ok (.iastore, 1) := by decide +kernel
theorem dX9_make_94 : decode cX9_make 94 = .ok (.aload_n 0, 1) := by decide +kernel
theorem dX9_make_95 : decode cX9_make 95 = .ok (.getfield 28, 3) := by decide +kernel
theorem dX9_make_98 : decode cX9_make 98 = .ok (.iload 4, 2) := by decide +kernel
theorem dX9_make_100 : decode cX9_make 100 = .ok (.iconst 1, 1) := by decide +kernel
theorem dX9_make_101 : decode cX9_make 101 = .ok (.iastore, 1) := by decide +kernel
theorem dX9_make_102 : decode cX9_make 102 = .ok (.aload_n 0, 1) := by decide +kernel
theorem dX9_make_103 : decode cX9_make 103 = .ok (.getfield 59, 3) := by decide +kernel
theorem dX9_make_106 : decode cX9_make 106 = .ok (.iload 4, 2) := by decide +kernel
theorem dX9_make_108 : decode cX9_make 108 = .ok (.iconst (-1), 1) := by decide +kernel
theorem dX9_make_109 : decode cX9_make 109 = .ok (.iastore, 1) := by decide +kernel
theorem dX9_make_110 : decode cX9_make 110 = .ok (.aload_n 0, 1) := by decide +kernel
theorem dX9_make_111 : decode cX9_make 111 = .ok (.dup, 1) := by decide +kernel
theorem dX9_make_112 : decode cX9_make 112 = .ok (.getfield 126, 3) := by decide +kernel
theorem dX9_make_115 : decode cX9_make 115 = .ok (.iconst 1, 1) := by decide +kernel
theorem dX9_make_116 : decode cX9_make 116 = .ok (.iadd, 1) := by decide +kernel
theorem dX9_make_117 : decode cX9_make 117 = .ok (.putfield 126, 3) := by decide +kernel
theorem dX9_make_120 : decode cX9_make 120 = .ok (.iload 4, 2) := by decide +kernel
theorem dX9_make_122 : decode cX9_make 122 = .ok (.ireturn, 1) := by decide +kernel
theorem dX9_life_0 : decode cX9_life 0 = .ok (.aload_n 0, 1) := by decide +kernel
theorem dX9_life_1 : decode cX9_life 1 = .ok (.iload_n 1, 1) := by decide +kernel
theorem dX9_life_2 : decode cX9_life 2 = .ok (.invokevirtual 135, 3) := by decide +kernel
theorem dX9_life_5 : decode cX9_life 5 = .ok (.ifCond .eq 24, 3) := by decide +kernel
theorem dX9_life_8 : decode cX9_life 8 = .ok (.iload_n 2, 1) := by decide +kernel
theorem dX9_life_9 : decode cX9_life 9 = .ok (.ifCond .lt 20, 3) := by decide +kernel
theorem dX9_life_12 : decode cX9_life 12 = .ok (.iload_n 2, 1) := by decide +kernel
theorem dX9_life_13 : decode cX9_life 13 = .ok (.bipush 7, 2) := by decide +kernel
theorem dX9_life_15 : decode cX9_life 15 = .ok (.if_icmp .gt 14, 3) := by decide +kernel
theorem dX9_life_18 : decode cX9_life 18 = .ok (.iload_n 3, 1) := by decide +kernel
theorem dX9_life_19 : decode cX9_life 19 = .ok (.ifCond .lt 10, 3) := by decide +kernel
theorem dX9_life_22 : decode cX9_life 22 = .ok (.iload_n 3, 1) := by decide +kernel
theorem dX9_life_23 : decode cX9_life 23 = .ok (.sipush 1000, 3) := by decide +kernel
theorem dX9_life_26 : decode cX9_life 26 = .ok (.if_icmp .le 5, 3) := by decide +kernel
theorem dX9_life_29 : decode cX9_life 29 = .ok (.iconst (-1), 1) := by decide +kernel
theorem dX9_life_30 : decode cX9_life 30 = .ok (.ireturn, 1) := by decide +kernel
theorem dX9_life_31 : decode cX9_life 31 = .ok (.aload_n 0, 1) := by decide +kernel
theorem dX9_life_32 : decode cX9_life 32 = .ok (.getfield 9, 3) := by decide +kernel
theorem dX9_life_35 : decode cX9_life 35 = .ok (.iload_n 1, 1) := by decide +kernel
theorem dX9_life_36 : decode cX9_life 36 = .ok (.iaload, 1) := by decide +kernel
theorem dX9_life_37 : decode cX9_life 37 = .ok (.iconst 3, 1) := by decide +kernel
theorem dX9_life_38 : decode cX9_life 38 = .ok (.if_icmp .ne 6, 3) := by decide +kernel
theorem dX9_life_41 : decode cX9_life 41 = .ok (.bipush (-2), 2) := by decide +kernel
theorem dX9_life_43 : decode cX9_life 43 = .ok (.ireturn, 1) := by decide +kernel
theorem dX9_life_44 : decode cX9_life 44 = .ok (.aload_n 0, 1) := by decide +kernel
theorem dX9_life_45 : decode cX9_life 45 = .ok (.getfield 19, 3) := by decide +kernel
theorem dX9_life_48 : decode cX9_life 48 = .ok (.bipush 8, 2) := by decide +kernel
theorem dX9_life_50 : decode cX9_life 50 = .ok (.iload_n 1, 1) := by decide +kernel
theorem dX9_life_51 : decode cX9_life 51 = .ok (.imul, 1) := by decide +kernel
theorem dX9_life_52 : decode cX9_life 52 = .ok (.iload_n 2, 1) := by decide +kernel
theorem dX9_life_53 : decode cX9_life 53 = .ok (.iadd, 1) := by decide +kernel
theorem dX9_life_54 : decode cX9_life 54 = .ok (.iaload, 1) := by decide +kernel
theorem dX9_life_55 : decode cX9_life 55 = .ok (.istore 4, 2) := by decide +kernel
theorem dX9_life_57 : decode cX9_life 57 = .ok (.aload_n 0, 1) := by decide +kernel
theorem dX9_life_58 : decode cX9_life 58 = .ok (.getfield 19, 3) := by decide +kernel
theorem dX9_life_61 : decode cX9_life 61 = .ok (.bipush 8, 2) := by decide +kernel
theorem dX9_life_63 : decode cX9_life 63 = .ok (.iload_n 1, 1) := by decide +kernel
theorem dX9_life_64 : decode cX9_life 64 = .ok (.imul, 1) := by decide +kernel
theorem dX9_life_65 : decode cX9_life 65 = .ok (.iload_n 2, 1) := by decide +kernel
theorem dX9_life_66 : decode cX9_life 66 = .ok (.iadd, 1) := by decide +kernel
theorem dX9_life_67 : decode cX9_life 67 = .ok (.iload_n 3, 1) := by decide +kernel
theorem dX9_life_68 : decode cX9_life 68 = .ok (.iastore, 1) := by decide +kernel
theorem dX9_life_69 : decode cX9_life 69 = .ok (.iload 4, 2) := by decide +kernel
theorem dX9_life_71 : decode cX9_life 71 = .ok (.ireturn, 1) := by decide +kernel
theorem dX9_again_0 : decode cX9_again 0 = .ok (.aload_n 0, 1) := by decide +kernel
theorem dX9_again_1 : decode cX9_again 1 = .ok (.iload_n 1, 1) := by decide +kernel
theorem dX9_again_2 : decode cX9_again 2 = .ok (.invokevirtual 135, 3) := by decide +kernel
theorem dX9_again_5 : decode cX9_again 5 = .ok (.ifCond .eq 38, 3) := by decide +kernel
theorem dX9_again_8 : decode cX9_again 8 = .ok (.iload_n 2, 1) := by decide +kernel
theorem dX9_again_9 : decode cX9_again 9 = .ok (.iconst 1, 1) := by decide +kernel
theorem dX9_again_10 : decode cX9_again 10 = .ok (.if_icmp .lt 33, 3) := by decide +kernel
theorem dX9_again_13 : decode cX9_again 13 = .ok (.iload_n 2, 1) := by decide +kernel
theorem dX9_again_14 : decode cX9_again 14 = .ok (.bipush 50, 2) := by decide +kernel
theorem dX9_again_16 : decode cX9_again 16 = .ok (.if_icmp .gt 27, 3) := by decide +kernel
theorem dX9_again_19 : decode cX9_again 19 = .ok (.iload_n 3, 1) := by decide +kernel
theorem dX9_again_20 : decode cX9_again 20 = .ok (.ifCond .lt 23, 3) := by decide +kernel
theorem dX9_again_23 : decode cX9_again 23 = .ok (.iload_n 3, 1) := by decide +kernel
theorem dX9_again_24 : decode cX9_again 24 = .ok (.bipush 10, 2) := by decide +kernel
theorem dX9_again_26 : decode cX9_again 26 = .ok (.if_icmp .gt 17, 3) := by decide +kernel
theorem dX9_again_29 : decode cX9_again 29 = .ok (.iload 4, 2) := by decide +kernel
theorem dX9_again_31 : decode cX9_again 31 = .ok (.iconst 1, 1) := by decide +kernel
theorem dX9_again_32 : decode cX9_again 32 = .ok (.if_icmp .lt 11, 3) := by decide +kernel
theorem dX9_again_35 : decode cX9_again 35 = .ok (.iload 4, 2) := by decide +kernel
theorem dX9_again_37 : decode cX9_again 37 = .ok (.sipush 200, 3) := by decide +kernel
theorem dX9_again_40 : decode cX9_again 40 = .ok (.if_icmp .le 5, 3) := by decide +kernel
theorem dX9_again_43 : decode cX9_again 43 = .ok (.iconst (-1), 1) := by decide +kernel
theorem dX9_again_44 : decode cX9_again 44 = .ok (.ireturn, 1) := by decide +kernel
theorem dX9_again_45 : decode cX9_again 45 = .ok (.aload_n 0, 1) := by decide +kernel
theorem dX9_again_46 : decode cX9_again 46 = .ok (.getfield 22, 3) := by decide +kernel
theorem dX9_again_49 : decode cX9_again 49 = .ok (.iload_n 1, 1) := by decide +kernel
theorem dX9_again_50 : decode cX9_again 50 = .ok (.iload_n 2, 1) := by decide +kernel
theorem dX9_again_51 : decode cX9_again 51 = .ok (.iastore, 1) := by decide +kernel
theorem dX9_again_52 : decode cX9_again 52 = .ok (.aload_n 0, 1) := by decide +kernel
theorem dX9_again_53 : decode cX9_again 53 = .ok (.getfield 25, 3) := by decide +kernel
theorem dX9_again_56 : decode cX9_again 56 = .ok (.iload_n 1, 1) := by decide +kernel
theorem dX9_again_57 : decode cX9_again 57 = .ok (.iload_n 3, 1) := by decide +kernel
theorem dX9_again_58 : decode cX9_again 58 = .ok (.iastore, 1) := by decide +kernel
theorem dX9_again_59 : decode cX9_again 59 = .ok (.aload_n 0, 1) := by decide +kernel
theorem dX9_again_60 : decode cX9_again 60 = .ok (.getfield 28, 3) := by decide +kernel
theorem dX9_again_63 : decode cX9_again 63 = .ok (.iload_n 1, 1) := by decide +kernel
theorem dX9_again_64 : decode cX9_again 64 = .ok (.iload 4, 2) := by decide +kernel
theorem dX9_again_66 : decode cX9_again 66 = .ok (.iastore, 1) := by decide +kernel
theorem dX9_again_67 : decode cX9_again 67 = .ok (.iconst 1, 1) := by decide +kernel
theorem dX9_again_68 : decode cX9_again 68 = .ok (.ireturn, 1) := by decide +kernel
def wq_m_make : List Cond := [.code yX9_make cX9_make 5 (some .int), .fieldLink RX9 126 "ServiceTreeModel" "services" "I", .fieldLink RX9 9 "ServiceTreeModel" "kind" "[I", .fieldLink RX9 13 "ServiceTreeModel" "start" "[I", .fieldLink RX9 16 "ServiceTreeModel" "stop" "[I", .fieldLink RX9 22 "ServiceTreeModel" "delay" "[I", .fieldLink RX9 28 "ServiceTreeModel" "window" "[I", .fieldLink RX9 59 "ServiceTreeModel" "readLast" "[I"] ++ (wsX90)
theorem in_m_make_X9 : ∀ w ∈ wsX90, w ∈ wq_m_make := fun _ h => List.mem_append_right _ (h)
set_option maxRecDepth 20000 in
theorem wi_m_make : ∀ w ∈ wq_m_make, w ∈ lw_tbl := List.forall_mem_append.mpr ⟨(by decide +kernel), inKX9⟩
set_option maxRecDepth 20000 in
theorem wg_m_make : GoodIn wq_m_make wq_m_make := goodIn_sub (fun _ h => h) (by decide +kernel)
def rm_m_make : Room := { frames := 0, cells := 0, slots := 0, locals := 0 }
set_option maxHeartbeats 4000000 in
set_option maxRecDepth 100000 in
theorem c_m_make (l : Launch) (dC : Nat → ClassId) (dI : Nat → Nat → Nat) (h : Nat) (a : Nat → Nat) (k : Nat → ClassId) (F : Nat → Nat → Int32) (V : Nat → Int32) (n b : Nat) (p0 : Int32) (p1 : Int32) (p2 : Int32) (sz : Nat) (hI0 : InvM n b F V) (hb0 : b + 0 < 2147483648)  : Met l yX9_make wq_m_make rm_m_make (va_Pc [.ref h, .int p0, .int p1, .int p2] (fun U => U.heap.size = sz ∧ va_P (dC, dI) vwCl (mW h a k F V) U.heap ∧ va_K (dC, dI) vwCl (mT k) U ∧ va_D (fun _ => True) (mW h a k F V))) (va_Qi (fun (r : Int32) (u : (Nat → Nat → Int32) × (Nat → Int32)) => (((0 ≤ p0 ∧ p0 ≤ 3 ∧ 0 ≤ p1 ∧ p1 ≤ 50 ∧ 0 ≤ p2 ∧ p2 ≤ 50 ∧ (p0 = 3 → p1 ≤ 0 ∧ p2 ≤ 0)) ∧ n < 40 ∧ r = nI n ∧ InvM (n + 1) b u.1 u.2 ∧ (∀ j : Nat, j ∉ ([0, 1, 2, 4, 6, 16] : List Nat) → u.1 j = F j) ∧ (∀ j : Nat, j ∉ ([21] : List Nat) → u.2 j = V j) ∧ u.1 0 = upd (F 0) (nI n).toNatClampNeg p0) ∨ ((¬ (0 ≤ p0 ∧ p0 ≤ 3 ∧ 0 ≤ p1 ∧ p1 ≤ 50 ∧ 0 ≤ p2 ∧ p2 ≤ 50 ∧ (p0 = 3 → p1 ≤ 0 ∧ p2 ≤ 0)) ∨ n = 40) ∧ r = (if 0 ≤ p0 ∧ p0 ≤ 3 ∧ 0 ≤ p1 ∧ p1 ≤ 50 ∧ 0 ≤ p2 ∧ p2 ≤ 50 ∧ (p0 = 3 → p1 ≤ 0 ∧ p2 ≤ 0) then -6 else -1) ∧ u.1 = F ∧ u.2 = V)) ∧ (True)) (fun (u : (Nat → Nat → Int32) × (Nat → Int32)) (t : State) => va_P (dC, dI) vwCl (mW h a k u.1 u.2) t.heap ∧ va_D (va_A (mW h a k F V) sz) (mW h a k u.1 u.2)) (va_A (mW h a k F V) sz)) 0 0 (va_A (mW h a k F V) sz) := by
  have hn : n ≤ 40 := hI0.1
  have hI : StM n b F V F V := StM.rf hI0
  have hU : ∀ j : Nat, j ∉ ([0, 1, 2, 4, 6, 16] : List Nat) → F j = F j := fun _ _ => rfl
  have hV : ∀ j : Nat, j ∉ ([21] : List Nat) → V j = V j := fun _ _ => rfl
  refine Met.ofW (cc := cX9_make) (maxL := 5) (ret := (some .int)) (by decide) rfl ?_
  intro p e s m args below meth c s₁ B hml hv
  obtain ⟨rfl, hsz, hP, hK, hD0⟩ := hv
  have hx := B.exec
  have hb := B.bytes
  have hr := B.returns
  have hts := atoms_spec (ws := wq_m_make) B.pre
  have hown : s.vm.findClass RX9 = some m.cls := findClass_of_methodNamed B.named
  have hlocks := B.notSynchronized
  subst hsz
  have hD := hD0.self (sz := s.heap.size)
  generalize hAe : va_A (mW h a k F V) s.heap.size = A at hD ⊢
  have hA : ∀ q : Nat, s.heap.size ≤ q → A q := fun q h => by rw [← hAe]; exact Or.inr h
  have hS : va_S A s.heap s.heap [] := va_S.rf
  have hl := lv_entry ([.ref h, .int p0, .int p1, .int p2]) (n := 5) (Nat.le_of_ble_eq_true rfl)
  rw [lg_entry_eq]
  generalize (lg_sl ([.ref h, .int p0, .int p1, .int p2]) ++ List.replicate (5 - (lg_sl ([.ref h, .int p0, .int p1, .int p2])).length) Slot.unset).toArray = ls at hl ⊢
  have hl : lv_has ls 5 [(0, .ref h), (1, .int p0), (2, .int p1), (3, .int p2)] := hl
  refine lv_iload_n hx hb dX9_make_0 rfl (lv_at hl 1 rfl) ?_
  refine lv_if_lt (tgt := 42) hx hb dX9_make_1 (by decide) (fun c1 => ?_) (fun c1 => ?_)
  · refine lv_iconst (v := (-1)) hx hb dX9_make_42 (by decide) ?_
    exact W.iret (v := (-1)) hx hb hr (fun t ht hW => ⟨⟨(-1), (F, V), rfl, ⟨Or.inr ⟨Or.inl (by have k0 := c1; simp only [p1_le, p1_lt, p1_eq, p1_m6, p1_m1, p1_0, p1_1, p1_2, p1_3, p1_4, p1_5, p1_6, p1_7, p1_8, p1_9, p1_10, p1_11, p1_12, p1_13, p1_14, p1_15, p1_16, p1_17, p1_18, p1_19, p1_20, p1_40, p1_50, p1_200, p1_1000] at k0 ⊢; omega), (if_neg (by have k0 := c1; simp only [p1_le, p1_lt, p1_eq, p1_m6, p1_m1, p1_0, p1_1, p1_2, p1_3, p1_4, p1_5, p1_6, p1_7, p1_8, p1_9, p1_10, p1_11, p1_12, p1_13, p1_14, p1_15, p1_16, p1_17, p1_18, p1_19, p1_20, p1_40, p1_50, p1_200, p1_1000] at k0 ⊢; omega)).symm, rfl, rfl⟩, trivial⟩, by rw [ht]; exact hP, hD⟩, hS.F ht⟩) hS.2.2 dX9_make_43
  · refine lv_iload_n hx hb dX9_make_4 rfl (lv_at hl 1 rfl) ?_
    refine lv_iconst (v := 3) hx hb dX9_make_5 (by decide) ?_
    refine lv_icmp_gt (tgt := 42) hx hb dX9_make_6 (by decide) (fun c2 => ?_) (fun c2 => ?_)
    · refine lv_iconst (v := (-1)) hx hb dX9_make_42 (by decide) ?_
      exact W.iret (v := (-1)) hx hb hr (fun t ht hW => ⟨⟨(-1), (F, V), rfl, ⟨Or.inr ⟨Or.inl (by have k0 := c1; have k1 := c2; simp only [p1_le, p1_lt, p1_eq, p1_m6, p1_m1, p1_0, p1_1, p1_2, p1_3, p1_4, p1_5, p1_6, p1_7, p1_8, p1_9, p1_10, p1_11, p1_12, p1_13, p1_14, p1_15, p1_16, p1_17, p1_18, p1_19, p1_20, p1_40, p1_50, p1_200, p1_1000] at k0 k1 ⊢; omega), (if_neg (by have k0 := c1; have k1 := c2; simp only [p1_le, p1_lt, p1_eq, p1_m6, p1_m1, p1_0, p1_1, p1_2, p1_3, p1_4, p1_5, p1_6, p1_7, p1_8, p1_9, p1_10, p1_11, p1_12, p1_13, p1_14, p1_15, p1_16, p1_17, p1_18, p1_19, p1_20, p1_40, p1_50, p1_200, p1_1000] at k0 k1 ⊢; omega)).symm, rfl, rfl⟩, trivial⟩, by rw [ht]; exact hP, hD⟩, hS.F ht⟩) hS.2.2 dX9_make_43
    · refine lv_iload_n hx hb dX9_make_9 rfl (lv_at hl 2 rfl) ?_
      refine lv_if_lt (tgt := 42) hx hb dX9_make_10 (by decide) (fun c3 => ?_) (fun c3 => ?_)
      · refine lv_iconst (v := (-1)) hx hb dX9_make_42 (by decide) ?_
        exact W.iret (v := (-1)) hx hb hr (fun t ht hW => ⟨⟨(-1), (F, V), rfl, ⟨Or.inr ⟨Or.inl (by have k0 := c1; have k1 := c2; have k2 := c3; simp only [p1_le, p1_lt, p1_eq, p1_m6, p1_m1, p1_0, p1_1, p1_2, p1_3, p1_4, p1_5, p1_6, p1_7, p1_8, p1_9, p1_10, p1_11, p1_12, p1_13, p1_14, p1_15, p1_16, p1_17, p1_18, p1_19, p1_20, p1_40, p1_50, p1_200, p1_1000] at k0 k1 k2 ⊢; omega), (if_neg (by have k0 := c1; have k1 := c2; have k2 := c3; simp only [p1_le, p1_lt, p1_eq, p1_m6, p1_m1, p1_0, p1_1, p1_2, p1_3, p1_4, p1_5, p1_6, p1_7, p1_8, p1_9, p1_10, p1_11, p1_12, p1_13, p1_14, p1_15, p1_16, p1_17, p1_18, p1_19, p1_20, p1_40, p1_50, p1_200, p1_1000] at k0 k1 k2 ⊢; omega)).symm, rfl, rfl⟩, trivial⟩, by rw [ht]; exact hP, hD⟩, hS.F ht⟩) hS.2.2 dX9_make_43
      · refine lv_iload_n hx hb dX9_make_13 rfl (lv_at hl 2 rfl) ?_
        refine lv_bipush (v := 50) hx hb dX9_make_14 (by decide) ?_
        refine lv_icmp_gt (tgt := 42) hx hb dX9_make_16 (by decide) (fun c4 => ?_) (fun c4 => ?_)
        · refine lv_iconst (v := (-1)) hx hb dX9_make_42 (by decide) ?_
          exact W.iret (v := (-1)) hx hb hr (fun t ht hW => ⟨⟨(-1), (F, V), rfl, ⟨Or.inr ⟨Or.inl (by have k0 := c1; have k1 := c2; have k2 := c3; have k3 := c4; simp only [p1_le, p1_lt, p1_eq, p1_m6, p1_m1, p1_0, p1_1, p1_2, p1_3, p1_4, p1_5, p1_6, p1_7, p1_8, p1_9, p1_10, p1_11, p1_12, p1_13, p1_14, p1_15, p1_16, p1_17, p1_18, p1_19, p1_20, p1_40, p1_50, p1_200, p1_1000] at k0 k1 k2 k3 ⊢; omega), (if_neg (by have k0 := c1; have k1 := c2; have k2 := c3; have k3 := c4; simp only [p1_le, p1_lt, p1_eq, p1_m6, p1_m1, p1_0, p1_1, p1_2, p1_3, p1_4, p1_5, p1_6, p1_7, p1_8, p1_9, p1_10, p1_11, p1_12, p1_13, p1_14, p1_15, p1_16, p1_17, p1_18, p1_19, p1_20, p1_40, p1_50, p1_200, p1_1000] at k0 k1 k2 k3 ⊢; omega)).symm, rfl, rfl⟩, trivial⟩, by rw [ht]; exact hP, hD⟩, hS.F ht⟩) hS.2.2 dX9_make_43
        · refine lv_iload_n hx hb dX9_make_19 rfl (lv_at hl 3 rfl) ?_
          refine lv_if_lt (tgt := 42) hx hb dX9_make_20 (by decide) (fun c5 => ?_) (fun c5 => ?_)
          · refine lv_iconst (v := (-1)) hx hb dX9_make_42 (by decide) ?_
            exact W.iret (v := (-1)) hx hb hr (fun t ht hW => ⟨⟨(-1), (F, V), rfl, ⟨Or.inr ⟨Or.inl (by have k0 := c1; have k1 := c2; have k2 := c3; have k3 := c4; have k4 := c5; simp only [p1_le, p1_lt, p1_eq, p1_m6, p1_m1, p1_0, p1_1, p1_2, p1_3, p1_4, p1_5, p1_6, p1_7, p1_8, p1_9, p1_10, p1_11, p1_12, p1_13, p1_14, p1_15, p1_16, p1_17, p1_18, p1_19, p1_20, p1_40, p1_50, p1_200, p1_1000] at k0 k1 k2 k3 k4 ⊢; omega), (if_neg (by have k0 := c1; have k1 := c2; have k2 := c3; have k3 := c4; have k4 := c5; simp only [p1_le, p1_lt, p1_eq, p1_m6, p1_m1, p1_0, p1_1, p1_2, p1_3, p1_4, p1_5, p1_6, p1_7, p1_8, p1_9, p1_10, p1_11, p1_12, p1_13, p1_14, p1_15, p1_16, p1_17, p1_18, p1_19, p1_20, p1_40, p1_50, p1_200, p1_1000] at k0 k1 k2 k3 k4 ⊢; omega)).symm, rfl, rfl⟩, trivial⟩, by rw [ht]; exact hP, hD⟩, hS.F ht⟩) hS.2.2 dX9_make_43
          · refine lv_iload_n hx hb dX9_make_23 rfl (lv_at hl 3 rfl) ?_
            refine lv_bipush (v := 50) hx hb dX9_make_24 (by decide) ?_
            refine lv_icmp_gt (tgt := 42) hx hb dX9_make_26 (by decide) (fun c6 => ?_) (fun c6 => ?_)
            · refine lv_iconst (v := (-1)) hx hb dX9_make_42 (by decide) ?_
              exact W.iret (v := (-1)) hx hb hr (fun t ht hW => ⟨⟨(-1), (F, V), rfl, ⟨Or.inr ⟨Or.inl (by have k0 := c1; have k1 := c2; have k2 := c3; have k3 := c4; have k4 := c5; have k5 := c6; simp only [p1_le, p1_lt, p1_eq, p1_m6, p1_m1, p1_0, p1_1, p1_2, p1_3, p1_4, p1_5, p1_6, p1_7, p1_8, p1_9, p1_10, p1_11, p1_12, p1_13, p1_14, p1_15, p1_16, p1_17, p1_18, p1_19, p1_20, p1_40, p1_50, p1_200, p1_1000] at k0 k1 k2 k3 k4 k5 ⊢; omega), (if_neg (by have k0 := c1; have k1 := c2; have k2 := c3; have k3 := c4; have k4 := c5; have k5 := c6; simp only [p1_le, p1_lt, p1_eq, p1_m6, p1_m1, p1_0, p1_1, p1_2, p1_3, p1_4, p1_5, p1_6, p1_7, p1_8, p1_9, p1_10, p1_11, p1_12, p1_13, p1_14, p1_15, p1_16, p1_17, p1_18, p1_19, p1_20, p1_40, p1_50, p1_200, p1_1000] at k0 k1 k2 k3 k4 k5 ⊢; omega)).symm, rfl, rfl⟩, trivial⟩, by rw [ht]; exact hP, hD⟩, hS.F ht⟩) hS.2.2 dX9_make_43
            · refine lv_iload_n hx hb dX9_make_29 rfl (lv_at hl 1 rfl) ?_
              refine lv_iconst (v := 3) hx hb dX9_make_30 (by decide) ?_
              refine lv_icmp_ne (tgt := 44) hx hb dX9_make_31 (by decide) (fun c7 => ?_) (fun c7 => ?_)
              · refine lv_aload_n hx hb dX9_make_44 rfl (lv_at hl 0 rfl) ?_
                refine va_get (D := (dC, dI)) (ci := 10) (v := .int (V 21)) (C := RX9) (T := TX9) (N := 46) hx hb hts in_m_make_X9 hown hK hP 0 rfl rfl 21 (by decide) (hts (.fieldLink RX9 126 "ServiceTreeModel" "services" "I") (by decide +kernel)) (fun _ h9 => h9) rfl dX9_make_45 ?_
                refine p1_topr (v := .int (nI n)) (congrArg Value.int hI.1.2.1) ?_
                refine lv_bipush (v := 40) hx hb dX9_make_48 (by decide) ?_
                refine lv_icmp_ne (tgt := 56) hx hb dX9_make_50 (by decide) (fun c8 => ?_) (fun c8 => ?_)
                · replace c8 : ¬ (n = 40) := fun q9 => c8 ((nI_eq (a := n) (b := 40) (by omega) (by omega)).mpr q9)
                  refine lv_aload_n hx hb dX9_make_56 rfl (lv_at hl 0 rfl) ?_
                  refine va_get (D := (dC, dI)) (ci := 10) (v := .int (V 21)) (C := RX9) (T := TX9) (N := 46) hx hb hts in_m_make_X9 hown hK hP 0 rfl rfl 21 (by decide) (hts (.fieldLink RX9 126 "ServiceTreeModel" "services" "I") (by decide +kernel)) (fun _ h9 => h9) rfl dX9_make_57 ?_
                  refine p1_topr (v := .int (nI n)) (congrArg Value.int hI.1.2.1) ?_
                  refine lv_istore (lv' := [(4, .int (nI n)), (0, .ref h), (1, .int p0), (2, .int p1), (3, .int p2)]) hx hb dX9_make_60 hl (by decide) rfl (fun ls hl => ?_)
                  refine lv_aload_n hx hb dX9_make_62 rfl (lv_at hl 1 rfl) ?_
                  refine va_get (D := (dC, dI)) (ci := 10) (v := .ref (a 0)) (C := RX9) (T := TX9) (N := 46) hx hb hts in_m_make_X9 hown hK hP 0 rfl rfl 0 (by decide) (hts (.fieldLink RX9 9 "ServiceTreeModel" "kind" "[I") (by decide +kernel)) (fun _ h9 => h9) rfl dX9_make_63 ?_
                  refine lv_iload hx hb dX9_make_66 (lv_at hl 0 rfl) ?_
                  refine lv_iload_n hx hb dX9_make_68 rfl (lv_at hl 2 rfl) ?_
                  refine va_iast (n := 40) (f := F 0) hx hb hK hP hD hS 1 0 rfl rfl (vp_in_nI (n := n) (by omega) (by decide)) dX9_make_69 (fun H locs hP hD hS => ?_)
                  rw [mW_set_0] at hP hD
                  obtain ⟨F9, eF9⟩ : ∃ f9 : Nat → Nat → Int32, f9 = va_up F 0 (upd (F 0) (nI n).toNatClampNeg p0) := ⟨_, rfl⟩
                  rw [← eF9] at hP hD
                  replace hI : StM n (b) F V F9 V := ⟨by rw [eF9]; exact hI.1.setF (by decide), trivial⟩
                  replace hU : ∀ j : Nat, j ∉ ([0, 1, 2, 4, 6, 16] : List Nat) → F9 j = F j := by rw [eF9]; exact mw_up (by decide) hU
                  refine lv_aload_n hx hb dX9_make_70 rfl (lv_at hl 1 rfl) ?_
                  refine va_get (D := (dC, dI)) (ci := 10) (v := .ref (a 1)) (C := RX9) (T := TX9) (N := 46) hx hb hts in_m_make_X9 hown hK hP 0 rfl rfl 1 (by decide) (hts (.fieldLink RX9 13 "ServiceTreeModel" "start" "[I") (by decide +kernel)) (fun _ h9 => h9) rfl dX9_make_71 ?_
                  refine lv_iload hx hb dX9_make_74 (lv_at hl 0 rfl) ?_
                  refine lv_iload_n hx hb dX9_make_76 rfl (lv_at hl 3 rfl) ?_
                  refine va_iast (n := 40) (f := F9 1) hx hb hK hP hD hS 2 1 rfl rfl (vp_in_nI (n := n) (by omega) (by decide)) dX9_make_77 (fun H locs hP hD hS => ?_)
                  rw [mW_set_1] at hP hD
                  obtain ⟨F10, eF10⟩ : ∃ f9 : Nat → Nat → Int32, f9 = va_up F9 1 (upd (F9 1) (nI n).toNatClampNeg p1) := ⟨_, rfl⟩
                  rw [← eF10] at hP hD
                  replace hI : StM n (b) F V F10 V := ⟨by rw [eF10]; exact hI.1.setF (by decide), trivial⟩
                  replace hU : ∀ j : Nat, j ∉ ([0, 1, 2, 4, 6, 16] : List Nat) → F10 j = F j := by rw [eF10]; exact mw_up (by decide) hU
                  refine lv_aload_n hx hb dX9_make_78 rfl (lv_at hl 1 rfl) ?_
                  refine va_get (D := (dC, dI)) (ci := 10) (v := .ref (a 2)) (C := RX9) (T := TX9) (N := 46) hx hb hts in_m_make_X9 hown hK hP 0 rfl rfl 2 (by decide) (hts (.fieldLink RX9 16 "ServiceTreeModel" "stop" "[I") (by decide +kernel)) (fun _ h9 => h9) rfl dX9_make_79 ?_
                  refine lv_iload hx hb dX9_make_82 (lv_at hl 0 rfl) ?_
                  refine lv_iload_n hx hb dX9_make_84 rfl (lv_at hl 4 rfl) ?_
                  refine va_iast (n := 40) (f := F10 2) hx hb hK hP hD hS 3 2 rfl rfl (vp_in_nI (n := n) (by omega) (by decide)) dX9_make_85 (fun H locs hP hD hS => ?_)
                  rw [mW_set_2] at hP hD
                  obtain ⟨F11, eF11⟩ : ∃ f9 : Nat → Nat → Int32, f9 = va_up F10 2 (upd (F10 2) (nI n).toNatClampNeg p2) := ⟨_, rfl⟩
                  rw [← eF11] at hP hD
                  replace hI : StM n (b) F V F11 V := ⟨by rw [eF11]; exact hI.1.setF (by decide), trivial⟩
                  replace hU : ∀ j : Nat, j ∉ ([0, 1, 2, 4, 6, 16] : List Nat) → F11 j = F j := by rw [eF11]; exact mw_up (by decide) hU
                  refine lv_aload_n hx hb dX9_make_86 rfl (lv_at hl 1 rfl) ?_
                  refine va_get (D := (dC, dI)) (ci := 10) (v := .ref (a 4)) (C := RX9) (T := TX9) (N := 46) hx hb hts in_m_make_X9 hown hK hP 0 rfl rfl 4 (by decide) (hts (.fieldLink RX9 22 "ServiceTreeModel" "delay" "[I") (by decide +kernel)) (fun _ h9 => h9) rfl dX9_make_87 ?_
                  refine lv_iload hx hb dX9_make_90 (lv_at hl 0 rfl) ?_
                  refine lv_iconst (v := 1) hx hb dX9_make_92 (by decide) ?_
                  refine va_iast (n := 40) (f := F11 4) hx hb hK hP hD hS 5 4 rfl rfl (vp_in_nI (n := n) (by omega) (by decide)) dX9_make_93 (fun H locs hP hD hS => ?_)
                  rw [mW_set_4] at hP hD
                  obtain ⟨F12, eF12⟩ : ∃ f9 : Nat → Nat → Int32, f9 = va_up F11 4 (upd (F11 4) (nI n).toNatClampNeg 1) := ⟨_, rfl⟩
                  rw [← eF12] at hP hD
                  replace hI : StM n (b) F V F12 V := ⟨by rw [eF12]; exact hI.1.setF (by decide), trivial⟩
                  replace hU : ∀ j : Nat, j ∉ ([0, 1, 2, 4, 6, 16] : List Nat) → F12 j = F j := by rw [eF12]; exact mw_up (by decide) hU
                  refine lv_aload_n hx hb dX9_make_94 rfl (lv_at hl 1 rfl) ?_
                  refine va_get (D := (dC, dI)) (ci := 10) (v := .ref (a 6)) (C := RX9) (T := TX9) (N := 46) hx hb hts in_m_make_X9 hown hK hP 0 rfl rfl 6 (by decide) (hts (.fieldLink RX9 28 "ServiceTreeModel" "window" "[I") (by decide +kernel)) (fun _ h9 => h9) rfl dX9_make_95 ?_
                  refine lv_iload hx hb dX9_make_98 (lv_at hl 0 rfl) ?_
                  refine lv_iconst (v := 1) hx hb dX9_make_100 (by decide) ?_
                  refine va_iast (n := 40) (f := F12 6) hx hb hK hP hD hS 7 6 rfl rfl (vp_in_nI (n := n) (by omega) (by decide)) dX9_make_101 (fun H locs hP hD hS => ?_)
                  rw [mW_set_6] at hP hD
                  obtain ⟨F13, eF13⟩ : ∃ f9 : Nat → Nat → Int32, f9 = va_up F12 6 (upd (F12 6) (nI n).toNatClampNeg 1) := ⟨_, rfl⟩
                  rw [← eF13] at hP hD
                  replace hI : StM n (b) F V F13 V := ⟨by rw [eF13]; exact hI.1.setF (by decide), trivial⟩
                  replace hU : ∀ j : Nat, j ∉ ([0, 1, 2, 4, 6, 16] : List Nat) → F13 j = F j := by rw [eF13]; exact mw_up (by decide) hU
                  refine lv_aload_n hx hb dX9_make_102 rfl (lv_at hl 1 rfl) ?_
                  refine va_get (D := (dC, dI)) (ci := 10) (v := .ref (a 16)) (C := RX9) (T := TX9) (N := 46) hx hb hts in_m_make_X9 hown hK hP 0 rfl rfl 16 (by decide) (hts (.fieldLink RX9 59 "ServiceTreeModel" "readLast" "[I") (by decide +kernel)) (fun _ h9 => h9) rfl dX9_make_103 ?_
                  refine lv_iload hx hb dX9_make_106 (lv_at hl 0 rfl) ?_
                  refine lv_iconst (v := (-1)) hx hb dX9_make_108 (by decide) ?_
                  refine va_iast (n := 40) (f := F13 16) hx hb hK hP hD hS 17 16 rfl rfl (vp_in_nI (n := n) (by omega) (by decide)) dX9_make_109 (fun H locs hP hD hS => ?_)
                  rw [mW_set_16] at hP hD
                  obtain ⟨F14, eF14⟩ : ∃ f9 : Nat → Nat → Int32, f9 = va_up F13 16 (upd (F13 16) (nI n).toNatClampNeg (-1)) := ⟨_, rfl⟩
                  rw [← eF14] at hP hD
                  replace hI : StM n (b) F V F14 V := ⟨by rw [eF14]; exact hI.1.setF (by decide), trivial⟩
                  replace hU : ∀ j : Nat, j ∉ ([0, 1, 2, 4, 6, 16] : List Nat) → F14 j = F j := by rw [eF14]; exact mw_up (by decide) hU
                  refine lv_aload_n hx hb dX9_make_110 rfl (lv_at hl 1 rfl) ?_
                  refine lv_dup hx hb dX9_make_111 rfl ?_
                  refine va_get (D := (dC, dI)) (ci := 10) (v := .int (V 21)) (C := RX9) (T := TX9) (N := 46) hx hb hts in_m_make_X9 hown hK hP 0 rfl rfl 21 (by decide) (hts (.fieldLink RX9 126 "ServiceTreeModel" "services" "I") (by decide +kernel)) (fun _ h9 => h9) rfl dX9_make_112 ?_
                  refine p1_topr (v := .int (nI n)) (congrArg Value.int hI.1.2.1) ?_
                  refine lv_iconst (v := 1) hx hb dX9_make_115 (by decide) ?_
                  refine lv_iadd hx hb dX9_make_116 ?_
                  refine p1_topr (v := .int (nI (n + 1))) (congrArg Value.int (nI_add n 1)) ?_
                  refine va_put (D := (dC, dI)) (ci := 10) (fs := mF a V) (v := .int (nI (n + 1))) (ty := .int) (C := RX9) (T := TX9) (N := 46) hx hb hts in_m_make_X9 tyX9 tyX9_ok nmX9 hown hK hP hD hS 0 rfl rfl 21 (by decide) (hts (.fieldLink RX9 126 "ServiceTreeModel" "services" "I") (by decide +kernel)) (fun _ h9 => h9) rfl (by decide +kernel) rfl rfl (Nat.le_of_ble_eq_true rfl) dX9_make_117 (fun H locs hP hD hS => ?_)
                  rw [mW_put_21] at hP hD
                  obtain ⟨V15, eV15⟩ : ∃ f9 : Nat → Int32, f9 = va_up V 21 (nI (n + 1)) := ⟨_, rfl⟩
                  rw [← eV15] at hP hD
                  replace hI : StM (n + 1) (b) F V F14 V15 := ⟨by rw [eV15]; exact hI.1.put21 (by omega), trivial⟩
                  replace hV : ∀ j : Nat, j ∉ ([21] : List Nat) → V15 j = V j := by rw [eV15]; exact mw_up (by decide) hV
                  refine lv_iload hx hb dX9_make_120 (lv_at hl 0 rfl) ?_
                  exact W.iret (v := (nI n)) hx hb hr (fun t ht hW => ⟨⟨(nI n), (F14, V15), rfl, ⟨Or.inl ⟨(by have k0 := c1; have k1 := c2; have k2 := c3; have k3 := c4; have k4 := c5; have k5 := c6; have k6 := c7; simp only [p1_le, p1_lt, p1_eq, p1_m6, p1_m1, p1_0, p1_1, p1_2, p1_3, p1_4, p1_5, p1_6, p1_7, p1_8, p1_9, p1_10, p1_11, p1_12, p1_13, p1_14, p1_15, p1_16, p1_17, p1_18, p1_19, p1_20, p1_40, p1_50, p1_200, p1_1000] at k0 k1 k2 k3 k4 k5 k6 ⊢; omega), by omega, rfl, hI.1, hU, hV, by simp [eF14, eF13, eF12, eF11, eF10, eF9, va_up]⟩, trivial⟩, by rw [ht]; exact hP, hD⟩, hS.F ht⟩) hS.2.2 dX9_make_122
                · replace c8 : n = 40 := (nI_eq (a := n) (b := 40) (by omega) (by omega)).mp c8
                  refine lv_bipush (v := (-6)) hx hb dX9_make_53 (by decide) ?_
                  exact W.iret (v := (-6)) hx hb hr (fun t ht hW => ⟨⟨(-6), (F, V), rfl, ⟨Or.inr ⟨Or.inr (by omega), (if_pos (by have k0 := c1; have k1 := c2; have k2 := c3; have k3 := c4; have k4 := c5; have k5 := c6; have k6 := c7; simp only [p1_le, p1_lt, p1_eq, p1_m6, p1_m1, p1_0, p1_1, p1_2, p1_3, p1_4, p1_5, p1_6, p1_7, p1_8, p1_9, p1_10, p1_11, p1_12, p1_13, p1_14, p1_15, p1_16, p1_17, p1_18, p1_19, p1_20, p1_40, p1_50, p1_200, p1_1000] at k0 k1 k2 k3 k4 k5 k6 ⊢; omega)).symm, rfl, rfl⟩, trivial⟩, by rw [ht]; exact hP, hD⟩, hS.F ht⟩) hS.2.2 dX9_make_55
              · refine lv_iload_n hx hb dX9_make_34 rfl (lv_at hl 2 rfl) ?_
                refine lv_if_gt (tgt := 42) hx hb dX9_make_35 (by decide) (fun c16 => ?_) (fun c16 => ?_)
                · refine lv_iconst (v := (-1)) hx hb dX9_make_42 (by decide) ?_
                  exact W.iret (v := (-1)) hx hb hr (fun t ht hW => ⟨⟨(-1), (F, V), rfl, ⟨Or.inr ⟨Or.inl (by have k0 := c1; have k1 := c2; have k2 := c3; have k3 := c4; have k4 := c5; have k5 := c6; have k6 := c7; have k7 := c16; simp only [p1_le, p1_lt, p1_eq, p1_m6, p1_m1, p1_0, p1_1, p1_2, p1_3, p1_4, p1_5, p1_6, p1_7, p1_8, p1_9, p1_10, p1_11, p1_12, p1_13, p1_14, p1_15, p1_16, p1_17, p1_18, p1_19, p1_20, p1_40, p1_50, p1_200, p1_1000] at k0 k1 k2 k3 k4 k5 k6 k7 ⊢; omega), (if_neg (by have k0 := c1; have k1 := c2; have k2 := c3; have k3 := c4; have k4 := c5; have k5 := c6; have k6 := c7; have k7 := c16; simp only [p1_le, p1_lt, p1_eq, p1_m6, p1_m1, p1_0, p1_1, p1_2, p1_3, p1_4, p1_5, p1_6, p1_7, p1_8, p1_9, p1_10, p1_11, p1_12, p1_13, p1_14, p1_15, p1_16, p1_17, p1_18, p1_19, p1_20, p1_40, p1_50, p1_200, p1_1000] at k0 k1 k2 k3 k4 k5 k6 k7 ⊢; omega)).symm, rfl, rfl⟩, trivial⟩, by rw [ht]; exact hP, hD⟩, hS.F ht⟩) hS.2.2 dX9_make_43
                · refine lv_iload_n hx hb dX9_make_38 rfl (lv_at hl 3 rfl) ?_
                  refine lv_if_le (tgt := 44) hx hb dX9_make_39 (by decide) (fun c17 => ?_) (fun c17 => ?_)
                  · refine lv_aload_n hx hb dX9_make_44 rfl (lv_at hl 0 rfl) ?_
                    refine va_get (D := (dC, dI)) (ci := 10) (v := .int (V 21)) (C := RX9) (T := TX9) (N := 46) hx hb hts in_m_make_X9 hown hK hP 0 rfl rfl 21 (by decide) (hts (.fieldLink RX9 126 "ServiceTreeModel" "services" "I") (by decide +kernel)) (fun _ h9 => h9) rfl dX9_make_45 ?_
                    refine p1_topr (v := .int (nI n)) (congrArg Value.int hI.1.2.1) ?_
                    refine lv_bipush (v := 40) hx hb dX9_make_48 (by decide) ?_
                    refine lv_icmp_ne (tgt := 56) hx hb dX9_make_50 (by decide) (fun c18 => ?_) (fun c18 => ?_)
                    · replace c18 : ¬ (n = 40) := fun q9 => c18 ((nI_eq (a := n) (b := 40) (by omega) (by omega)).mpr q9)
                      refine lv_aload_n hx hb dX9_make_56 rfl (lv_at hl 0 rfl) ?_
                      refine va_get (D := (dC, dI)) (ci := 10) (v := .int (V 21)) (C := RX9) (T := TX9) (N := 46) hx hb hts in_m_make_X9 hown hK hP 0 rfl rfl 21 (by decide) (hts (.fieldLink RX9 126 "ServiceTreeModel" "services" "I") (by decide +kernel)) (fun _ h9 => h9) rfl dX9_make_57 ?_
                      refine p1_topr (v := .int (nI n)) (congrArg Value.int hI.1.2.1) ?_
                      refine lv_istore (lv' := [(4, .int (nI n)), (0, .ref h), (1, .int p0), (2, .int p1), (3, .int p2)]) hx hb dX9_make_60 hl (by decide) rfl (fun ls hl => ?_)
                      refine lv_aload_n hx hb dX9_make_62 rfl (lv_at hl 1 rfl) ?_
                      refine va_get (D := (dC, dI)) (ci := 10) (v := .ref (a 0)) (C := RX9) (T := TX9) (N := 46) hx hb hts in_m_make_X9 hown hK hP 0 rfl rfl 0 (by decide) (hts (.fieldLink RX9 9 "ServiceTreeModel" "kind" "[I") (by decide +kernel)) (fun _ h9 => h9) rfl dX9_make_63 ?_
                      refine lv_iload hx hb dX9_make_66 (lv_at hl 0 rfl) ?_
                      refine lv_iload_n hx hb dX9_make_68 rfl (lv_at hl 2 rfl) ?_
                      refine va_iast (n := 40) (f := F 0) hx hb hK hP hD hS 1 0 rfl rfl (vp_in_nI (n := n) (by omega) (by decide)) dX9_make_69 (fun H locs hP hD hS => ?_)
                      rw [mW_set_0] at hP hD
                      obtain ⟨F19, eF19⟩ : ∃ f9 : Nat → Nat → Int32, f9 = va_up F 0 (upd (F 0) (nI n).toNatClampNeg p0) := ⟨_, rfl⟩
                      rw [← eF19] at hP hD
                      replace hI : StM n (b) F V F19 V := ⟨by rw [eF19]; exact hI.1.setF (by decide), trivial⟩
                      replace hU : ∀ j : Nat, j ∉ ([0, 1, 2, 4, 6, 16] : List Nat) → F19 j = F j := by rw [eF19]; exact mw_up (by decide) hU
                      refine lv_aload_n hx hb dX9_make_70 rfl (lv_at hl 1 rfl) ?_
                      refine va_get (D := (dC, dI)) (ci := 10) (v := .ref (a 1)) (C := RX9) (T := TX9) (N := 46) hx hb hts in_m_make_X9 hown hK hP 0 rfl rfl 1 (by decide) (hts (.fieldLink RX9 13 "ServiceTreeModel" "start" "[I") (by decide +kernel)) (fun _ h9 => h9) rfl dX9_make_71 ?_
                      refine lv_iload hx hb dX9_make_74 (lv_at hl 0 rfl) ?_
                      refine lv_iload_n hx hb dX9_make_76 rfl (lv_at hl 3 rfl) ?_
                      refine va_iast (n := 40) (f := F19 1) hx hb hK hP hD hS 2 1 rfl rfl (vp_in_nI (n := n) (by omega) (by decide)) dX9_make_77 (fun H locs hP hD hS => ?_)
                      rw [mW_set_1] at hP hD
                      obtain ⟨F20, eF20⟩ : ∃ f9 : Nat → Nat → Int32, f9 = va_up F19 1 (upd (F19 1) (nI n).toNatClampNeg p1) := ⟨_, rfl⟩
                      rw [← eF20] at hP hD
                      replace hI : StM n (b) F V F20 V := ⟨by rw [eF20]; exact hI.1.setF (by decide), trivial⟩
                      replace hU : ∀ j : Nat, j ∉ ([0, 1, 2, 4, 6, 16] : List Nat) → F20 j = F j := by rw [eF20]; exact mw_up (by decide) hU
                      refine lv_aload_n hx hb dX9_make_78 rfl (lv_at hl 1 rfl) ?_
                      refine va_get (D := (dC, dI)) (ci := 10) (v := .ref (a 2)) (C := RX9) (T := TX9) (N := 46) hx hb hts in_m_make_X9 hown hK hP 0 rfl rfl 2 (by decide) (hts (.fieldLink RX9 16 "ServiceTreeModel" "stop" "[I") (by decide +kernel)) (fun _ h9 => h9) rfl dX9_make_79 ?_
                      refine lv_iload hx hb dX9_make_82 (lv_at hl 0 rfl) ?_
                      refine lv_iload_n hx hb dX9_make_84 rfl (lv_at hl 4 rfl) ?_
                      refine va_iast (n := 40) (f := F20 2) hx hb hK hP hD hS 3 2 rfl rfl (vp_in_nI (n := n) (by omega) (by decide)) dX9_make_85 (fun H locs hP hD hS => ?_)
                      rw [mW_set_2] at hP hD
                      obtain ⟨F21, eF21⟩ : ∃ f9 : Nat → Nat → Int32, f9 = va_up F20 2 (upd (F20 2) (nI n).toNatClampNeg p2) := ⟨_, rfl⟩
                      rw [← eF21] at hP hD
                      replace hI : StM n (b) F V F21 V := ⟨by rw [eF21]; exact hI.1.setF (by decide), trivial⟩
                      replace hU : ∀ j : Nat, j ∉ ([0, 1, 2, 4, 6, 16] : List Nat) → F21 j = F j := by rw [eF21]; exact mw_up (by decide) hU
                      refine lv_aload_n hx hb dX9_make_86 rfl (lv_at hl 1 rfl) ?_
                      refine va_get (D := (dC, dI)) (ci := 10) (v := .ref (a 4)) (C := RX9) (T := TX9) (N := 46) hx hb hts in_m_make_X9 hown hK hP 0 rfl rfl 4 (by decide) (hts (.fieldLink RX9 22 "ServiceTreeModel" "delay" "[I") (by decide +kernel)) (fun _ h9 => h9) rfl dX9_make_87 ?_
                      refine lv_iload hx hb dX9_make_90 (lv_at hl 0 rfl) ?_
                      refine lv_iconst (v := 1) hx hb dX9_make_92 (by decide) ?_
                      refine va_iast (n := 40) (f := F21 4) hx hb hK hP hD hS 5 4 rfl rfl (vp_in_nI (n := n) (by omega) (by decide)) dX9_make_93 (fun H locs hP hD hS => ?_)
                      rw [mW_set_4] at hP hD
                      obtain ⟨F22, eF22⟩ : ∃ f9 : Nat → Nat → Int32, f9 = va_up F21 4 (upd (F21 4) (nI n).toNatClampNeg 1) := ⟨_, rfl⟩
                      rw [← eF22] at hP hD
                      replace hI : StM n (b) F V F22 V := ⟨by rw [eF22]; exact hI.1.setF (by decide), trivial⟩
                      replace hU : ∀ j : Nat, j ∉ ([0, 1, 2, 4, 6, 16] : List Nat) → F22 j = F j := by rw [eF22]; exact mw_up (by decide) hU
                      refine lv_aload_n hx hb dX9_make_94 rfl (lv_at hl 1 rfl) ?_
                      refine va_get (D := (dC, dI)) (ci := 10) (v := .ref (a 6)) (C := RX9) (T := TX9) (N := 46) hx hb hts in_m_make_X9 hown hK hP 0 rfl rfl 6 (by decide) (hts (.fieldLink RX9 28 "ServiceTreeModel" "window" "[I") (by decide +kernel)) (fun _ h9 => h9) rfl dX9_make_95 ?_
                      refine lv_iload hx hb dX9_make_98 (lv_at hl 0 rfl) ?_
                      refine lv_iconst (v := 1) hx hb dX9_make_100 (by decide) ?_
                      refine va_iast (n := 40) (f := F22 6) hx hb hK hP hD hS 7 6 rfl rfl (vp_in_nI (n := n) (by omega) (by decide)) dX9_make_101 (fun H locs hP hD hS => ?_)
                      rw [mW_set_6] at hP hD
                      obtain ⟨F23, eF23⟩ : ∃ f9 : Nat → Nat → Int32, f9 = va_up F22 6 (upd (F22 6) (nI n).toNatClampNeg 1) := ⟨_, rfl⟩
                      rw [← eF23] at hP hD
                      replace hI : StM n (b) F V F23 V := ⟨by rw [eF23]; exact hI.1.setF (by decide), trivial⟩
                      replace hU : ∀ j : Nat, j ∉ ([0, 1, 2, 4, 6, 16] : List Nat) → F23 j = F j := by rw [eF23]; exact mw_up (by decide) hU
                      refine lv_aload_n hx hb dX9_make_102 rfl (lv_at hl 1 rfl) ?_
                      refine va_get (D := (dC, dI)) (ci := 10) (v := .ref (a 16)) (C := RX9) (T := TX9) (N := 46) hx hb hts in_m_make_X9 hown hK hP 0 rfl rfl 16 (by decide) (hts (.fieldLink RX9 59 "ServiceTreeModel" "readLast" "[I") (by decide +kernel)) (fun _ h9 => h9) rfl dX9_make_103 ?_
                      refine lv_iload hx hb dX9_make_106 (lv_at hl 0 rfl) ?_
                      refine lv_iconst (v := (-1)) hx hb dX9_make_108 (by decide) ?_
                      refine va_iast (n := 40) (f := F23 16) hx hb hK hP hD hS 17 16 rfl rfl (vp_in_nI (n := n) (by omega) (by decide)) dX9_make_109 (fun H locs hP hD hS => ?_)
                      rw [mW_set_16] at hP hD
                      obtain ⟨F24, eF24⟩ : ∃ f9 : Nat → Nat → Int32, f9 = va_up F23 16 (upd (F23 16) (nI n).toNatClampNeg (-1)) := ⟨_, rfl⟩
                      rw [← eF24] at hP hD
                      replace hI : StM n (b) F V F24 V := ⟨by rw [eF24]; exact hI.1.setF (by decide), trivial⟩
                      replace hU : ∀ j : Nat, j ∉ ([0, 1, 2, 4, 6, 16] : List Nat) → F24 j = F j := by rw [eF24]; exact mw_up (by decide) hU
                      refine lv_aload_n hx hb dX9_make_110 rfl (lv_at hl 1 rfl) ?_
                      refine lv_dup hx hb dX9_make_111 rfl ?_
                      refine va_get (D := (dC, dI)) (ci := 10) (v := .int (V 21)) (C := RX9) (T := TX9) (N := 46) hx hb hts in_m_make_X9 hown hK hP 0 rfl rfl 21 (by decide) (hts (.fieldLink RX9 126 "ServiceTreeModel" "services" "I") (by decide +kernel)) (fun _ h9 => h9) rfl dX9_make_112 ?_
                      refine p1_topr (v := .int (nI n)) (congrArg Value.int hI.1.2.1) ?_
                      refine lv_iconst (v := 1) hx hb dX9_make_115 (by decide) ?_
                      refine lv_iadd hx hb dX9_make_116 ?_
                      refine p1_topr (v := .int (nI (n + 1))) (congrArg Value.int (nI_add n 1)) ?_
                      refine va_put (D := (dC, dI)) (ci := 10) (fs := mF a V) (v := .int (nI (n + 1))) (ty := .int) (C := RX9) (T := TX9) (N := 46) hx hb hts in_m_make_X9 tyX9 tyX9_ok nmX9 hown hK hP hD hS 0 rfl rfl 21 (by decide) (hts (.fieldLink RX9 126 "ServiceTreeModel" "services" "I") (by decide +kernel)) (fun _ h9 => h9) rfl (by decide +kernel) rfl rfl (Nat.le_of_ble_eq_true rfl) dX9_make_117 (fun H locs hP hD hS => ?_)
                      rw [mW_put_21] at hP hD
                      obtain ⟨V25, eV25⟩ : ∃ f9 : Nat → Int32, f9 = va_up V 21 (nI (n + 1)) := ⟨_, rfl⟩
                      rw [← eV25] at hP hD
                      replace hI : StM (n + 1) (b) F V F24 V25 := ⟨by rw [eV25]; exact hI.1.put21 (by omega), trivial⟩
                      replace hV : ∀ j : Nat, j ∉ ([21] : List Nat) → V25 j = V j := by rw [eV25]; exact mw_up (by decide) hV
                      refine lv_iload hx hb dX9_make_120 (lv_at hl 0 rfl) ?_
                      exact W.iret (v := (nI n)) hx hb hr (fun t ht hW => ⟨⟨(nI n), (F24, V25), rfl, ⟨Or.inl ⟨(by have k0 := c1; have k1 := c2; have k2 := c3; have k3 := c4; have k4 := c5; have k5 := c6; have k6 := c7; have k7 := c16; have k8 := c17; simp only [p1_le, p1_lt, p1_eq, p1_m6, p1_m1, p1_0, p1_1, p1_2, p1_3, p1_4, p1_5, p1_6, p1_7, p1_8, p1_9, p1_10, p1_11, p1_12, p1_13, p1_14, p1_15, p1_16, p1_17, p1_18, p1_19, p1_20, p1_40, p1_50, p1_200, p1_1000] at k0 k1 k2 k3 k4 k5 k6 k7 k8 ⊢; omega), by omega, rfl, hI.1, hU, hV, by simp [eF24, eF23, eF22, eF21, eF20, eF19, va_up]⟩, trivial⟩, by rw [ht]; exact hP, hD⟩, hS.F ht⟩) hS.2.2 dX9_make_122
                    · replace c18 : n = 40 := (nI_eq (a := n) (b := 40) (by omega) (by omega)).mp c18
                      refine lv_bipush (v := (-6)) hx hb dX9_make_53 (by decide) ?_
                      exact W.iret (v := (-6)) hx hb hr (fun t ht hW => ⟨⟨(-6), (F, V), rfl, ⟨Or.inr ⟨Or.inr (by omega), (if_pos (by have k0 := c1; have k1 := c2; have k2 := c3; have k3 := c4; have k4 := c5; have k5 := c6; have k6 := c7; have k7 := c16; have k8 := c17; simp only [p1_le, p1_lt, p1_eq, p1_m6, p1_m1, p1_0, p1_1, p1_2, p1_3, p1_4, p1_5, p1_6, p1_7, p1_8, p1_9, p1_10, p1_11, p1_12, p1_13, p1_14, p1_15, p1_16, p1_17, p1_18, p1_19, p1_20, p1_40, p1_50, p1_200, p1_1000] at k0 k1 k2 k3 k4 k5 k6 k7 k8 ⊢; omega)).symm, rfl, rfl⟩, trivial⟩, by rw [ht]; exact hP, hD⟩, hS.F ht⟩) hS.2.2 dX9_make_55
                  · refine lv_iconst (v := (-1)) hx hb dX9_make_42 (by decide) ?_
                    exact W.iret (v := (-1)) hx hb hr (fun t ht hW => ⟨⟨(-1), (F, V), rfl, ⟨Or.inr ⟨Or.inl (by have k0 := c1; have k1 := c2; have k2 := c3; have k3 := c4; have k4 := c5; have k5 := c6; have k6 := c7; have k7 := c16; have k8 := c17; simp only [p1_le, p1_lt, p1_eq, p1_m6, p1_m1, p1_0, p1_1, p1_2, p1_3, p1_4, p1_5, p1_6, p1_7, p1_8, p1_9, p1_10, p1_11, p1_12, p1_13, p1_14, p1_15, p1_16, p1_17, p1_18, p1_19, p1_20, p1_40, p1_50, p1_200, p1_1000] at k0 k1 k2 k3 k4 k5 k6 k7 k8 ⊢; omega), (if_neg (by have k0 := c1; have k1 := c2; have k2 := c3; have k3 := c4; have k4 := c5; have k5 := c6; have k6 := c7; have k7 := c16; have k8 := c17; simp only [p1_le, p1_lt, p1_eq, p1_m6, p1_m1, p1_0, p1_1, p1_2, p1_3, p1_4, p1_5, p1_6, p1_7, p1_8, p1_9, p1_10, p1_11, p1_12, p1_13, p1_14, p1_15, p1_16, p1_17, p1_18, p1_19, p1_20, p1_40, p1_50, p1_200, p1_1000] at k0 k1 k2 k3 k4 k5 k6 k7 k8 ⊢; omega)).symm, rfl, rfl⟩, trivial⟩, by rw [ht]; exact hP, hD⟩, hS.F ht⟩) hS.2.2 dX9_make_43
def wq_m_life : List Cond := [.code yX9_life cX9_life 5 (some .int), .fieldLink RX9 9 "ServiceTreeModel" "kind" "[I", .fieldLink RX9 19 "ServiceTreeModel" "life" "[I", .methodLink RX9 135 yX9_is, .instanceMethod yX9_is, .selects RX9 yX9_is yX9_is, .initialized RX9] ++ (wsX90 ++ (wq_m_is))
theorem in_m_life_X9 : ∀ w ∈ wsX90, w ∈ wq_m_life := fun _ h => List.mem_append_right _ (List.mem_append_left _ (h))
set_option maxRecDepth 20000 in
theorem wi_m_life : ∀ w ∈ wq_m_life, w ∈ lw_tbl := List.forall_mem_append.mpr ⟨(by decide +kernel), List.forall_mem_append.mpr ⟨inKX9, wi_m_is⟩⟩
set_option maxRecDepth 20000 in
theorem wg_m_life : GoodIn wq_m_life wq_m_life := goodIn_sub (fun _ h => h) (by decide +kernel)
set_option maxRecDepth 20000 in
theorem wc_m_life_m_is_135 : GoodIn wq_m_life (wsV RX9 135 RX9 yX9_is wq_m_is) := goodIn_app (goodIn_of _ (by decide +kernel)) (fun w h => ⟨List.mem_append_right _ (List.mem_append_right _ (h)), (wg_m_is w h).2⟩)
def rm_m_life : Room := { frames := 1, cells := 0, slots := 0, locals := 21 }
set_option maxHeartbeats 4000000 in
set_option maxRecDepth 100000 in
theorem c_m_life (l : Launch) (dC : Nat → ClassId) (dI : Nat → Nat → Nat) (h : Nat) (a : Nat → Nat) (k : Nat → ClassId) (F : Nat → Nat → Int32) (V : Nat → Int32) (n b : Nat) (p0 : Int32) (p1 : Int32) (p2 : Int32) (sz : Nat) (hI0 : InvM n b F V) (hb0 : b + 0 < 2147483648)  : Met l yX9_life wq_m_life rm_m_life (va_Pc [.ref h, .int p0, .int p1, .int p2] (fun U => U.heap.size = sz ∧ va_P (dC, dI) vwCl (mW h a k F V) U.heap ∧ va_K (dC, dI) vwCl (mT k) U ∧ va_D (fun _ => True) (mW h a k F V))) (va_Qi (fun (r : Int32) (u : (Nat → Nat → Int32) × (Nat → Int32)) => StM n (b + 0) F V u.1 u.2 ∧ (∀ j : Nat, j ∉ ([3] : List Nat) → u.1 j = F j) ∧ (∀ j : Nat, j ∉ ([] : List Nat) → u.2 j = V j) ∧ (True)) (fun (u : (Nat → Nat → Int32) × (Nat → Int32)) (t : State) => va_P (dC, dI) vwCl (mW h a k u.1 u.2) t.heap ∧ va_D (va_A (mW h a k F V) sz) (mW h a k u.1 u.2)) (va_A (mW h a k F V) sz)) 0 0 (va_A (mW h a k F V) sz) := by
  have hn : n ≤ 40 := hI0.1
  have hI : StM n b F V F V := StM.rf hI0
  have hU : ∀ j : Nat, j ∉ ([3] : List Nat) → F j = F j := fun _ _ => rfl
  have hV : ∀ j : Nat, j ∉ ([] : List Nat) → V j = V j := fun _ _ => rfl
  refine Met.ofW (cc := cX9_life) (maxL := 5) (ret := (some .int)) (by decide) rfl ?_
  intro p e s m args below meth c s₁ B hml hv
  obtain ⟨rfl, hsz, hP, hK, hD0⟩ := hv
  have hx := B.exec
  have hb := B.bytes
  have hr := B.returns
  have hts := atoms_spec (ws := wq_m_life) B.pre
  have hown : s.vm.findClass RX9 = some m.cls := findClass_of_methodNamed B.named
  have hlocks := B.notSynchronized
  subst hsz
  have hD := hD0.self (sz := s.heap.size)
  generalize hAe : va_A (mW h a k F V) s.heap.size = A at hD ⊢
  have hA : ∀ q : Nat, s.heap.size ≤ q → A q := fun q h => by rw [← hAe]; exact Or.inr h
  have hS : va_S A s.heap s.heap [] := va_S.rf
  have hl := lv_entry ([.ref h, .int p0, .int p1, .int p2]) (n := 5) (Nat.le_of_ble_eq_true rfl)
  rw [lg_entry_eq]
  generalize (lg_sl ([.ref h, .int p0, .int p1, .int p2]) ++ List.replicate (5 - (lg_sl ([.ref h, .int p0, .int p1, .int p2])).length) Slot.unset).toArray = ls at hl ⊢
  have hl : lv_has ls 5 [(0, .ref h), (1, .int p0), (2, .int p1), (3, .int p2)] := hl
  refine lv_aload_n hx hb dX9_life_0 rfl (lv_at hl 0 rfl) ?_
  refine lv_iload_n hx hb dX9_life_1 rfl (lv_at hl 1 rfl) ?_
  have hFc := mw_free hD hS hA
  refine va_calli (va_runV (As := [.int p0]) (rest := []) ⟨hx, hb, hml, hown, hts⟩ (c_m_is l dC dI h a k F V n (b) p0 s.heap.size hI.1 (by omega) ) (cwV 1 hts wc_m_life_m_is_135 rfl rfl rfl (by decide +kernel) ⟨Nat.le_of_ble_eq_true rfl, Nat.le_of_ble_eq_true rfl⟩) ⟨fun a9 U g mk q => by obtain ⟨q0, q1, qP, qK, qD⟩ := q; exact ⟨q0, q1, qP, va_K.moved (u := U) (U := U.calling g mk a9) (Vm.Alike.refl U.vm) qK, qD⟩, va_recv hK hP (ci := 10) (q0 := 0) rfl rfl, fun U hU hW => ⟨rfl, by rw [hU], by rw [hU]; exact hP, va_K.moved hW.alike hK, hD.weaken (fun _ _ _ _ => trivial)⟩⟩ rfl rfl hl.1 rfl (lv_room (Nat.le_of_ble_eq_true rfl)) dX9_life_2 ⟨Nat.le_of_ble_eq_true rfl, Nat.le_of_ble_eq_true rfl⟩) hS (fun q _ h => hFc q h) hFc (fun r1 u t H1 locs ht hvm hw hB hz1 hk1 hS => ?_)
  obtain ⟨F2, V3⟩ := u
  replace hP := hB.1
  rw [ht] at hP
  replace hD : va_D A (mW h a k F2 V3) := hB.2.weaken (fun _ q _ h9 => hFc q.1 h9)
  clear hB
  generalize H1 = H at hP hS ⊢
  replace hP : va_P (dC, dI) vwCl (mW h a k F2 V3) H := hP
  obtain ⟨hwF, hwV, hw⟩ : F2 = F ∧ V3 = V ∧ _ := hw
  rw [hwF, hwV] at hP hD
  rcases hw with ⟨rfl, j4, hj4, ej4⟩ | ⟨rfl, noj4⟩
  · subst ej4
    refine lv_if_eq (tgt := 29) hx hb dX9_life_5 (by decide) (fun c9 => absurd c9 (by decide)) (fun _ => ?_)
    refine lv_iload_n hx hb dX9_life_8 rfl (lv_at hl 2 rfl) ?_
    refine lv_if_lt (tgt := 29) hx hb dX9_life_9 (by decide) (fun c5 => ?_) (fun c5 => ?_)
    · refine lv_iconst (v := (-1)) hx hb dX9_life_29 (by decide) ?_
      exact W.iret (v := (-1)) hx hb hr (fun t ht hW => ⟨⟨(-1), (F, V), rfl, ⟨hI.mono (by omega), hU, hV, trivial⟩, by rw [ht]; exact hP, hD⟩, hS.F ht⟩) hS.2.2 dX9_life_30
    · refine lv_iload_n hx hb dX9_life_12 rfl (lv_at hl 2 rfl) ?_
      refine lv_bipush (v := 7) hx hb dX9_life_13 (by decide) ?_
      refine lv_icmp_gt (tgt := 29) hx hb dX9_life_15 (by decide) (fun c6 => ?_) (fun c6 => ?_)
      · refine lv_iconst (v := (-1)) hx hb dX9_life_29 (by decide) ?_
        exact W.iret (v := (-1)) hx hb hr (fun t ht hW => ⟨⟨(-1), (F, V), rfl, ⟨hI.mono (by omega), hU, hV, trivial⟩, by rw [ht]; exact hP, hD⟩, hS.F ht⟩) hS.2.2 dX9_life_30
      · obtain ⟨j7, hj7, ej7⟩ := nI_of2 (x := p1) (M := 7) (n := 7) (by decide) c5 (Int32.not_lt.mp c6)
        subst ej7
        refine lv_iload_n hx hb dX9_life_18 rfl (lv_at hl 3 rfl) ?_
        refine lv_if_lt (tgt := 29) hx hb dX9_life_19 (by decide) (fun c8 => ?_) (fun c8 => ?_)
        · refine lv_iconst (v := (-1)) hx hb dX9_life_29 (by decide) ?_
          exact W.iret (v := (-1)) hx hb hr (fun t ht hW => ⟨⟨(-1), (F, V), rfl, ⟨hI.mono (by omega), hU, hV, trivial⟩, by rw [ht]; exact hP, hD⟩, hS.F ht⟩) hS.2.2 dX9_life_30
        · refine lv_iload_n hx hb dX9_life_22 rfl (lv_at hl 3 rfl) ?_
          refine lv_sipush (v := 1000) hx hb dX9_life_23 (by decide) ?_
          refine lv_icmp_le (tgt := 31) hx hb dX9_life_26 (by decide) (fun c9 => ?_) (fun c9 => ?_)
          · refine lv_aload_n hx hb dX9_life_31 rfl (lv_at hl 0 rfl) ?_
            refine va_get (D := (dC, dI)) (ci := 10) (v := .ref (a 0)) (C := RX9) (T := TX9) (N := 46) hx hb hts in_m_life_X9 hown hK hP 0 rfl rfl 0 (by decide) (hts (.fieldLink RX9 9 "ServiceTreeModel" "kind" "[I") (by decide +kernel)) (fun _ h9 => h9) rfl dX9_life_32 ?_
            refine lv_iload_n hx hb dX9_life_35 rfl (lv_at hl 1 rfl) ?_
            refine va_iald (n := 40) (f := F 0) hx hb hK hP 1 0 rfl rfl (vp_in_nI (n := j4) (by omega) (by decide)) dX9_life_36 ?_
            refine lv_topi (fun x10 ex10 => ?_)
            refine lv_iconst (v := 3) hx hb dX9_life_37 (by decide) ?_
            refine lv_icmp_ne (tgt := 44) hx hb dX9_life_38 (by decide) (fun c11 => ?_) (fun c11 => ?_)
            · refine lv_aload_n hx hb dX9_life_44 rfl (lv_at hl 0 rfl) ?_
              refine va_get (D := (dC, dI)) (ci := 10) (v := .ref (a 3)) (C := RX9) (T := TX9) (N := 46) hx hb hts in_m_life_X9 hown hK hP 0 rfl rfl 3 (by decide) (hts (.fieldLink RX9 19 "ServiceTreeModel" "life" "[I") (by decide +kernel)) (fun _ h9 => h9) rfl dX9_life_45 ?_
              refine lv_bipush (v := 8) hx hb dX9_life_48 (by decide) ?_
              refine lv_iload_n hx hb dX9_life_50 rfl (lv_at hl 1 rfl) ?_
              refine lv_imul hx hb dX9_life_51 ?_
              refine p1_topr (v := .int (nI (8 * j4))) (congrArg Value.int (pk_mul 8 j4)) ?_
              refine lv_iload_n hx hb dX9_life_52 rfl (lv_at hl 2 rfl) ?_
              refine lv_iadd hx hb dX9_life_53 ?_
              refine p1_topr (v := .int (nI ((8 * j4) + j7))) (congrArg Value.int (nI_add (8 * j4) j7)) ?_
              refine va_iald (n := 320) (f := F 3) hx hb hK hP 4 3 rfl rfl (vp_in_nI (n := (8 * j4) + j7) (by omega) (by decide)) dX9_life_54 ?_
              refine lv_topi (fun x12 ex12 => ?_)
              refine lv_istore (lv' := [(4, .int x12), (0, .ref h), (1, .int (nI j4)), (2, .int (nI j7)), (3, .int p2)]) hx hb dX9_life_55 hl (by decide) rfl (fun ls hl => ?_)
              refine lv_aload_n hx hb dX9_life_57 rfl (lv_at hl 1 rfl) ?_
              refine va_get (D := (dC, dI)) (ci := 10) (v := .ref (a 3)) (C := RX9) (T := TX9) (N := 46) hx hb hts in_m_life_X9 hown hK hP 0 rfl rfl 3 (by decide) (hts (.fieldLink RX9 19 "ServiceTreeModel" "life" "[I") (by decide +kernel)) (fun _ h9 => h9) rfl dX9_life_58 ?_
              refine lv_bipush (v := 8) hx hb dX9_life_61 (by decide) ?_
              refine lv_iload_n hx hb dX9_life_63 rfl (lv_at hl 2 rfl) ?_
              refine lv_imul hx hb dX9_life_64 ?_
              refine p1_topr (v := .int (nI (8 * j4))) (congrArg Value.int (pk_mul 8 j4)) ?_
              refine lv_iload_n hx hb dX9_life_65 rfl (lv_at hl 3 rfl) ?_
              refine lv_iadd hx hb dX9_life_66 ?_
              refine p1_topr (v := .int (nI ((8 * j4) + j7))) (congrArg Value.int (nI_add (8 * j4) j7)) ?_
              refine lv_iload_n hx hb dX9_life_67 rfl (lv_at hl 4 rfl) ?_
              refine va_iast (n := 320) (f := F 3) hx hb hK hP hD hS 4 3 rfl rfl (vp_in_nI (n := (8 * j4) + j7) (by omega) (by decide)) dX9_life_68 (fun H locs hP hD hS => ?_)
              rw [mW_set_3] at hP hD
              obtain ⟨F13, eF13⟩ : ∃ f9 : Nat → Nat → Int32, f9 = va_up F 3 (upd (F 3) (nI ((8 * j4) + j7)).toNatClampNeg p2) := ⟨_, rfl⟩
              rw [← eF13] at hP hD
              replace hI : StM n (b) F V F13 V := ⟨by rw [eF13]; exact hI.1.setF (by decide), trivial⟩
              replace hU : ∀ j : Nat, j ∉ ([3] : List Nat) → F13 j = F j := by rw [eF13]; exact mw_up (by decide) hU
              refine lv_iload hx hb dX9_life_69 (lv_at hl 0 rfl) ?_
              exact W.iret (v := x12) hx hb hr (fun t ht hW => ⟨⟨x12, (F13, V), rfl, ⟨hI.mono (by omega), hU, hV, trivial⟩, by rw [ht]; exact hP, hD⟩, hS.F ht⟩) hS.2.2 dX9_life_71
            · refine lv_bipush (v := (-2)) hx hb dX9_life_41 (by decide) ?_
              exact W.iret (v := (-2)) hx hb hr (fun t ht hW => ⟨⟨(-2), (F, V), rfl, ⟨hI.mono (by omega), hU, hV, trivial⟩, by rw [ht]; exact hP, hD⟩, hS.F ht⟩) hS.2.2 dX9_life_43
          · refine lv_iconst (v := (-1)) hx hb dX9_life_29 (by decide) ?_
            exact W.iret (v := (-1)) hx hb hr (fun t ht hW => ⟨⟨(-1), (F, V), rfl, ⟨hI.mono (by omega), hU, hV, trivial⟩, by rw [ht]; exact hP, hD⟩, hS.F ht⟩) hS.2.2 dX9_life_30
  · refine lv_if_eq (tgt := 29) hx hb dX9_life_5 (by decide) (fun _ => ?_) (fun c9 => absurd (by decide) c9)
    refine lv_iconst (v := (-1)) hx hb dX9_life_29 (by decide) ?_
    exact W.iret (v := (-1)) hx hb hr (fun t ht hW => ⟨⟨(-1), (F, V), rfl, ⟨hI.mono (by omega), hU, hV, trivial⟩, by rw [ht]; exact hP, hD⟩, hS.F ht⟩) hS.2.2 dX9_life_30
def wq_m_again : List Cond := [.code yX9_again cX9_again 5 (some .int), .fieldLink RX9 22 "ServiceTreeModel" "delay" "[I", .fieldLink RX9 25 "ServiceTreeModel" "budget" "[I", .fieldLink RX9 28 "ServiceTreeModel" "window" "[I", .methodLink RX9 135 yX9_is, .instanceMethod yX9_is, .selects RX9 yX9_is yX9_is, .initialized RX9] ++ (wsX90 ++ (wq_m_is))
theorem in_m_again_X9 : ∀ w ∈ wsX90, w ∈ wq_m_again := fun _ h => List.mem_append_right _ (List.mem_append_left _ (h))
set_option maxRecDepth 20000 in
theorem wi_m_again : ∀ w ∈ wq_m_again, w ∈ lw_tbl := List.forall_mem_append.mpr ⟨(by decide +kernel), List.forall_mem_append.mpr ⟨inKX9, wi_m_is⟩⟩
set_option maxRecDepth 20000 in
theorem wg_m_again : GoodIn wq_m_again wq_m_again := goodIn_sub (fun _ h => h) (by decide +kernel)
set_option maxRecDepth 20000 in
theorem wc_m_again_m_is_135 : GoodIn wq_m_again (wsV RX9 135 RX9 yX9_is wq_m_is) := goodIn_app (goodIn_of _ (by decide +kernel)) (fun w h => ⟨List.mem_append_right _ (List.mem_append_right _ (h)), (wg_m_is w h).2⟩)
def rm_m_again : Room := { frames := 1, cells := 0, slots := 0, locals := 21 }
set_option maxHeartbeats 4000000 in
set_option maxRecDepth 100000 in
theorem c_m_again (l : Launch) (dC : Nat → ClassId) (dI : Nat → Nat → Nat) (h : Nat) (a : Nat → Nat) (k : Nat → ClassId) (F : Nat → Nat → Int32) (V : Nat → Int32) (n b : Nat) (p0 : Int32) (p1 : Int32) (p2 : Int32) (p3 : Int32) (sz : Nat) (hI0 : InvM n b F V) (hb0 : b + 0 < 2147483648)  : Met l yX9_again wq_m_again rm_m_again (va_Pc [.ref h, .int p0, .int p1, .int p2, .int p3] (fun U => U.heap.size = sz ∧ va_P (dC, dI) vwCl (mW h a k F V) U.heap ∧ va_K (dC, dI) vwCl (mT k) U ∧ va_D (fun _ => True) (mW h a k F V))) (va_Qi (fun (r : Int32) (u : (Nat → Nat → Int32) × (Nat → Int32)) => StM n (b + 0) F V u.1 u.2 ∧ (∀ j : Nat, j ∉ ([4, 5, 6] : List Nat) → u.1 j = F j) ∧ (∀ j : Nat, j ∉ ([] : List Nat) → u.2 j = V j) ∧ (True)) (fun (u : (Nat → Nat → Int32) × (Nat → Int32)) (t : State) => va_P (dC, dI) vwCl (mW h a k u.1 u.2) t.heap ∧ va_D (va_A (mW h a k F V) sz) (mW h a k u.1 u.2)) (va_A (mW h a k F V) sz)) 0 0 (va_A (mW h a k F V) sz) := by
  have hn : n ≤ 40 := hI0.1
  have hI : StM n b F V F V := StM.rf hI0
  have hU : ∀ j : Nat, j ∉ ([4, 5, 6] : List Nat) → F j = F j := fun _ _ => rfl
  have hV : ∀ j : Nat, j ∉ ([] : List Nat) → V j = V j := fun _ _ => rfl
  refine Met.ofW (cc := cX9_again) (maxL := 5) (ret := (some .int)) (by decide) rfl ?_
  intro p e s m args below meth c s₁ B hml hv
  obtain ⟨rfl, hsz, hP, hK, hD0⟩ := hv
  have hx := B.exec
  have hb := B.bytes
  have hr := B.returns
  have hts := atoms_spec (ws := wq_m_again) B.pre
  have hown : s.vm.findClass RX9 = some m.cls := findClass_of_methodNamed B.named
  have hlocks := B.notSynchronized
  subst hsz
  have hD := hD0.self (sz := s.heap.size)
  generalize hAe : va_A (mW h a k F V) s.heap.size = A at hD ⊢
  have hA : ∀ q : Nat, s.heap.size ≤ q → A q := fun q h => by rw [← hAe]; exact Or.inr h
  have hS : va_S A s.heap s.heap [] := va_S.rf
  have hl := lv_entry ([.ref h, .int p0, .int p1, .int p2, .int p3]) (n := 5) (Nat.le_of_ble_eq_true rfl)
  rw [lg_entry_eq]
  generalize (lg_sl ([.ref h, .int p0, .int p1, .int p2, .int p3]) ++ List.replicate (5 - (lg_sl ([.ref h, .int p0, .int p1, .int p2, .int p3])).length) Slot.unset).toArray = ls at hl ⊢
  have hl : lv_has ls 5 [(0, .ref h), (1, .int p0), (2, .int p1), (3, .int p2), (4, .int p3)] := hl
  refine lv_aload_n hx hb dX9_again_0 rfl (lv_at hl 0 rfl) ?_
  refine lv_iload_n hx hb dX9_again_1 rfl (lv_at hl 1 rfl) ?_
  have hFc := mw_free hD hS hA
  refine va_calli (va_runV (As := [.int p0]) (rest := []) ⟨hx, hb, hml, hown, hts⟩ (c_m_is l dC dI h a k F V n (b) p0 s.heap.size hI.1 (by omega) ) (cwV 1 hts wc_m_again_m_is_135 rfl rfl rfl (by decide +kernel) ⟨Nat.le_of_ble_eq_true rfl, Nat.le_of_ble_eq_true rfl⟩) ⟨fun a9 U g mk q => by obtain ⟨q0, q1, qP, qK, qD⟩ := q; exact ⟨q0, q1, qP, va_K.moved (u := U) (U := U.calling g mk a9) (Vm.Alike.refl U.vm) qK, qD⟩, va_recv hK hP (ci := 10) (q0 := 0) rfl rfl, fun U hU hW => ⟨rfl, by rw [hU], by rw [hU]; exact hP, va_K.moved hW.alike hK, hD.weaken (fun _ _ _ _ => trivial)⟩⟩ rfl rfl hl.1 rfl (lv_room (Nat.le_of_ble_eq_true rfl)) dX9_again_2 ⟨Nat.le_of_ble_eq_true rfl, Nat.le_of_ble_eq_true rfl⟩) hS (fun q _ h => hFc q h) hFc (fun r1 u t H1 locs ht hvm hw hB hz1 hk1 hS => ?_)
  obtain ⟨F2, V3⟩ := u
  replace hP := hB.1
  rw [ht] at hP
  replace hD : va_D A (mW h a k F2 V3) := hB.2.weaken (fun _ q _ h9 => hFc q.1 h9)
  clear hB
  generalize H1 = H at hP hS ⊢
  replace hP : va_P (dC, dI) vwCl (mW h a k F2 V3) H := hP
  obtain ⟨hwF, hwV, hw⟩ : F2 = F ∧ V3 = V ∧ _ := hw
  rw [hwF, hwV] at hP hD
  rcases hw with ⟨rfl, j4, hj4, ej4⟩ | ⟨rfl, noj4⟩
  · subst ej4
    refine lv_if_eq (tgt := 43) hx hb dX9_again_5 (by decide) (fun c9 => absurd c9 (by decide)) (fun _ => ?_)
    refine lv_iload_n hx hb dX9_again_8 rfl (lv_at hl 2 rfl) ?_
    refine lv_iconst (v := 1) hx hb dX9_again_9 (by decide) ?_
    refine lv_icmp_lt (tgt := 43) hx hb dX9_again_10 (by decide) (fun c5 => ?_) (fun c5 => ?_)
    · refine lv_iconst (v := (-1)) hx hb dX9_again_43 (by decide) ?_
      exact W.iret (v := (-1)) hx hb hr (fun t ht hW => ⟨⟨(-1), (F, V), rfl, ⟨hI.mono (by omega), hU, hV, trivial⟩, by rw [ht]; exact hP, hD⟩, hS.F ht⟩) hS.2.2 dX9_again_44
    · refine lv_iload_n hx hb dX9_again_13 rfl (lv_at hl 2 rfl) ?_
      refine lv_bipush (v := 50) hx hb dX9_again_14 (by decide) ?_
      refine lv_icmp_gt (tgt := 43) hx hb dX9_again_16 (by decide) (fun c6 => ?_) (fun c6 => ?_)
      · refine lv_iconst (v := (-1)) hx hb dX9_again_43 (by decide) ?_
        exact W.iret (v := (-1)) hx hb hr (fun t ht hW => ⟨⟨(-1), (F, V), rfl, ⟨hI.mono (by omega), hU, hV, trivial⟩, by rw [ht]; exact hP, hD⟩, hS.F ht⟩) hS.2.2 dX9_again_44
      · refine lv_iload_n hx hb dX9_again_19 rfl (lv_at hl 3 rfl) ?_
        refine lv_if_lt (tgt := 43) hx hb dX9_again_20 (by decide) (fun c7 => ?_) (fun c7 => ?_)
        · refine lv_iconst (v := (-1)) hx hb dX9_again_43 (by decide) ?_
          exact W.iret (v := (-1)) hx hb hr (fun t ht hW => ⟨⟨(-1), (F, V), rfl, ⟨hI.mono (by omega), hU, hV, trivial⟩, by rw [ht]; exact hP, hD⟩, hS.F ht⟩) hS.2.2 dX9_again_44
        · refine lv_iload_n hx hb dX9_again_23 rfl (lv_at hl 3 rfl) ?_
          refine lv_bipush (v := 10) hx hb dX9_again_24 (by decide) ?_
          refine lv_icmp_gt (tgt := 43) hx hb dX9_again_26 (by decide) (fun c8 => ?_) (fun c8 => ?_)
          · refine lv_iconst (v := (-1)) hx hb dX9_again_43 (by decide) ?_
            exact W.iret (v := (-1)) hx hb hr (fun t ht hW => ⟨⟨(-1), (F, V), rfl, ⟨hI.mono (by omega), hU, hV, trivial⟩, by rw [ht]; exact hP, hD⟩, hS.F ht⟩) hS.2.2 dX9_again_44
          · refine lv_iload hx hb dX9_again_29 (lv_at hl 4 rfl) ?_
            refine lv_iconst (v := 1) hx hb dX9_again_31 (by decide) ?_
            refine lv_icmp_lt (tgt := 43) hx hb dX9_again_32 (by decide) (fun c9 => ?_) (fun c9 => ?_)
            · refine lv_iconst (v := (-1)) hx hb dX9_again_43 (by decide) ?_
              exact W.iret (v := (-1)) hx hb hr (fun t ht hW => ⟨⟨(-1), (F, V), rfl, ⟨hI.mono (by omega), hU, hV, trivial⟩, by rw [ht]; exact hP, hD⟩, hS.F ht⟩) hS.2.2 dX9_again_44
            · refine lv_iload hx hb dX9_again_35 (lv_at hl 4 rfl) ?_
              refine lv_sipush (v := 200) hx hb dX9_again_37 (by decide) ?_
              refine lv_icmp_le (tgt := 45) hx hb dX9_again_40 (by decide) (fun c10 => ?_) (fun c10 => ?_)
              · refine lv_aload_n hx hb dX9_again_45 rfl (lv_at hl 0 rfl) ?_
                refine va_get (D := (dC, dI)) (ci := 10) (v := .ref (a 4)) (C := RX9) (T := TX9) (N := 46) hx hb hts in_m_again_X9 hown hK hP 0 rfl rfl 4 (by decide) (hts (.fieldLink RX9 22 "ServiceTreeModel" "delay" "[I") (by decide +kernel)) (fun _ h9 => h9) rfl dX9_again_46 ?_
                refine lv_iload_n hx hb dX9_again_49 rfl (lv_at hl 1 rfl) ?_
                refine lv_iload_n hx hb dX9_again_50 rfl (lv_at hl 2 rfl) ?_
                refine va_iast (n := 40) (f := F 4) hx hb hK hP hD hS 5 4 rfl rfl (vp_in_nI (n := j4) (by omega) (by decide)) dX9_again_51 (fun H locs hP hD hS => ?_)
                rw [mW_set_4] at hP hD
                obtain ⟨F11, eF11⟩ : ∃ f9 : Nat → Nat → Int32, f9 = va_up F 4 (upd (F 4) (nI j4).toNatClampNeg p1) := ⟨_, rfl⟩
                rw [← eF11] at hP hD
                replace hI : StM n (b) F V F11 V := ⟨by rw [eF11]; exact hI.1.setF (by decide), trivial⟩
                replace hU : ∀ j : Nat, j ∉ ([4, 5, 6] : List Nat) → F11 j = F j := by rw [eF11]; exact mw_up (by decide) hU
                refine lv_aload_n hx hb dX9_again_52 rfl (lv_at hl 0 rfl) ?_
                refine va_get (D := (dC, dI)) (ci := 10) (v := .ref (a 5)) (C := RX9) (T := TX9) (N := 46) hx hb hts in_m_again_X9 hown hK hP 0 rfl rfl 5 (by decide) (hts (.fieldLink RX9 25 "ServiceTreeModel" "budget" "[I") (by decide +kernel)) (fun _ h9 => h9) rfl dX9_again_53 ?_
                refine lv_iload_n hx hb dX9_again_56 rfl (lv_at hl 1 rfl) ?_
                refine lv_iload_n hx hb dX9_again_57 rfl (lv_at hl 3 rfl) ?_
                refine va_iast (n := 40) (f := F11 5) hx hb hK hP hD hS 6 5 rfl rfl (vp_in_nI (n := j4) (by omega) (by decide)) dX9_again_58 (fun H locs hP hD hS => ?_)
                rw [mW_set_5] at hP hD
                obtain ⟨F12, eF12⟩ : ∃ f9 : Nat → Nat → Int32, f9 = va_up F11 5 (upd (F11 5) (nI j4).toNatClampNeg p2) := ⟨_, rfl⟩
                rw [← eF12] at hP hD
                replace hI : StM n (b) F V F12 V := ⟨by rw [eF12]; exact hI.1.setF (by decide), trivial⟩
                replace hU : ∀ j : Nat, j ∉ ([4, 5, 6] : List Nat) → F12 j = F j := by rw [eF12]; exact mw_up (by decide) hU
                refine lv_aload_n hx hb dX9_again_59 rfl (lv_at hl 0 rfl) ?_
                refine va_get (D := (dC, dI)) (ci := 10) (v := .ref (a 6)) (C := RX9) (T := TX9) (N := 46) hx hb hts in_m_again_X9 hown hK hP 0 rfl rfl 6 (by decide) (hts (.fieldLink RX9 28 "ServiceTreeModel" "window" "[I") (by decide +kernel)) (fun _ h9 => h9) rfl dX9_again_60 ?_
                refine lv_iload_n hx hb dX9_again_63 rfl (lv_at hl 1 rfl) ?_
                refine lv_iload hx hb dX9_again_64 (lv_at hl 4 rfl) ?_
                refine va_iast (n := 40) (f := F12 6) hx hb hK hP hD hS 7 6 rfl rfl (vp_in_nI (n := j4) (by omega) (by decide)) dX9_again_66 (fun H locs hP hD hS => ?_)
                rw [mW_set_6] at hP hD
                obtain ⟨F13, eF13⟩ : ∃ f9 : Nat → Nat → Int32, f9 = va_up F12 6 (upd (F12 6) (nI j4).toNatClampNeg p3) := ⟨_, rfl⟩
                rw [← eF13] at hP hD
                replace hI : StM n (b) F V F13 V := ⟨by rw [eF13]; exact hI.1.setF (by decide), trivial⟩
                replace hU : ∀ j : Nat, j ∉ ([4, 5, 6] : List Nat) → F13 j = F j := by rw [eF13]; exact mw_up (by decide) hU
                refine lv_iconst (v := 1) hx hb dX9_again_67 (by decide) ?_
                exact W.iret (v := 1) hx hb hr (fun t ht hW => ⟨⟨1, (F13, V), rfl, ⟨hI.mono (by omega), hU, hV, trivial⟩, by rw [ht]; exact hP, hD⟩, hS.F ht⟩) hS.2.2 dX9_again_68
              · refine lv_iconst (v := (-1)) hx hb dX9_again_43 (by decide) ?_
                exact W.iret (v := (-1)) hx hb hr (fun t ht hW => ⟨⟨(-1), (F, V), rfl, ⟨hI.mono (by omega), hU, hV, trivial⟩, by rw [ht]; exact hP, hD⟩, hS.F ht⟩) hS.2.2 dX9_again_44
  · refine lv_if_eq (tgt := 43) hx hb dX9_again_5 (by decide) (fun _ => ?_) (fun c9 => absurd (by decide) c9)
    refine lv_iconst (v := (-1)) hx hb dX9_again_43 (by decide) ?_
    exact W.iret (v := (-1)) hx hb hr (fun t ht hW => ⟨⟨(-1), (F, V), rfl, ⟨hI.mono (by omega), hU, hV, trivial⟩, by rw [ht]; exact hP, hD⟩, hS.F ht⟩) hS.2.2 dX9_again_44
