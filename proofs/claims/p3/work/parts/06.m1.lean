theorem dX9_is_0 : decode cX9_is 0 = .ok (.iload_n 1, 1) := by decide +kernel
theorem dX9_is_1 : decode cX9_is 1 = .ok (.ifCond .lt 15, 3) := by decide +kernel
theorem dX9_is_4 : decode cX9_is 4 = .ok (.iload_n 1, 1) := by decide +kernel
theorem dX9_is_5 : decode cX9_is 5 = .ok (.aload_n 0, 1) := by decide +kernel
theorem dX9_is_6 : decode cX9_is 6 = .ok (.getfield 126, 3) := by decide +kernel
theorem dX9_is_9 : decode cX9_is 9 = .ok (.if_icmp .ge 7, 3) := by decide +kernel
theorem dX9_is_12 : decode cX9_is 12 = .ok (.iconst 1, 1) := by decide +kernel
theorem dX9_is_13 : decode cX9_is 13 = .ok (.goto 4, 3) := by decide +kernel
theorem dX9_is_16 : decode cX9_is 16 = .ok (.iconst 0, 1) := by decide +kernel
theorem dX9_is_17 : decode cX9_is 17 = .ok (.ireturn, 1) := by decide +kernel
theorem dX9_has_0 : decode cX9_has 0 = .ok (.aload_n 0, 1) := by decide +kernel
theorem dX9_has_1 : decode cX9_has 1 = .ok (.getfield 68, 3) := by decide +kernel
theorem dX9_has_4 : decode cX9_has 4 = .ok (.iload_n 1, 1) := by decide +kernel
theorem dX9_has_5 : decode cX9_has 5 = .ok (.bipush 40, 2) := by decide +kernel
theorem dX9_has_7 : decode cX9_has 7 = .ok (.imul, 1) := by decide +kernel
theorem dX9_has_8 : decode cX9_has 8 = .ok (.iload_n 2, 1) := by decide +kernel
theorem dX9_has_9 : decode cX9_has 9 = .ok (.iadd, 1) := by decide +kernel
theorem dX9_has_10 : decode cX9_has 10 = .ok (.bipush 40, 2) := by decide +kernel
theorem dX9_has_12 : decode cX9_has 12 = .ok (.imul, 1) := by decide +kernel
theorem dX9_has_13 : decode cX9_has 13 = .ok (.iload_n 3, 1) := by decide +kernel
theorem dX9_has_14 : decode cX9_has 14 = .ok (.iadd, 1) := by decide +kernel
theorem dX9_has_15 : decode cX9_has 15 = .ok (.baload, 1) := by decide +kernel
theorem dX9_has_16 : decode cX9_has 16 = .ok (.ireturn, 1) := by decide +kernel
theorem dX9_rests_0 : decode cX9_rests 0 = .ok (.iload_n 0, 1) := by decide +kernel
theorem dX9_rests_1 : decode cX9_rests 1 = .ok (.ifCond .eq 8, 3) := by decide +kernel
theorem dX9_rests_4 : decode cX9_rests 4 = .ok (.iload_n 0, 1) := by decide +kernel
theorem dX9_rests_5 : decode cX9_rests 5 = .ok (.iconst 4, 1) := by decide +kernel
theorem dX9_rests_6 : decode cX9_rests 6 = .ok (.if_icmp .ne 7, 3) := by decide +kernel
theorem dX9_rests_9 : decode cX9_rests 9 = .ok (.iconst 1, 1) := by decide +kernel
theorem dX9_rests_10 : decode cX9_rests 10 = .ok (.goto 4, 3) := by decide +kernel
theorem dX9_rests_13 : decode cX9_rests 13 = .ok (.iconst 0, 1) := by decide +kernel
theorem dX9_rests_14 : decode cX9_rests 14 = .ok (.ireturn, 1) := by decide +kernel
theorem dX9_waitsFor_0 : decode cX9_waitsFor 0 = .ok (.iload_n 0, 1) := by decide +kernel
theorem dX9_waitsFor_1 : decode cX9_waitsFor 1 = .ok (.ifCond .eq 11, 3) := by decide +kernel
theorem dX9_waitsFor_4 : decode cX9_waitsFor 4 = .ok (.iload_n 1, 1) := by decide +kernel
theorem dX9_waitsFor_5 : decode cX9_waitsFor 5 = .ok (.ifCond .eq 7, 3) := by decide +kernel
theorem dX9_waitsFor_8 : decode cX9_waitsFor 8 = .ok (.iconst 1, 1) := by decide +kernel
theorem dX9_waitsFor_9 : decode cX9_waitsFor 9 = .ok (.goto 4, 3) := by decide +kernel
theorem dX9_waitsFor_12 : decode cX9_waitsFor 12 = .ok (.iconst 0, 1) := by decide +kernel
theorem dX9_waitsFor_13 : decode cX9_waitsFor 13 = .ok (.ireturn, 1) := by decide +kernel
def wq_m_is : List Cond := [.code yX9_is cX9_is 2 (some .boolean), .fieldLink RX9 126 "ServiceTreeModel" "services" "I"] ++ (wsX90)
theorem in_m_is_X9 : ∀ w ∈ wsX90, w ∈ wq_m_is := fun _ h => List.mem_append_right _ (h)
set_option maxRecDepth 20000 in
theorem wi_m_is : ∀ w ∈ wq_m_is, w ∈ lw_tbl := List.forall_mem_append.mpr ⟨(by decide +kernel), inKX9⟩
set_option maxRecDepth 20000 in
theorem wg_m_is : GoodIn wq_m_is wq_m_is := goodIn_sub (fun _ h => h) (by decide +kernel)
def rm_m_is : Room := { frames := 0, cells := 0, slots := 0, locals := 0 }
set_option maxHeartbeats 4000000 in
set_option maxRecDepth 100000 in
theorem c_m_is (l : Launch) (dC : Nat → ClassId) (dI : Nat → Nat → Nat) (h : Nat) (a : Nat → Nat) (k : Nat → ClassId) (F : Nat → Nat → Int32) (V : Nat → Int32) (n b : Nat) (p0 : Int32) (sz : Nat) (hI0 : InvM n b F V) (hb0 : b + 0 < 2147483648)  : Met l yX9_is wq_m_is rm_m_is (va_Pc [.ref h, .int p0] (fun U => U.heap.size = sz ∧ va_P (dC, dI) vwCl (mW h a k F V) U.heap ∧ va_K (dC, dI) vwCl (mT k) U ∧ va_D (fun _ => True) (mW h a k F V))) (va_Qi (fun (r : Int32) (u : (Nat → Nat → Int32) × (Nat → Int32)) => u.1 = F ∧ u.2 = V ∧ ((r = 1 ∧ ∃ j : Nat, j < n ∧ p0 = nI j) ∨ (r = 0 ∧ (p0 < 0 ∨ nI n ≤ p0)))) (fun (u : (Nat → Nat → Int32) × (Nat → Int32)) (t : State) => va_P (dC, dI) vwCl (mW h a k u.1 u.2) t.heap ∧ va_D (va_A (mW h a k F V) sz) (mW h a k u.1 u.2)) (va_A (mW h a k F V) sz)) 0 0 (va_A (mW h a k F V) sz) := by
  have hn : n ≤ 40 := hI0.1
  have hI : StM n b F V F V := StM.rf hI0
  have hU : ∀ j : Nat, j ∉ ([] : List Nat) → F j = F j := fun _ _ => rfl
  have hV : ∀ j : Nat, j ∉ ([] : List Nat) → V j = V j := fun _ _ => rfl
  refine Met.ofW (cc := cX9_is) (maxL := 2) (ret := (some .boolean)) (by decide) rfl ?_
  intro p e s m args below meth c s₁ B hml hv
  obtain ⟨rfl, hsz, hP, hK, hD0⟩ := hv
  have hx := B.exec
  have hb := B.bytes
  have hr := B.returns
  have hts := atoms_spec (ws := wq_m_is) B.pre
  have hown : s.vm.findClass RX9 = some m.cls := findClass_of_methodNamed B.named
  have hlocks := B.notSynchronized
  subst hsz
  have hD := hD0.self (sz := s.heap.size)
  generalize hAe : va_A (mW h a k F V) s.heap.size = A at hD ⊢
  have hA : ∀ q : Nat, s.heap.size ≤ q → A q := fun q h => by rw [← hAe]; exact Or.inr h
  have hS : va_S A s.heap s.heap [] := va_S.rf
  have hl := lv_entry ([.ref h, .int p0]) (n := 2) (Nat.le_of_ble_eq_true rfl)
  rw [lg_entry_eq]
  generalize (lg_sl ([.ref h, .int p0]) ++ List.replicate (2 - (lg_sl ([.ref h, .int p0])).length) Slot.unset).toArray = ls at hl ⊢
  have hl : lv_has ls 2 [(0, .ref h), (1, .int p0)] := hl
  refine lv_iload_n hx hb dX9_is_0 rfl (lv_at hl 1 rfl) ?_
  refine lv_if_lt (tgt := 16) hx hb dX9_is_1 (by decide) (fun c1 => ?_) (fun c1 => ?_)
  · refine lv_iconst (v := 0) hx hb dX9_is_16 (by decide) ?_
    exact W.zret (v := 0) hx hb hr (by decide) (fun t ht hW => ⟨⟨0, (F, V), rfl, ⟨rfl, rfl, Or.inr ⟨rfl, Or.inl c1⟩⟩, by rw [ht]; exact hP, hD⟩, hS.F ht⟩) hS.2.2 dX9_is_17
  · refine lv_iload_n hx hb dX9_is_4 rfl (lv_at hl 1 rfl) ?_
    refine lv_aload_n hx hb dX9_is_5 rfl (lv_at hl 0 rfl) ?_
    refine va_get (D := (dC, dI)) (ci := 10) (v := .int (V 21)) (C := RX9) (T := TX9) (N := 46) hx hb hts in_m_is_X9 hown hK hP 0 rfl rfl 21 (by decide) (hts (.fieldLink RX9 126 "ServiceTreeModel" "services" "I") (by decide +kernel)) (fun _ h9 => h9) rfl dX9_is_6 ?_
    refine p1_topr (v := .int (nI n)) (congrArg Value.int hI.1.2.1) ?_
    refine lv_icmp_ge (tgt := 16) hx hb dX9_is_9 (by decide) (fun c2 => ?_) (fun c2 => ?_)
    · refine lv_iconst (v := 0) hx hb dX9_is_16 (by decide) ?_
      exact W.zret (v := 0) hx hb hr (by decide) (fun t ht hW => ⟨⟨0, (F, V), rfl, ⟨rfl, rfl, Or.inr ⟨rfl, Or.inr c2⟩⟩, by rw [ht]; exact hP, hD⟩, hS.F ht⟩) hS.2.2 dX9_is_17
    · refine lv_iconst (v := 1) hx hb dX9_is_12 (by decide) ?_
      refine lv_goto (tgt := 17) hx hb dX9_is_13 (by decide) ?_
      exact W.zret (v := 1) hx hb hr (by decide) (fun t ht hW => ⟨⟨1, (F, V), rfl, ⟨rfl, rfl, Or.inl ⟨rfl, mw_nI (by omega) c1 c2⟩⟩, by rw [ht]; exact hP, hD⟩, hS.F ht⟩) hS.2.2 dX9_is_17
def wq_m_has : List Cond := [.code yX9_has cX9_has 4 (some .boolean), .fieldLink RX9 68 "ServiceTreeModel" "relation" "[Z"] ++ (wsX90)
theorem in_m_has_X9 : ∀ w ∈ wsX90, w ∈ wq_m_has := fun _ h => List.mem_append_right _ (h)
set_option maxRecDepth 20000 in
theorem wi_m_has : ∀ w ∈ wq_m_has, w ∈ lw_tbl := List.forall_mem_append.mpr ⟨(by decide +kernel), inKX9⟩
set_option maxRecDepth 20000 in
theorem wg_m_has : GoodIn wq_m_has wq_m_has := goodIn_sub (fun _ h => h) (by decide +kernel)
def rm_m_has : Room := { frames := 0, cells := 0, slots := 0, locals := 0 }
set_option maxHeartbeats 4000000 in
set_option maxRecDepth 100000 in
theorem c_m_has (l : Launch) (dC : Nat → ClassId) (dI : Nat → Nat → Nat) (h : Nat) (a : Nat → Nat) (k : Nat → ClassId) (F : Nat → Nat → Int32) (V : Nat → Int32) (n b : Nat) (ov : Nat) (av : Nat) (bv : Nat) (sz : Nat) (hI0 : InvM n b F V) (hb0 : b + 0 < 2147483648) (hp0 : ov < 4) (hp1 : av < 40) (hp2 : bv < 40) : Met l yX9_has wq_m_has rm_m_has (va_Pc [.ref h, .int (nI ov), .int (nI av), .int (nI bv)] (fun U => U.heap.size = sz ∧ va_P (dC, dI) vwCl (mW h a k F V) U.heap ∧ va_K (dC, dI) vwCl (mT k) U ∧ va_D (fun _ => True) (mW h a k F V))) (va_Qi (fun (r : Int32) (u : (Nat → Nat → Int32) × (Nat → Int32)) => u.1 = F ∧ u.2 = V ∧ (r = 0 ∨ r = 1)) (fun (u : (Nat → Nat → Int32) × (Nat → Int32)) (t : State) => va_P (dC, dI) vwCl (mW h a k u.1 u.2) t.heap ∧ va_D (va_A (mW h a k F V) sz) (mW h a k u.1 u.2)) (va_A (mW h a k F V) sz)) 0 0 (va_A (mW h a k F V) sz) := by
  have hn : n ≤ 40 := hI0.1
  have hI : StM n b F V F V := StM.rf hI0
  have hU : ∀ j : Nat, j ∉ ([] : List Nat) → F j = F j := fun _ _ => rfl
  have hV : ∀ j : Nat, j ∉ ([] : List Nat) → V j = V j := fun _ _ => rfl
  refine Met.ofW (cc := cX9_has) (maxL := 4) (ret := (some .boolean)) (by decide) rfl ?_
  intro p e s m args below meth c s₁ B hml hv
  obtain ⟨rfl, hsz, hP, hK, hD0⟩ := hv
  have hx := B.exec
  have hb := B.bytes
  have hr := B.returns
  have hts := atoms_spec (ws := wq_m_has) B.pre
  have hown : s.vm.findClass RX9 = some m.cls := findClass_of_methodNamed B.named
  have hlocks := B.notSynchronized
  subst hsz
  have hD := hD0.self (sz := s.heap.size)
  generalize hAe : va_A (mW h a k F V) s.heap.size = A at hD ⊢
  have hA : ∀ q : Nat, s.heap.size ≤ q → A q := fun q h => by rw [← hAe]; exact Or.inr h
  have hS : va_S A s.heap s.heap [] := va_S.rf
  have hl := lv_entry ([.ref h, .int (nI ov), .int (nI av), .int (nI bv)]) (n := 4) (Nat.le_of_ble_eq_true rfl)
  rw [lg_entry_eq]
  generalize (lg_sl ([.ref h, .int (nI ov), .int (nI av), .int (nI bv)]) ++ List.replicate (4 - (lg_sl ([.ref h, .int (nI ov), .int (nI av), .int (nI bv)])).length) Slot.unset).toArray = ls at hl ⊢
  have hl : lv_has ls 4 [(0, .ref h), (1, .int (nI ov)), (2, .int (nI av)), (3, .int (nI bv))] := hl
  refine lv_aload_n hx hb dX9_has_0 rfl (lv_at hl 0 rfl) ?_
  refine va_get (D := (dC, dI)) (ci := 10) (v := .ref (a 19)) (C := RX9) (T := TX9) (N := 46) hx hb hts in_m_has_X9 hown hK hP 0 rfl rfl 19 (by decide) (hts (.fieldLink RX9 68 "ServiceTreeModel" "relation" "[Z") (by decide +kernel)) (fun _ h9 => h9) rfl dX9_has_1 ?_
  refine lv_iload_n hx hb dX9_has_4 rfl (lv_at hl 1 rfl) ?_
  refine lv_bipush (v := 40) hx hb dX9_has_5 (by decide) ?_
  refine lv_imul hx hb dX9_has_7 ?_
  refine p1_topr (v := .int (nI (ov * 40))) (congrArg Value.int (pk_mul ov 40)) ?_
  refine lv_iload_n hx hb dX9_has_8 rfl (lv_at hl 2 rfl) ?_
  refine lv_iadd hx hb dX9_has_9 ?_
  refine p1_topr (v := .int (nI ((ov * 40) + av))) (congrArg Value.int (nI_add (ov * 40) av)) ?_
  refine lv_bipush (v := 40) hx hb dX9_has_10 (by decide) ?_
  refine lv_imul hx hb dX9_has_12 ?_
  refine p1_topr (v := .int (nI (((ov * 40) + av) * 40))) (congrArg Value.int (pk_mul ((ov * 40) + av) 40)) ?_
  refine lv_iload_n hx hb dX9_has_13 rfl (lv_at hl 3 rfl) ?_
  refine lv_iadd hx hb dX9_has_14 ?_
  refine p1_topr (v := .int (nI ((((ov * 40) + av) * 40) + bv))) (congrArg Value.int (nI_add (((ov * 40) + av) * 40) bv)) ?_
  refine va_zald (n := 6400) (f := F 19) hx hb hK hP 20 19 rfl rfl (vp_in_nI (n := (((ov * 40) + av) * 40) + bv) (by omega) (by decide)) dX9_has_15 ?_
  refine lv_topi (fun x1 ex1 => ?_)
  have bx1 : x1 = 0 ∨ x1 = 1 := by rw [ex1]; exact hI.1.2.2.2.2.2.2.2 (nI ((((ov * 40) + av) * 40) + bv)).toNatClampNeg
  exact W.zret (v := x1) hx hb hr (mw_nb bx1) (fun t ht hW => ⟨⟨x1, (F, V), rfl, ⟨rfl, rfl, bx1⟩, by rw [ht]; exact hP, hD⟩, hS.F ht⟩) hS.2.2 dX9_has_16
def wq_m_rests : List Cond := [.code yX9_rests cX9_rests 1 (some .boolean)] ++ (wsX90)
theorem in_m_rests_X9 : ∀ w ∈ wsX90, w ∈ wq_m_rests := fun _ h => List.mem_append_right _ (h)
set_option maxRecDepth 20000 in
theorem wi_m_rests : ∀ w ∈ wq_m_rests, w ∈ lw_tbl := List.forall_mem_append.mpr ⟨(by decide +kernel), inKX9⟩
set_option maxRecDepth 20000 in
theorem wg_m_rests : GoodIn wq_m_rests wq_m_rests := goodIn_sub (fun _ h => h) (by decide +kernel)
def rm_m_rests : Room := { frames := 0, cells := 0, slots := 0, locals := 0 }
set_option maxHeartbeats 4000000 in
set_option maxRecDepth 100000 in
theorem c_m_rests (l : Launch) (dC : Nat → ClassId) (dI : Nat → Nat → Nat) (h : Nat) (a : Nat → Nat) (k : Nat → ClassId) (F : Nat → Nat → Int32) (V : Nat → Int32) (n b : Nat) (p0 : Int32) (sz : Nat) (hI0 : InvM n b F V) (hb0 : b + 0 < 2147483648)  : Met l yX9_rests wq_m_rests rm_m_rests (va_Pc [.int p0] (fun U => U.heap.size = sz ∧ va_P (dC, dI) vwCl (mW h a k F V) U.heap ∧ va_K (dC, dI) vwCl (mT k) U ∧ va_D (fun _ => True) (mW h a k F V))) (va_Qi (fun (r : Int32) (u : (Nat → Nat → Int32) × (Nat → Int32)) => u.1 = F ∧ u.2 = V ∧ (True)) (fun (u : (Nat → Nat → Int32) × (Nat → Int32)) (t : State) => va_P (dC, dI) vwCl (mW h a k u.1 u.2) t.heap ∧ va_D (va_A (mW h a k F V) sz) (mW h a k u.1 u.2)) (va_A (mW h a k F V) sz)) 0 0 (va_A (mW h a k F V) sz) := by
  have hn : n ≤ 40 := hI0.1
  have hI : StM n b F V F V := StM.rf hI0
  have hU : ∀ j : Nat, j ∉ ([] : List Nat) → F j = F j := fun _ _ => rfl
  have hV : ∀ j : Nat, j ∉ ([] : List Nat) → V j = V j := fun _ _ => rfl
  refine Met.ofW (cc := cX9_rests) (maxL := 1) (ret := (some .boolean)) (by decide) rfl ?_
  intro p e s m args below meth c s₁ B hml hv
  obtain ⟨rfl, hsz, hP, hK, hD0⟩ := hv
  have hx := B.exec
  have hb := B.bytes
  have hr := B.returns
  have hts := atoms_spec (ws := wq_m_rests) B.pre
  have hown : s.vm.findClass RX9 = some m.cls := findClass_of_methodNamed B.named
  have hlocks := B.notSynchronized
  subst hsz
  have hD := hD0.self (sz := s.heap.size)
  generalize hAe : va_A (mW h a k F V) s.heap.size = A at hD ⊢
  have hA : ∀ q : Nat, s.heap.size ≤ q → A q := fun q h => by rw [← hAe]; exact Or.inr h
  have hS : va_S A s.heap s.heap [] := va_S.rf
  have hl := lv_entry ([.int p0]) (n := 1) (Nat.le_of_ble_eq_true rfl)
  rw [lg_entry_eq]
  generalize (lg_sl ([.int p0]) ++ List.replicate (1 - (lg_sl ([.int p0])).length) Slot.unset).toArray = ls at hl ⊢
  have hl : lv_has ls 1 [(0, .int p0)] := hl
  refine lv_iload_n hx hb dX9_rests_0 rfl (lv_at hl 0 rfl) ?_
  refine lv_if_eq (tgt := 9) hx hb dX9_rests_1 (by decide) (fun c1 => ?_) (fun c1 => ?_)
  · refine lv_iconst (v := 1) hx hb dX9_rests_9 (by decide) ?_
    refine lv_goto (tgt := 14) hx hb dX9_rests_10 (by decide) ?_
    exact W.zret (v := 1) hx hb hr (by decide) (fun t ht hW => ⟨⟨1, (F, V), rfl, ⟨rfl, rfl, trivial⟩, by rw [ht]; exact hP, hD⟩, hS.F ht⟩) hS.2.2 dX9_rests_14
  · refine lv_iload_n hx hb dX9_rests_4 rfl (lv_at hl 0 rfl) ?_
    refine lv_iconst (v := 4) hx hb dX9_rests_5 (by decide) ?_
    refine lv_icmp_ne (tgt := 13) hx hb dX9_rests_6 (by decide) (fun c2 => ?_) (fun c2 => ?_)
    · refine lv_iconst (v := 0) hx hb dX9_rests_13 (by decide) ?_
      exact W.zret (v := 0) hx hb hr (by decide) (fun t ht hW => ⟨⟨0, (F, V), rfl, ⟨rfl, rfl, trivial⟩, by rw [ht]; exact hP, hD⟩, hS.F ht⟩) hS.2.2 dX9_rests_14
    · refine lv_iconst (v := 1) hx hb dX9_rests_9 (by decide) ?_
      refine lv_goto (tgt := 14) hx hb dX9_rests_10 (by decide) ?_
      exact W.zret (v := 1) hx hb hr (by decide) (fun t ht hW => ⟨⟨1, (F, V), rfl, ⟨rfl, rfl, trivial⟩, by rw [ht]; exact hP, hD⟩, hS.F ht⟩) hS.2.2 dX9_rests_14
def wq_m_waitsFor : List Cond := [.code yX9_waitsFor cX9_waitsFor 2 (some .boolean)] ++ (wsX90)
theorem in_m_waitsFor_X9 : ∀ w ∈ wsX90, w ∈ wq_m_waitsFor := fun _ h => List.mem_append_right _ (h)
set_option maxRecDepth 20000 in
theorem wi_m_waitsFor : ∀ w ∈ wq_m_waitsFor, w ∈ lw_tbl := List.forall_mem_append.mpr ⟨(by decide +kernel), inKX9⟩
set_option maxRecDepth 20000 in
theorem wg_m_waitsFor : GoodIn wq_m_waitsFor wq_m_waitsFor := goodIn_sub (fun _ h => h) (by decide +kernel)
def rm_m_waitsFor : Room := { frames := 0, cells := 0, slots := 0, locals := 0 }
set_option maxHeartbeats 4000000 in
set_option maxRecDepth 100000 in
theorem c_m_waitsFor (l : Launch) (dC : Nat → ClassId) (dI : Nat → Nat → Nat) (h : Nat) (a : Nat → Nat) (k : Nat → ClassId) (F : Nat → Nat → Int32) (V : Nat → Int32) (n b : Nat) (p0 : Int32) (p1 : Int32) (sz : Nat) (hI0 : InvM n b F V) (hb0 : b + 0 < 2147483648)  : Met l yX9_waitsFor wq_m_waitsFor rm_m_waitsFor (va_Pc [.int p0, .int p1] (fun U => U.heap.size = sz ∧ va_P (dC, dI) vwCl (mW h a k F V) U.heap ∧ va_K (dC, dI) vwCl (mT k) U ∧ va_D (fun _ => True) (mW h a k F V))) (va_Qi (fun (r : Int32) (u : (Nat → Nat → Int32) × (Nat → Int32)) => u.1 = F ∧ u.2 = V ∧ (True)) (fun (u : (Nat → Nat → Int32) × (Nat → Int32)) (t : State) => va_P (dC, dI) vwCl (mW h a k u.1 u.2) t.heap ∧ va_D (va_A (mW h a k F V) sz) (mW h a k u.1 u.2)) (va_A (mW h a k F V) sz)) 0 0 (va_A (mW h a k F V) sz) := by
  have hn : n ≤ 40 := hI0.1
  have hI : StM n b F V F V := StM.rf hI0
  have hU : ∀ j : Nat, j ∉ ([] : List Nat) → F j = F j := fun _ _ => rfl
  have hV : ∀ j : Nat, j ∉ ([] : List Nat) → V j = V j := fun _ _ => rfl
  refine Met.ofW (cc := cX9_waitsFor) (maxL := 2) (ret := (some .boolean)) (by decide) rfl ?_
  intro p e s m args below meth c s₁ B hml hv
  obtain ⟨rfl, hsz, hP, hK, hD0⟩ := hv
  have hx := B.exec
  have hb := B.bytes
  have hr := B.returns
  have hts := atoms_spec (ws := wq_m_waitsFor) B.pre
  have hown : s.vm.findClass RX9 = some m.cls := findClass_of_methodNamed B.named
  have hlocks := B.notSynchronized
  subst hsz
  have hD := hD0.self (sz := s.heap.size)
  generalize hAe : va_A (mW h a k F V) s.heap.size = A at hD ⊢
  have hA : ∀ q : Nat, s.heap.size ≤ q → A q := fun q h => by rw [← hAe]; exact Or.inr h
  have hS : va_S A s.heap s.heap [] := va_S.rf
  have hl := lv_entry ([.int p0, .int p1]) (n := 2) (Nat.le_of_ble_eq_true rfl)
  rw [lg_entry_eq]
  generalize (lg_sl ([.int p0, .int p1]) ++ List.replicate (2 - (lg_sl ([.int p0, .int p1])).length) Slot.unset).toArray = ls at hl ⊢
  have hl : lv_has ls 2 [(0, .int p0), (1, .int p1)] := hl
  refine lv_iload_n hx hb dX9_waitsFor_0 rfl (lv_at hl 0 rfl) ?_
  refine lv_if_eq (tgt := 12) hx hb dX9_waitsFor_1 (by decide) (fun c1 => ?_) (fun c1 => ?_)
  · refine lv_iconst (v := 0) hx hb dX9_waitsFor_12 (by decide) ?_
    exact W.zret (v := 0) hx hb hr (by decide) (fun t ht hW => ⟨⟨0, (F, V), rfl, ⟨rfl, rfl, trivial⟩, by rw [ht]; exact hP, hD⟩, hS.F ht⟩) hS.2.2 dX9_waitsFor_13
  · refine lv_iload_n hx hb dX9_waitsFor_4 rfl (lv_at hl 1 rfl) ?_
    refine lv_if_eq (tgt := 12) hx hb dX9_waitsFor_5 (by decide) (fun c2 => ?_) (fun c2 => ?_)
    · refine lv_iconst (v := 0) hx hb dX9_waitsFor_12 (by decide) ?_
      exact W.zret (v := 0) hx hb hr (by decide) (fun t ht hW => ⟨⟨0, (F, V), rfl, ⟨rfl, rfl, trivial⟩, by rw [ht]; exact hP, hD⟩, hS.F ht⟩) hS.2.2 dX9_waitsFor_13
    · refine lv_iconst (v := 1) hx hb dX9_waitsFor_8 (by decide) ?_
      refine lv_goto (tgt := 13) hx hb dX9_waitsFor_9 (by decide) ?_
      exact W.zret (v := 1) hx hb hr (by decide) (fun t ht hW => ⟨⟨1, (F, V), rfl, ⟨rfl, rfl, trivial⟩, by rw [ht]; exact hP, hD⟩, hS.F ht⟩) hS.2.2 dX9_waitsFor_13
