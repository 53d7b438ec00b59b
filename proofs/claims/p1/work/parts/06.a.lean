theorem dX8_life_0 : decode cX8_life 0 = .ok (.aload_n 0, 1) := by decide +kernel
theorem dX8_life_1 : decode cX8_life 1 = .ok (.iload_n 1, 1) := by decide +kernel
theorem dX8_life_2 : decode cX8_life 2 = .ok (.invokevirtual 82, 3) := by decide +kernel
theorem dX8_life_5 : decode cX8_life 5 = .ok (.ifCond .eq 24, 3) := by decide +kernel
theorem dX8_life_29 : decode cX8_life 29 = .ok (.iconst (-1), 1) := by decide +kernel
theorem dX8_life_30 : decode cX8_life 30 = .ok (.ireturn, 1) := by decide +kernel
theorem dX8_again_0 : decode cX8_again 0 = .ok (.aload_n 0, 1) := by decide +kernel
theorem dX8_again_1 : decode cX8_again 1 = .ok (.iload_n 1, 1) := by decide +kernel
theorem dX8_again_2 : decode cX8_again 2 = .ok (.invokevirtual 82, 3) := by decide +kernel
theorem dX8_again_5 : decode cX8_again 5 = .ok (.ifCond .eq 35, 3) := by decide +kernel
theorem dX8_again_40 : decode cX8_again 40 = .ok (.iconst (-1), 1) := by decide +kernel
theorem dX8_again_41 : decode cX8_again 41 = .ok (.ireturn, 1) := by decide +kernel
theorem dX8_relation_0 : decode cX8_relation 0 = .ok (.aload_n 0, 1) := by decide +kernel
theorem dX8_relation_1 : decode cX8_relation 1 = .ok (.iload_n 1, 1) := by decide +kernel
theorem dX8_relation_2 : decode cX8_relation 2 = .ok (.iload_n 2, 1) := by decide +kernel
theorem dX8_relation_3 : decode cX8_relation 3 = .ok (.iload_n 3, 1) := by decide +kernel
theorem dX8_relation_4 : decode cX8_relation 4 = .ok (.invokevirtual 107, 3) := by decide +kernel
theorem dX8_relation_7 : decode cX8_relation 7 = .ok (.ifCond .ne 5, 3) := by decide +kernel
theorem dX8_relation_10 : decode cX8_relation 10 = .ok (.iconst (-1), 1) := by decide +kernel
theorem dX8_relation_11 : decode cX8_relation 11 = .ok (.ireturn, 1) := by decide +kernel
theorem dX8_undo_0 : decode cX8_undo 0 = .ok (.aload_n 0, 1) := by decide +kernel
theorem dX8_undo_1 : decode cX8_undo 1 = .ok (.iload_n 1, 1) := by decide +kernel
theorem dX8_undo_2 : decode cX8_undo 2 = .ok (.iload_n 2, 1) := by decide +kernel
theorem dX8_undo_3 : decode cX8_undo 3 = .ok (.iload_n 3, 1) := by decide +kernel
theorem dX8_undo_4 : decode cX8_undo 4 = .ok (.invokevirtual 107, 3) := by decide +kernel
theorem dX8_undo_7 : decode cX8_undo 7 = .ok (.ifCond .ne 5, 3) := by decide +kernel
theorem dX8_undo_10 : decode cX8_undo 10 = .ok (.iconst (-1), 1) := by decide +kernel
theorem dX8_undo_11 : decode cX8_undo 11 = .ok (.ireturn, 1) := by decide +kernel
theorem dX8_letter_0 : decode cX8_letter 0 = .ok (.aload_n 0, 1) := by decide +kernel
theorem dX8_letter_1 : decode cX8_letter 1 = .ok (.iload_n 1, 1) := by decide +kernel
theorem dX8_letter_2 : decode cX8_letter 2 = .ok (.invokevirtual 82, 3) := by decide +kernel
theorem dX8_letter_5 : decode cX8_letter 5 = .ok (.ifCond .ne 5, 3) := by decide +kernel
theorem dX8_letter_8 : decode cX8_letter 8 = .ok (.iconst (-1), 1) := by decide +kernel
theorem dX8_letter_9 : decode cX8_letter 9 = .ok (.ireturn, 1) := by decide +kernel
theorem dX8_about_0 : decode cX8_about 0 = .ok (.aload_n 0, 1) := by decide +kernel
theorem dX8_about_1 : decode cX8_about 1 = .ok (.iload_n 1, 1) := by decide +kernel
theorem dX8_about_2 : decode cX8_about 2 = .ok (.invokevirtual 82, 3) := by decide +kernel
theorem dX8_about_5 : decode cX8_about 5 = .ok (.ifCond .ne 5, 3) := by decide +kernel
theorem dX8_about_8 : decode cX8_about 8 = .ok (.iconst (-1), 1) := by decide +kernel
theorem dX8_about_9 : decode cX8_about 9 = .ok (.ireturn, 1) := by decide +kernel
theorem dX8_related_0 : decode cX8_related 0 = .ok (.aload_n 0, 1) := by decide +kernel
theorem dX8_related_1 : decode cX8_related 1 = .ok (.iload_n 1, 1) := by decide +kernel
theorem dX8_related_2 : decode cX8_related 2 = .ok (.iload_n 2, 1) := by decide +kernel
theorem dX8_related_3 : decode cX8_related 3 = .ok (.iload_n 3, 1) := by decide +kernel
theorem dX8_related_4 : decode cX8_related 4 = .ok (.invokevirtual 107, 3) := by decide +kernel
theorem dX8_related_7 : decode cX8_related 7 = .ok (.ifCond .ne 5, 3) := by decide +kernel
theorem dX8_related_10 : decode cX8_related 10 = .ok (.iconst (-1), 1) := by decide +kernel
theorem dX8_related_11 : decode cX8_related 11 = .ok (.ireturn, 1) := by decide +kernel
theorem dX8_waits_0 : decode cX8_waits 0 = .ok (.aload_n 0, 1) := by decide +kernel
theorem dX8_waits_1 : decode cX8_waits 1 = .ok (.iload_n 1, 1) := by decide +kernel
theorem dX8_waits_2 : decode cX8_waits 2 = .ok (.invokevirtual 82, 3) := by decide +kernel
theorem dX8_waits_5 : decode cX8_waits 5 = .ok (.ifCond .eq 12, 3) := by decide +kernel
theorem dX8_waits_17 : decode cX8_waits 17 = .ok (.iconst (-1), 1) := by decide +kernel
theorem dX8_waits_18 : decode cX8_waits 18 = .ok (.ireturn, 1) := by decide +kernel
theorem dX8_within_0 : decode cX8_within 0 = .ok (.iload_n 0, 1) := by decide +kernel
theorem dX8_within_1 : decode cX8_within 1 = .ok (.iload_n 1, 1) := by decide +kernel
theorem dX8_within_2 : decode cX8_within 2 = .ok (.if_icmp .lt 12, 3) := by decide +kernel
theorem dX8_within_5 : decode cX8_within 5 = .ok (.iload_n 0, 1) := by decide +kernel
theorem dX8_within_6 : decode cX8_within 6 = .ok (.iload_n 2, 1) := by decide +kernel
theorem dX8_within_7 : decode cX8_within 7 = .ok (.if_icmp .gt 7, 3) := by decide +kernel
theorem dX8_within_10 : decode cX8_within 10 = .ok (.iconst 1, 1) := by decide +kernel
theorem dX8_within_11 : decode cX8_within 11 = .ok (.goto 4, 3) := by decide +kernel
theorem dX8_within_14 : decode cX8_within 14 = .ok (.iconst 0, 1) := by decide +kernel
theorem dX8_within_15 : decode cX8_within 15 = .ok (.ireturn, 1) := by decide +kernel
theorem dX8_exists_0 : decode cX8_exists 0 = .ok (.iload_n 1, 1) := by decide +kernel
theorem dX8_exists_1 : decode cX8_exists 1 = .ok (.iconst 0, 1) := by decide +kernel
theorem dX8_exists_2 : decode cX8_exists 2 = .ok (.aload_n 0, 1) := by decide +kernel
theorem dX8_exists_3 : decode cX8_exists 3 = .ok (.getfield 10, 3) := by decide +kernel
theorem dX8_exists_6 : decode cX8_exists 6 = .ok (.invokevirtual 61, 3) := by decide +kernel
theorem dX8_exists_9 : decode cX8_exists 9 = .ok (.iconst 1, 1) := by decide +kernel
theorem dX8_exists_10 : decode cX8_exists 10 = .ok (.isub, 1) := by decide +kernel
theorem dX8_exists_11 : decode cX8_exists 11 = .ok (.invokestatic 57, 3) := by decide +kernel
theorem dX8_exists_14 : decode cX8_exists 14 = .ok (.ireturn, 1) := by decide +kernel
theorem dX8_canRelate_0 : decode cX8_canRelate 0 = .ok (.iload_n 1, 1) := by decide +kernel
theorem dX8_canRelate_1 : decode cX8_canRelate 1 = .ok (.iconst 0, 1) := by decide +kernel
theorem dX8_canRelate_2 : decode cX8_canRelate 2 = .ok (.iconst 3, 1) := by decide +kernel
theorem dX8_canRelate_3 : decode cX8_canRelate 3 = .ok (.invokestatic 57, 3) := by decide +kernel
theorem dX8_canRelate_6 : decode cX8_canRelate 6 = .ok (.ifCond .eq 28, 3) := by decide +kernel
theorem dX8_canRelate_9 : decode cX8_canRelate 9 = .ok (.aload_n 0, 1) := by decide +kernel
theorem dX8_canRelate_10 : decode cX8_canRelate 10 = .ok (.iload_n 2, 1) := by decide +kernel
theorem dX8_canRelate_11 : decode cX8_canRelate 11 = .ok (.invokevirtual 82, 3) := by decide +kernel
theorem dX8_canRelate_14 : decode cX8_canRelate 14 = .ok (.ifCond .eq 20, 3) := by decide +kernel
theorem dX8_canRelate_34 : decode cX8_canRelate 34 = .ok (.iconst 0, 1) := by decide +kernel
theorem dX8_canRelate_35 : decode cX8_canRelate 35 = .ok (.ireturn, 1) := by decide +kernel
theorem dJx4a65c_size_8abf5_0 : decode cJx4a65c_size_8abf5 0 = .ok (.aload_n 0, 1) := by decide +kernel
theorem dJx4a65c_size_8abf5_1 : decode cJx4a65c_size_8abf5 1 = .ok (.getfield 48, 3) := by decide +kernel
theorem dJx4a65c_size_8abf5_4 : decode cJx4a65c_size_8abf5 4 = .ok (.ireturn, 1) := by decide +kernel
def wq_within : List Cond := [.code yX8_within cX8_within 3 (some .boolean)]
set_option maxRecDepth 20000 in
theorem wi_within : ∀ w ∈ wq_within, w ∈ lw_tbl := (by decide +kernel)
set_option maxRecDepth 20000 in
theorem wg_within : GoodIn wq_within wq_within := goodIn_sub (fun _ h => h) (by decide +kernel)
set_option maxHeartbeats 4000000 in
set_option maxRecDepth 100000 in
theorem c_within (l : Launch) (dC : Nat → ClassId) (dI : Nat → Nat → Nat) (p0 : Int32) (p1 : Int32) (p2 : Int32) (sz : Nat) : Met l yX8_within wq_within ({ frames := 0, cells := 0, slots := 0, locals := 0 }) (va_Pc [.int p0, .int p1, .int p2] (fun U => U.heap.size = sz ∧ va_P (dC, dI) vwCl [] U.heap ∧ va_K (dC, dI) vwCl [] U ∧ va_D (fun _ => True) [] ∧ pw_N U)) (va_Qi (fun (r : Int32) (_ : Unit) => r = if p1 ≤ p0 ∧ p0 ≤ p2 then 1 else 0) (fun (_ : Unit) (t : State) => va_P (dC, dI) vwCl [] t.heap ∧ va_D (va_A [] sz) []) (va_A [] sz)) 0 0 (va_A [] sz) := by
  refine Met.ofW (cc := cX8_within) (maxL := 3) (ret := (some .boolean)) (by decide) rfl ?_
  intro p e s m args below meth c s₁ B hml hv
  obtain ⟨rfl, hsz, hP, hK, hD0, hN⟩ := hv
  have hx := B.exec
  have hb := B.bytes
  have hr := B.returns
  have hts := atoms_spec (ws := wq_within) B.pre
  have hown : s.vm.findClass RX8 = some m.cls := findClass_of_methodNamed B.named
  have hlocks := B.notSynchronized
  subst hsz
  have hD := hD0.self (sz := s.heap.size)
  generalize hAe : va_A [] s.heap.size = A at hD ⊢
  have hA : ∀ q : Nat, s.heap.size ≤ q → A q := fun q h => by rw [← hAe]; exact Or.inr h
  have hS : va_S A s.heap s.heap [] := va_S.rf
  have hP : va_P (dC, dI) vwCl [] s.heap := hP
  have hl := lv_entry ([.int p0, .int p1, .int p2]) (n := 3) (Nat.le_of_ble_eq_true rfl)
  rw [lg_entry_eq]
  generalize (lg_sl ([.int p0, .int p1, .int p2]) ++ List.replicate (3 - (lg_sl ([.int p0, .int p1, .int p2])).length) Slot.unset).toArray = ls at hl ⊢
  have hl : lv_has ls 3 [(0, .int p0), (1, .int p1), (2, .int p2)] := hl
  refine lv_iload_n hx hb dX8_within_0 rfl (lv_at hl 0 rfl) ?_
  refine lv_iload_n hx hb dX8_within_1 rfl (lv_at hl 1 rfl) ?_
  refine lv_icmp_lt (tgt := 14) hx hb dX8_within_2 (by decide) (fun c_1 => ?_) (fun c_1 => ?_)
  · refine lv_iconst (v := 0) hx hb dX8_within_14 (by decide) ?_
    have hP9 := hP.sub (ws' := []) [] rfl
    have hD9 := hD.sub (ws' := []) [] (by decide) rfl
    exact W.zret (v := 0) hx hb hr (by decide) (fun t ht hW => ⟨⟨0, (), rfl, (if_neg (by have k0 := c_1; simp only [p1_le, p1_lt, p1_eq, p1_m6, p1_m1, p1_0, p1_1, p1_2, p1_3, p1_4, p1_5, p1_6, p1_7, p1_8, p1_9, p1_10, p1_11, p1_12, p1_13, p1_14, p1_15, p1_16, p1_17, p1_18, p1_19, p1_20, p1_40, p1_50, p1_200, p1_1000] at k0 ⊢; omega)).symm, by rw [ht]; exact hP9, hD9⟩, hS.F ht⟩) hS.2.2 dX8_within_15
  · refine lv_iload_n hx hb dX8_within_5 rfl (lv_at hl 0 rfl) ?_
    refine lv_iload_n hx hb dX8_within_6 rfl (lv_at hl 2 rfl) ?_
    refine lv_icmp_gt (tgt := 14) hx hb dX8_within_7 (by decide) (fun c_2 => ?_) (fun c_2 => ?_)
    · refine lv_iconst (v := 0) hx hb dX8_within_14 (by decide) ?_
      have hP9 := hP.sub (ws' := []) [] rfl
      have hD9 := hD.sub (ws' := []) [] (by decide) rfl
      exact W.zret (v := 0) hx hb hr (by decide) (fun t ht hW => ⟨⟨0, (), rfl, (if_neg (by have k0 := c_1; have k1 := c_2; simp only [p1_le, p1_lt, p1_eq, p1_m6, p1_m1, p1_0, p1_1, p1_2, p1_3, p1_4, p1_5, p1_6, p1_7, p1_8, p1_9, p1_10, p1_11, p1_12, p1_13, p1_14, p1_15, p1_16, p1_17, p1_18, p1_19, p1_20, p1_40, p1_50, p1_200, p1_1000] at k0 k1 ⊢; omega)).symm, by rw [ht]; exact hP9, hD9⟩, hS.F ht⟩) hS.2.2 dX8_within_15
    · refine lv_iconst (v := 1) hx hb dX8_within_10 (by decide) ?_
      refine lv_goto (tgt := 15) hx hb dX8_within_11 (by decide) ?_
      have hP9 := hP.sub (ws' := []) [] rfl
      have hD9 := hD.sub (ws' := []) [] (by decide) rfl
      exact W.zret (v := 1) hx hb hr (by decide) (fun t ht hW => ⟨⟨1, (), rfl, (if_pos (by have k0 := c_1; have k1 := c_2; simp only [p1_le, p1_lt, p1_eq, p1_m6, p1_m1, p1_0, p1_1, p1_2, p1_3, p1_4, p1_5, p1_6, p1_7, p1_8, p1_9, p1_10, p1_11, p1_12, p1_13, p1_14, p1_15, p1_16, p1_17, p1_18, p1_19, p1_20, p1_40, p1_50, p1_200, p1_1000] at k0 k1 ⊢; omega)).symm, by rw [ht]; exact hP9, hD9⟩, hS.F ht⟩) hS.2.2 dX8_within_15
def wq_size : List Cond := [.code yJx4a65c_size_8abf5 cJx4a65c_size_8abf5 1 (some .int), .fieldLink RJx4a65c 48 "java/util/ArrayList" "size" "I"] ++ (wsJx4a65c0)
theorem in_size_Jx4a65c : ∀ w ∈ wsJx4a65c0, w ∈ wq_size := fun _ h => List.mem_append_right _ (h)
set_option maxRecDepth 20000 in
theorem wi_size : ∀ w ∈ wq_size, w ∈ lw_tbl := List.forall_mem_append.mpr ⟨(by decide +kernel), inKJx4a65c⟩
set_option maxRecDepth 20000 in
theorem wg_size : GoodIn wq_size wq_size := goodIn_sub (fun _ h => h) (by decide +kernel)
set_option maxHeartbeats 4000000 in
set_option maxRecDepth 100000 in
theorem c_size (l : Launch) (dC : Nat → ClassId) (dI : Nat → Nat → Nat) (h0 : Nat) (z : Nat) (sz : Nat) : Met l yJx4a65c_size_8abf5 wq_size ({ frames := 0, cells := 0, slots := 0, locals := 0 }) (va_Pc [.ref h0] (fun U => U.heap.size = sz ∧ va_P (dC, dI) vwCl [(h0, .inr (0, [.int 0, .ref z, .int 0]))] U.heap ∧ va_K (dC, dI) vwCl [] U ∧ va_D (fun _ => True) [(h0, .inr (0, [.int 0, .ref z, .int 0]))] ∧ pw_N U)) (va_Qi (fun (r : Int32) (_ : Unit) => r = 0) (fun (_ : Unit) (t : State) => va_P (dC, dI) vwCl [(h0, .inr (0, [.int 0, .ref z, .int 0]))] t.heap ∧ va_D (va_A [(h0, .inr (0, [.int 0, .ref z, .int 0]))] sz) [(h0, .inr (0, [.int 0, .ref z, .int 0]))]) (va_A [(h0, .inr (0, [.int 0, .ref z, .int 0]))] sz)) 0 0 (va_A [(h0, .inr (0, [.int 0, .ref z, .int 0]))] sz) := by
  refine Met.ofW (cc := cJx4a65c_size_8abf5) (maxL := 1) (ret := (some .int)) (by decide) rfl ?_
  intro p e s m args below meth c s₁ B hml hv
  obtain ⟨rfl, hsz, hP, hK, hD0, hN⟩ := hv
  have hx := B.exec
  have hb := B.bytes
  have hr := B.returns
  have hts := atoms_spec (ws := wq_size) B.pre
  have hown : s.vm.findClass RJx4a65c = some m.cls := findClass_of_methodNamed B.named
  have hlocks := B.notSynchronized
  subst hsz
  have hD := hD0.self (sz := s.heap.size)
  generalize hAe : va_A [(h0, .inr (0, [.int 0, .ref z, .int 0]))] s.heap.size = A at hD ⊢
  have hA : ∀ q : Nat, s.heap.size ≤ q → A q := fun q h => by rw [← hAe]; exact Or.inr h
  have hS : va_S A s.heap s.heap [] := va_S.rf
  have hP : va_P (dC, dI) vwCl [(h0, .inr (0, [.int 0, .ref z, .int 0]))] s.heap := hP
  have hl := lv_entry ([.ref h0]) (n := 1) (Nat.le_of_ble_eq_true rfl)
  rw [lg_entry_eq]
  generalize (lg_sl ([.ref h0]) ++ List.replicate (1 - (lg_sl ([.ref h0])).length) Slot.unset).toArray = ls at hl ⊢
  have hl : lv_has ls 1 [(0, .ref h0)] := hl
  refine lv_aload_n hx hb dJx4a65c_size_8abf5_0 rfl (lv_at hl 0 rfl) ?_
  refine va_get (D := (dC, dI)) (ci := 0) (v := .int 0) (C := RJx4a65c) (T := TJx4a65c) (N := 3) hx hb hts in_size_Jx4a65c hown hK hP 0 rfl rfl 2 (by decide) (hts (.fieldLink RJx4a65c 48 "java/util/ArrayList" "size" "I") (by decide +kernel)) (fun _ h9 => h9) rfl dJx4a65c_size_8abf5_1 ?_
  have hP9 := hP.sub (ws' := [(h0, .inr (0, [.int 0, .ref z, .int 0]))]) [0] rfl
  have hD9 := hD.sub (ws' := [(h0, .inr (0, [.int 0, .ref z, .int 0]))]) [0] (by decide) rfl
  exact W.iret (v := 0) hx hb hr (fun t ht hW => ⟨⟨0, (), rfl, rfl, by rw [ht]; exact hP9, hD9⟩, hS.F ht⟩) hS.2.2 dJx4a65c_size_8abf5_4
def wq_exists : List Cond := [.code yX8_exists cX8_exists 2 (some .boolean), .fieldLink RX8 10 "ServiceTree" "services" "Ljava/util/ArrayList;", .methodLink RX8 61 yJx4a65c_size_8abf5, .instanceMethod yJx4a65c_size_8abf5, .selects RJx4a65c yJx4a65c_size_8abf5 yJx4a65c_size_8abf5, .initialized RJx4a65c, .methodLink RX8 57 yX8_within, .static yX8_within, .initialized RX8] ++ (wsX80 ++ (wq_size ++ (wq_within)))
theorem in_exists_X8 : ∀ w ∈ wsX80, w ∈ wq_exists := fun _ h => List.mem_append_right _ (List.mem_append_left _ (h))
set_option maxRecDepth 20000 in
theorem wi_exists : ∀ w ∈ wq_exists, w ∈ lw_tbl := List.forall_mem_append.mpr ⟨(by decide +kernel), List.forall_mem_append.mpr ⟨inKX8, List.forall_mem_append.mpr ⟨wi_size, wi_within⟩⟩⟩
set_option maxRecDepth 20000 in
theorem wg_exists : GoodIn wq_exists wq_exists := goodIn_sub (fun _ h => h) (by decide +kernel)
set_option maxRecDepth 20000 in
theorem wc_exists_size_61 : GoodIn wq_exists (wsV RX8 61 RJx4a65c yJx4a65c_size_8abf5 wq_size) := goodIn_app (goodIn_of _ (by decide +kernel)) (fun w h => ⟨List.mem_append_right _ (List.mem_append_right _ (List.mem_append_left _ (h))), (wg_size w h).2⟩)
set_option maxRecDepth 20000 in
theorem wc_exists_within_57 : GoodIn wq_exists (va_wsS RX8 57 yX8_within wq_within) := goodIn_app (goodIn_of _ (by decide +kernel)) (fun w h => ⟨List.mem_append_right _ (List.mem_append_right _ (List.mem_append_right _ (h))), (wg_within w h).2⟩)
set_option maxHeartbeats 4000000 in
set_option maxRecDepth 100000 in
theorem c_exists (l : Launch) (dC : Nat → ClassId) (dI : Nat → Nat → Nat) (h0 : Nat) (a : Nat → Nat) (z : Nat) (nw : Int32) (p0 : Int32) (sz : Nat) : Met l yX8_exists wq_exists ({ frames := 1, cells := 0, slots := 0, locals := 22 }) (va_Pc [.ref h0, .int p0] (fun U => U.heap.size = sz ∧ va_P (dC, dI) vwCl [(h0, .inr (9, [.ref (a 0), .ref (a 1), .ref (a 2), .ref (a 3), .ref (a 4), .ref (a 5), .ref (a 6), .long 0, .long 0, .int nw, .int 0, .int 0, .int 0, .int 0])), (a 0, .inr (0, [.int 0, .ref z, .int 0]))] U.heap ∧ va_K (dC, dI) vwCl [] U ∧ va_D (fun _ => True) [(h0, .inr (9, [.ref (a 0), .ref (a 1), .ref (a 2), .ref (a 3), .ref (a 4), .ref (a 5), .ref (a 6), .long 0, .long 0, .int nw, .int 0, .int 0, .int 0, .int 0])), (a 0, .inr (0, [.int 0, .ref z, .int 0]))] ∧ pw_N U)) (va_Qi (fun (r : Int32) (_ : Unit) => r = 0) (fun (_ : Unit) (t : State) => va_P (dC, dI) vwCl [(h0, .inr (9, [.ref (a 0), .ref (a 1), .ref (a 2), .ref (a 3), .ref (a 4), .ref (a 5), .ref (a 6), .long 0, .long 0, .int nw, .int 0, .int 0, .int 0, .int 0])), (a 0, .inr (0, [.int 0, .ref z, .int 0]))] t.heap ∧ va_D (va_A [(h0, .inr (9, [.ref (a 0), .ref (a 1), .ref (a 2), .ref (a 3), .ref (a 4), .ref (a 5), .ref (a 6), .long 0, .long 0, .int nw, .int 0, .int 0, .int 0, .int 0])), (a 0, .inr (0, [.int 0, .ref z, .int 0]))] sz) [(h0, .inr (9, [.ref (a 0), .ref (a 1), .ref (a 2), .ref (a 3), .ref (a 4), .ref (a 5), .ref (a 6), .long 0, .long 0, .int nw, .int 0, .int 0, .int 0, .int 0])), (a 0, .inr (0, [.int 0, .ref z, .int 0]))]) (va_A [(h0, .inr (9, [.ref (a 0), .ref (a 1), .ref (a 2), .ref (a 3), .ref (a 4), .ref (a 5), .ref (a 6), .long 0, .long 0, .int nw, .int 0, .int 0, .int 0, .int 0])), (a 0, .inr (0, [.int 0, .ref z, .int 0]))] sz)) 0 0 (va_A [(h0, .inr (9, [.ref (a 0), .ref (a 1), .ref (a 2), .ref (a 3), .ref (a 4), .ref (a 5), .ref (a 6), .long 0, .long 0, .int nw, .int 0, .int 0, .int 0, .int 0])), (a 0, .inr (0, [.int 0, .ref z, .int 0]))] sz) := by
  refine Met.ofW (cc := cX8_exists) (maxL := 2) (ret := (some .boolean)) (by decide) rfl ?_
  intro p e s m args below meth c s₁ B hml hv
  obtain ⟨rfl, hsz, hP, hK, hD0, hN⟩ := hv
  have hx := B.exec
  have hb := B.bytes
  have hr := B.returns
  have hts := atoms_spec (ws := wq_exists) B.pre
  have hown : s.vm.findClass RX8 = some m.cls := findClass_of_methodNamed B.named
  have hlocks := B.notSynchronized
  subst hsz
  have hD := hD0.self (sz := s.heap.size)
  generalize hAe : va_A [(h0, .inr (9, [.ref (a 0), .ref (a 1), .ref (a 2), .ref (a 3), .ref (a 4), .ref (a 5), .ref (a 6), .long 0, .long 0, .int nw, .int 0, .int 0, .int 0, .int 0])), (a 0, .inr (0, [.int 0, .ref z, .int 0]))] s.heap.size = A at hD ⊢
  have hA : ∀ q : Nat, s.heap.size ≤ q → A q := fun q h => by rw [← hAe]; exact Or.inr h
  have hS : va_S A s.heap s.heap [] := va_S.rf
  have hP : va_P (dC, dI) vwCl [(h0, .inr (9, [.ref (a 0), .ref (a 1), .ref (a 2), .ref (a 3), .ref (a 4), .ref (a 5), .ref (a 6), .long 0, .long 0, .int nw, .int 0, .int 0, .int 0, .int 0])), (a 0, .inr (0, [.int 0, .ref z, .int 0]))] s.heap := hP
  have hl := lv_entry ([.ref h0, .int p0]) (n := 2) (Nat.le_of_ble_eq_true rfl)
  rw [lg_entry_eq]
  generalize (lg_sl ([.ref h0, .int p0]) ++ List.replicate (2 - (lg_sl ([.ref h0, .int p0])).length) Slot.unset).toArray = ls at hl ⊢
  have hl : lv_has ls 2 [(0, .ref h0), (1, .int p0)] := hl
  refine lv_iload_n hx hb dX8_exists_0 rfl (lv_at hl 1 rfl) ?_
  refine lv_iconst (v := 0) hx hb dX8_exists_1 (by decide) ?_
  refine lv_aload_n hx hb dX8_exists_2 rfl (lv_at hl 0 rfl) ?_
  refine va_get (D := (dC, dI)) (ci := 9) (v := .ref (a 0)) (C := RX8) (T := TX8) (N := 14) hx hb hts in_exists_X8 hown hK hP 0 rfl rfl 0 (by decide) (hts (.fieldLink RX8 10 "ServiceTree" "services" "Ljava/util/ArrayList;") (by decide +kernel)) (fun _ h9 => h9) rfl dX8_exists_3 ?_
  have hPc := hP.sub (ws' := [(a 0, .inr (0, [.int 0, .ref z, .int 0]))]) [1] rfl
  have hDc := hD.sub (ws' := [(a 0, .inr (0, [.int 0, .ref z, .int 0]))]) [1] (by decide) rfl
  have hKc := hK.sub (tys' := []) [] rfl
  have hFc := va_free (wc := [(a 0, .inr (0, [.int 0, .ref z, .int 0]))]) hD hS hA [1] rfl
  refine va_calli (va_runV (As := []) (rest := [.int 0, .int p0]) ⟨hx, hb, hml, hown, hts⟩ (c_size l dC dI (a 0) z s.heap.size) (cwV 0 hts wc_exists_size_61 rfl rfl rfl (by decide +kernel) ⟨Nat.le_of_ble_eq_true rfl, Nat.le_of_ble_eq_true rfl⟩) ⟨fun a U g mk q => by obtain ⟨q0, q1, qP, qK, qD, qN⟩ := q; exact ⟨q0, q1, qP, va_K.moved (u := U) (U := U.calling g mk a) (Vm.Alike.refl U.vm) qK, qD, pw_N.same (u := U) (U := U.calling g mk a) rfl qN⟩, va_recv hKc hPc (ci := 0) (q0 := 0) rfl rfl, fun U hU hW => ⟨rfl, by rw [hU], by rw [hU]; exact hPc, va_K.moved hW.alike hKc, hDc.weaken (fun _ _ _ _ => trivial), pw_N.warm hW hN⟩⟩ rfl rfl hl.1 rfl (lv_room (Nat.le_of_ble_eq_true rfl)) dX8_exists_6 ⟨Nat.le_of_ble_eq_true rfl, Nat.le_of_ble_eq_true rfl⟩) hS (fun q _ h => hFc q h) hFc (fun r_1 u t H1 locs ht hvm hw hB hz1 hk1 hS => ?_)
  obtain ⟨hP1, hD1⟩ := hB
  rw [ht] at hP1
  obtain ⟨hP, hD⟩ := va_join (wr := [(h0, .inr (9, [.ref (a 0), .ref (a 1), .ref (a 2), .ref (a 3), .ref (a 4), .ref (a 5), .ref (a 6), .long 0, .long 0, .int nw, .int 0, .int 0, .int 0, .int 0]))]) (w1 := [(a 0, .inr (0, [.int 0, .ref z, .int 0]))]) hP hD [1] [0] rfl rfl (by decide) (by decide) hk1 hFc hP1 hD1
  generalize H1 = H at hP hS ⊢
  replace hP : va_P (dC, dI) vwCl [(h0, .inr (9, [.ref (a 0), .ref (a 1), .ref (a 2), .ref (a 3), .ref (a 4), .ref (a 5), .ref (a 6), .long 0, .long 0, .int nw, .int 0, .int 0, .int 0, .int 0])), (a 0, .inr (0, [.int 0, .ref z, .int 0]))] H := hP
  replace hD : va_D A [(h0, .inr (9, [.ref (a 0), .ref (a 1), .ref (a 2), .ref (a 3), .ref (a 4), .ref (a 5), .ref (a 6), .long 0, .long 0, .int nw, .int 0, .int 0, .int 0, .int 0])), (a 0, .inr (0, [.int 0, .ref z, .int 0]))] := hD
  try dsimp only at hw
  subst hw
  refine lv_iconst (v := 1) hx hb dX8_exists_9 (by decide) ?_
  refine lv_isub hx hb dX8_exists_10 ?_
  refine lv_topi (fun x_2 ex_2 => ?_)
  obtain rfl : x_2 = (-1) := ex_2.trans (by decide)
  have hPc := hP.sub (ws' := []) [] rfl
  have hDc := hD.sub (ws' := []) [] (by decide) rfl
  have hKc := hK.sub (tys' := []) [] rfl
  have hFc := va_free (wc := []) hD hS hA [] rfl
  refine va_calli (va_runS (As := [.int p0, .int 0, .int (-1)]) (rest := []) ⟨hx, hb, hml, hown, hts⟩ (c_within l dC dI p0 0 (-1) H.size) (va_cwS 3 hts wc_exists_within_57 rfl rfl rfl (by decide +kernel) ⟨Nat.le_of_ble_eq_true rfl, Nat.le_of_ble_eq_true rfl⟩) ⟨fun a U g mk q => by obtain ⟨q0, q1, qP, qK, qD, qN⟩ := q; exact ⟨q0, q1, qP, va_K.moved (u := U) (U := U.calling g mk a) (Vm.Alike.refl U.vm) qK, qD, pw_N.same (u := U) (U := U.calling g mk a) rfl qN⟩, fun U hU hW => ⟨rfl, by rw [hU], by rw [hU]; exact hPc, va_K.moved hW.alike hKc, hDc.weaken (fun _ _ _ _ => trivial), pw_N.warm hW hN⟩⟩ rfl rfl hl.1 rfl (lv_room (Nat.le_of_ble_eq_true rfl)) dX8_exists_11 ⟨Nat.le_of_ble_eq_true rfl, Nat.le_of_ble_eq_true rfl⟩) hS (fun q _ h => hFc q h) hFc (fun r_3 u t H1 locs ht hvm hw hB hz1 hk1 hS => ?_)
  obtain ⟨hP1, hD1⟩ := hB
  rw [ht] at hP1
  obtain ⟨hP, hD⟩ := va_join (wr := [(h0, .inr (9, [.ref (a 0), .ref (a 1), .ref (a 2), .ref (a 3), .ref (a 4), .ref (a 5), .ref (a 6), .long 0, .long 0, .int nw, .int 0, .int 0, .int 0, .int 0])), (a 0, .inr (0, [.int 0, .ref z, .int 0]))]) (w1 := []) hP hD [] [0, 1] rfl rfl (by decide) (by decide) hk1 hFc hP1 hD1
  generalize H1 = H at hP hS ⊢
  replace hP : va_P (dC, dI) vwCl [(h0, .inr (9, [.ref (a 0), .ref (a 1), .ref (a 2), .ref (a 3), .ref (a 4), .ref (a 5), .ref (a 6), .long 0, .long 0, .int nw, .int 0, .int 0, .int 0, .int 0])), (a 0, .inr (0, [.int 0, .ref z, .int 0]))] H := hP
  replace hD : va_D A [(h0, .inr (9, [.ref (a 0), .ref (a 1), .ref (a 2), .ref (a 3), .ref (a 4), .ref (a 5), .ref (a 6), .long 0, .long 0, .int nw, .int 0, .int 0, .int 0, .int 0])), (a 0, .inr (0, [.int 0, .ref z, .int 0]))] := hD
  try dsimp only at hw
  rcases Classical.em (0 ≤ p0 ∧ p0 ≤ (-1)) with h_4 | h_4
  · exact False.elim (by have k0 := h_4; simp only [p1_le, p1_lt, p1_eq, p1_m6, p1_m1, p1_0, p1_1, p1_2, p1_3, p1_4, p1_5, p1_6, p1_7, p1_8, p1_9, p1_10, p1_11, p1_12, p1_13, p1_14, p1_15, p1_16, p1_17, p1_18, p1_19, p1_20, p1_40, p1_50, p1_200, p1_1000] at k0; omega)
  · obtain rfl : r_3 = 0 := hw.trans (if_neg h_4)
    have hP9 := hP.sub (ws' := [(h0, .inr (9, [.ref (a 0), .ref (a 1), .ref (a 2), .ref (a 3), .ref (a 4), .ref (a 5), .ref (a 6), .long 0, .long 0, .int nw, .int 0, .int 0, .int 0, .int 0])), (a 0, .inr (0, [.int 0, .ref z, .int 0]))]) [0, 1] rfl
    have hD9 := hD.sub (ws' := [(h0, .inr (9, [.ref (a 0), .ref (a 1), .ref (a 2), .ref (a 3), .ref (a 4), .ref (a 5), .ref (a 6), .long 0, .long 0, .int nw, .int 0, .int 0, .int 0, .int 0])), (a 0, .inr (0, [.int 0, .ref z, .int 0]))]) [0, 1] (by decide) rfl
    exact W.zret (v := 0) hx hb hr (by decide) (fun t ht hW => ⟨⟨0, (), rfl, rfl, by rw [ht]; exact hP9, hD9⟩, hS.F ht⟩) hS.2.2 dX8_exists_14
def wq_canRelate : List Cond := [.code yX8_canRelate cX8_canRelate 4 (some .boolean), .methodLink RX8 57 yX8_within, .static yX8_within, .initialized RX8, .methodLink RX8 82 yX8_exists, .instanceMethod yX8_exists, .selects RX8 yX8_exists yX8_exists] ++ (wq_within ++ (wq_exists))
set_option maxRecDepth 20000 in
theorem wi_canRelate : ∀ w ∈ wq_canRelate, w ∈ lw_tbl := List.forall_mem_append.mpr ⟨(by decide +kernel), List.forall_mem_append.mpr ⟨wi_within, wi_exists⟩⟩
set_option maxRecDepth 20000 in
theorem wg_canRelate : GoodIn wq_canRelate wq_canRelate := goodIn_sub (fun _ h => h) (by decide +kernel)
set_option maxRecDepth 20000 in
theorem wc_canRelate_within_57 : GoodIn wq_canRelate (va_wsS RX8 57 yX8_within wq_within) := goodIn_app (goodIn_of _ (by decide +kernel)) (fun w h => ⟨List.mem_append_right _ (List.mem_append_left _ (h)), (wg_within w h).2⟩)
set_option maxRecDepth 20000 in
theorem wc_canRelate_exists_82 : GoodIn wq_canRelate (wsV RX8 82 RX8 yX8_exists wq_exists) := goodIn_app (goodIn_of _ (by decide +kernel)) (fun w h => ⟨List.mem_append_right _ (List.mem_append_right _ (h)), (wg_exists w h).2⟩)
set_option maxHeartbeats 4000000 in
set_option maxRecDepth 100000 in
theorem c_canRelate (l : Launch) (dC : Nat → ClassId) (dI : Nat → Nat → Nat) (h0 : Nat) (a : Nat → Nat) (z : Nat) (nw : Int32) (p0 : Int32) (p1 : Int32) (p2 : Int32) (sz : Nat) : Met l yX8_canRelate wq_canRelate ({ frames := 2, cells := 0, slots := 0, locals := 43 }) (va_Pc [.ref h0, .int p0, .int p1, .int p2] (fun U => U.heap.size = sz ∧ va_P (dC, dI) vwCl [(h0, .inr (9, [.ref (a 0), .ref (a 1), .ref (a 2), .ref (a 3), .ref (a 4), .ref (a 5), .ref (a 6), .long 0, .long 0, .int nw, .int 0, .int 0, .int 0, .int 0])), (a 0, .inr (0, [.int 0, .ref z, .int 0]))] U.heap ∧ va_K (dC, dI) vwCl [] U ∧ va_D (fun _ => True) [(h0, .inr (9, [.ref (a 0), .ref (a 1), .ref (a 2), .ref (a 3), .ref (a 4), .ref (a 5), .ref (a 6), .long 0, .long 0, .int nw, .int 0, .int 0, .int 0, .int 0])), (a 0, .inr (0, [.int 0, .ref z, .int 0]))] ∧ pw_N U)) (va_Qi (fun (r : Int32) (_ : Unit) => r = 0) (fun (_ : Unit) (t : State) => va_P (dC, dI) vwCl [(h0, .inr (9, [.ref (a 0), .ref (a 1), .ref (a 2), .ref (a 3), .ref (a 4), .ref (a 5), .ref (a 6), .long 0, .long 0, .int nw, .int 0, .int 0, .int 0, .int 0])), (a 0, .inr (0, [.int 0, .ref z, .int 0]))] t.heap ∧ va_D (va_A [(h0, .inr (9, [.ref (a 0), .ref (a 1), .ref (a 2), .ref (a 3), .ref (a 4), .ref (a 5), .ref (a 6), .long 0, .long 0, .int nw, .int 0, .int 0, .int 0, .int 0])), (a 0, .inr (0, [.int 0, .ref z, .int 0]))] sz) [(h0, .inr (9, [.ref (a 0), .ref (a 1), .ref (a 2), .ref (a 3), .ref (a 4), .ref (a 5), .ref (a 6), .long 0, .long 0, .int nw, .int 0, .int 0, .int 0, .int 0])), (a 0, .inr (0, [.int 0, .ref z, .int 0]))]) (va_A [(h0, .inr (9, [.ref (a 0), .ref (a 1), .ref (a 2), .ref (a 3), .ref (a 4), .ref (a 5), .ref (a 6), .long 0, .long 0, .int nw, .int 0, .int 0, .int 0, .int 0])), (a 0, .inr (0, [.int 0, .ref z, .int 0]))] sz)) 0 0 (va_A [(h0, .inr (9, [.ref (a 0), .ref (a 1), .ref (a 2), .ref (a 3), .ref (a 4), .ref (a 5), .ref (a 6), .long 0, .long 0, .int nw, .int 0, .int 0, .int 0, .int 0])), (a 0, .inr (0, [.int 0, .ref z, .int 0]))] sz) := by
  refine Met.ofW (cc := cX8_canRelate) (maxL := 4) (ret := (some .boolean)) (by decide) rfl ?_
  intro p e s m args below meth c s₁ B hml hv
  obtain ⟨rfl, hsz, hP, hK, hD0, hN⟩ := hv
  have hx := B.exec
  have hb := B.bytes
  have hr := B.returns
  have hts := atoms_spec (ws := wq_canRelate) B.pre
  have hown : s.vm.findClass RX8 = some m.cls := findClass_of_methodNamed B.named
  have hlocks := B.notSynchronized
  subst hsz
  have hD := hD0.self (sz := s.heap.size)
  generalize hAe : va_A [(h0, .inr (9, [.ref (a 0), .ref (a 1), .ref (a 2), .ref (a 3), .ref (a 4), .ref (a 5), .ref (a 6), .long 0, .long 0, .int nw, .int 0, .int 0, .int 0, .int 0])), (a 0, .inr (0, [.int 0, .ref z, .int 0]))] s.heap.size = A at hD ⊢
  have hA : ∀ q : Nat, s.heap.size ≤ q → A q := fun q h => by rw [← hAe]; exact Or.inr h
  have hS : va_S A s.heap s.heap [] := va_S.rf
  have hP : va_P (dC, dI) vwCl [(h0, .inr (9, [.ref (a 0), .ref (a 1), .ref (a 2), .ref (a 3), .ref (a 4), .ref (a 5), .ref (a 6), .long 0, .long 0, .int nw, .int 0, .int 0, .int 0, .int 0])), (a 0, .inr (0, [.int 0, .ref z, .int 0]))] s.heap := hP
  have hl := lv_entry ([.ref h0, .int p0, .int p1, .int p2]) (n := 4) (Nat.le_of_ble_eq_true rfl)
  rw [lg_entry_eq]
  generalize (lg_sl ([.ref h0, .int p0, .int p1, .int p2]) ++ List.replicate (4 - (lg_sl ([.ref h0, .int p0, .int p1, .int p2])).length) Slot.unset).toArray = ls at hl ⊢
  have hl : lv_has ls 4 [(0, .ref h0), (1, .int p0), (2, .int p1), (3, .int p2)] := hl
  refine lv_iload_n hx hb dX8_canRelate_0 rfl (lv_at hl 1 rfl) ?_
  refine lv_iconst (v := 0) hx hb dX8_canRelate_1 (by decide) ?_
  refine lv_iconst (v := 3) hx hb dX8_canRelate_2 (by decide) ?_
  have hPc := hP.sub (ws' := []) [] rfl
  have hDc := hD.sub (ws' := []) [] (by decide) rfl
  have hKc := hK.sub (tys' := []) [] rfl
  have hFc := va_free (wc := []) hD hS hA [] rfl
  refine va_calli (va_runS (As := [.int p0, .int 0, .int 3]) (rest := []) ⟨hx, hb, hml, hown, hts⟩ (c_within l dC dI p0 0 3 s.heap.size) (va_cwS 3 hts wc_canRelate_within_57 rfl rfl rfl (by decide +kernel) ⟨Nat.le_of_ble_eq_true rfl, Nat.le_of_ble_eq_true rfl⟩) ⟨fun a U g mk q => by obtain ⟨q0, q1, qP, qK, qD, qN⟩ := q; exact ⟨q0, q1, qP, va_K.moved (u := U) (U := U.calling g mk a) (Vm.Alike.refl U.vm) qK, qD, pw_N.same (u := U) (U := U.calling g mk a) rfl qN⟩, fun U hU hW => ⟨rfl, by rw [hU], by rw [hU]; exact hPc, va_K.moved hW.alike hKc, hDc.weaken (fun _ _ _ _ => trivial), pw_N.warm hW hN⟩⟩ rfl rfl hl.1 rfl (lv_room (Nat.le_of_ble_eq_true rfl)) dX8_canRelate_3 ⟨Nat.le_of_ble_eq_true rfl, Nat.le_of_ble_eq_true rfl⟩) hS (fun q _ h => hFc q h) hFc (fun r_1 u t H1 locs ht hvm hw hB hz1 hk1 hS => ?_)
  obtain ⟨hP1, hD1⟩ := hB
  rw [ht] at hP1
  obtain ⟨hP, hD⟩ := va_join (wr := [(h0, .inr (9, [.ref (a 0), .ref (a 1), .ref (a 2), .ref (a 3), .ref (a 4), .ref (a 5), .ref (a 6), .long 0, .long 0, .int nw, .int 0, .int 0, .int 0, .int 0])), (a 0, .inr (0, [.int 0, .ref z, .int 0]))]) (w1 := []) hP hD [] [0, 1] rfl rfl (by decide) (by decide) hk1 hFc hP1 hD1
  generalize H1 = H at hP hS ⊢
  replace hP : va_P (dC, dI) vwCl [(h0, .inr (9, [.ref (a 0), .ref (a 1), .ref (a 2), .ref (a 3), .ref (a 4), .ref (a 5), .ref (a 6), .long 0, .long 0, .int nw, .int 0, .int 0, .int 0, .int 0])), (a 0, .inr (0, [.int 0, .ref z, .int 0]))] H := hP
  replace hD : va_D A [(h0, .inr (9, [.ref (a 0), .ref (a 1), .ref (a 2), .ref (a 3), .ref (a 4), .ref (a 5), .ref (a 6), .long 0, .long 0, .int nw, .int 0, .int 0, .int 0, .int 0])), (a 0, .inr (0, [.int 0, .ref z, .int 0]))] := hD
  try dsimp only at hw
  rcases Classical.em (0 ≤ p0 ∧ p0 ≤ 3) with h_2 | h_2
  · obtain rfl : r_1 = 1 := hw.trans (if_pos h_2)
    refine lv_if_eq (tgt := 34) hx hb dX8_canRelate_6 (by decide) (fun c9 => absurd c9 (by decide)) (fun _ => ?_)
    refine lv_aload_n hx hb dX8_canRelate_9 rfl (lv_at hl 0 rfl) ?_
    refine lv_iload_n hx hb dX8_canRelate_10 rfl (lv_at hl 2 rfl) ?_
    have hPc := hP.sub (ws' := [(h0, .inr (9, [.ref (a 0), .ref (a 1), .ref (a 2), .ref (a 3), .ref (a 4), .ref (a 5), .ref (a 6), .long 0, .long 0, .int nw, .int 0, .int 0, .int 0, .int 0])), (a 0, .inr (0, [.int 0, .ref z, .int 0]))]) [0, 1] rfl
    have hDc := hD.sub (ws' := [(h0, .inr (9, [.ref (a 0), .ref (a 1), .ref (a 2), .ref (a 3), .ref (a 4), .ref (a 5), .ref (a 6), .long 0, .long 0, .int nw, .int 0, .int 0, .int 0, .int 0])), (a 0, .inr (0, [.int 0, .ref z, .int 0]))]) [0, 1] (by decide) rfl
    have hKc := hK.sub (tys' := []) [] rfl
    have hFc := va_free (wc := [(h0, .inr (9, [.ref (a 0), .ref (a 1), .ref (a 2), .ref (a 3), .ref (a 4), .ref (a 5), .ref (a 6), .long 0, .long 0, .int nw, .int 0, .int 0, .int 0, .int 0])), (a 0, .inr (0, [.int 0, .ref z, .int 0]))]) hD hS hA [0, 1] rfl
    refine va_calli (va_runV (As := [.int p1]) (rest := []) ⟨hx, hb, hml, hown, hts⟩ (c_exists l dC dI h0 a z nw p1 H.size) (cwV 1 hts wc_canRelate_exists_82 rfl rfl rfl (by decide +kernel) ⟨Nat.le_of_ble_eq_true rfl, Nat.le_of_ble_eq_true rfl⟩) ⟨fun a U g mk q => by obtain ⟨q0, q1, qP, qK, qD, qN⟩ := q; exact ⟨q0, q1, qP, va_K.moved (u := U) (U := U.calling g mk a) (Vm.Alike.refl U.vm) qK, qD, pw_N.same (u := U) (U := U.calling g mk a) rfl qN⟩, va_recv hKc hPc (ci := 9) (q0 := 0) rfl rfl, fun U hU hW => ⟨rfl, by rw [hU], by rw [hU]; exact hPc, va_K.moved hW.alike hKc, hDc.weaken (fun _ _ _ _ => trivial), pw_N.warm hW hN⟩⟩ rfl rfl hl.1 rfl (lv_room (Nat.le_of_ble_eq_true rfl)) dX8_canRelate_11 ⟨Nat.le_of_ble_eq_true rfl, Nat.le_of_ble_eq_true rfl⟩) hS (fun q _ h => hFc q h) hFc (fun r_3 u t H1 locs ht hvm hw hB hz1 hk1 hS => ?_)
    obtain ⟨hP1, hD1⟩ := hB
    rw [ht] at hP1
    obtain ⟨hP, hD⟩ := va_join (wr := []) (w1 := [(h0, .inr (9, [.ref (a 0), .ref (a 1), .ref (a 2), .ref (a 3), .ref (a 4), .ref (a 5), .ref (a 6), .long 0, .long 0, .int nw, .int 0, .int 0, .int 0, .int 0])), (a 0, .inr (0, [.int 0, .ref z, .int 0]))]) hP hD [0, 1] [] rfl rfl (by decide) (by decide) hk1 hFc hP1 hD1
    generalize H1 = H at hP hS ⊢
    replace hP : va_P (dC, dI) vwCl [(h0, .inr (9, [.ref (a 0), .ref (a 1), .ref (a 2), .ref (a 3), .ref (a 4), .ref (a 5), .ref (a 6), .long 0, .long 0, .int nw, .int 0, .int 0, .int 0, .int 0])), (a 0, .inr (0, [.int 0, .ref z, .int 0]))] H := hP
    replace hD : va_D A [(h0, .inr (9, [.ref (a 0), .ref (a 1), .ref (a 2), .ref (a 3), .ref (a 4), .ref (a 5), .ref (a 6), .long 0, .long 0, .int nw, .int 0, .int 0, .int 0, .int 0])), (a 0, .inr (0, [.int 0, .ref z, .int 0]))] := hD
    try dsimp only at hw
    subst hw
    refine lv_if_eq (tgt := 34) hx hb dX8_canRelate_14 (by decide) (fun _ => ?_) (fun c9 => absurd (by decide) c9)
    refine lv_iconst (v := 0) hx hb dX8_canRelate_34 (by decide) ?_
    have hP9 := hP.sub (ws' := [(h0, .inr (9, [.ref (a 0), .ref (a 1), .ref (a 2), .ref (a 3), .ref (a 4), .ref (a 5), .ref (a 6), .long 0, .long 0, .int nw, .int 0, .int 0, .int 0, .int 0])), (a 0, .inr (0, [.int 0, .ref z, .int 0]))]) [0, 1] rfl
    have hD9 := hD.sub (ws' := [(h0, .inr (9, [.ref (a 0), .ref (a 1), .ref (a 2), .ref (a 3), .ref (a 4), .ref (a 5), .ref (a 6), .long 0, .long 0, .int nw, .int 0, .int 0, .int 0, .int 0])), (a 0, .inr (0, [.int 0, .ref z, .int 0]))]) [0, 1] (by decide) rfl
    exact W.zret (v := 0) hx hb hr (by decide) (fun t ht hW => ⟨⟨0, (), rfl, rfl, by rw [ht]; exact hP9, hD9⟩, hS.F ht⟩) hS.2.2 dX8_canRelate_35
  · obtain rfl : r_1 = 0 := hw.trans (if_neg h_2)
    refine lv_if_eq (tgt := 34) hx hb dX8_canRelate_6 (by decide) (fun _ => ?_) (fun c9 => absurd (by decide) c9)
    refine lv_iconst (v := 0) hx hb dX8_canRelate_34 (by decide) ?_
    have hP9 := hP.sub (ws' := [(h0, .inr (9, [.ref (a 0), .ref (a 1), .ref (a 2), .ref (a 3), .ref (a 4), .ref (a 5), .ref (a 6), .long 0, .long 0, .int nw, .int 0, .int 0, .int 0, .int 0])), (a 0, .inr (0, [.int 0, .ref z, .int 0]))]) [0, 1] rfl
    have hD9 := hD.sub (ws' := [(h0, .inr (9, [.ref (a 0), .ref (a 1), .ref (a 2), .ref (a 3), .ref (a 4), .ref (a 5), .ref (a 6), .long 0, .long 0, .int nw, .int 0, .int 0, .int 0, .int 0])), (a 0, .inr (0, [.int 0, .ref z, .int 0]))]) [0, 1] (by decide) rfl
    exact W.zret (v := 0) hx hb hr (by decide) (fun t ht hW => ⟨⟨0, (), rfl, rfl, by rw [ht]; exact hP9, hD9⟩, hS.F ht⟩) hS.2.2 dX8_canRelate_35
def wq_t_life : List Cond := [.code yX8_life cX8_life 6 (some .int), .methodLink RX8 82 yX8_exists, .instanceMethod yX8_exists, .selects RX8 yX8_exists yX8_exists, .initialized RX8] ++ (wq_exists)
set_option maxRecDepth 20000 in
theorem wi_t_life : ∀ w ∈ wq_t_life, w ∈ lw_tbl := List.forall_mem_append.mpr ⟨(by decide +kernel), wi_exists⟩
set_option maxRecDepth 20000 in
theorem wg_t_life : GoodIn wq_t_life wq_t_life := goodIn_sub (fun _ h => h) (by decide +kernel)
set_option maxRecDepth 20000 in
theorem wc_t_life_exists_82 : GoodIn wq_t_life (wsV RX8 82 RX8 yX8_exists wq_exists) := goodIn_app (goodIn_of _ (by decide +kernel)) (fun w h => ⟨List.mem_append_right _ (h), (wg_exists w h).2⟩)
set_option maxHeartbeats 4000000 in
set_option maxRecDepth 100000 in
theorem c_t_life (l : Launch) (dC : Nat → ClassId) (dI : Nat → Nat → Nat) (h0 : Nat) (a : Nat → Nat) (z : Nat) (nw : Int32) (p0 : Int32) (p1 : Int32) (p2 : Int32) (sz : Nat) : Met l yX8_life wq_t_life ({ frames := 2, cells := 0, slots := 0, locals := 43 }) (va_Pc [.ref h0, .int p0, .int p1, .int p2] (fun U => U.heap.size = sz ∧ va_P (dC, dI) vwCl [(h0, .inr (9, [.ref (a 0), .ref (a 1), .ref (a 2), .ref (a 3), .ref (a 4), .ref (a 5), .ref (a 6), .long 0, .long 0, .int nw, .int 0, .int 0, .int 0, .int 0])), (a 0, .inr (0, [.int 0, .ref z, .int 0]))] U.heap ∧ va_K (dC, dI) vwCl [] U ∧ va_D (fun _ => True) [(h0, .inr (9, [.ref (a 0), .ref (a 1), .ref (a 2), .ref (a 3), .ref (a 4), .ref (a 5), .ref (a 6), .long 0, .long 0, .int nw, .int 0, .int 0, .int 0, .int 0])), (a 0, .inr (0, [.int 0, .ref z, .int 0]))] ∧ pw_N U)) (va_Qi (fun (r : Int32) (_ : Unit) => r = (-1)) (fun (_ : Unit) (t : State) => va_P (dC, dI) vwCl [(h0, .inr (9, [.ref (a 0), .ref (a 1), .ref (a 2), .ref (a 3), .ref (a 4), .ref (a 5), .ref (a 6), .long 0, .long 0, .int nw, .int 0, .int 0, .int 0, .int 0])), (a 0, .inr (0, [.int 0, .ref z, .int 0]))] t.heap ∧ va_D (va_A [(h0, .inr (9, [.ref (a 0), .ref (a 1), .ref (a 2), .ref (a 3), .ref (a 4), .ref (a 5), .ref (a 6), .long 0, .long 0, .int nw, .int 0, .int 0, .int 0, .int 0])), (a 0, .inr (0, [.int 0, .ref z, .int 0]))] sz) [(h0, .inr (9, [.ref (a 0), .ref (a 1), .ref (a 2), .ref (a 3), .ref (a 4), .ref (a 5), .ref (a 6), .long 0, .long 0, .int nw, .int 0, .int 0, .int 0, .int 0])), (a 0, .inr (0, [.int 0, .ref z, .int 0]))]) (va_A [(h0, .inr (9, [.ref (a 0), .ref (a 1), .ref (a 2), .ref (a 3), .ref (a 4), .ref (a 5), .ref (a 6), .long 0, .long 0, .int nw, .int 0, .int 0, .int 0, .int 0])), (a 0, .inr (0, [.int 0, .ref z, .int 0]))] sz)) 0 0 (va_A [(h0, .inr (9, [.ref (a 0), .ref (a 1), .ref (a 2), .ref (a 3), .ref (a 4), .ref (a 5), .ref (a 6), .long 0, .long 0, .int nw, .int 0, .int 0, .int 0, .int 0])), (a 0, .inr (0, [.int 0, .ref z, .int 0]))] sz) := by
  refine Met.ofW (cc := cX8_life) (maxL := 6) (ret := (some .int)) (by decide) rfl ?_
  intro p e s m args below meth c s₁ B hml hv
  obtain ⟨rfl, hsz, hP, hK, hD0, hN⟩ := hv
  have hx := B.exec
  have hb := B.bytes
  have hr := B.returns
  have hts := atoms_spec (ws := wq_t_life) B.pre
  have hown : s.vm.findClass RX8 = some m.cls := findClass_of_methodNamed B.named
  have hlocks := B.notSynchronized
  subst hsz
  have hD := hD0.self (sz := s.heap.size)
  generalize hAe : va_A [(h0, .inr (9, [.ref (a 0), .ref (a 1), .ref (a 2), .ref (a 3), .ref (a 4), .ref (a 5), .ref (a 6), .long 0, .long 0, .int nw, .int 0, .int 0, .int 0, .int 0])), (a 0, .inr (0, [.int 0, .ref z, .int 0]))] s.heap.size = A at hD ⊢
  have hA : ∀ q : Nat, s.heap.size ≤ q → A q := fun q h => by rw [← hAe]; exact Or.inr h
  have hS : va_S A s.heap s.heap [] := va_S.rf
  have hP : va_P (dC, dI) vwCl [(h0, .inr (9, [.ref (a 0), .ref (a 1), .ref (a 2), .ref (a 3), .ref (a 4), .ref (a 5), .ref (a 6), .long 0, .long 0, .int nw, .int 0, .int 0, .int 0, .int 0])), (a 0, .inr (0, [.int 0, .ref z, .int 0]))] s.heap := hP
  have hl := lv_entry ([.ref h0, .int p0, .int p1, .int p2]) (n := 6) (Nat.le_of_ble_eq_true rfl)
  rw [lg_entry_eq]
  generalize (lg_sl ([.ref h0, .int p0, .int p1, .int p2]) ++ List.replicate (6 - (lg_sl ([.ref h0, .int p0, .int p1, .int p2])).length) Slot.unset).toArray = ls at hl ⊢
  have hl : lv_has ls 6 [(0, .ref h0), (1, .int p0), (2, .int p1), (3, .int p2)] := hl
  refine lv_aload_n hx hb dX8_life_0 rfl (lv_at hl 0 rfl) ?_
  refine lv_iload_n hx hb dX8_life_1 rfl (lv_at hl 1 rfl) ?_
  have hPc := hP.sub (ws' := [(h0, .inr (9, [.ref (a 0), .ref (a 1), .ref (a 2), .ref (a 3), .ref (a 4), .ref (a 5), .ref (a 6), .long 0, .long 0, .int nw, .int 0, .int 0, .int 0, .int 0])), (a 0, .inr (0, [.int 0, .ref z, .int 0]))]) [0, 1] rfl
  have hDc := hD.sub (ws' := [(h0, .inr (9, [.ref (a 0), .ref (a 1), .ref (a 2), .ref (a 3), .ref (a 4), .ref (a 5), .ref (a 6), .long 0, .long 0, .int nw, .int 0, .int 0, .int 0, .int 0])), (a 0, .inr (0, [.int 0, .ref z, .int 0]))]) [0, 1] (by decide) rfl
  have hKc := hK.sub (tys' := []) [] rfl
  have hFc := va_free (wc := [(h0, .inr (9, [.ref (a 0), .ref (a 1), .ref (a 2), .ref (a 3), .ref (a 4), .ref (a 5), .ref (a 6), .long 0, .long 0, .int nw, .int 0, .int 0, .int 0, .int 0])), (a 0, .inr (0, [.int 0, .ref z, .int 0]))]) hD hS hA [0, 1] rfl
  refine va_calli (va_runV (As := [.int p0]) (rest := []) ⟨hx, hb, hml, hown, hts⟩ (c_exists l dC dI h0 a z nw p0 s.heap.size) (cwV 1 hts wc_t_life_exists_82 rfl rfl rfl (by decide +kernel) ⟨Nat.le_of_ble_eq_true rfl, Nat.le_of_ble_eq_true rfl⟩) ⟨fun a U g mk q => by obtain ⟨q0, q1, qP, qK, qD, qN⟩ := q; exact ⟨q0, q1, qP, va_K.moved (u := U) (U := U.calling g mk a) (Vm.Alike.refl U.vm) qK, qD, pw_N.same (u := U) (U := U.calling g mk a) rfl qN⟩, va_recv hKc hPc (ci := 9) (q0 := 0) rfl rfl, fun U hU hW => ⟨rfl, by rw [hU], by rw [hU]; exact hPc, va_K.moved hW.alike hKc, hDc.weaken (fun _ _ _ _ => trivial), pw_N.warm hW hN⟩⟩ rfl rfl hl.1 rfl (lv_room (Nat.le_of_ble_eq_true rfl)) dX8_life_2 ⟨Nat.le_of_ble_eq_true rfl, Nat.le_of_ble_eq_true rfl⟩) hS (fun q _ h => hFc q h) hFc (fun r_1 u t H1 locs ht hvm hw hB hz1 hk1 hS => ?_)
  obtain ⟨hP1, hD1⟩ := hB
  rw [ht] at hP1
  obtain ⟨hP, hD⟩ := va_join (wr := []) (w1 := [(h0, .inr (9, [.ref (a 0), .ref (a 1), .ref (a 2), .ref (a 3), .ref (a 4), .ref (a 5), .ref (a 6), .long 0, .long 0, .int nw, .int 0, .int 0, .int 0, .int 0])), (a 0, .inr (0, [.int 0, .ref z, .int 0]))]) hP hD [0, 1] [] rfl rfl (by decide) (by decide) hk1 hFc hP1 hD1
  generalize H1 = H at hP hS ⊢
  replace hP : va_P (dC, dI) vwCl [(h0, .inr (9, [.ref (a 0), .ref (a 1), .ref (a 2), .ref (a 3), .ref (a 4), .ref (a 5), .ref (a 6), .long 0, .long 0, .int nw, .int 0, .int 0, .int 0, .int 0])), (a 0, .inr (0, [.int 0, .ref z, .int 0]))] H := hP
  replace hD : va_D A [(h0, .inr (9, [.ref (a 0), .ref (a 1), .ref (a 2), .ref (a 3), .ref (a 4), .ref (a 5), .ref (a 6), .long 0, .long 0, .int nw, .int 0, .int 0, .int 0, .int 0])), (a 0, .inr (0, [.int 0, .ref z, .int 0]))] := hD
  try dsimp only at hw
  subst hw
  refine lv_if_eq (tgt := 29) hx hb dX8_life_5 (by decide) (fun _ => ?_) (fun c9 => absurd (by decide) c9)
  refine lv_iconst (v := (-1)) hx hb dX8_life_29 (by decide) ?_
  have hP9 := hP.sub (ws' := [(h0, .inr (9, [.ref (a 0), .ref (a 1), .ref (a 2), .ref (a 3), .ref (a 4), .ref (a 5), .ref (a 6), .long 0, .long 0, .int nw, .int 0, .int 0, .int 0, .int 0])), (a 0, .inr (0, [.int 0, .ref z, .int 0]))]) [0, 1] rfl
  have hD9 := hD.sub (ws' := [(h0, .inr (9, [.ref (a 0), .ref (a 1), .ref (a 2), .ref (a 3), .ref (a 4), .ref (a 5), .ref (a 6), .long 0, .long 0, .int nw, .int 0, .int 0, .int 0, .int 0])), (a 0, .inr (0, [.int 0, .ref z, .int 0]))]) [0, 1] (by decide) rfl
  exact W.iret (v := (-1)) hx hb hr (fun t ht hW => ⟨⟨(-1), (), rfl, rfl, by rw [ht]; exact hP9, hD9⟩, hS.F ht⟩) hS.2.2 dX8_life_30
def wq_t_again : List Cond := [.code yX8_again cX8_again 5 (some .int), .methodLink RX8 82 yX8_exists, .instanceMethod yX8_exists, .selects RX8 yX8_exists yX8_exists, .initialized RX8] ++ (wq_exists)
set_option maxRecDepth 20000 in
theorem wi_t_again : ∀ w ∈ wq_t_again, w ∈ lw_tbl := List.forall_mem_append.mpr ⟨(by decide +kernel), wi_exists⟩
set_option maxRecDepth 20000 in
theorem wg_t_again : GoodIn wq_t_again wq_t_again := goodIn_sub (fun _ h => h) (by decide +kernel)
set_option maxRecDepth 20000 in
theorem wc_t_again_exists_82 : GoodIn wq_t_again (wsV RX8 82 RX8 yX8_exists wq_exists) := goodIn_app (goodIn_of _ (by decide +kernel)) (fun w h => ⟨List.mem_append_right _ (h), (wg_exists w h).2⟩)
set_option maxHeartbeats 4000000 in
set_option maxRecDepth 100000 in
theorem c_t_again (l : Launch) (dC : Nat → ClassId) (dI : Nat → Nat → Nat) (h0 : Nat) (a : Nat → Nat) (z : Nat) (nw : Int32) (p0 : Int32) (p1 : Int32) (p2 : Int32) (p3 : Int32) (sz : Nat) : Met l yX8_again wq_t_again ({ frames := 2, cells := 0, slots := 0, locals := 43 }) (va_Pc [.ref h0, .int p0, .int p1, .int p2, .int p3] (fun U => U.heap.size = sz ∧ va_P (dC, dI) vwCl [(h0, .inr (9, [.ref (a 0), .ref (a 1), .ref (a 2), .ref (a 3), .ref (a 4), .ref (a 5), .ref (a 6), .long 0, .long 0, .int nw, .int 0, .int 0, .int 0, .int 0])), (a 0, .inr (0, [.int 0, .ref z, .int 0]))] U.heap ∧ va_K (dC, dI) vwCl [] U ∧ va_D (fun _ => True) [(h0, .inr (9, [.ref (a 0), .ref (a 1), .ref (a 2), .ref (a 3), .ref (a 4), .ref (a 5), .ref (a 6), .long 0, .long 0, .int nw, .int 0, .int 0, .int 0, .int 0])), (a 0, .inr (0, [.int 0, .ref z, .int 0]))] ∧ pw_N U)) (va_Qi (fun (r : Int32) (_ : Unit) => r = (-1)) (fun (_ : Unit) (t : State) => va_P (dC, dI) vwCl [(h0, .inr (9, [.ref (a 0), .ref (a 1), .ref (a 2), .ref (a 3), .ref (a 4), .ref (a 5), .ref (a 6), .long 0, .long 0, .int nw, .int 0, .int 0, .int 0, .int 0])), (a 0, .inr (0, [.int 0, .ref z, .int 0]))] t.heap ∧ va_D (va_A [(h0, .inr (9, [.ref (a 0), .ref (a 1), .ref (a 2), .ref (a 3), .ref (a 4), .ref (a 5), .ref (a 6), .long 0, .long 0, .int nw, .int 0, .int 0, .int 0, .int 0])), (a 0, .inr (0, [.int 0, .ref z, .int 0]))] sz) [(h0, .inr (9, [.ref (a 0), .ref (a 1), .ref (a 2), .ref (a 3), .ref (a 4), .ref (a 5), .ref (a 6), .long 0, .long 0, .int nw, .int 0, .int 0, .int 0, .int 0])), (a 0, .inr (0, [.int 0, .ref z, .int 0]))]) (va_A [(h0, .inr (9, [.ref (a 0), .ref (a 1), .ref (a 2), .ref (a 3), .ref (a 4), .ref (a 5), .ref (a 6), .long 0, .long 0, .int nw, .int 0, .int 0, .int 0, .int 0])), (a 0, .inr (0, [.int 0, .ref z, .int 0]))] sz)) 0 0 (va_A [(h0, .inr (9, [.ref (a 0), .ref (a 1), .ref (a 2), .ref (a 3), .ref (a 4), .ref (a 5), .ref (a 6), .long 0, .long 0, .int nw, .int 0, .int 0, .int 0, .int 0])), (a 0, .inr (0, [.int 0, .ref z, .int 0]))] sz) := by
  refine Met.ofW (cc := cX8_again) (maxL := 5) (ret := (some .int)) (by decide) rfl ?_
  intro p e s m args below meth c s₁ B hml hv
  obtain ⟨rfl, hsz, hP, hK, hD0, hN⟩ := hv
  have hx := B.exec
  have hb := B.bytes
  have hr := B.returns
  have hts := atoms_spec (ws := wq_t_again) B.pre
  have hown : s.vm.findClass RX8 = some m.cls := findClass_of_methodNamed B.named
  have hlocks := B.notSynchronized
  subst hsz
  have hD := hD0.self (sz := s.heap.size)
  generalize hAe : va_A [(h0, .inr (9, [.ref (a 0), .ref (a 1), .ref (a 2), .ref (a 3), .ref (a 4), .ref (a 5), .ref (a 6), .long 0, .long 0, .int nw, .int 0, .int 0, .int 0, .int 0])), (a 0, .inr (0, [.int 0, .ref z, .int 0]))] s.heap.size = A at hD ⊢
  have hA : ∀ q : Nat, s.heap.size ≤ q → A q := fun q h => by rw [← hAe]; exact Or.inr h
  have hS : va_S A s.heap s.heap [] := va_S.rf
  have hP : va_P (dC, dI) vwCl [(h0, .inr (9, [.ref (a 0), .ref (a 1), .ref (a 2), .ref (a 3), .ref (a 4), .ref (a 5), .ref (a 6), .long 0, .long 0, .int nw, .int 0, .int 0, .int 0, .int 0])), (a 0, .inr (0, [.int 0, .ref z, .int 0]))] s.heap := hP
  have hl := lv_entry ([.ref h0, .int p0, .int p1, .int p2, .int p3]) (n := 5) (Nat.le_of_ble_eq_true rfl)
  rw [lg_entry_eq]
  generalize (lg_sl ([.ref h0, .int p0, .int p1, .int p2, .int p3]) ++ List.replicate (5 - (lg_sl ([.ref h0, .int p0, .int p1, .int p2, .int p3])).length) Slot.unset).toArray = ls at hl ⊢
  have hl : lv_has ls 5 [(0, .ref h0), (1, .int p0), (2, .int p1), (3, .int p2), (4, .int p3)] := hl
  refine lv_aload_n hx hb dX8_again_0 rfl (lv_at hl 0 rfl) ?_
  refine lv_iload_n hx hb dX8_again_1 rfl (lv_at hl 1 rfl) ?_
  have hPc := hP.sub (ws' := [(h0, .inr (9, [.ref (a 0), .ref (a 1), .ref (a 2), .ref (a 3), .ref (a 4), .ref (a 5), .ref (a 6), .long 0, .long 0, .int nw, .int 0, .int 0, .int 0, .int 0])), (a 0, .inr (0, [.int 0, .ref z, .int 0]))]) [0, 1] rfl
  have hDc := hD.sub (ws' := [(h0, .inr (9, [.ref (a 0), .ref (a 1), .ref (a 2), .ref (a 3), .ref (a 4), .ref (a 5), .ref (a 6), .long 0, .long 0, .int nw, .int 0, .int 0, .int 0, .int 0])), (a 0, .inr (0, [.int 0, .ref z, .int 0]))]) [0, 1] (by decide) rfl
  have hKc := hK.sub (tys' := []) [] rfl
  have hFc := va_free (wc := [(h0, .inr (9, [.ref (a 0), .ref (a 1), .ref (a 2), .ref (a 3), .ref (a 4), .ref (a 5), .ref (a 6), .long 0, .long 0, .int nw, .int 0, .int 0, .int 0, .int 0])), (a 0, .inr (0, [.int 0, .ref z, .int 0]))]) hD hS hA [0, 1] rfl
  refine va_calli (va_runV (As := [.int p0]) (rest := []) ⟨hx, hb, hml, hown, hts⟩ (c_exists l dC dI h0 a z nw p0 s.heap.size) (cwV 1 hts wc_t_again_exists_82 rfl rfl rfl (by decide +kernel) ⟨Nat.le_of_ble_eq_true rfl, Nat.le_of_ble_eq_true rfl⟩) ⟨fun a U g mk q => by obtain ⟨q0, q1, qP, qK, qD, qN⟩ := q; exact ⟨q0, q1, qP, va_K.moved (u := U) (U := U.calling g mk a) (Vm.Alike.refl U.vm) qK, qD, pw_N.same (u := U) (U := U.calling g mk a) rfl qN⟩, va_recv hKc hPc (ci := 9) (q0 := 0) rfl rfl, fun U hU hW => ⟨rfl, by rw [hU], by rw [hU]; exact hPc, va_K.moved hW.alike hKc, hDc.weaken (fun _ _ _ _ => trivial), pw_N.warm hW hN⟩⟩ rfl rfl hl.1 rfl (lv_room (Nat.le_of_ble_eq_true rfl)) dX8_again_2 ⟨Nat.le_of_ble_eq_true rfl, Nat.le_of_ble_eq_true rfl⟩) hS (fun q _ h => hFc q h) hFc (fun r_1 u t H1 locs ht hvm hw hB hz1 hk1 hS => ?_)
  obtain ⟨hP1, hD1⟩ := hB
  rw [ht] at hP1
  obtain ⟨hP, hD⟩ := va_join (wr := []) (w1 := [(h0, .inr (9, [.ref (a 0), .ref (a 1), .ref (a 2), .ref (a 3), .ref (a 4), .ref (a 5), .ref (a 6), .long 0, .long 0, .int nw, .int 0, .int 0, .int 0, .int 0])), (a 0, .inr (0, [.int 0, .ref z, .int 0]))]) hP hD [0, 1] [] rfl rfl (by decide) (by decide) hk1 hFc hP1 hD1
  generalize H1 = H at hP hS ⊢
  replace hP : va_P (dC, dI) vwCl [(h0, .inr (9, [.ref (a 0), .ref (a 1), .ref (a 2), .ref (a 3), .ref (a 4), .ref (a 5), .ref (a 6), .long 0, .long 0, .int nw, .int 0, .int 0, .int 0, .int 0])), (a 0, .inr (0, [.int 0, .ref z, .int 0]))] H := hP
  replace hD : va_D A [(h0, .inr (9, [.ref (a 0), .ref (a 1), .ref (a 2), .ref (a 3), .ref (a 4), .ref (a 5), .ref (a 6), .long 0, .long 0, .int nw, .int 0, .int 0, .int 0, .int 0])), (a 0, .inr (0, [.int 0, .ref z, .int 0]))] := hD
  try dsimp only at hw
  subst hw
  refine lv_if_eq (tgt := 40) hx hb dX8_again_5 (by decide) (fun _ => ?_) (fun c9 => absurd (by decide) c9)
  refine lv_iconst (v := (-1)) hx hb dX8_again_40 (by decide) ?_
  have hP9 := hP.sub (ws' := [(h0, .inr (9, [.ref (a 0), .ref (a 1), .ref (a 2), .ref (a 3), .ref (a 4), .ref (a 5), .ref (a 6), .long 0, .long 0, .int nw, .int 0, .int 0, .int 0, .int 0])), (a 0, .inr (0, [.int 0, .ref z, .int 0]))]) [0, 1] rfl
  have hD9 := hD.sub (ws' := [(h0, .inr (9, [.ref (a 0), .ref (a 1), .ref (a 2), .ref (a 3), .ref (a 4), .ref (a 5), .ref (a 6), .long 0, .long 0, .int nw, .int 0, .int 0, .int 0, .int 0])), (a 0, .inr (0, [.int 0, .ref z, .int 0]))]) [0, 1] (by decide) rfl
  exact W.iret (v := (-1)) hx hb hr (fun t ht hW => ⟨⟨(-1), (), rfl, rfl, by rw [ht]; exact hP9, hD9⟩, hS.F ht⟩) hS.2.2 dX8_again_41
def wq_t_relation : List Cond := [.code yX8_relation cX8_relation 6 (some .int), .methodLink RX8 107 yX8_canRelate, .instanceMethod yX8_canRelate, .selects RX8 yX8_canRelate yX8_canRelate, .initialized RX8] ++ (wq_canRelate)
set_option maxRecDepth 20000 in
theorem wi_t_relation : ∀ w ∈ wq_t_relation, w ∈ lw_tbl := List.forall_mem_append.mpr ⟨(by decide +kernel), wi_canRelate⟩
set_option maxRecDepth 20000 in
theorem wg_t_relation : GoodIn wq_t_relation wq_t_relation := goodIn_sub (fun _ h => h) (by decide +kernel)
set_option maxRecDepth 20000 in
theorem wc_t_relation_canRelate_107 : GoodIn wq_t_relation (wsV RX8 107 RX8 yX8_canRelate wq_canRelate) := goodIn_app (goodIn_of _ (by decide +kernel)) (fun w h => ⟨List.mem_append_right _ (h), (wg_canRelate w h).2⟩)
set_option maxHeartbeats 4000000 in
set_option maxRecDepth 100000 in
theorem c_t_relation (l : Launch) (dC : Nat → ClassId) (dI : Nat → Nat → Nat) (h0 : Nat) (a : Nat → Nat) (z : Nat) (nw : Int32) (p0 : Int32) (p1 : Int32) (p2 : Int32) (sz : Nat) : Met l yX8_relation wq_t_relation ({ frames := 3, cells := 0, slots := 0, locals := 66 }) (va_Pc [.ref h0, .int p0, .int p1, .int p2] (fun U => U.heap.size = sz ∧ va_P (dC, dI) vwCl [(h0, .inr (9, [.ref (a 0), .ref (a 1), .ref (a 2), .ref (a 3), .ref (a 4), .ref (a 5), .ref (a 6), .long 0, .long 0, .int nw, .int 0, .int 0, .int 0, .int 0])), (a 0, .inr (0, [.int 0, .ref z, .int 0]))] U.heap ∧ va_K (dC, dI) vwCl [] U ∧ va_D (fun _ => True) [(h0, .inr (9, [.ref (a 0), .ref (a 1), .ref (a 2), .ref (a 3), .ref (a 4), .ref (a 5), .ref (a 6), .long 0, .long 0, .int nw, .int 0, .int 0, .int 0, .int 0])), (a 0, .inr (0, [.int 0, .ref z, .int 0]))] ∧ pw_N U)) (va_Qi (fun (r : Int32) (_ : Unit) => r = (-1)) (fun (_ : Unit) (t : State) => va_P (dC, dI) vwCl [(h0, .inr (9, [.ref (a 0), .ref (a 1), .ref (a 2), .ref (a 3), .ref (a 4), .ref (a 5), .ref (a 6), .long 0, .long 0, .int nw, .int 0, .int 0, .int 0, .int 0])), (a 0, .inr (0, [.int 0, .ref z, .int 0]))] t.heap ∧ va_D (va_A [(h0, .inr (9, [.ref (a 0), .ref (a 1), .ref (a 2), .ref (a 3), .ref (a 4), .ref (a 5), .ref (a 6), .long 0, .long 0, .int nw, .int 0, .int 0, .int 0, .int 0])), (a 0, .inr (0, [.int 0, .ref z, .int 0]))] sz) [(h0, .inr (9, [.ref (a 0), .ref (a 1), .ref (a 2), .ref (a 3), .ref (a 4), .ref (a 5), .ref (a 6), .long 0, .long 0, .int nw, .int 0, .int 0, .int 0, .int 0])), (a 0, .inr (0, [.int 0, .ref z, .int 0]))]) (va_A [(h0, .inr (9, [.ref (a 0), .ref (a 1), .ref (a 2), .ref (a 3), .ref (a 4), .ref (a 5), .ref (a 6), .long 0, .long 0, .int nw, .int 0, .int 0, .int 0, .int 0])), (a 0, .inr (0, [.int 0, .ref z, .int 0]))] sz)) 0 0 (va_A [(h0, .inr (9, [.ref (a 0), .ref (a 1), .ref (a 2), .ref (a 3), .ref (a 4), .ref (a 5), .ref (a 6), .long 0, .long 0, .int nw, .int 0, .int 0, .int 0, .int 0])), (a 0, .inr (0, [.int 0, .ref z, .int 0]))] sz) := by
  refine Met.ofW (cc := cX8_relation) (maxL := 6) (ret := (some .int)) (by decide) rfl ?_
  intro p e s m args below meth c s₁ B hml hv
  obtain ⟨rfl, hsz, hP, hK, hD0, hN⟩ := hv
  have hx := B.exec
  have hb := B.bytes
  have hr := B.returns
  have hts := atoms_spec (ws := wq_t_relation) B.pre
  have hown : s.vm.findClass RX8 = some m.cls := findClass_of_methodNamed B.named
  have hlocks := B.notSynchronized
  subst hsz
  have hD := hD0.self (sz := s.heap.size)
  generalize hAe : va_A [(h0, .inr (9, [.ref (a 0), .ref (a 1), .ref (a 2), .ref (a 3), .ref (a 4), .ref (a 5), .ref (a 6), .long 0, .long 0, .int nw, .int 0, .int 0, .int 0, .int 0])), (a 0, .inr (0, [.int 0, .ref z, .int 0]))] s.heap.size = A at hD ⊢
  have hA : ∀ q : Nat, s.heap.size ≤ q → A q := fun q h => by rw [← hAe]; exact Or.inr h
  have hS : va_S A s.heap s.heap [] := va_S.rf
  have hP : va_P (dC, dI) vwCl [(h0, .inr (9, [.ref (a 0), .ref (a 1), .ref (a 2), .ref (a 3), .ref (a 4), .ref (a 5), .ref (a 6), .long 0, .long 0, .int nw, .int 0, .int 0, .int 0, .int 0])), (a 0, .inr (0, [.int 0, .ref z, .int 0]))] s.heap := hP
  have hl := lv_entry ([.ref h0, .int p0, .int p1, .int p2]) (n := 6) (Nat.le_of_ble_eq_true rfl)
  rw [lg_entry_eq]
  generalize (lg_sl ([.ref h0, .int p0, .int p1, .int p2]) ++ List.replicate (6 - (lg_sl ([.ref h0, .int p0, .int p1, .int p2])).length) Slot.unset).toArray = ls at hl ⊢
  have hl : lv_has ls 6 [(0, .ref h0), (1, .int p0), (2, .int p1), (3, .int p2)] := hl
  refine lv_aload_n hx hb dX8_relation_0 rfl (lv_at hl 0 rfl) ?_
  refine lv_iload_n hx hb dX8_relation_1 rfl (lv_at hl 1 rfl) ?_
  refine lv_iload_n hx hb dX8_relation_2 rfl (lv_at hl 2 rfl) ?_
  refine lv_iload_n hx hb dX8_relation_3 rfl (lv_at hl 3 rfl) ?_
  have hPc := hP.sub (ws' := [(h0, .inr (9, [.ref (a 0), .ref (a 1), .ref (a 2), .ref (a 3), .ref (a 4), .ref (a 5), .ref (a 6), .long 0, .long 0, .int nw, .int 0, .int 0, .int 0, .int 0])), (a 0, .inr (0, [.int 0, .ref z, .int 0]))]) [0, 1] rfl
  have hDc := hD.sub (ws' := [(h0, .inr (9, [.ref (a 0), .ref (a 1), .ref (a 2), .ref (a 3), .ref (a 4), .ref (a 5), .ref (a 6), .long 0, .long 0, .int nw, .int 0, .int 0, .int 0, .int 0])), (a 0, .inr (0, [.int 0, .ref z, .int 0]))]) [0, 1] (by decide) rfl
  have hKc := hK.sub (tys' := []) [] rfl
  have hFc := va_free (wc := [(h0, .inr (9, [.ref (a 0), .ref (a 1), .ref (a 2), .ref (a 3), .ref (a 4), .ref (a 5), .ref (a 6), .long 0, .long 0, .int nw, .int 0, .int 0, .int 0, .int 0])), (a 0, .inr (0, [.int 0, .ref z, .int 0]))]) hD hS hA [0, 1] rfl
  refine va_calli (va_runV (As := [.int p0, .int p1, .int p2]) (rest := []) ⟨hx, hb, hml, hown, hts⟩ (c_canRelate l dC dI h0 a z nw p0 p1 p2 s.heap.size) (cwV 3 hts wc_t_relation_canRelate_107 rfl rfl rfl (by decide +kernel) ⟨Nat.le_of_ble_eq_true rfl, Nat.le_of_ble_eq_true rfl⟩) ⟨fun a U g mk q => by obtain ⟨q0, q1, qP, qK, qD, qN⟩ := q; exact ⟨q0, q1, qP, va_K.moved (u := U) (U := U.calling g mk a) (Vm.Alike.refl U.vm) qK, qD, pw_N.same (u := U) (U := U.calling g mk a) rfl qN⟩, va_recv hKc hPc (ci := 9) (q0 := 0) rfl rfl, fun U hU hW => ⟨rfl, by rw [hU], by rw [hU]; exact hPc, va_K.moved hW.alike hKc, hDc.weaken (fun _ _ _ _ => trivial), pw_N.warm hW hN⟩⟩ rfl rfl hl.1 rfl (lv_room (Nat.le_of_ble_eq_true rfl)) dX8_relation_4 ⟨Nat.le_of_ble_eq_true rfl, Nat.le_of_ble_eq_true rfl⟩) hS (fun q _ h => hFc q h) hFc (fun r_1 u t H1 locs ht hvm hw hB hz1 hk1 hS => ?_)
  obtain ⟨hP1, hD1⟩ := hB
  rw [ht] at hP1
  obtain ⟨hP, hD⟩ := va_join (wr := []) (w1 := [(h0, .inr (9, [.ref (a 0), .ref (a 1), .ref (a 2), .ref (a 3), .ref (a 4), .ref (a 5), .ref (a 6), .long 0, .long 0, .int nw, .int 0, .int 0, .int 0, .int 0])), (a 0, .inr (0, [.int 0, .ref z, .int 0]))]) hP hD [0, 1] [] rfl rfl (by decide) (by decide) hk1 hFc hP1 hD1
  generalize H1 = H at hP hS ⊢
  replace hP : va_P (dC, dI) vwCl [(h0, .inr (9, [.ref (a 0), .ref (a 1), .ref (a 2), .ref (a 3), .ref (a 4), .ref (a 5), .ref (a 6), .long 0, .long 0, .int nw, .int 0, .int 0, .int 0, .int 0])), (a 0, .inr (0, [.int 0, .ref z, .int 0]))] H := hP
  replace hD : va_D A [(h0, .inr (9, [.ref (a 0), .ref (a 1), .ref (a 2), .ref (a 3), .ref (a 4), .ref (a 5), .ref (a 6), .long 0, .long 0, .int nw, .int 0, .int 0, .int 0, .int 0])), (a 0, .inr (0, [.int 0, .ref z, .int 0]))] := hD
  try dsimp only at hw
  subst hw
  refine lv_if_ne (tgt := 12) hx hb dX8_relation_7 (by decide) (fun c9 => absurd (by decide) c9) (fun _ => ?_)
  refine lv_iconst (v := (-1)) hx hb dX8_relation_10 (by decide) ?_
  have hP9 := hP.sub (ws' := [(h0, .inr (9, [.ref (a 0), .ref (a 1), .ref (a 2), .ref (a 3), .ref (a 4), .ref (a 5), .ref (a 6), .long 0, .long 0, .int nw, .int 0, .int 0, .int 0, .int 0])), (a 0, .inr (0, [.int 0, .ref z, .int 0]))]) [0, 1] rfl
  have hD9 := hD.sub (ws' := [(h0, .inr (9, [.ref (a 0), .ref (a 1), .ref (a 2), .ref (a 3), .ref (a 4), .ref (a 5), .ref (a 6), .long 0, .long 0, .int nw, .int 0, .int 0, .int 0, .int 0])), (a 0, .inr (0, [.int 0, .ref z, .int 0]))]) [0, 1] (by decide) rfl
  exact W.iret (v := (-1)) hx hb hr (fun t ht hW => ⟨⟨(-1), (), rfl, rfl, by rw [ht]; exact hP9, hD9⟩, hS.F ht⟩) hS.2.2 dX8_relation_11
def wq_t_undo : List Cond := [.code yX8_undo cX8_undo 4 (some .int), .methodLink RX8 107 yX8_canRelate, .instanceMethod yX8_canRelate, .selects RX8 yX8_canRelate yX8_canRelate, .initialized RX8] ++ (wq_canRelate)
set_option maxRecDepth 20000 in
theorem wi_t_undo : ∀ w ∈ wq_t_undo, w ∈ lw_tbl := List.forall_mem_append.mpr ⟨(by decide +kernel), wi_canRelate⟩
set_option maxRecDepth 20000 in
theorem wg_t_undo : GoodIn wq_t_undo wq_t_undo := goodIn_sub (fun _ h => h) (by decide +kernel)
set_option maxRecDepth 20000 in
theorem wc_t_undo_canRelate_107 : GoodIn wq_t_undo (wsV RX8 107 RX8 yX8_canRelate wq_canRelate) := goodIn_app (goodIn_of _ (by decide +kernel)) (fun w h => ⟨List.mem_append_right _ (h), (wg_canRelate w h).2⟩)
set_option maxHeartbeats 4000000 in
set_option maxRecDepth 100000 in
theorem c_t_undo (l : Launch) (dC : Nat → ClassId) (dI : Nat → Nat → Nat) (h0 : Nat) (a : Nat → Nat) (z : Nat) (nw : Int32) (p0 : Int32) (p1 : Int32) (p2 : Int32) (sz : Nat) : Met l yX8_undo wq_t_undo ({ frames := 3, cells := 0, slots := 0, locals := 66 }) (va_Pc [.ref h0, .int p0, .int p1, .int p2] (fun U => U.heap.size = sz ∧ va_P (dC, dI) vwCl [(h0, .inr (9, [.ref (a 0), .ref (a 1), .ref (a 2), .ref (a 3), .ref (a 4), .ref (a 5), .ref (a 6), .long 0, .long 0, .int nw, .int 0, .int 0, .int 0, .int 0])), (a 0, .inr (0, [.int 0, .ref z, .int 0]))] U.heap ∧ va_K (dC, dI) vwCl [] U ∧ va_D (fun _ => True) [(h0, .inr (9, [.ref (a 0), .ref (a 1), .ref (a 2), .ref (a 3), .ref (a 4), .ref (a 5), .ref (a 6), .long 0, .long 0, .int nw, .int 0, .int 0, .int 0, .int 0])), (a 0, .inr (0, [.int 0, .ref z, .int 0]))] ∧ pw_N U)) (va_Qi (fun (r : Int32) (_ : Unit) => r = (-1)) (fun (_ : Unit) (t : State) => va_P (dC, dI) vwCl [(h0, .inr (9, [.ref (a 0), .ref (a 1), .ref (a 2), .ref (a 3), .ref (a 4), .ref (a 5), .ref (a 6), .long 0, .long 0, .int nw, .int 0, .int 0, .int 0, .int 0])), (a 0, .inr (0, [.int 0, .ref z, .int 0]))] t.heap ∧ va_D (va_A [(h0, .inr (9, [.ref (a 0), .ref (a 1), .ref (a 2), .ref (a 3), .ref (a 4), .ref (a 5), .ref (a 6), .long 0, .long 0, .int nw, .int 0, .int 0, .int 0, .int 0])), (a 0, .inr (0, [.int 0, .ref z, .int 0]))] sz) [(h0, .inr (9, [.ref (a 0), .ref (a 1), .ref (a 2), .ref (a 3), .ref (a 4), .ref (a 5), .ref (a 6), .long 0, .long 0, .int nw, .int 0, .int 0, .int 0, .int 0])), (a 0, .inr (0, [.int 0, .ref z, .int 0]))]) (va_A [(h0, .inr (9, [.ref (a 0), .ref (a 1), .ref (a 2), .ref (a 3), .ref (a 4), .ref (a 5), .ref (a 6), .long 0, .long 0, .int nw, .int 0, .int 0, .int 0, .int 0])), (a 0, .inr (0, [.int 0, .ref z, .int 0]))] sz)) 0 0 (va_A [(h0, .inr (9, [.ref (a 0), .ref (a 1), .ref (a 2), .ref (a 3), .ref (a 4), .ref (a 5), .ref (a 6), .long 0, .long 0, .int nw, .int 0, .int 0, .int 0, .int 0])), (a 0, .inr (0, [.int 0, .ref z, .int 0]))] sz) := by
  refine Met.ofW (cc := cX8_undo) (maxL := 4) (ret := (some .int)) (by decide) rfl ?_
  intro p e s m args below meth c s₁ B hml hv
  obtain ⟨rfl, hsz, hP, hK, hD0, hN⟩ := hv
  have hx := B.exec
  have hb := B.bytes
  have hr := B.returns
  have hts := atoms_spec (ws := wq_t_undo) B.pre
  have hown : s.vm.findClass RX8 = some m.cls := findClass_of_methodNamed B.named
  have hlocks := B.notSynchronized
  subst hsz
  have hD := hD0.self (sz := s.heap.size)
  generalize hAe : va_A [(h0, .inr (9, [.ref (a 0), .ref (a 1), .ref (a 2), .ref (a 3), .ref (a 4), .ref (a 5), .ref (a 6), .long 0, .long 0, .int nw, .int 0, .int 0, .int 0, .int 0])), (a 0, .inr (0, [.int 0, .ref z, .int 0]))] s.heap.size = A at hD ⊢
  have hA : ∀ q : Nat, s.heap.size ≤ q → A q := fun q h => by rw [← hAe]; exact Or.inr h
  have hS : va_S A s.heap s.heap [] := va_S.rf
  have hP : va_P (dC, dI) vwCl [(h0, .inr (9, [.ref (a 0), .ref (a 1), .ref (a 2), .ref (a 3), .ref (a 4), .ref (a 5), .ref (a 6), .long 0, .long 0, .int nw, .int 0, .int 0, .int 0, .int 0])), (a 0, .inr (0, [.int 0, .ref z, .int 0]))] s.heap := hP
  have hl := lv_entry ([.ref h0, .int p0, .int p1, .int p2]) (n := 4) (Nat.le_of_ble_eq_true rfl)
  rw [lg_entry_eq]
  generalize (lg_sl ([.ref h0, .int p0, .int p1, .int p2]) ++ List.replicate (4 - (lg_sl ([.ref h0, .int p0, .int p1, .int p2])).length) Slot.unset).toArray = ls at hl ⊢
  have hl : lv_has ls 4 [(0, .ref h0), (1, .int p0), (2, .int p1), (3, .int p2)] := hl
  refine lv_aload_n hx hb dX8_undo_0 rfl (lv_at hl 0 rfl) ?_
  refine lv_iload_n hx hb dX8_undo_1 rfl (lv_at hl 1 rfl) ?_
  refine lv_iload_n hx hb dX8_undo_2 rfl (lv_at hl 2 rfl) ?_
  refine lv_iload_n hx hb dX8_undo_3 rfl (lv_at hl 3 rfl) ?_
  have hPc := hP.sub (ws' := [(h0, .inr (9, [.ref (a 0), .ref (a 1), .ref (a 2), .ref (a 3), .ref (a 4), .ref (a 5), .ref (a 6), .long 0, .long 0, .int nw, .int 0, .int 0, .int 0, .int 0])), (a 0, .inr (0, [.int 0, .ref z, .int 0]))]) [0, 1] rfl
  have hDc := hD.sub (ws' := [(h0, .inr (9, [.ref (a 0), .ref (a 1), .ref (a 2), .ref (a 3), .ref (a 4), .ref (a 5), .ref (a 6), .long 0, .long 0, .int nw, .int 0, .int 0, .int 0, .int 0])), (a 0, .inr (0, [.int 0, .ref z, .int 0]))]) [0, 1] (by decide) rfl
  have hKc := hK.sub (tys' := []) [] rfl
  have hFc := va_free (wc := [(h0, .inr (9, [.ref (a 0), .ref (a 1), .ref (a 2), .ref (a 3), .ref (a 4), .ref (a 5), .ref (a 6), .long 0, .long 0, .int nw, .int 0, .int 0, .int 0, .int 0])), (a 0, .inr (0, [.int 0, .ref z, .int 0]))]) hD hS hA [0, 1] rfl
  refine va_calli (va_runV (As := [.int p0, .int p1, .int p2]) (rest := []) ⟨hx, hb, hml, hown, hts⟩ (c_canRelate l dC dI h0 a z nw p0 p1 p2 s.heap.size) (cwV 3 hts wc_t_undo_canRelate_107 rfl rfl rfl (by decide +kernel) ⟨Nat.le_of_ble_eq_true rfl, Nat.le_of_ble_eq_true rfl⟩) ⟨fun a U g mk q => by obtain ⟨q0, q1, qP, qK, qD, qN⟩ := q; exact ⟨q0, q1, qP, va_K.moved (u := U) (U := U.calling g mk a) (Vm.Alike.refl U.vm) qK, qD, pw_N.same (u := U) (U := U.calling g mk a) rfl qN⟩, va_recv hKc hPc (ci := 9) (q0 := 0) rfl rfl, fun U hU hW => ⟨rfl, by rw [hU], by rw [hU]; exact hPc, va_K.moved hW.alike hKc, hDc.weaken (fun _ _ _ _ => trivial), pw_N.warm hW hN⟩⟩ rfl rfl hl.1 rfl (lv_room (Nat.le_of_ble_eq_true rfl)) dX8_undo_4 ⟨Nat.le_of_ble_eq_true rfl, Nat.le_of_ble_eq_true rfl⟩) hS (fun q _ h => hFc q h) hFc (fun r_1 u t H1 locs ht hvm hw hB hz1 hk1 hS => ?_)
  obtain ⟨hP1, hD1⟩ := hB
  rw [ht] at hP1
  obtain ⟨hP, hD⟩ := va_join (wr := []) (w1 := [(h0, .inr (9, [.ref (a 0), .ref (a 1), .ref (a 2), .ref (a 3), .ref (a 4), .ref (a 5), .ref (a 6), .long 0, .long 0, .int nw, .int 0, .int 0, .int 0, .int 0])), (a 0, .inr (0, [.int 0, .ref z, .int 0]))]) hP hD [0, 1] [] rfl rfl (by decide) (by decide) hk1 hFc hP1 hD1
  generalize H1 = H at hP hS ⊢
  replace hP : va_P (dC, dI) vwCl [(h0, .inr (9, [.ref (a 0), .ref (a 1), .ref (a 2), .ref (a 3), .ref (a 4), .ref (a 5), .ref (a 6), .long 0, .long 0, .int nw, .int 0, .int 0, .int 0, .int 0])), (a 0, .inr (0, [.int 0, .ref z, .int 0]))] H := hP
  replace hD : va_D A [(h0, .inr (9, [.ref (a 0), .ref (a 1), .ref (a 2), .ref (a 3), .ref (a 4), .ref (a 5), .ref (a 6), .long 0, .long 0, .int nw, .int 0, .int 0, .int 0, .int 0])), (a 0, .inr (0, [.int 0, .ref z, .int 0]))] := hD
  try dsimp only at hw
  subst hw
  refine lv_if_ne (tgt := 12) hx hb dX8_undo_7 (by decide) (fun c9 => absurd (by decide) c9) (fun _ => ?_)
  refine lv_iconst (v := (-1)) hx hb dX8_undo_10 (by decide) ?_
  have hP9 := hP.sub (ws' := [(h0, .inr (9, [.ref (a 0), .ref (a 1), .ref (a 2), .ref (a 3), .ref (a 4), .ref (a 5), .ref (a 6), .long 0, .long 0, .int nw, .int 0, .int 0, .int 0, .int 0])), (a 0, .inr (0, [.int 0, .ref z, .int 0]))]) [0, 1] rfl
  have hD9 := hD.sub (ws' := [(h0, .inr (9, [.ref (a 0), .ref (a 1), .ref (a 2), .ref (a 3), .ref (a 4), .ref (a 5), .ref (a 6), .long 0, .long 0, .int nw, .int 0, .int 0, .int 0, .int 0])), (a 0, .inr (0, [.int 0, .ref z, .int 0]))]) [0, 1] (by decide) rfl
  exact W.iret (v := (-1)) hx hb hr (fun t ht hW => ⟨⟨(-1), (), rfl, rfl, by rw [ht]; exact hP9, hD9⟩, hS.F ht⟩) hS.2.2 dX8_undo_11
def wq_t_letter : List Cond := [.code yX8_letter cX8_letter 4 (some .int), .methodLink RX8 82 yX8_exists, .instanceMethod yX8_exists, .selects RX8 yX8_exists yX8_exists, .initialized RX8] ++ (wq_exists)
set_option maxRecDepth 20000 in
theorem wi_t_letter : ∀ w ∈ wq_t_letter, w ∈ lw_tbl := List.forall_mem_append.mpr ⟨(by decide +kernel), wi_exists⟩
set_option maxRecDepth 20000 in
theorem wg_t_letter : GoodIn wq_t_letter wq_t_letter := goodIn_sub (fun _ h => h) (by decide +kernel)
set_option maxRecDepth 20000 in
theorem wc_t_letter_exists_82 : GoodIn wq_t_letter (wsV RX8 82 RX8 yX8_exists wq_exists) := goodIn_app (goodIn_of _ (by decide +kernel)) (fun w h => ⟨List.mem_append_right _ (h), (wg_exists w h).2⟩)
set_option maxHeartbeats 4000000 in
set_option maxRecDepth 100000 in
theorem c_t_letter (l : Launch) (dC : Nat → ClassId) (dI : Nat → Nat → Nat) (h0 : Nat) (a : Nat → Nat) (z : Nat) (nw : Int32) (p0 : Int32) (sz : Nat) : Met l yX8_letter wq_t_letter ({ frames := 2, cells := 0, slots := 0, locals := 43 }) (va_Pc [.ref h0, .int p0] (fun U => U.heap.size = sz ∧ va_P (dC, dI) vwCl [(h0, .inr (9, [.ref (a 0), .ref (a 1), .ref (a 2), .ref (a 3), .ref (a 4), .ref (a 5), .ref (a 6), .long 0, .long 0, .int nw, .int 0, .int 0, .int 0, .int 0])), (a 0, .inr (0, [.int 0, .ref z, .int 0]))] U.heap ∧ va_K (dC, dI) vwCl [] U ∧ va_D (fun _ => True) [(h0, .inr (9, [.ref (a 0), .ref (a 1), .ref (a 2), .ref (a 3), .ref (a 4), .ref (a 5), .ref (a 6), .long 0, .long 0, .int nw, .int 0, .int 0, .int 0, .int 0])), (a 0, .inr (0, [.int 0, .ref z, .int 0]))] ∧ pw_N U)) (va_Qi (fun (r : Int32) (_ : Unit) => r = (-1)) (fun (_ : Unit) (t : State) => va_P (dC, dI) vwCl [(h0, .inr (9, [.ref (a 0), .ref (a 1), .ref (a 2), .ref (a 3), .ref (a 4), .ref (a 5), .ref (a 6), .long 0, .long 0, .int nw, .int 0, .int 0, .int 0, .int 0])), (a 0, .inr (0, [.int 0, .ref z, .int 0]))] t.heap ∧ va_D (va_A [(h0, .inr (9, [.ref (a 0), .ref (a 1), .ref (a 2), .ref (a 3), .ref (a 4), .ref (a 5), .ref (a 6), .long 0, .long 0, .int nw, .int 0, .int 0, .int 0, .int 0])), (a 0, .inr (0, [.int 0, .ref z, .int 0]))] sz) [(h0, .inr (9, [.ref (a 0), .ref (a 1), .ref (a 2), .ref (a 3), .ref (a 4), .ref (a 5), .ref (a 6), .long 0, .long 0, .int nw, .int 0, .int 0, .int 0, .int 0])), (a 0, .inr (0, [.int 0, .ref z, .int 0]))]) (va_A [(h0, .inr (9, [.ref (a 0), .ref (a 1), .ref (a 2), .ref (a 3), .ref (a 4), .ref (a 5), .ref (a 6), .long 0, .long 0, .int nw, .int 0, .int 0, .int 0, .int 0])), (a 0, .inr (0, [.int 0, .ref z, .int 0]))] sz)) 0 0 (va_A [(h0, .inr (9, [.ref (a 0), .ref (a 1), .ref (a 2), .ref (a 3), .ref (a 4), .ref (a 5), .ref (a 6), .long 0, .long 0, .int nw, .int 0, .int 0, .int 0, .int 0])), (a 0, .inr (0, [.int 0, .ref z, .int 0]))] sz) := by
  refine Met.ofW (cc := cX8_letter) (maxL := 4) (ret := (some .int)) (by decide) rfl ?_
  intro p e s m args below meth c s₁ B hml hv
  obtain ⟨rfl, hsz, hP, hK, hD0, hN⟩ := hv
  have hx := B.exec
  have hb := B.bytes
  have hr := B.returns
  have hts := atoms_spec (ws := wq_t_letter) B.pre
  have hown : s.vm.findClass RX8 = some m.cls := findClass_of_methodNamed B.named
  have hlocks := B.notSynchronized
  subst hsz
  have hD := hD0.self (sz := s.heap.size)
  generalize hAe : va_A [(h0, .inr (9, [.ref (a 0), .ref (a 1), .ref (a 2), .ref (a 3), .ref (a 4), .ref (a 5), .ref (a 6), .long 0, .long 0, .int nw, .int 0, .int 0, .int 0, .int 0])), (a 0, .inr (0, [.int 0, .ref z, .int 0]))] s.heap.size = A at hD ⊢
  have hA : ∀ q : Nat, s.heap.size ≤ q → A q := fun q h => by rw [← hAe]; exact Or.inr h
  have hS : va_S A s.heap s.heap [] := va_S.rf
  have hP : va_P (dC, dI) vwCl [(h0, .inr (9, [.ref (a 0), .ref (a 1), .ref (a 2), .ref (a 3), .ref (a 4), .ref (a 5), .ref (a 6), .long 0, .long 0, .int nw, .int 0, .int 0, .int 0, .int 0])), (a 0, .inr (0, [.int 0, .ref z, .int 0]))] s.heap := hP
  have hl := lv_entry ([.ref h0, .int p0]) (n := 4) (Nat.le_of_ble_eq_true rfl)
  rw [lg_entry_eq]
  generalize (lg_sl ([.ref h0, .int p0]) ++ List.replicate (4 - (lg_sl ([.ref h0, .int p0])).length) Slot.unset).toArray = ls at hl ⊢
  have hl : lv_has ls 4 [(0, .ref h0), (1, .int p0)] := hl
  refine lv_aload_n hx hb dX8_letter_0 rfl (lv_at hl 0 rfl) ?_
  refine lv_iload_n hx hb dX8_letter_1 rfl (lv_at hl 1 rfl) ?_
  have hPc := hP.sub (ws' := [(h0, .inr (9, [.ref (a 0), .ref (a 1), .ref (a 2), .ref (a 3), .ref (a 4), .ref (a 5), .ref (a 6), .long 0, .long 0, .int nw, .int 0, .int 0, .int 0, .int 0])), (a 0, .inr (0, [.int 0, .ref z, .int 0]))]) [0, 1] rfl
  have hDc := hD.sub (ws' := [(h0, .inr (9, [.ref (a 0), .ref (a 1), .ref (a 2), .ref (a 3), .ref (a 4), .ref (a 5), .ref (a 6), .long 0, .long 0, .int nw, .int 0, .int 0, .int 0, .int 0])), (a 0, .inr (0, [.int 0, .ref z, .int 0]))]) [0, 1] (by decide) rfl
  have hKc := hK.sub (tys' := []) [] rfl
  have hFc := va_free (wc := [(h0, .inr (9, [.ref (a 0), .ref (a 1), .ref (a 2), .ref (a 3), .ref (a 4), .ref (a 5), .ref (a 6), .long 0, .long 0, .int nw, .int 0, .int 0, .int 0, .int 0])), (a 0, .inr (0, [.int 0, .ref z, .int 0]))]) hD hS hA [0, 1] rfl
  refine va_calli (va_runV (As := [.int p0]) (rest := []) ⟨hx, hb, hml, hown, hts⟩ (c_exists l dC dI h0 a z nw p0 s.heap.size) (cwV 1 hts wc_t_letter_exists_82 rfl rfl rfl (by decide +kernel) ⟨Nat.le_of_ble_eq_true rfl, Nat.le_of_ble_eq_true rfl⟩) ⟨fun a U g mk q => by obtain ⟨q0, q1, qP, qK, qD, qN⟩ := q; exact ⟨q0, q1, qP, va_K.moved (u := U) (U := U.calling g mk a) (Vm.Alike.refl U.vm) qK, qD, pw_N.same (u := U) (U := U.calling g mk a) rfl qN⟩, va_recv hKc hPc (ci := 9) (q0 := 0) rfl rfl, fun U hU hW => ⟨rfl, by rw [hU], by rw [hU]; exact hPc, va_K.moved hW.alike hKc, hDc.weaken (fun _ _ _ _ => trivial), pw_N.warm hW hN⟩⟩ rfl rfl hl.1 rfl (lv_room (Nat.le_of_ble_eq_true rfl)) dX8_letter_2 ⟨Nat.le_of_ble_eq_true rfl, Nat.le_of_ble_eq_true rfl⟩) hS (fun q _ h => hFc q h) hFc (fun r_1 u t H1 locs ht hvm hw hB hz1 hk1 hS => ?_)
  obtain ⟨hP1, hD1⟩ := hB
  rw [ht] at hP1
  obtain ⟨hP, hD⟩ := va_join (wr := []) (w1 := [(h0, .inr (9, [.ref (a 0), .ref (a 1), .ref (a 2), .ref (a 3), .ref (a 4), .ref (a 5), .ref (a 6), .long 0, .long 0, .int nw, .int 0, .int 0, .int 0, .int 0])), (a 0, .inr (0, [.int 0, .ref z, .int 0]))]) hP hD [0, 1] [] rfl rfl (by decide) (by decide) hk1 hFc hP1 hD1
  generalize H1 = H at hP hS ⊢
  replace hP : va_P (dC, dI) vwCl [(h0, .inr (9, [.ref (a 0), .ref (a 1), .ref (a 2), .ref (a 3), .ref (a 4), .ref (a 5), .ref (a 6), .long 0, .long 0, .int nw, .int 0, .int 0, .int 0, .int 0])), (a 0, .inr (0, [.int 0, .ref z, .int 0]))] H := hP
  replace hD : va_D A [(h0, .inr (9, [.ref (a 0), .ref (a 1), .ref (a 2), .ref (a 3), .ref (a 4), .ref (a 5), .ref (a 6), .long 0, .long 0, .int nw, .int 0, .int 0, .int 0, .int 0])), (a 0, .inr (0, [.int 0, .ref z, .int 0]))] := hD
  try dsimp only at hw
  subst hw
  refine lv_if_ne (tgt := 10) hx hb dX8_letter_5 (by decide) (fun c9 => absurd (by decide) c9) (fun _ => ?_)
  refine lv_iconst (v := (-1)) hx hb dX8_letter_8 (by decide) ?_
  have hP9 := hP.sub (ws' := [(h0, .inr (9, [.ref (a 0), .ref (a 1), .ref (a 2), .ref (a 3), .ref (a 4), .ref (a 5), .ref (a 6), .long 0, .long 0, .int nw, .int 0, .int 0, .int 0, .int 0])), (a 0, .inr (0, [.int 0, .ref z, .int 0]))]) [0, 1] rfl
  have hD9 := hD.sub (ws' := [(h0, .inr (9, [.ref (a 0), .ref (a 1), .ref (a 2), .ref (a 3), .ref (a 4), .ref (a 5), .ref (a 6), .long 0, .long 0, .int nw, .int 0, .int 0, .int 0, .int 0])), (a 0, .inr (0, [.int 0, .ref z, .int 0]))]) [0, 1] (by decide) rfl
  exact W.iret (v := (-1)) hx hb hr (fun t ht hW => ⟨⟨(-1), (), rfl, rfl, by rw [ht]; exact hP9, hD9⟩, hS.F ht⟩) hS.2.2 dX8_letter_9
def wq_t_about : List Cond := [.code yX8_about cX8_about 4 (some .int), .methodLink RX8 82 yX8_exists, .instanceMethod yX8_exists, .selects RX8 yX8_exists yX8_exists, .initialized RX8] ++ (wq_exists)
set_option maxRecDepth 20000 in
theorem wi_t_about : ∀ w ∈ wq_t_about, w ∈ lw_tbl := List.forall_mem_append.mpr ⟨(by decide +kernel), wi_exists⟩
set_option maxRecDepth 20000 in
theorem wg_t_about : GoodIn wq_t_about wq_t_about := goodIn_sub (fun _ h => h) (by decide +kernel)
set_option maxRecDepth 20000 in
theorem wc_t_about_exists_82 : GoodIn wq_t_about (wsV RX8 82 RX8 yX8_exists wq_exists) := goodIn_app (goodIn_of _ (by decide +kernel)) (fun w h => ⟨List.mem_append_right _ (h), (wg_exists w h).2⟩)
set_option maxHeartbeats 4000000 in
set_option maxRecDepth 100000 in
theorem c_t_about (l : Launch) (dC : Nat → ClassId) (dI : Nat → Nat → Nat) (h0 : Nat) (a : Nat → Nat) (z : Nat) (nw : Int32) (p0 : Int32) (p1 : Int32) (sz : Nat) : Met l yX8_about wq_t_about ({ frames := 2, cells := 0, slots := 0, locals := 43 }) (va_Pc [.ref h0, .int p0, .int p1] (fun U => U.heap.size = sz ∧ va_P (dC, dI) vwCl [(h0, .inr (9, [.ref (a 0), .ref (a 1), .ref (a 2), .ref (a 3), .ref (a 4), .ref (a 5), .ref (a 6), .long 0, .long 0, .int nw, .int 0, .int 0, .int 0, .int 0])), (a 0, .inr (0, [.int 0, .ref z, .int 0]))] U.heap ∧ va_K (dC, dI) vwCl [] U ∧ va_D (fun _ => True) [(h0, .inr (9, [.ref (a 0), .ref (a 1), .ref (a 2), .ref (a 3), .ref (a 4), .ref (a 5), .ref (a 6), .long 0, .long 0, .int nw, .int 0, .int 0, .int 0, .int 0])), (a 0, .inr (0, [.int 0, .ref z, .int 0]))] ∧ pw_N U)) (va_Qi (fun (r : Int32) (_ : Unit) => r = (-1)) (fun (_ : Unit) (t : State) => va_P (dC, dI) vwCl [(h0, .inr (9, [.ref (a 0), .ref (a 1), .ref (a 2), .ref (a 3), .ref (a 4), .ref (a 5), .ref (a 6), .long 0, .long 0, .int nw, .int 0, .int 0, .int 0, .int 0])), (a 0, .inr (0, [.int 0, .ref z, .int 0]))] t.heap ∧ va_D (va_A [(h0, .inr (9, [.ref (a 0), .ref (a 1), .ref (a 2), .ref (a 3), .ref (a 4), .ref (a 5), .ref (a 6), .long 0, .long 0, .int nw, .int 0, .int 0, .int 0, .int 0])), (a 0, .inr (0, [.int 0, .ref z, .int 0]))] sz) [(h0, .inr (9, [.ref (a 0), .ref (a 1), .ref (a 2), .ref (a 3), .ref (a 4), .ref (a 5), .ref (a 6), .long 0, .long 0, .int nw, .int 0, .int 0, .int 0, .int 0])), (a 0, .inr (0, [.int 0, .ref z, .int 0]))]) (va_A [(h0, .inr (9, [.ref (a 0), .ref (a 1), .ref (a 2), .ref (a 3), .ref (a 4), .ref (a 5), .ref (a 6), .long 0, .long 0, .int nw, .int 0, .int 0, .int 0, .int 0])), (a 0, .inr (0, [.int 0, .ref z, .int 0]))] sz)) 0 0 (va_A [(h0, .inr (9, [.ref (a 0), .ref (a 1), .ref (a 2), .ref (a 3), .ref (a 4), .ref (a 5), .ref (a 6), .long 0, .long 0, .int nw, .int 0, .int 0, .int 0, .int 0])), (a 0, .inr (0, [.int 0, .ref z, .int 0]))] sz) := by
  refine Met.ofW (cc := cX8_about) (maxL := 4) (ret := (some .int)) (by decide) rfl ?_
  intro p e s m args below meth c s₁ B hml hv
  obtain ⟨rfl, hsz, hP, hK, hD0, hN⟩ := hv
  have hx := B.exec
  have hb := B.bytes
  have hr := B.returns
  have hts := atoms_spec (ws := wq_t_about) B.pre
  have hown : s.vm.findClass RX8 = some m.cls := findClass_of_methodNamed B.named
  have hlocks := B.notSynchronized
  subst hsz
  have hD := hD0.self (sz := s.heap.size)
  generalize hAe : va_A [(h0, .inr (9, [.ref (a 0), .ref (a 1), .ref (a 2), .ref (a 3), .ref (a 4), .ref (a 5), .ref (a 6), .long 0, .long 0, .int nw, .int 0, .int 0, .int 0, .int 0])), (a 0, .inr (0, [.int 0, .ref z, .int 0]))] s.heap.size = A at hD ⊢
  have hA : ∀ q : Nat, s.heap.size ≤ q → A q := fun q h => by rw [← hAe]; exact Or.inr h
  have hS : va_S A s.heap s.heap [] := va_S.rf
  have hP : va_P (dC, dI) vwCl [(h0, .inr (9, [.ref (a 0), .ref (a 1), .ref (a 2), .ref (a 3), .ref (a 4), .ref (a 5), .ref (a 6), .long 0, .long 0, .int nw, .int 0, .int 0, .int 0, .int 0])), (a 0, .inr (0, [.int 0, .ref z, .int 0]))] s.heap := hP
  have hl := lv_entry ([.ref h0, .int p0, .int p1]) (n := 4) (Nat.le_of_ble_eq_true rfl)
  rw [lg_entry_eq]
  generalize (lg_sl ([.ref h0, .int p0, .int p1]) ++ List.replicate (4 - (lg_sl ([.ref h0, .int p0, .int p1])).length) Slot.unset).toArray = ls at hl ⊢
  have hl : lv_has ls 4 [(0, .ref h0), (1, .int p0), (2, .int p1)] := hl
  refine lv_aload_n hx hb dX8_about_0 rfl (lv_at hl 0 rfl) ?_
  refine lv_iload_n hx hb dX8_about_1 rfl (lv_at hl 1 rfl) ?_
  have hPc := hP.sub (ws' := [(h0, .inr (9, [.ref (a 0), .ref (a 1), .ref (a 2), .ref (a 3), .ref (a 4), .ref (a 5), .ref (a 6), .long 0, .long 0, .int nw, .int 0, .int 0, .int 0, .int 0])), (a 0, .inr (0, [.int 0, .ref z, .int 0]))]) [0, 1] rfl
  have hDc := hD.sub (ws' := [(h0, .inr (9, [.ref (a 0), .ref (a 1), .ref (a 2), .ref (a 3), .ref (a 4), .ref (a 5), .ref (a 6), .long 0, .long 0, .int nw, .int 0, .int 0, .int 0, .int 0])), (a 0, .inr (0, [.int 0, .ref z, .int 0]))]) [0, 1] (by decide) rfl
  have hKc := hK.sub (tys' := []) [] rfl
  have hFc := va_free (wc := [(h0, .inr (9, [.ref (a 0), .ref (a 1), .ref (a 2), .ref (a 3), .ref (a 4), .ref (a 5), .ref (a 6), .long 0, .long 0, .int nw, .int 0, .int 0, .int 0, .int 0])), (a 0, .inr (0, [.int 0, .ref z, .int 0]))]) hD hS hA [0, 1] rfl
  refine va_calli (va_runV (As := [.int p0]) (rest := []) ⟨hx, hb, hml, hown, hts⟩ (c_exists l dC dI h0 a z nw p0 s.heap.size) (cwV 1 hts wc_t_about_exists_82 rfl rfl rfl (by decide +kernel) ⟨Nat.le_of_ble_eq_true rfl, Nat.le_of_ble_eq_true rfl⟩) ⟨fun a U g mk q => by obtain ⟨q0, q1, qP, qK, qD, qN⟩ := q; exact ⟨q0, q1, qP, va_K.moved (u := U) (U := U.calling g mk a) (Vm.Alike.refl U.vm) qK, qD, pw_N.same (u := U) (U := U.calling g mk a) rfl qN⟩, va_recv hKc hPc (ci := 9) (q0 := 0) rfl rfl, fun U hU hW => ⟨rfl, by rw [hU], by rw [hU]; exact hPc, va_K.moved hW.alike hKc, hDc.weaken (fun _ _ _ _ => trivial), pw_N.warm hW hN⟩⟩ rfl rfl hl.1 rfl (lv_room (Nat.le_of_ble_eq_true rfl)) dX8_about_2 ⟨Nat.le_of_ble_eq_true rfl, Nat.le_of_ble_eq_true rfl⟩) hS (fun q _ h => hFc q h) hFc (fun r_1 u t H1 locs ht hvm hw hB hz1 hk1 hS => ?_)
  obtain ⟨hP1, hD1⟩ := hB
  rw [ht] at hP1
  obtain ⟨hP, hD⟩ := va_join (wr := []) (w1 := [(h0, .inr (9, [.ref (a 0), .ref (a 1), .ref (a 2), .ref (a 3), .ref (a 4), .ref (a 5), .ref (a 6), .long 0, .long 0, .int nw, .int 0, .int 0, .int 0, .int 0])), (a 0, .inr (0, [.int 0, .ref z, .int 0]))]) hP hD [0, 1] [] rfl rfl (by decide) (by decide) hk1 hFc hP1 hD1
  generalize H1 = H at hP hS ⊢
  replace hP : va_P (dC, dI) vwCl [(h0, .inr (9, [.ref (a 0), .ref (a 1), .ref (a 2), .ref (a 3), .ref (a 4), .ref (a 5), .ref (a 6), .long 0, .long 0, .int nw, .int 0, .int 0, .int 0, .int 0])), (a 0, .inr (0, [.int 0, .ref z, .int 0]))] H := hP
  replace hD : va_D A [(h0, .inr (9, [.ref (a 0), .ref (a 1), .ref (a 2), .ref (a 3), .ref (a 4), .ref (a 5), .ref (a 6), .long 0, .long 0, .int nw, .int 0, .int 0, .int 0, .int 0])), (a 0, .inr (0, [.int 0, .ref z, .int 0]))] := hD
  try dsimp only at hw
  subst hw
  refine lv_if_ne (tgt := 10) hx hb dX8_about_5 (by decide) (fun c9 => absurd (by decide) c9) (fun _ => ?_)
  refine lv_iconst (v := (-1)) hx hb dX8_about_8 (by decide) ?_
  have hP9 := hP.sub (ws' := [(h0, .inr (9, [.ref (a 0), .ref (a 1), .ref (a 2), .ref (a 3), .ref (a 4), .ref (a 5), .ref (a 6), .long 0, .long 0, .int nw, .int 0, .int 0, .int 0, .int 0])), (a 0, .inr (0, [.int 0, .ref z, .int 0]))]) [0, 1] rfl
  have hD9 := hD.sub (ws' := [(h0, .inr (9, [.ref (a 0), .ref (a 1), .ref (a 2), .ref (a 3), .ref (a 4), .ref (a 5), .ref (a 6), .long 0, .long 0, .int nw, .int 0, .int 0, .int 0, .int 0])), (a 0, .inr (0, [.int 0, .ref z, .int 0]))]) [0, 1] (by decide) rfl
  exact W.iret (v := (-1)) hx hb hr (fun t ht hW => ⟨⟨(-1), (), rfl, rfl, by rw [ht]; exact hP9, hD9⟩, hS.F ht⟩) hS.2.2 dX8_about_9
def wq_t_related : List Cond := [.code yX8_related cX8_related 4 (some .int), .methodLink RX8 107 yX8_canRelate, .instanceMethod yX8_canRelate, .selects RX8 yX8_canRelate yX8_canRelate, .initialized RX8] ++ (wq_canRelate)
set_option maxRecDepth 20000 in
theorem wi_t_related : ∀ w ∈ wq_t_related, w ∈ lw_tbl := List.forall_mem_append.mpr ⟨(by decide +kernel), wi_canRelate⟩
set_option maxRecDepth 20000 in
theorem wg_t_related : GoodIn wq_t_related wq_t_related := goodIn_sub (fun _ h => h) (by decide +kernel)
set_option maxRecDepth 20000 in
theorem wc_t_related_canRelate_107 : GoodIn wq_t_related (wsV RX8 107 RX8 yX8_canRelate wq_canRelate) := goodIn_app (goodIn_of _ (by decide +kernel)) (fun w h => ⟨List.mem_append_right _ (h), (wg_canRelate w h).2⟩)
set_option maxHeartbeats 4000000 in
set_option maxRecDepth 100000 in
theorem c_t_related (l : Launch) (dC : Nat → ClassId) (dI : Nat → Nat → Nat) (h0 : Nat) (a : Nat → Nat) (z : Nat) (nw : Int32) (p0 : Int32) (p1 : Int32) (p2 : Int32) (sz : Nat) : Met l yX8_related wq_t_related ({ frames := 3, cells := 0, slots := 0, locals := 66 }) (va_Pc [.ref h0, .int p0, .int p1, .int p2] (fun U => U.heap.size = sz ∧ va_P (dC, dI) vwCl [(h0, .inr (9, [.ref (a 0), .ref (a 1), .ref (a 2), .ref (a 3), .ref (a 4), .ref (a 5), .ref (a 6), .long 0, .long 0, .int nw, .int 0, .int 0, .int 0, .int 0])), (a 0, .inr (0, [.int 0, .ref z, .int 0]))] U.heap ∧ va_K (dC, dI) vwCl [] U ∧ va_D (fun _ => True) [(h0, .inr (9, [.ref (a 0), .ref (a 1), .ref (a 2), .ref (a 3), .ref (a 4), .ref (a 5), .ref (a 6), .long 0, .long 0, .int nw, .int 0, .int 0, .int 0, .int 0])), (a 0, .inr (0, [.int 0, .ref z, .int 0]))] ∧ pw_N U)) (va_Qi (fun (r : Int32) (_ : Unit) => r = (-1)) (fun (_ : Unit) (t : State) => va_P (dC, dI) vwCl [(h0, .inr (9, [.ref (a 0), .ref (a 1), .ref (a 2), .ref (a 3), .ref (a 4), .ref (a 5), .ref (a 6), .long 0, .long 0, .int nw, .int 0, .int 0, .int 0, .int 0])), (a 0, .inr (0, [.int 0, .ref z, .int 0]))] t.heap ∧ va_D (va_A [(h0, .inr (9, [.ref (a 0), .ref (a 1), .ref (a 2), .ref (a 3), .ref (a 4), .ref (a 5), .ref (a 6), .long 0, .long 0, .int nw, .int 0, .int 0, .int 0, .int 0])), (a 0, .inr (0, [.int 0, .ref z, .int 0]))] sz) [(h0, .inr (9, [.ref (a 0), .ref (a 1), .ref (a 2), .ref (a 3), .ref (a 4), .ref (a 5), .ref (a 6), .long 0, .long 0, .int nw, .int 0, .int 0, .int 0, .int 0])), (a 0, .inr (0, [.int 0, .ref z, .int 0]))]) (va_A [(h0, .inr (9, [.ref (a 0), .ref (a 1), .ref (a 2), .ref (a 3), .ref (a 4), .ref (a 5), .ref (a 6), .long 0, .long 0, .int nw, .int 0, .int 0, .int 0, .int 0])), (a 0, .inr (0, [.int 0, .ref z, .int 0]))] sz)) 0 0 (va_A [(h0, .inr (9, [.ref (a 0), .ref (a 1), .ref (a 2), .ref (a 3), .ref (a 4), .ref (a 5), .ref (a 6), .long 0, .long 0, .int nw, .int 0, .int 0, .int 0, .int 0])), (a 0, .inr (0, [.int 0, .ref z, .int 0]))] sz) := by
  refine Met.ofW (cc := cX8_related) (maxL := 4) (ret := (some .int)) (by decide) rfl ?_
  intro p e s m args below meth c s₁ B hml hv
  obtain ⟨rfl, hsz, hP, hK, hD0, hN⟩ := hv
  have hx := B.exec
  have hb := B.bytes
  have hr := B.returns
  have hts := atoms_spec (ws := wq_t_related) B.pre
  have hown : s.vm.findClass RX8 = some m.cls := findClass_of_methodNamed B.named
  have hlocks := B.notSynchronized
  subst hsz
  have hD := hD0.self (sz := s.heap.size)
  generalize hAe : va_A [(h0, .inr (9, [.ref (a 0), .ref (a 1), .ref (a 2), .ref (a 3), .ref (a 4), .ref (a 5), .ref (a 6), .long 0, .long 0, .int nw, .int 0, .int 0, .int 0, .int 0])), (a 0, .inr (0, [.int 0, .ref z, .int 0]))] s.heap.size = A at hD ⊢
  have hA : ∀ q : Nat, s.heap.size ≤ q → A q := fun q h => by rw [← hAe]; exact Or.inr h
  have hS : va_S A s.heap s.heap [] := va_S.rf
  have hP : va_P (dC, dI) vwCl [(h0, .inr (9, [.ref (a 0), .ref (a 1), .ref (a 2), .ref (a 3), .ref (a 4), .ref (a 5), .ref (a 6), .long 0, .long 0, .int nw, .int 0, .int 0, .int 0, .int 0])), (a 0, .inr (0, [.int 0, .ref z, .int 0]))] s.heap := hP
  have hl := lv_entry ([.ref h0, .int p0, .int p1, .int p2]) (n := 4) (Nat.le_of_ble_eq_true rfl)
  rw [lg_entry_eq]
  generalize (lg_sl ([.ref h0, .int p0, .int p1, .int p2]) ++ List.replicate (4 - (lg_sl ([.ref h0, .int p0, .int p1, .int p2])).length) Slot.unset).toArray = ls at hl ⊢
  have hl : lv_has ls 4 [(0, .ref h0), (1, .int p0), (2, .int p1), (3, .int p2)] := hl
  refine lv_aload_n hx hb dX8_related_0 rfl (lv_at hl 0 rfl) ?_
  refine lv_iload_n hx hb dX8_related_1 rfl (lv_at hl 1 rfl) ?_
  refine lv_iload_n hx hb dX8_related_2 rfl (lv_at hl 2 rfl) ?_
  refine lv_iload_n hx hb dX8_related_3 rfl (lv_at hl 3 rfl) ?_
  have hPc := hP.sub (ws' := [(h0, .inr (9, [.ref (a 0), .ref (a 1), .ref (a 2), .ref (a 3), .ref (a 4), .ref (a 5), .ref (a 6), .long 0, .long 0, .int nw, .int 0, .int 0, .int 0, .int 0])), (a 0, .inr (0, [.int 0, .ref z, .int 0]))]) [0, 1] rfl
  have hDc := hD.sub (ws' := [(h0, .inr (9, [.ref (a 0), .ref (a 1), .ref (a 2), .ref (a 3), .ref (a 4), .ref (a 5), .ref (a 6), .long 0, .long 0, .int nw, .int 0, .int 0, .int 0, .int 0])), (a 0, .inr (0, [.int 0, .ref z, .int 0]))]) [0, 1] (by decide) rfl
  have hKc := hK.sub (tys' := []) [] rfl
  have hFc := va_free (wc := [(h0, .inr (9, [.ref (a 0), .ref (a 1), .ref (a 2), .ref (a 3), .ref (a 4), .ref (a 5), .ref (a 6), .long 0, .long 0, .int nw, .int 0, .int 0, .int 0, .int 0])), (a 0, .inr (0, [.int 0, .ref z, .int 0]))]) hD hS hA [0, 1] rfl
  refine va_calli (va_runV (As := [.int p0, .int p1, .int p2]) (rest := []) ⟨hx, hb, hml, hown, hts⟩ (c_canRelate l dC dI h0 a z nw p0 p1 p2 s.heap.size) (cwV 3 hts wc_t_related_canRelate_107 rfl rfl rfl (by decide +kernel) ⟨Nat.le_of_ble_eq_true rfl, Nat.le_of_ble_eq_true rfl⟩) ⟨fun a U g mk q => by obtain ⟨q0, q1, qP, qK, qD, qN⟩ := q; exact ⟨q0, q1, qP, va_K.moved (u := U) (U := U.calling g mk a) (Vm.Alike.refl U.vm) qK, qD, pw_N.same (u := U) (U := U.calling g mk a) rfl qN⟩, va_recv hKc hPc (ci := 9) (q0 := 0) rfl rfl, fun U hU hW => ⟨rfl, by rw [hU], by rw [hU]; exact hPc, va_K.moved hW.alike hKc, hDc.weaken (fun _ _ _ _ => trivial), pw_N.warm hW hN⟩⟩ rfl rfl hl.1 rfl (lv_room (Nat.le_of_ble_eq_true rfl)) dX8_related_4 ⟨Nat.le_of_ble_eq_true rfl, Nat.le_of_ble_eq_true rfl⟩) hS (fun q _ h => hFc q h) hFc (fun r_1 u t H1 locs ht hvm hw hB hz1 hk1 hS => ?_)
  obtain ⟨hP1, hD1⟩ := hB
  rw [ht] at hP1
  obtain ⟨hP, hD⟩ := va_join (wr := []) (w1 := [(h0, .inr (9, [.ref (a 0), .ref (a 1), .ref (a 2), .ref (a 3), .ref (a 4), .ref (a 5), .ref (a 6), .long 0, .long 0, .int nw, .int 0, .int 0, .int 0, .int 0])), (a 0, .inr (0, [.int 0, .ref z, .int 0]))]) hP hD [0, 1] [] rfl rfl (by decide) (by decide) hk1 hFc hP1 hD1
  generalize H1 = H at hP hS ⊢
  replace hP : va_P (dC, dI) vwCl [(h0, .inr (9, [.ref (a 0), .ref (a 1), .ref (a 2), .ref (a 3), .ref (a 4), .ref (a 5), .ref (a 6), .long 0, .long 0, .int nw, .int 0, .int 0, .int 0, .int 0])), (a 0, .inr (0, [.int 0, .ref z, .int 0]))] H := hP
  replace hD : va_D A [(h0, .inr (9, [.ref (a 0), .ref (a 1), .ref (a 2), .ref (a 3), .ref (a 4), .ref (a 5), .ref (a 6), .long 0, .long 0, .int nw, .int 0, .int 0, .int 0, .int 0])), (a 0, .inr (0, [.int 0, .ref z, .int 0]))] := hD
  try dsimp only at hw
  subst hw
  refine lv_if_ne (tgt := 12) hx hb dX8_related_7 (by decide) (fun c9 => absurd (by decide) c9) (fun _ => ?_)
  refine lv_iconst (v := (-1)) hx hb dX8_related_10 (by decide) ?_
  have hP9 := hP.sub (ws' := [(h0, .inr (9, [.ref (a 0), .ref (a 1), .ref (a 2), .ref (a 3), .ref (a 4), .ref (a 5), .ref (a 6), .long 0, .long 0, .int nw, .int 0, .int 0, .int 0, .int 0])), (a 0, .inr (0, [.int 0, .ref z, .int 0]))]) [0, 1] rfl
  have hD9 := hD.sub (ws' := [(h0, .inr (9, [.ref (a 0), .ref (a 1), .ref (a 2), .ref (a 3), .ref (a 4), .ref (a 5), .ref (a 6), .long 0, .long 0, .int nw, .int 0, .int 0, .int 0, .int 0])), (a 0, .inr (0, [.int 0, .ref z, .int 0]))]) [0, 1] (by decide) rfl
  exact W.iret (v := (-1)) hx hb hr (fun t ht hW => ⟨⟨(-1), (), rfl, rfl, by rw [ht]; exact hP9, hD9⟩, hS.F ht⟩) hS.2.2 dX8_related_11
def wq_t_waits : List Cond := [.code yX8_waits cX8_waits 3 (some .int), .methodLink RX8 82 yX8_exists, .instanceMethod yX8_exists, .selects RX8 yX8_exists yX8_exists, .initialized RX8] ++ (wq_exists)
set_option maxRecDepth 20000 in
theorem wi_t_waits : ∀ w ∈ wq_t_waits, w ∈ lw_tbl := List.forall_mem_append.mpr ⟨(by decide +kernel), wi_exists⟩
set_option maxRecDepth 20000 in
theorem wg_t_waits : GoodIn wq_t_waits wq_t_waits := goodIn_sub (fun _ h => h) (by decide +kernel)
set_option maxRecDepth 20000 in
theorem wc_t_waits_exists_82 : GoodIn wq_t_waits (wsV RX8 82 RX8 yX8_exists wq_exists) := goodIn_app (goodIn_of _ (by decide +kernel)) (fun w h => ⟨List.mem_append_right _ (h), (wg_exists w h).2⟩)
set_option maxHeartbeats 4000000 in
set_option maxRecDepth 100000 in
theorem c_t_waits (l : Launch) (dC : Nat → ClassId) (dI : Nat → Nat → Nat) (h0 : Nat) (a : Nat → Nat) (z : Nat) (nw : Int32) (p0 : Int32) (p1 : Int32) (sz : Nat) : Met l yX8_waits wq_t_waits ({ frames := 2, cells := 0, slots := 0, locals := 43 }) (va_Pc [.ref h0, .int p0, .int p1] (fun U => U.heap.size = sz ∧ va_P (dC, dI) vwCl [(h0, .inr (9, [.ref (a 0), .ref (a 1), .ref (a 2), .ref (a 3), .ref (a 4), .ref (a 5), .ref (a 6), .long 0, .long 0, .int nw, .int 0, .int 0, .int 0, .int 0])), (a 0, .inr (0, [.int 0, .ref z, .int 0]))] U.heap ∧ va_K (dC, dI) vwCl [] U ∧ va_D (fun _ => True) [(h0, .inr (9, [.ref (a 0), .ref (a 1), .ref (a 2), .ref (a 3), .ref (a 4), .ref (a 5), .ref (a 6), .long 0, .long 0, .int nw, .int 0, .int 0, .int 0, .int 0])), (a 0, .inr (0, [.int 0, .ref z, .int 0]))] ∧ pw_N U)) (va_Qi (fun (r : Int32) (_ : Unit) => r = (-1)) (fun (_ : Unit) (t : State) => va_P (dC, dI) vwCl [(h0, .inr (9, [.ref (a 0), .ref (a 1), .ref (a 2), .ref (a 3), .ref (a 4), .ref (a 5), .ref (a 6), .long 0, .long 0, .int nw, .int 0, .int 0, .int 0, .int 0])), (a 0, .inr (0, [.int 0, .ref z, .int 0]))] t.heap ∧ va_D (va_A [(h0, .inr (9, [.ref (a 0), .ref (a 1), .ref (a 2), .ref (a 3), .ref (a 4), .ref (a 5), .ref (a 6), .long 0, .long 0, .int nw, .int 0, .int 0, .int 0, .int 0])), (a 0, .inr (0, [.int 0, .ref z, .int 0]))] sz) [(h0, .inr (9, [.ref (a 0), .ref (a 1), .ref (a 2), .ref (a 3), .ref (a 4), .ref (a 5), .ref (a 6), .long 0, .long 0, .int nw, .int 0, .int 0, .int 0, .int 0])), (a 0, .inr (0, [.int 0, .ref z, .int 0]))]) (va_A [(h0, .inr (9, [.ref (a 0), .ref (a 1), .ref (a 2), .ref (a 3), .ref (a 4), .ref (a 5), .ref (a 6), .long 0, .long 0, .int nw, .int 0, .int 0, .int 0, .int 0])), (a 0, .inr (0, [.int 0, .ref z, .int 0]))] sz)) 0 0 (va_A [(h0, .inr (9, [.ref (a 0), .ref (a 1), .ref (a 2), .ref (a 3), .ref (a 4), .ref (a 5), .ref (a 6), .long 0, .long 0, .int nw, .int 0, .int 0, .int 0, .int 0])), (a 0, .inr (0, [.int 0, .ref z, .int 0]))] sz) := by
  refine Met.ofW (cc := cX8_waits) (maxL := 3) (ret := (some .int)) (by decide) rfl ?_
  intro p e s m args below meth c s₁ B hml hv
  obtain ⟨rfl, hsz, hP, hK, hD0, hN⟩ := hv
  have hx := B.exec
  have hb := B.bytes
  have hr := B.returns
  have hts := atoms_spec (ws := wq_t_waits) B.pre
  have hown : s.vm.findClass RX8 = some m.cls := findClass_of_methodNamed B.named
  have hlocks := B.notSynchronized
  subst hsz
  have hD := hD0.self (sz := s.heap.size)
  generalize hAe : va_A [(h0, .inr (9, [.ref (a 0), .ref (a 1), .ref (a 2), .ref (a 3), .ref (a 4), .ref (a 5), .ref (a 6), .long 0, .long 0, .int nw, .int 0, .int 0, .int 0, .int 0])), (a 0, .inr (0, [.int 0, .ref z, .int 0]))] s.heap.size = A at hD ⊢
  have hA : ∀ q : Nat, s.heap.size ≤ q → A q := fun q h => by rw [← hAe]; exact Or.inr h
  have hS : va_S A s.heap s.heap [] := va_S.rf
  have hP : va_P (dC, dI) vwCl [(h0, .inr (9, [.ref (a 0), .ref (a 1), .ref (a 2), .ref (a 3), .ref (a 4), .ref (a 5), .ref (a 6), .long 0, .long 0, .int nw, .int 0, .int 0, .int 0, .int 0])), (a 0, .inr (0, [.int 0, .ref z, .int 0]))] s.heap := hP
  have hl := lv_entry ([.ref h0, .int p0, .int p1]) (n := 3) (Nat.le_of_ble_eq_true rfl)
  rw [lg_entry_eq]
  generalize (lg_sl ([.ref h0, .int p0, .int p1]) ++ List.replicate (3 - (lg_sl ([.ref h0, .int p0, .int p1])).length) Slot.unset).toArray = ls at hl ⊢
  have hl : lv_has ls 3 [(0, .ref h0), (1, .int p0), (2, .int p1)] := hl
  refine lv_aload_n hx hb dX8_waits_0 rfl (lv_at hl 0 rfl) ?_
  refine lv_iload_n hx hb dX8_waits_1 rfl (lv_at hl 1 rfl) ?_
  have hPc := hP.sub (ws' := [(h0, .inr (9, [.ref (a 0), .ref (a 1), .ref (a 2), .ref (a 3), .ref (a 4), .ref (a 5), .ref (a 6), .long 0, .long 0, .int nw, .int 0, .int 0, .int 0, .int 0])), (a 0, .inr (0, [.int 0, .ref z, .int 0]))]) [0, 1] rfl
  have hDc := hD.sub (ws' := [(h0, .inr (9, [.ref (a 0), .ref (a 1), .ref (a 2), .ref (a 3), .ref (a 4), .ref (a 5), .ref (a 6), .long 0, .long 0, .int nw, .int 0, .int 0, .int 0, .int 0])), (a 0, .inr (0, [.int 0, .ref z, .int 0]))]) [0, 1] (by decide) rfl
  have hKc := hK.sub (tys' := []) [] rfl
  have hFc := va_free (wc := [(h0, .inr (9, [.ref (a 0), .ref (a 1), .ref (a 2), .ref (a 3), .ref (a 4), .ref (a 5), .ref (a 6), .long 0, .long 0, .int nw, .int 0, .int 0, .int 0, .int 0])), (a 0, .inr (0, [.int 0, .ref z, .int 0]))]) hD hS hA [0, 1] rfl
  refine va_calli (va_runV (As := [.int p0]) (rest := []) ⟨hx, hb, hml, hown, hts⟩ (c_exists l dC dI h0 a z nw p0 s.heap.size) (cwV 1 hts wc_t_waits_exists_82 rfl rfl rfl (by decide +kernel) ⟨Nat.le_of_ble_eq_true rfl, Nat.le_of_ble_eq_true rfl⟩) ⟨fun a U g mk q => by obtain ⟨q0, q1, qP, qK, qD, qN⟩ := q; exact ⟨q0, q1, qP, va_K.moved (u := U) (U := U.calling g mk a) (Vm.Alike.refl U.vm) qK, qD, pw_N.same (u := U) (U := U.calling g mk a) rfl qN⟩, va_recv hKc hPc (ci := 9) (q0 := 0) rfl rfl, fun U hU hW => ⟨rfl, by rw [hU], by rw [hU]; exact hPc, va_K.moved hW.alike hKc, hDc.weaken (fun _ _ _ _ => trivial), pw_N.warm hW hN⟩⟩ rfl rfl hl.1 rfl (lv_room (Nat.le_of_ble_eq_true rfl)) dX8_waits_2 ⟨Nat.le_of_ble_eq_true rfl, Nat.le_of_ble_eq_true rfl⟩) hS (fun q _ h => hFc q h) hFc (fun r_1 u t H1 locs ht hvm hw hB hz1 hk1 hS => ?_)
  obtain ⟨hP1, hD1⟩ := hB
  rw [ht] at hP1
  obtain ⟨hP, hD⟩ := va_join (wr := []) (w1 := [(h0, .inr (9, [.ref (a 0), .ref (a 1), .ref (a 2), .ref (a 3), .ref (a 4), .ref (a 5), .ref (a 6), .long 0, .long 0, .int nw, .int 0, .int 0, .int 0, .int 0])), (a 0, .inr (0, [.int 0, .ref z, .int 0]))]) hP hD [0, 1] [] rfl rfl (by decide) (by decide) hk1 hFc hP1 hD1
  generalize H1 = H at hP hS ⊢
  replace hP : va_P (dC, dI) vwCl [(h0, .inr (9, [.ref (a 0), .ref (a 1), .ref (a 2), .ref (a 3), .ref (a 4), .ref (a 5), .ref (a 6), .long 0, .long 0, .int nw, .int 0, .int 0, .int 0, .int 0])), (a 0, .inr (0, [.int 0, .ref z, .int 0]))] H := hP
  replace hD : va_D A [(h0, .inr (9, [.ref (a 0), .ref (a 1), .ref (a 2), .ref (a 3), .ref (a 4), .ref (a 5), .ref (a 6), .long 0, .long 0, .int nw, .int 0, .int 0, .int 0, .int 0])), (a 0, .inr (0, [.int 0, .ref z, .int 0]))] := hD
  try dsimp only at hw
  subst hw
  refine lv_if_eq (tgt := 17) hx hb dX8_waits_5 (by decide) (fun _ => ?_) (fun c9 => absurd (by decide) c9)
  refine lv_iconst (v := (-1)) hx hb dX8_waits_17 (by decide) ?_
  have hP9 := hP.sub (ws' := [(h0, .inr (9, [.ref (a 0), .ref (a 1), .ref (a 2), .ref (a 3), .ref (a 4), .ref (a 5), .ref (a 6), .long 0, .long 0, .int nw, .int 0, .int 0, .int 0, .int 0])), (a 0, .inr (0, [.int 0, .ref z, .int 0]))]) [0, 1] rfl
  have hD9 := hD.sub (ws' := [(h0, .inr (9, [.ref (a 0), .ref (a 1), .ref (a 2), .ref (a 3), .ref (a 4), .ref (a 5), .ref (a 6), .long 0, .long 0, .int nw, .int 0, .int 0, .int 0, .int 0])), (a 0, .inr (0, [.int 0, .ref z, .int 0]))]) [0, 1] (by decide) rfl
  exact W.iret (v := (-1)) hx hb hr (fun t ht hW => ⟨⟨(-1), (), rfl, rfl, by rw [ht]; exact hP9, hD9⟩, hS.F ht⟩) hS.2.2 dX8_waits_18
