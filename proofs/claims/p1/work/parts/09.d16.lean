theorem dX8_make_0 : decode cX8_make 0 = .ok (.iload_n 1, 1) := by decide +kernel
theorem dX8_make_1 : decode cX8_make 1 = .ok (.iconst 0, 1) := by decide +kernel
theorem dX8_make_2 : decode cX8_make 2 = .ok (.iconst 3, 1) := by decide +kernel
theorem dX8_make_3 : decode cX8_make 3 = .ok (.invokestatic 57, 3) := by decide +kernel
theorem dX8_make_6 : decode cX8_make 6 = .ok (.ifCond .ne 5, 3) := by decide +kernel
theorem dX8_make_9 : decode cX8_make 9 = .ok (.iconst (-1), 1) := by decide +kernel
theorem dX8_make_10 : decode cX8_make 10 = .ok (.ireturn, 1) := by decide +kernel
theorem dX8_make_11 : decode cX8_make 11 = .ok (.iload_n 1, 1) := by decide +kernel
theorem dX8_make_12 : decode cX8_make 12 = .ok (.iconst 3, 1) := by decide +kernel
theorem dX8_make_13 : decode cX8_make 13 = .ok (.if_icmp .ne 7, 3) := by decide +kernel
theorem dX8_make_16 : decode cX8_make 16 = .ok (.iconst 0, 1) := by decide +kernel
theorem dX8_make_17 : decode cX8_make 17 = .ok (.goto 5, 3) := by decide +kernel
theorem dX8_make_20 : decode cX8_make 20 = .ok (.bipush 50, 2) := by decide +kernel
theorem dX8_make_22 : decode cX8_make 22 = .ok (.istore 4, 2) := by decide +kernel
theorem dX8_make_24 : decode cX8_make 24 = .ok (.iload_n 2, 1) := by decide +kernel
theorem dX8_make_25 : decode cX8_make 25 = .ok (.iconst 0, 1) := by decide +kernel
theorem dX8_make_26 : decode cX8_make 26 = .ok (.iload 4, 2) := by decide +kernel
theorem dX8_make_28 : decode cX8_make 28 = .ok (.invokestatic 57, 3) := by decide +kernel
theorem dX8_make_31 : decode cX8_make 31 = .ok (.ifCond .eq 13, 3) := by decide +kernel
theorem dX8_make_34 : decode cX8_make 34 = .ok (.iload_n 3, 1) := by decide +kernel
theorem dX8_make_35 : decode cX8_make 35 = .ok (.iconst 0, 1) := by decide +kernel
theorem dX8_make_36 : decode cX8_make 36 = .ok (.iload 4, 2) := by decide +kernel
theorem dX8_make_38 : decode cX8_make 38 = .ok (.invokestatic 57, 3) := by decide +kernel
theorem dX8_make_41 : decode cX8_make 41 = .ok (.ifCond .ne 5, 3) := by decide +kernel
theorem dX8_make_44 : decode cX8_make 44 = .ok (.iconst (-1), 1) := by decide +kernel
theorem dX8_make_45 : decode cX8_make 45 = .ok (.ireturn, 1) := by decide +kernel
theorem dX8_make_46 : decode cX8_make 46 = .ok (.aload_n 0, 1) := by decide +kernel
theorem dX8_make_47 : decode cX8_make 47 = .ok (.getfield 10, 3) := by decide +kernel
theorem dX8_make_50 : decode cX8_make 50 = .ok (.invokevirtual 61, 3) := by decide +kernel
theorem dX8_make_53 : decode cX8_make 53 = .ok (.istore 5, 2) := by decide +kernel
theorem dX8_make_55 : decode cX8_make 55 = .ok (.iload 5, 2) := by decide +kernel
theorem dX8_make_57 : decode cX8_make 57 = .ok (.bipush 40, 2) := by decide +kernel
theorem dX8_make_59 : decode cX8_make 59 = .ok (.if_icmp .lt 6, 3) := by decide +kernel
theorem dX8_make_65 : decode cX8_make 65 = .ok (.aload_n 0, 1) := by decide +kernel
theorem dX8_make_66 : decode cX8_make 66 = .ok (.getfield 10, 3) := by decide +kernel
theorem dX8_make_69 : decode cX8_make 69 = .ok (.new 65, 3) := by decide +kernel
theorem dX8_make_72 : decode cX8_make 72 = .ok (.dup, 1) := by decide +kernel
theorem dX8_make_73 : decode cX8_make 73 = .ok (.iload_n 1, 1) := by decide +kernel
theorem dX8_make_74 : decode cX8_make 74 = .ok (.iload_n 2, 1) := by decide +kernel
theorem dX8_make_75 : decode cX8_make 75 = .ok (.iload_n 3, 1) := by decide +kernel
theorem dX8_make_76 : decode cX8_make 76 = .ok (.aload_n 0, 1) := by decide +kernel
theorem dX8_make_77 : decode cX8_make 77 = .ok (.getfield 67, 3) := by decide +kernel
theorem dX8_make_80 : decode cX8_make 80 = .ok (.invokespecial 71, 3) := by decide +kernel
theorem dX8_make_83 : decode cX8_make 83 = .ok (.invokevirtual 74, 3) := by decide +kernel
theorem dX8_make_86 : decode cX8_make 86 = .ok (.pop, 1) := by decide +kernel
theorem dX8_make_87 : decode cX8_make 87 = .ok (.aload_n 0, 1) := by decide +kernel
theorem dX8_make_88 : decode cX8_make 88 = .ok (.getfield 53, 3) := by decide +kernel
theorem dX8_make_91 : decode cX8_make 91 = .ok (.iconst 0, 1) := by decide +kernel
theorem dX8_make_92 : decode cX8_make 92 = .ok (.dup2, 1) := by decide +kernel
theorem dX8_make_93 : decode cX8_make 93 = .ok (.laload, 1) := by decide +kernel
theorem dX8_make_94 : decode cX8_make 94 = .ok (.iload 5, 2) := by decide +kernel
theorem dX8_make_96 : decode cX8_make 96 = .ok (.invokestatic 78, 3) := by decide +kernel
theorem dX8_make_99 : decode cX8_make 99 = .ok (.lor, 1) := by decide +kernel
theorem dX8_make_100 : decode cX8_make 100 = .ok (.lastore, 1) := by decide +kernel
theorem dX8_make_101 : decode cX8_make 101 = .ok (.iload 5, 2) := by decide +kernel
theorem dX8_make_103 : decode cX8_make 103 = .ok (.ireturn, 1) := by decide +kernel
def wq_t_make : List Cond := [.code yX8_make cX8_make 6 (some .int), .fieldLink RX8 10 "ServiceTree" "services" "Ljava/util/ArrayList;", .classLink RX8 65 RX7, .instantiable RX7 12, .initialized RX7, .fieldLink RX8 67 "ServiceTree" "now" "I", .methodLink RX8 71 yX7_init, .instanceMethod yX7_init, .fieldLink RX8 53 "ServiceTree" "inState" "[J", .methodLink RX8 57 yX8_within, .static yX8_within, .initialized RX8, .methodLink RX8 61 yJx4a65c_size_8abf5, .instanceMethod yJx4a65c_size_8abf5, .selects RJx4a65c yJx4a65c_size_8abf5 yJx4a65c_size_8abf5, .initialized RJx4a65c, .methodLink RX8 74 yJx4a65c_add_9ea2d, .instanceMethod yJx4a65c_add_9ea2d, .selects RJx4a65c yJx4a65c_add_9ea2d yJx4a65c_add_9ea2d, .methodLink RX8 78 yX8_only, .static yX8_only] ++ (wsX70 ++ (wsX80 ++ (wq_within ++ (wq_size ++ (wq_serviceInit ++ (wq_add ++ (wq_only0)))))))
theorem in_t_make_X7 : ∀ w ∈ wsX70, w ∈ wq_t_make := fun _ h => List.mem_append_right _ (List.mem_append_left _ (h))
theorem in_t_make_X8 : ∀ w ∈ wsX80, w ∈ wq_t_make := fun _ h => List.mem_append_right _ (List.mem_append_right _ (List.mem_append_left _ (h)))
set_option maxRecDepth 20000 in
theorem wi_t_make : ∀ w ∈ wq_t_make, w ∈ lw_tbl := List.forall_mem_append.mpr ⟨(by decide +kernel), List.forall_mem_append.mpr ⟨inKX7, List.forall_mem_append.mpr ⟨inKX8, List.forall_mem_append.mpr ⟨wi_within, List.forall_mem_append.mpr ⟨wi_size, List.forall_mem_append.mpr ⟨wi_serviceInit, List.forall_mem_append.mpr ⟨wi_add, wi_only0⟩⟩⟩⟩⟩⟩⟩
set_option maxRecDepth 20000 in
theorem wg_t_make : GoodIn wq_t_make wq_t_make := goodIn_sub (fun _ h => h) (by decide +kernel)
set_option maxRecDepth 20000 in
theorem wc_t_make_within_57 : GoodIn wq_t_make (va_wsS RX8 57 yX8_within wq_within) := goodIn_app (goodIn_of _ (by decide +kernel)) (fun w h => ⟨List.mem_append_right _ (List.mem_append_right _ (List.mem_append_right _ (List.mem_append_left _ (h)))), (wg_within w h).2⟩)
set_option maxRecDepth 20000 in
theorem wc_t_make_size_61 : GoodIn wq_t_make (wsV RX8 61 RJx4a65c yJx4a65c_size_8abf5 wq_size) := goodIn_app (goodIn_of _ (by decide +kernel)) (fun w h => ⟨List.mem_append_right _ (List.mem_append_right _ (List.mem_append_right _ (List.mem_append_right _ (List.mem_append_left _ (h))))), (wg_size w h).2⟩)
theorem wc_t_make_serviceInit_71 : GoodIn wq_t_make wq_serviceInit := (fun w h => ⟨List.mem_append_right _ (List.mem_append_right _ (List.mem_append_right _ (List.mem_append_right _ (List.mem_append_right _ (List.mem_append_left _ (h)))))), (wg_serviceInit w h).2⟩)
set_option maxRecDepth 20000 in
theorem wc_t_make_add_74 : GoodIn wq_t_make (wsV RX8 74 RJx4a65c yJx4a65c_add_9ea2d wq_add) := goodIn_app (goodIn_of _ (by decide +kernel)) (fun w h => ⟨List.mem_append_right _ (List.mem_append_right _ (List.mem_append_right _ (List.mem_append_right _ (List.mem_append_right _ (List.mem_append_right _ (List.mem_append_left _ (h))))))), (wg_add w h).2⟩)
set_option maxRecDepth 20000 in
theorem wc_t_make_only0_78 : GoodIn wq_t_make (va_wsS RX8 78 yX8_only wq_only0) := goodIn_app (goodIn_of _ (by decide +kernel)) (fun w h => ⟨List.mem_append_right _ (List.mem_append_right _ (List.mem_append_right _ (List.mem_append_right _ (List.mem_append_right _ (List.mem_append_right _ (List.mem_append_right _ (h))))))), (wg_only0 w h).2⟩)
set_option maxHeartbeats 4000000 in
set_option maxRecDepth 100000 in
theorem c_t_make (l : Launch) (dC : Nat → ClassId) (dI : Nat → Nat → Nat) (h0 : Nat) (a : Nat → Nat) (z : Nat) (cI : ClassId) (p0 : Int32) (p1 : Int32) (p2 : Int32) (sz : Nat) : Met l yX8_make wq_t_make ({ frames := 5, cells := 7, slots := 71, locals := 111 }) (va_Pc [.ref h0, .int p0, .int p1, .int p2] (fun U => U.heap.size = sz ∧ va_P (dC, dI) vwCl [(h0, .inr (9, [.ref (a 0), .ref (a 1), .ref (a 2), .ref (a 3), .ref (a 4), .ref (a 5), .ref (a 6), .long 0, .long 0, .int 0, .int 0, .int 0, .int 0, .int 0])), (a 0, .inr (0, [.int 0, .ref z, .int 0])), (a 6, .inl (cI, 6, .inr (.inl (fun _ => 0))))] U.heap ∧ va_K (dC, dI) vwCl [(cI, .long)] U ∧ va_D (fun _ => True) [(h0, .inr (9, [.ref (a 0), .ref (a 1), .ref (a 2), .ref (a 3), .ref (a 4), .ref (a 5), .ref (a 6), .long 0, .long 0, .int 0, .int 0, .int 0, .int 0, .int 0])), (a 0, .inr (0, [.int 0, .ref z, .int 0])), (a 6, .inl (cI, 6, .inr (.inl (fun _ => 0))))] ∧ pw_N U ∧ va_Z "java/util/ArrayList" "DEFAULTCAPACITY_EMPTY_ELEMENTDATA" "[Ljava/lang/Object;" (.ref z) (va_A [(h0, .inr (9, [.ref (a 0), .ref (a 1), .ref (a 2), .ref (a 3), .ref (a 4), .ref (a 5), .ref (a 6), .long 0, .long 0, .int 0, .int 0, .int 0, .int 0, .int 0])), (a 0, .inr (0, [.int 0, .ref z, .int 0])), (a 6, .inl (cI, 6, .inr (.inl (fun _ => 0))))] sz) U U.heap ∧ va_T (.object "java/lang/Object") z 0 (fun _ => .null) (va_A [(h0, .inr (9, [.ref (a 0), .ref (a 1), .ref (a 2), .ref (a 3), .ref (a 4), .ref (a 5), .ref (a 6), .long 0, .long 0, .int 0, .int 0, .int 0, .int 0, .int 0])), (a 0, .inr (0, [.int 0, .ref z, .int 0])), (a 6, .inl (cI, 6, .inr (.inl (fun _ => 0))))] sz) U U.heap ∧ va_AO "java/lang/Object" U)) (va_Qi (fun (r : Int32) (_ : Unit) => r = if 0 ≤ p0 ∧ p0 ≤ 3 ∧ 0 ≤ p1 ∧ p1 ≤ 50 ∧ 0 ≤ p2 ∧ p2 ≤ 50 ∧ (p0 = 3 → p1 ≤ 0 ∧ p2 ≤ 0) then 0 else (-1)) (fun (_ : Unit) (t : State) => True) (va_A [(h0, .inr (9, [.ref (a 0), .ref (a 1), .ref (a 2), .ref (a 3), .ref (a 4), .ref (a 5), .ref (a 6), .long 0, .long 0, .int 0, .int 0, .int 0, .int 0, .int 0])), (a 0, .inr (0, [.int 0, .ref z, .int 0])), (a 6, .inl (cI, 6, .inr (.inl (fun _ => 0))))] sz)) 7 71 (va_A [(h0, .inr (9, [.ref (a 0), .ref (a 1), .ref (a 2), .ref (a 3), .ref (a 4), .ref (a 5), .ref (a 6), .long 0, .long 0, .int 0, .int 0, .int 0, .int 0, .int 0])), (a 0, .inr (0, [.int 0, .ref z, .int 0])), (a 6, .inl (cI, 6, .inr (.inl (fun _ => 0))))] sz) := by
  refine Met.ofW (cc := cX8_make) (maxL := 6) (ret := (some .int)) (by decide) rfl ?_
  intro p e s m args below meth c s₁ B hml hv
  obtain ⟨rfl, hsz, hP, hK, hD0, hN, hZ, hT, hO⟩ := hv
  have hx := B.exec
  have hb := B.bytes
  have hr := B.returns
  have hts := atoms_spec (ws := wq_t_make) B.pre
  have hown : s.vm.findClass RX8 = some m.cls := findClass_of_methodNamed B.named
  have hlocks := B.notSynchronized
  subst hsz
  have hD := hD0.self (sz := s.heap.size)
  generalize hAe : va_A [(h0, .inr (9, [.ref (a 0), .ref (a 1), .ref (a 2), .ref (a 3), .ref (a 4), .ref (a 5), .ref (a 6), .long 0, .long 0, .int 0, .int 0, .int 0, .int 0, .int 0])), (a 0, .inr (0, [.int 0, .ref z, .int 0])), (a 6, .inl (cI, 6, .inr (.inl (fun _ => 0))))] s.heap.size = A at hD hZ hT ⊢
  have hA : ∀ q : Nat, s.heap.size ≤ q → A q := fun q h => by rw [← hAe]; exact Or.inr h
  have hS : va_S A s.heap s.heap [] := va_S.rf
  have hP : va_P (dC, dI) vwCl [(h0, .inr (9, [.ref (a 0), .ref (a 1), .ref (a 2), .ref (a 3), .ref (a 4), .ref (a 5), .ref (a 6), .long 0, .long 0, .int 0, .int 0, .int 0, .int 0, .int 0])), (a 0, .inr (0, [.int 0, .ref z, .int 0])), (a 6, .inl (cI, 6, .inr (.inl (fun _ => 0))))] s.heap := hP
  have hl := lv_entry ([.ref h0, .int p0, .int p1, .int p2]) (n := 6) (Nat.le_of_ble_eq_true rfl)
  rw [lg_entry_eq]
  generalize (lg_sl ([.ref h0, .int p0, .int p1, .int p2]) ++ List.replicate (6 - (lg_sl ([.ref h0, .int p0, .int p1, .int p2])).length) Slot.unset).toArray = ls at hl ⊢
  have hl : lv_has ls 6 [(0, .ref h0), (1, .int p0), (2, .int p1), (3, .int p2)] := hl
  refine lv_iload_n hx hb dX8_make_0 rfl (lv_at hl 1 rfl) ?_
  refine lv_iconst (v := 0) hx hb dX8_make_1 (by decide) ?_
  refine lv_iconst (v := 3) hx hb dX8_make_2 (by decide) ?_
  have hPc := hP.sub (ws' := []) [] rfl
  have hDc := hD.sub (ws' := []) [] (by decide) rfl
  have hKc := hK.sub (tys' := []) [] rfl
  have hFc := va_free (wc := []) hD hS hA [] rfl
  refine va_calli (va_runS (As := [.int p0, .int 0, .int 3]) (rest := []) ⟨hx, hb, hml, hown, hts⟩ (c_within l dC dI p0 0 3 s.heap.size) (va_cwS 3 hts wc_t_make_within_57 rfl rfl rfl (by decide +kernel) ⟨Nat.le_of_ble_eq_true rfl, Nat.le_of_ble_eq_true rfl⟩) ⟨fun a U g mk q => by obtain ⟨q0, q1, qP, qK, qD, qN⟩ := q; exact ⟨q0, q1, qP, va_K.moved (u := U) (U := U.calling g mk a) (Vm.Alike.refl U.vm) qK, qD, pw_N.same (u := U) (U := U.calling g mk a) rfl qN⟩, fun U hU hW => ⟨rfl, by rw [hU], by rw [hU]; exact hPc, va_K.moved hW.alike hKc, hDc.weaken (fun _ _ _ _ => trivial), pw_N.warm hW hN⟩⟩ rfl rfl hl.1 rfl (lv_room (Nat.le_of_ble_eq_true rfl)) dX8_make_3 ⟨Nat.le_of_ble_eq_true rfl, Nat.le_of_ble_eq_true rfl⟩) hS (fun q _ h => hFc q h) hFc (fun r_1 u t H1 locs ht hvm hw hB hz1 hk1 hS => ?_)
  obtain ⟨hP1, hD1⟩ := hB
  rw [ht] at hP1
  obtain ⟨hP, hD⟩ := va_join (wr := [(h0, .inr (9, [.ref (a 0), .ref (a 1), .ref (a 2), .ref (a 3), .ref (a 4), .ref (a 5), .ref (a 6), .long 0, .long 0, .int 0, .int 0, .int 0, .int 0, .int 0])), (a 0, .inr (0, [.int 0, .ref z, .int 0])), (a 6, .inl (cI, 6, .inr (.inl (fun _ => 0))))]) (w1 := []) hP hD [] [0, 1, 2] rfl rfl (by decide) (by decide) hk1 hFc hP1 hD1
  generalize H1 = H at hP hS ⊢
  replace hP : va_P (dC, dI) vwCl [(h0, .inr (9, [.ref (a 0), .ref (a 1), .ref (a 2), .ref (a 3), .ref (a 4), .ref (a 5), .ref (a 6), .long 0, .long 0, .int 0, .int 0, .int 0, .int 0, .int 0])), (a 0, .inr (0, [.int 0, .ref z, .int 0])), (a 6, .inl (cI, 6, .inr (.inl (fun _ => 0))))] H := hP
  replace hD : va_D A [(h0, .inr (9, [.ref (a 0), .ref (a 1), .ref (a 2), .ref (a 3), .ref (a 4), .ref (a 5), .ref (a 6), .long 0, .long 0, .int 0, .int 0, .int 0, .int 0, .int 0])), (a 0, .inr (0, [.int 0, .ref z, .int 0])), (a 6, .inl (cI, 6, .inr (.inl (fun _ => 0))))] := hD
  try dsimp only at hw
  rcases Classical.em (0 ≤ p0 ∧ p0 ≤ 3) with h_2 | h_2
  · obtain rfl : r_1 = 1 := hw.trans (if_pos h_2)
    refine lv_if_ne (tgt := 11) hx hb dX8_make_6 (by decide) (fun _ => ?_) (fun c9 => absurd c9 (by decide))
    refine lv_iload_n hx hb dX8_make_11 rfl (lv_at hl 1 rfl) ?_
    refine lv_iconst (v := 3) hx hb dX8_make_12 (by decide) ?_
    refine lv_icmp_ne (tgt := 20) hx hb dX8_make_13 (by decide) (fun c_3 => ?_) (fun c_3 => ?_)
    · refine lv_bipush (v := 50) hx hb dX8_make_20 (by decide) ?_
      refine lv_istore (lv' := [(4, .int 50), (0, .ref h0), (1, .int p0), (2, .int p1), (3, .int p2)]) hx hb dX8_make_22 hl (by decide) rfl (fun ls hl => ?_)
      refine lv_iload_n hx hb dX8_make_24 rfl (lv_at hl 3 rfl) ?_
      refine lv_iconst (v := 0) hx hb dX8_make_25 (by decide) ?_
      refine lv_iload hx hb dX8_make_26 (lv_at hl 0 rfl) ?_
      have hPc := hP.sub (ws' := []) [] rfl
      have hDc := hD.sub (ws' := []) [] (by decide) rfl
      have hKc := hK.sub (tys' := []) [] rfl
      have hFc := va_free (wc := []) hD hS hA [] rfl
      refine va_calli (va_runS (As := [.int p1, .int 0, .int 50]) (rest := []) ⟨hx, hb, hml, hown, hts⟩ (c_within l dC dI p1 0 50 H.size) (va_cwS 3 hts wc_t_make_within_57 rfl rfl rfl (by decide +kernel) ⟨Nat.le_of_ble_eq_true rfl, Nat.le_of_ble_eq_true rfl⟩) ⟨fun a U g mk q => by obtain ⟨q0, q1, qP, qK, qD, qN⟩ := q; exact ⟨q0, q1, qP, va_K.moved (u := U) (U := U.calling g mk a) (Vm.Alike.refl U.vm) qK, qD, pw_N.same (u := U) (U := U.calling g mk a) rfl qN⟩, fun U hU hW => ⟨rfl, by rw [hU], by rw [hU]; exact hPc, va_K.moved hW.alike hKc, hDc.weaken (fun _ _ _ _ => trivial), pw_N.warm hW hN⟩⟩ rfl rfl hl.1 rfl (lv_room (Nat.le_of_ble_eq_true rfl)) dX8_make_28 ⟨Nat.le_of_ble_eq_true rfl, Nat.le_of_ble_eq_true rfl⟩) hS (fun q _ h => hFc q h) hFc (fun r_4 u t H1 locs ht hvm hw hB hz1 hk1 hS => ?_)
      obtain ⟨hP1, hD1⟩ := hB
      rw [ht] at hP1
      obtain ⟨hP, hD⟩ := va_join (wr := [(h0, .inr (9, [.ref (a 0), .ref (a 1), .ref (a 2), .ref (a 3), .ref (a 4), .ref (a 5), .ref (a 6), .long 0, .long 0, .int 0, .int 0, .int 0, .int 0, .int 0])), (a 0, .inr (0, [.int 0, .ref z, .int 0])), (a 6, .inl (cI, 6, .inr (.inl (fun _ => 0))))]) (w1 := []) hP hD [] [0, 1, 2] rfl rfl (by decide) (by decide) hk1 hFc hP1 hD1
      generalize H1 = H at hP hS ⊢
      replace hP : va_P (dC, dI) vwCl [(h0, .inr (9, [.ref (a 0), .ref (a 1), .ref (a 2), .ref (a 3), .ref (a 4), .ref (a 5), .ref (a 6), .long 0, .long 0, .int 0, .int 0, .int 0, .int 0, .int 0])), (a 0, .inr (0, [.int 0, .ref z, .int 0])), (a 6, .inl (cI, 6, .inr (.inl (fun _ => 0))))] H := hP
      replace hD : va_D A [(h0, .inr (9, [.ref (a 0), .ref (a 1), .ref (a 2), .ref (a 3), .ref (a 4), .ref (a 5), .ref (a 6), .long 0, .long 0, .int 0, .int 0, .int 0, .int 0, .int 0])), (a 0, .inr (0, [.int 0, .ref z, .int 0])), (a 6, .inl (cI, 6, .inr (.inl (fun _ => 0))))] := hD
      try dsimp only at hw
      rcases Classical.em (0 ≤ p1 ∧ p1 ≤ 50) with h_5 | h_5
      · obtain rfl : r_4 = 1 := hw.trans (if_pos h_5)
        refine lv_if_eq (tgt := 44) hx hb dX8_make_31 (by decide) (fun c9 => absurd c9 (by decide)) (fun _ => ?_)
        refine lv_iload_n hx hb dX8_make_34 rfl (lv_at hl 4 rfl) ?_
        refine lv_iconst (v := 0) hx hb dX8_make_35 (by decide) ?_
        refine lv_iload hx hb dX8_make_36 (lv_at hl 0 rfl) ?_
        have hPc := hP.sub (ws' := []) [] rfl
        have hDc := hD.sub (ws' := []) [] (by decide) rfl
        have hKc := hK.sub (tys' := []) [] rfl
        have hFc := va_free (wc := []) hD hS hA [] rfl
        refine va_calli (va_runS (As := [.int p2, .int 0, .int 50]) (rest := []) ⟨hx, hb, hml, hown, hts⟩ (c_within l dC dI p2 0 50 H.size) (va_cwS 3 hts wc_t_make_within_57 rfl rfl rfl (by decide +kernel) ⟨Nat.le_of_ble_eq_true rfl, Nat.le_of_ble_eq_true rfl⟩) ⟨fun a U g mk q => by obtain ⟨q0, q1, qP, qK, qD, qN⟩ := q; exact ⟨q0, q1, qP, va_K.moved (u := U) (U := U.calling g mk a) (Vm.Alike.refl U.vm) qK, qD, pw_N.same (u := U) (U := U.calling g mk a) rfl qN⟩, fun U hU hW => ⟨rfl, by rw [hU], by rw [hU]; exact hPc, va_K.moved hW.alike hKc, hDc.weaken (fun _ _ _ _ => trivial), pw_N.warm hW hN⟩⟩ rfl rfl hl.1 rfl (lv_room (Nat.le_of_ble_eq_true rfl)) dX8_make_38 ⟨Nat.le_of_ble_eq_true rfl, Nat.le_of_ble_eq_true rfl⟩) hS (fun q _ h => hFc q h) hFc (fun r_6 u t H1 locs ht hvm hw hB hz1 hk1 hS => ?_)
        obtain ⟨hP1, hD1⟩ := hB
        rw [ht] at hP1
        obtain ⟨hP, hD⟩ := va_join (wr := [(h0, .inr (9, [.ref (a 0), .ref (a 1), .ref (a 2), .ref (a 3), .ref (a 4), .ref (a 5), .ref (a 6), .long 0, .long 0, .int 0, .int 0, .int 0, .int 0, .int 0])), (a 0, .inr (0, [.int 0, .ref z, .int 0])), (a 6, .inl (cI, 6, .inr (.inl (fun _ => 0))))]) (w1 := []) hP hD [] [0, 1, 2] rfl rfl (by decide) (by decide) hk1 hFc hP1 hD1
        generalize H1 = H at hP hS ⊢
        replace hP : va_P (dC, dI) vwCl [(h0, .inr (9, [.ref (a 0), .ref (a 1), .ref (a 2), .ref (a 3), .ref (a 4), .ref (a 5), .ref (a 6), .long 0, .long 0, .int 0, .int 0, .int 0, .int 0, .int 0])), (a 0, .inr (0, [.int 0, .ref z, .int 0])), (a 6, .inl (cI, 6, .inr (.inl (fun _ => 0))))] H := hP
        replace hD : va_D A [(h0, .inr (9, [.ref (a 0), .ref (a 1), .ref (a 2), .ref (a 3), .ref (a 4), .ref (a 5), .ref (a 6), .long 0, .long 0, .int 0, .int 0, .int 0, .int 0, .int 0])), (a 0, .inr (0, [.int 0, .ref z, .int 0])), (a 6, .inl (cI, 6, .inr (.inl (fun _ => 0))))] := hD
        try dsimp only at hw
        rcases Classical.em (0 ≤ p2 ∧ p2 ≤ 50) with h_7 | h_7
        · obtain rfl : r_6 = 1 := hw.trans (if_pos h_7)
          refine lv_if_ne (tgt := 46) hx hb dX8_make_41 (by decide) (fun _ => ?_) (fun c9 => absurd c9 (by decide))
          refine lv_aload_n hx hb dX8_make_46 rfl (lv_at hl 1 rfl) ?_
          refine va_get (D := (dC, dI)) (ci := 9) (v := .ref (a 0)) (C := RX8) (T := TX8) (N := 14) hx hb hts in_t_make_X8 hown hK hP 0 rfl rfl 0 (by decide) (hts (.fieldLink RX8 10 "ServiceTree" "services" "Ljava/util/ArrayList;") (by decide +kernel)) (fun _ h9 => h9) rfl dX8_make_47 ?_
          have hPc := hP.sub (ws' := [(a 0, .inr (0, [.int 0, .ref z, .int 0]))]) [1] rfl
          have hDc := hD.sub (ws' := [(a 0, .inr (0, [.int 0, .ref z, .int 0]))]) [1] (by decide) rfl
          have hKc := hK.sub (tys' := []) [] rfl
          have hFc := va_free (wc := [(a 0, .inr (0, [.int 0, .ref z, .int 0]))]) hD hS hA [1] rfl
          refine va_calli (va_runV (As := []) (rest := []) ⟨hx, hb, hml, hown, hts⟩ (c_size l dC dI (a 0) z H.size) (cwV 0 hts wc_t_make_size_61 rfl rfl rfl (by decide +kernel) ⟨Nat.le_of_ble_eq_true rfl, Nat.le_of_ble_eq_true rfl⟩) ⟨fun a U g mk q => by obtain ⟨q0, q1, qP, qK, qD, qN⟩ := q; exact ⟨q0, q1, qP, va_K.moved (u := U) (U := U.calling g mk a) (Vm.Alike.refl U.vm) qK, qD, pw_N.same (u := U) (U := U.calling g mk a) rfl qN⟩, va_recv hKc hPc (ci := 0) (q0 := 0) rfl rfl, fun U hU hW => ⟨rfl, by rw [hU], by rw [hU]; exact hPc, va_K.moved hW.alike hKc, hDc.weaken (fun _ _ _ _ => trivial), pw_N.warm hW hN⟩⟩ rfl rfl hl.1 rfl (lv_room (Nat.le_of_ble_eq_true rfl)) dX8_make_50 ⟨Nat.le_of_ble_eq_true rfl, Nat.le_of_ble_eq_true rfl⟩) hS (fun q _ h => hFc q h) hFc (fun r_8 u t H1 locs ht hvm hw hB hz1 hk1 hS => ?_)
          obtain ⟨hP1, hD1⟩ := hB
          rw [ht] at hP1
          obtain ⟨hP, hD⟩ := va_join (wr := [(h0, .inr (9, [.ref (a 0), .ref (a 1), .ref (a 2), .ref (a 3), .ref (a 4), .ref (a 5), .ref (a 6), .long 0, .long 0, .int 0, .int 0, .int 0, .int 0, .int 0])), (a 6, .inl (cI, 6, .inr (.inl (fun _ => 0))))]) (w1 := [(a 0, .inr (0, [.int 0, .ref z, .int 0]))]) hP hD [1] [0, 2] rfl rfl (by decide) (by decide) hk1 hFc hP1 hD1
          generalize H1 = H at hP hS ⊢
          replace hP : va_P (dC, dI) vwCl [(h0, .inr (9, [.ref (a 0), .ref (a 1), .ref (a 2), .ref (a 3), .ref (a 4), .ref (a 5), .ref (a 6), .long 0, .long 0, .int 0, .int 0, .int 0, .int 0, .int 0])), (a 6, .inl (cI, 6, .inr (.inl (fun _ => 0)))), (a 0, .inr (0, [.int 0, .ref z, .int 0]))] H := hP
          replace hD : va_D A [(h0, .inr (9, [.ref (a 0), .ref (a 1), .ref (a 2), .ref (a 3), .ref (a 4), .ref (a 5), .ref (a 6), .long 0, .long 0, .int 0, .int 0, .int 0, .int 0, .int 0])), (a 6, .inl (cI, 6, .inr (.inl (fun _ => 0)))), (a 0, .inr (0, [.int 0, .ref z, .int 0]))] := hD
          try dsimp only at hw
          subst hw
          refine lv_istore (lv' := [(5, .int 0), (4, .int 50), (0, .ref h0), (1, .int p0), (2, .int p1), (3, .int p2)]) hx hb dX8_make_53 hl (by decide) rfl (fun ls hl => ?_)
          refine lv_iload hx hb dX8_make_55 (lv_at hl 0 rfl) ?_
          refine lv_bipush (v := 40) hx hb dX8_make_57 (by decide) ?_
          refine lv_icmp_lt (tgt := 65) hx hb dX8_make_59 (by decide) (fun _ => ?_) (fun c9 => absurd (by decide) c9)
          refine lv_aload_n hx hb dX8_make_65 rfl (lv_at hl 2 rfl) ?_
          refine va_get (D := (dC, dI)) (ci := 9) (v := .ref (a 0)) (C := RX8) (T := TX8) (N := 14) hx hb hts in_t_make_X8 hown hK hP 0 rfl rfl 0 (by decide) (hts (.fieldLink RX8 10 "ServiceTree" "services" "Ljava/util/ArrayList;") (by decide +kernel)) (fun _ h9 => h9) rfl dX8_make_66 ?_
          refine va_new (ci := 8) (fs := [.int 0, .int 0, .int 0, .null, .null, .null, .int 0, .int 0, .int 0, .int 0, .int 0, .int 0]) (C := RX7) (T := TX7) (N := 12) hx hb hts in_t_make_X7 tyX7 tyX7_ok hown (hts (.classLink RX8 65 RX7) (by decide +kernel)) (hts (.instantiable RX7 12) (by decide +kernel)) (hts (.initialized RX7) (by decide +kernel)) hK hP hD hS hA rfl (fun j hj => dfX7 j hj) (Nat.le_of_ble_eq_true rfl) (Nat.le_of_ble_eq_true rfl) dX8_make_69 (fun q_9 H hP hD hS => ?_)
          replace hP : va_P (dC, dI) vwCl [(h0, .inr (9, [.ref (a 0), .ref (a 1), .ref (a 2), .ref (a 3), .ref (a 4), .ref (a 5), .ref (a 6), .long 0, .long 0, .int 0, .int 0, .int 0, .int 0, .int 0])), (a 6, .inl (cI, 6, .inr (.inl (fun _ => 0)))), (a 0, .inr (0, [.int 0, .ref z, .int 0])), (q_9, .inr (8, [.int 0, .int 0, .int 0, .null, .null, .null, .int 0, .int 0, .int 0, .int 0, .int 0, .int 0]))] H := hP
          replace hD : va_D A [(h0, .inr (9, [.ref (a 0), .ref (a 1), .ref (a 2), .ref (a 3), .ref (a 4), .ref (a 5), .ref (a 6), .long 0, .long 0, .int 0, .int 0, .int 0, .int 0, .int 0])), (a 6, .inl (cI, 6, .inr (.inl (fun _ => 0)))), (a 0, .inr (0, [.int 0, .ref z, .int 0])), (q_9, .inr (8, [.int 0, .int 0, .int 0, .null, .null, .null, .int 0, .int 0, .int 0, .int 0, .int 0, .int 0]))] := hD
          refine W.widen (k := 1) (n := 12) (by omega) (by omega) ?_
          refine lv_dup hx hb dX8_make_72 rfl ?_
          refine lv_iload_n hx hb dX8_make_73 rfl (lv_at hl 3 rfl) ?_
          refine lv_iload_n hx hb dX8_make_74 rfl (lv_at hl 4 rfl) ?_
          refine lv_iload_n hx hb dX8_make_75 rfl (lv_at hl 5 rfl) ?_
          refine lv_aload_n hx hb dX8_make_76 rfl (lv_at hl 2 rfl) ?_
          refine va_get (D := (dC, dI)) (ci := 9) (v := .int 0) (C := RX8) (T := TX8) (N := 14) hx hb hts in_t_make_X8 hown hK hP 0 rfl rfl 9 (by decide) (hts (.fieldLink RX8 67 "ServiceTree" "now" "I") (by decide +kernel)) (fun _ h9 => h9) rfl dX8_make_77 ?_
          have hPc := hP.sub (ws' := [(q_9, .inr (8, [.int 0, .int 0, .int 0, .null, .null, .null, .int 0, .int 0, .int 0, .int 0, .int 0, .int 0]))]) [3] rfl
          have hDc := hD.sub (ws' := [(q_9, .inr (8, [.int 0, .int 0, .int 0, .null, .null, .null, .int 0, .int 0, .int 0, .int 0, .int 0, .int 0]))]) [3] (by decide) rfl
          have hKc := hK.sub (tys' := []) [] rfl
          have hFc := va_free (wc := [(q_9, .inr (8, [.int 0, .int 0, .int 0, .null, .null, .null, .int 0, .int 0, .int 0, .int 0, .int 0, .int 0]))]) hD hS hA [3] rfl
          refine va_callv (va_runI (As := [.int p0, .int p1, .int p2, .int 0]) (rest := [.ref q_9, .ref (a 0)]) ⟨hx, hb, hml, hown, hts⟩ (c_serviceInit l dC dI q_9 p0 p1 p2 0 H.size) (cwI 4 hts wc_t_make_serviceInit_71 rfl rfl rfl (hts (.initialized RX7) (by decide +kernel)) (hts (.methodLink RX8 71 yX7_init) (by decide +kernel)) (hts (.instanceMethod yX7_init) (by decide +kernel)) rfl (by decide +kernel) ⟨Nat.le_of_ble_eq_true rfl, Nat.le_of_ble_eq_true rfl⟩) ⟨fun a U g mk q => by obtain ⟨q0, q1, qP, qK, qD, qN⟩ := q; exact ⟨q0, q1, qP, va_K.moved (u := U) (U := U.calling g mk a) (Vm.Alike.refl U.vm) qK, qD, pw_N.same (u := U) (U := U.calling g mk a) rfl qN⟩, fun U hU hW => ⟨rfl, by rw [hU], by rw [hU]; exact hPc, va_K.moved hW.alike hKc, hDc.weaken (fun _ _ _ _ => trivial), pw_N.warm hW hN⟩⟩ rfl rfl hl.1 rfl (lv_room (Nat.le_of_ble_eq_true rfl)) dX8_make_80 ⟨Nat.le_of_ble_eq_true rfl, Nat.le_of_ble_eq_true rfl⟩) hS (fun q _ h => hFc q h) hFc (fun u t H1 locs ht hvm hw hB hz1 hk1 hS => ?_)
          obtain ⟨l0_11, l1_12, l2_13, hP1, hD1⟩ := hB
          rw [ht] at hP1
          obtain ⟨hP, hD⟩ := va_join (wr := [(h0, .inr (9, [.ref (a 0), .ref (a 1), .ref (a 2), .ref (a 3), .ref (a 4), .ref (a 5), .ref (a 6), .long 0, .long 0, .int 0, .int 0, .int 0, .int 0, .int 0])), (a 6, .inl (cI, 6, .inr (.inl (fun _ => 0)))), (a 0, .inr (0, [.int 0, .ref z, .int 0]))]) (w1 := [(q_9, .inr (8, [.int p0, .int p1, .int p2, .ref l0_11, .ref l1_12, .ref l2_13, .int 0, .int 0, .int 0, .int 0, .int 0, .int 0]))]) hP hD [3] [0, 1, 2] rfl rfl (by decide) (by decide) hk1 hFc hP1 hD1
          generalize H1 = H at hP hS ⊢
          replace hP : va_P (dC, dI) vwCl [(h0, .inr (9, [.ref (a 0), .ref (a 1), .ref (a 2), .ref (a 3), .ref (a 4), .ref (a 5), .ref (a 6), .long 0, .long 0, .int 0, .int 0, .int 0, .int 0, .int 0])), (a 6, .inl (cI, 6, .inr (.inl (fun _ => 0)))), (a 0, .inr (0, [.int 0, .ref z, .int 0])), (q_9, .inr (8, [.int p0, .int p1, .int p2, .ref l0_11, .ref l1_12, .ref l2_13, .int 0, .int 0, .int 0, .int 0, .int 0, .int 0]))] H := hP
          replace hD : va_D A [(h0, .inr (9, [.ref (a 0), .ref (a 1), .ref (a 2), .ref (a 3), .ref (a 4), .ref (a 5), .ref (a 6), .long 0, .long 0, .int 0, .int 0, .int 0, .int 0, .int 0])), (a 6, .inl (cI, 6, .inr (.inl (fun _ => 0)))), (a 0, .inr (0, [.int 0, .ref z, .int 0])), (q_9, .inr (8, [.int p0, .int p1, .int p2, .ref l0_11, .ref l1_12, .ref l2_13, .int 0, .int 0, .int 0, .int 0, .int 0, .int 0]))] := hD
          refine W.widen (k := 6) (n := 61) (by omega) (by omega) ?_
          try dsimp only at hw
          have hPc := hP.sub (ws' := [(a 0, .inr (0, [.int 0, .ref z, .int 0])), (q_9, .inr (8, [.int p0, .int p1, .int p2, .ref l0_11, .ref l1_12, .ref l2_13, .int 0, .int 0, .int 0, .int 0, .int 0, .int 0]))]) [2, 3] rfl
          have hDc := hD.sub (ws' := [(a 0, .inr (0, [.int 0, .ref z, .int 0])), (q_9, .inr (8, [.int p0, .int p1, .int p2, .ref l0_11, .ref l1_12, .ref l2_13, .int 0, .int 0, .int 0, .int 0, .int 0, .int 0]))]) [2, 3] (by decide) rfl
          have hKc := hK.sub (tys' := []) [] rfl
          have hFc := va_free (wc := [(a 0, .inr (0, [.int 0, .ref z, .int 0])), (q_9, .inr (8, [.int p0, .int p1, .int p2, .ref l0_11, .ref l1_12, .ref l2_13, .int 0, .int 0, .int 0, .int 0, .int 0, .int 0]))]) hD hS hA [2, 3] rfl
          refine va_calli (va_runV (As := [.ref q_9]) (rest := []) ⟨hx, hb, hml, hown, hts⟩ (c_add l dC dI (a 0) q_9 z p0 p1 p2 0 l0_11 l1_12 l2_13 H.size) (cwV 1 hts wc_t_make_add_74 rfl rfl rfl (by decide +kernel) ⟨Nat.le_of_ble_eq_true rfl, Nat.le_of_ble_eq_true rfl⟩) ⟨fun a U g mk q => by obtain ⟨q0, q1, qP, qK, qD, qN, qZ, qT, qO⟩ := q; exact ⟨q0, q1, qP, va_K.moved (u := U) (U := U.calling g mk a) (Vm.Alike.refl U.vm) qK, qD, pw_N.same (u := U) (U := U.calling g mk a) rfl qN, va_Z.moved (u := U) (U := U.calling g mk a) (Vm.Alike.refl U.vm) qZ, va_T.moved (u := U) (U := U.calling g mk a) (Vm.Alike.refl U.vm) qT, va_AO.moved (u := U) (U := U.calling g mk a) (Vm.Alike.refl U.vm) qO⟩, va_recv hKc hPc (ci := 0) (q0 := 0) rfl rfl, fun U hU hW => ⟨rfl, by rw [hU], by rw [hU]; exact hPc, va_K.moved hW.alike hKc, hDc.weaken (fun _ _ _ _ => trivial), pw_N.warm hW hN, by rw [hU]; exact va_Z.moved hW.alike ((hZ.kept (fun a h1 h2 => hS.2.1 a h1 h2)).narrow hFc), by rw [hU]; exact va_T.moved hW.alike ((hT.kept (fun a h1 h2 => hS.2.1 a h1 h2)).narrow hFc), va_AO.moved hW.alike hO⟩⟩ rfl rfl hl.1 rfl (lv_room (Nat.le_of_ble_eq_true rfl)) dX8_make_83 ⟨Nat.le_of_ble_eq_true rfl, Nat.le_of_ble_eq_true rfl⟩) hS (fun q _ h => hFc q h) hFc (fun r_14 u t H1 locs ht hvm hw hB hz1 hk1 hS => ?_)
          have hP1 : va_P (dC, dI) vwCl [] H1 := fun k q h => by simp at h
          have hD1 : va_D (va_A [(a 0, .inr (0, [.int 0, .ref z, .int 0])), (q_9, .inr (8, [.int p0, .int p1, .int p2, .ref l0_11, .ref l1_12, .ref l2_13, .int 0, .int 0, .int 0, .int 0, .int 0, .int 0]))] H.size) [] := ⟨fun i j p q h => by simp at h, fun k q h => by simp at h⟩
          obtain ⟨hP, hD⟩ := va_join (wr := [(h0, .inr (9, [.ref (a 0), .ref (a 1), .ref (a 2), .ref (a 3), .ref (a 4), .ref (a 5), .ref (a 6), .long 0, .long 0, .int 0, .int 0, .int 0, .int 0, .int 0])), (a 6, .inl (cI, 6, .inr (.inl (fun _ => 0))))]) (w1 := []) hP hD [2, 3] [0, 1] rfl rfl (by decide) (by decide) hk1 hFc hP1 hD1
          generalize H1 = H at hP hS ⊢
          replace hP : va_P (dC, dI) vwCl [(h0, .inr (9, [.ref (a 0), .ref (a 1), .ref (a 2), .ref (a 3), .ref (a 4), .ref (a 5), .ref (a 6), .long 0, .long 0, .int 0, .int 0, .int 0, .int 0, .int 0])), (a 6, .inl (cI, 6, .inr (.inl (fun _ => 0))))] H := hP
          replace hD : va_D A [(h0, .inr (9, [.ref (a 0), .ref (a 1), .ref (a 2), .ref (a 3), .ref (a 4), .ref (a 5), .ref (a 6), .long 0, .long 0, .int 0, .int 0, .int 0, .int 0, .int 0])), (a 6, .inl (cI, 6, .inr (.inl (fun _ => 0))))] := hD
          refine W.widen (k := 7) (n := 71) (by omega) (by omega) ?_
          try dsimp only at hw
          subst hw
          refine lv_pop hx hb dX8_make_86 rfl ?_
          refine lv_aload_n hx hb dX8_make_87 rfl (lv_at hl 2 rfl) ?_
          refine va_get (D := (dC, dI)) (ci := 9) (v := .ref (a 6)) (C := RX8) (T := TX8) (N := 14) hx hb hts in_t_make_X8 hown hK hP 0 rfl rfl 6 (by decide) (hts (.fieldLink RX8 53 "ServiceTree" "inState" "[J") (by decide +kernel)) (fun _ h9 => h9) rfl dX8_make_88 ?_
          refine lv_iconst (v := 0) hx hb dX8_make_91 (by decide) ?_
          refine lv_dup2_11 hx hb dX8_make_92 rfl rfl ?_
          refine va_lald hx hb hK hP 1 0 rfl rfl (show ¬ ((0 : Int32) < 0 ∨ 6 ≤ (0 : Int32).toNatClampNeg) by decide) dX8_make_93 ?_
          refine lv_topl (fun x_15 ex_15 => ?_)
          obtain rfl : x_15 = 0 := ex_15
          refine lv_iload hx hb dX8_make_94 (lv_at hl 0 rfl) ?_
          have hPc := hP.sub (ws' := []) [] rfl
          have hDc := hD.sub (ws' := []) [] (by decide) rfl
          have hKc := hK.sub (tys' := []) [] rfl
          have hFc := va_free (wc := []) hD hS hA [] rfl
          refine va_calll (va_runS (As := [.int 0]) (rest := [.long 0, .int 0, .ref (a 6)]) ⟨hx, hb, hml, hown, hts⟩ (c_only0 l dC dI  H.size) (va_cwS 1 hts wc_t_make_only0_78 rfl rfl rfl (by decide +kernel) ⟨Nat.le_of_ble_eq_true rfl, Nat.le_of_ble_eq_true rfl⟩) ⟨fun a U g mk q => by obtain ⟨q0, q1, qP, qK, qD, qN⟩ := q; exact ⟨q0, q1, qP, va_K.moved (u := U) (U := U.calling g mk a) (Vm.Alike.refl U.vm) qK, qD, pw_N.same (u := U) (U := U.calling g mk a) rfl qN⟩, fun U hU hW => ⟨rfl, by rw [hU], by rw [hU]; exact hPc, va_K.moved hW.alike hKc, hDc.weaken (fun _ _ _ _ => trivial), pw_N.warm hW hN⟩⟩ rfl rfl hl.1 rfl (lv_room (Nat.le_of_ble_eq_true rfl)) dX8_make_96 ⟨Nat.le_of_ble_eq_true rfl, Nat.le_of_ble_eq_true rfl⟩) hS (fun q _ h => hFc q h) hFc (fun r_16 u t H1 locs ht hvm hw hB hz1 hk1 hS => ?_)
          obtain ⟨hP1, hD1⟩ := hB
          rw [ht] at hP1
          obtain ⟨hP, hD⟩ := va_join (wr := [(h0, .inr (9, [.ref (a 0), .ref (a 1), .ref (a 2), .ref (a 3), .ref (a 4), .ref (a 5), .ref (a 6), .long 0, .long 0, .int 0, .int 0, .int 0, .int 0, .int 0])), (a 6, .inl (cI, 6, .inr (.inl (fun _ => 0))))]) (w1 := []) hP hD [] [0, 1] rfl rfl (by decide) (by decide) hk1 hFc hP1 hD1
          generalize H1 = H at hP hS ⊢
          replace hP : va_P (dC, dI) vwCl [(h0, .inr (9, [.ref (a 0), .ref (a 1), .ref (a 2), .ref (a 3), .ref (a 4), .ref (a 5), .ref (a 6), .long 0, .long 0, .int 0, .int 0, .int 0, .int 0, .int 0])), (a 6, .inl (cI, 6, .inr (.inl (fun _ => 0))))] H := hP
          replace hD : va_D A [(h0, .inr (9, [.ref (a 0), .ref (a 1), .ref (a 2), .ref (a 3), .ref (a 4), .ref (a 5), .ref (a 6), .long 0, .long 0, .int 0, .int 0, .int 0, .int 0, .int 0])), (a 6, .inl (cI, 6, .inr (.inl (fun _ => 0))))] := hD
          try dsimp only at hw
          subst hw
          refine lv_lor hx hb dX8_make_99 ?_
          refine lv_topl (fun x_17 ex_17 => ?_)
          obtain rfl : x_17 = 1 := ex_17.trans (by decide)
          refine va_last hx hb hK hP hD hS 1 0 rfl rfl (show ¬ ((0 : Int32) < 0 ∨ 6 ≤ (0 : Int32).toNatClampNeg) by decide) dX8_make_100 (fun H locs hP hD hS => ?_)
          replace hP : va_P (dC, dI) vwCl [(h0, .inr (9, [.ref (a 0), .ref (a 1), .ref (a 2), .ref (a 3), .ref (a 4), .ref (a 5), .ref (a 6), .long 0, .long 0, .int 0, .int 0, .int 0, .int 0, .int 0])), (a 6, .inl (cI, 6, .inr (.inl (vp_updL (fun _ => 0) (0 : Int32).toNatClampNeg 1))))] H := hP
          replace hD : va_D A [(h0, .inr (9, [.ref (a 0), .ref (a 1), .ref (a 2), .ref (a 3), .ref (a 4), .ref (a 5), .ref (a 6), .long 0, .long 0, .int 0, .int 0, .int 0, .int 0, .int 0])), (a 6, .inl (cI, 6, .inr (.inl (vp_updL (fun _ => 0) (0 : Int32).toNatClampNeg 1))))] := hD
          refine lv_iload hx hb dX8_make_101 (lv_at hl 0 rfl) ?_
          exact W.iret (v := 0) hx hb hr (fun t ht hW => ⟨⟨0, (), rfl, (if_pos (by have k0 := h_2; have k1 := c_3; have k2 := h_5; have k3 := h_7; simp only [p1_le, p1_lt, p1_eq, p1_m6, p1_m1, p1_0, p1_1, p1_2, p1_3, p1_4, p1_5, p1_6, p1_7, p1_8, p1_9, p1_10, p1_11, p1_12, p1_13, p1_14, p1_15, p1_16, p1_17, p1_18, p1_19, p1_20, p1_40, p1_50, p1_200, p1_1000] at k0 k1 k2 k3 ⊢; omega)).symm, trivial⟩, hS.F ht⟩) hS.2.2 dX8_make_103
        · obtain rfl : r_6 = 0 := hw.trans (if_neg h_7)
          refine lv_if_ne (tgt := 46) hx hb dX8_make_41 (by decide) (fun c9 => absurd (by decide) c9) (fun _ => ?_)
          refine lv_iconst (v := (-1)) hx hb dX8_make_44 (by decide) ?_
          refine W.widen (k := 7) (n := 71) (by omega) (by omega) ?_
          exact W.iret (v := (-1)) hx hb hr (fun t ht hW => ⟨⟨(-1), (), rfl, (if_neg (by have k0 := h_2; have k1 := c_3; have k2 := h_5; have k3 := h_7; simp only [p1_le, p1_lt, p1_eq, p1_m6, p1_m1, p1_0, p1_1, p1_2, p1_3, p1_4, p1_5, p1_6, p1_7, p1_8, p1_9, p1_10, p1_11, p1_12, p1_13, p1_14, p1_15, p1_16, p1_17, p1_18, p1_19, p1_20, p1_40, p1_50, p1_200, p1_1000] at k0 k1 k2 k3 ⊢; omega)).symm, trivial⟩, hS.F ht⟩) hS.2.2 dX8_make_45
      · obtain rfl : r_4 = 0 := hw.trans (if_neg h_5)
        refine lv_if_eq (tgt := 44) hx hb dX8_make_31 (by decide) (fun _ => ?_) (fun c9 => absurd (by decide) c9)
        refine lv_iconst (v := (-1)) hx hb dX8_make_44 (by decide) ?_
        refine W.widen (k := 7) (n := 71) (by omega) (by omega) ?_
        exact W.iret (v := (-1)) hx hb hr (fun t ht hW => ⟨⟨(-1), (), rfl, (if_neg (by have k0 := h_2; have k1 := c_3; have k2 := h_5; simp only [p1_le, p1_lt, p1_eq, p1_m6, p1_m1, p1_0, p1_1, p1_2, p1_3, p1_4, p1_5, p1_6, p1_7, p1_8, p1_9, p1_10, p1_11, p1_12, p1_13, p1_14, p1_15, p1_16, p1_17, p1_18, p1_19, p1_20, p1_40, p1_50, p1_200, p1_1000] at k0 k1 k2 ⊢; omega)).symm, trivial⟩, hS.F ht⟩) hS.2.2 dX8_make_45
    · refine lv_iconst (v := 0) hx hb dX8_make_16 (by decide) ?_
      refine lv_goto (tgt := 22) hx hb dX8_make_17 (by decide) ?_
      refine lv_istore (lv' := [(4, .int 0), (0, .ref h0), (1, .int p0), (2, .int p1), (3, .int p2)]) hx hb dX8_make_22 hl (by decide) rfl (fun ls hl => ?_)
      refine lv_iload_n hx hb dX8_make_24 rfl (lv_at hl 3 rfl) ?_
      refine lv_iconst (v := 0) hx hb dX8_make_25 (by decide) ?_
      refine lv_iload hx hb dX8_make_26 (lv_at hl 0 rfl) ?_
      have hPc := hP.sub (ws' := []) [] rfl
      have hDc := hD.sub (ws' := []) [] (by decide) rfl
      have hKc := hK.sub (tys' := []) [] rfl
      have hFc := va_free (wc := []) hD hS hA [] rfl
      refine va_calli (va_runS (As := [.int p1, .int 0, .int 0]) (rest := []) ⟨hx, hb, hml, hown, hts⟩ (c_within l dC dI p1 0 0 H.size) (va_cwS 3 hts wc_t_make_within_57 rfl rfl rfl (by decide +kernel) ⟨Nat.le_of_ble_eq_true rfl, Nat.le_of_ble_eq_true rfl⟩) ⟨fun a U g mk q => by obtain ⟨q0, q1, qP, qK, qD, qN⟩ := q; exact ⟨q0, q1, qP, va_K.moved (u := U) (U := U.calling g mk a) (Vm.Alike.refl U.vm) qK, qD, pw_N.same (u := U) (U := U.calling g mk a) rfl qN⟩, fun U hU hW => ⟨rfl, by rw [hU], by rw [hU]; exact hPc, va_K.moved hW.alike hKc, hDc.weaken (fun _ _ _ _ => trivial), pw_N.warm hW hN⟩⟩ rfl rfl hl.1 rfl (lv_room (Nat.le_of_ble_eq_true rfl)) dX8_make_28 ⟨Nat.le_of_ble_eq_true rfl, Nat.le_of_ble_eq_true rfl⟩) hS (fun q _ h => hFc q h) hFc (fun r_18 u t H1 locs ht hvm hw hB hz1 hk1 hS => ?_)
      obtain ⟨hP1, hD1⟩ := hB
      rw [ht] at hP1
      obtain ⟨hP, hD⟩ := va_join (wr := [(h0, .inr (9, [.ref (a 0), .ref (a 1), .ref (a 2), .ref (a 3), .ref (a 4), .ref (a 5), .ref (a 6), .long 0, .long 0, .int 0, .int 0, .int 0, .int 0, .int 0])), (a 0, .inr (0, [.int 0, .ref z, .int 0])), (a 6, .inl (cI, 6, .inr (.inl (fun _ => 0))))]) (w1 := []) hP hD [] [0, 1, 2] rfl rfl (by decide) (by decide) hk1 hFc hP1 hD1
      generalize H1 = H at hP hS ⊢
      replace hP : va_P (dC, dI) vwCl [(h0, .inr (9, [.ref (a 0), .ref (a 1), .ref (a 2), .ref (a 3), .ref (a 4), .ref (a 5), .ref (a 6), .long 0, .long 0, .int 0, .int 0, .int 0, .int 0, .int 0])), (a 0, .inr (0, [.int 0, .ref z, .int 0])), (a 6, .inl (cI, 6, .inr (.inl (fun _ => 0))))] H := hP
      replace hD : va_D A [(h0, .inr (9, [.ref (a 0), .ref (a 1), .ref (a 2), .ref (a 3), .ref (a 4), .ref (a 5), .ref (a 6), .long 0, .long 0, .int 0, .int 0, .int 0, .int 0, .int 0])), (a 0, .inr (0, [.int 0, .ref z, .int 0])), (a 6, .inl (cI, 6, .inr (.inl (fun _ => 0))))] := hD
      try dsimp only at hw
      rcases Classical.em (0 ≤ p1 ∧ p1 ≤ 0) with h_19 | h_19
      · obtain rfl : r_18 = 1 := hw.trans (if_pos h_19)
        refine lv_if_eq (tgt := 44) hx hb dX8_make_31 (by decide) (fun c9 => absurd c9 (by decide)) (fun _ => ?_)
        refine lv_iload_n hx hb dX8_make_34 rfl (lv_at hl 4 rfl) ?_
        refine lv_iconst (v := 0) hx hb dX8_make_35 (by decide) ?_
        refine lv_iload hx hb dX8_make_36 (lv_at hl 0 rfl) ?_
        have hPc := hP.sub (ws' := []) [] rfl
        have hDc := hD.sub (ws' := []) [] (by decide) rfl
        have hKc := hK.sub (tys' := []) [] rfl
        have hFc := va_free (wc := []) hD hS hA [] rfl
        refine va_calli (va_runS (As := [.int p2, .int 0, .int 0]) (rest := []) ⟨hx, hb, hml, hown, hts⟩ (c_within l dC dI p2 0 0 H.size) (va_cwS 3 hts wc_t_make_within_57 rfl rfl rfl (by decide +kernel) ⟨Nat.le_of_ble_eq_true rfl, Nat.le_of_ble_eq_true rfl⟩) ⟨fun a U g mk q => by obtain ⟨q0, q1, qP, qK, qD, qN⟩ := q; exact ⟨q0, q1, qP, va_K.moved (u := U) (U := U.calling g mk a) (Vm.Alike.refl U.vm) qK, qD, pw_N.same (u := U) (U := U.calling g mk a) rfl qN⟩, fun U hU hW => ⟨rfl, by rw [hU], by rw [hU]; exact hPc, va_K.moved hW.alike hKc, hDc.weaken (fun _ _ _ _ => trivial), pw_N.warm hW hN⟩⟩ rfl rfl hl.1 rfl (lv_room (Nat.le_of_ble_eq_true rfl)) dX8_make_38 ⟨Nat.le_of_ble_eq_true rfl, Nat.le_of_ble_eq_true rfl⟩) hS (fun q _ h => hFc q h) hFc (fun r_20 u t H1 locs ht hvm hw hB hz1 hk1 hS => ?_)
        obtain ⟨hP1, hD1⟩ := hB
        rw [ht] at hP1
        obtain ⟨hP, hD⟩ := va_join (wr := [(h0, .inr (9, [.ref (a 0), .ref (a 1), .ref (a 2), .ref (a 3), .ref (a 4), .ref (a 5), .ref (a 6), .long 0, .long 0, .int 0, .int 0, .int 0, .int 0, .int 0])), (a 0, .inr (0, [.int 0, .ref z, .int 0])), (a 6, .inl (cI, 6, .inr (.inl (fun _ => 0))))]) (w1 := []) hP hD [] [0, 1, 2] rfl rfl (by decide) (by decide) hk1 hFc hP1 hD1
        generalize H1 = H at hP hS ⊢
        replace hP : va_P (dC, dI) vwCl [(h0, .inr (9, [.ref (a 0), .ref (a 1), .ref (a 2), .ref (a 3), .ref (a 4), .ref (a 5), .ref (a 6), .long 0, .long 0, .int 0, .int 0, .int 0, .int 0, .int 0])), (a 0, .inr (0, [.int 0, .ref z, .int 0])), (a 6, .inl (cI, 6, .inr (.inl (fun _ => 0))))] H := hP
        replace hD : va_D A [(h0, .inr (9, [.ref (a 0), .ref (a 1), .ref (a 2), .ref (a 3), .ref (a 4), .ref (a 5), .ref (a 6), .long 0, .long 0, .int 0, .int 0, .int 0, .int 0, .int 0])), (a 0, .inr (0, [.int 0, .ref z, .int 0])), (a 6, .inl (cI, 6, .inr (.inl (fun _ => 0))))] := hD
        try dsimp only at hw
        rcases Classical.em (0 ≤ p2 ∧ p2 ≤ 0) with h_21 | h_21
        · obtain rfl : r_20 = 1 := hw.trans (if_pos h_21)
          refine lv_if_ne (tgt := 46) hx hb dX8_make_41 (by decide) (fun _ => ?_) (fun c9 => absurd c9 (by decide))
          refine lv_aload_n hx hb dX8_make_46 rfl (lv_at hl 1 rfl) ?_
          refine va_get (D := (dC, dI)) (ci := 9) (v := .ref (a 0)) (C := RX8) (T := TX8) (N := 14) hx hb hts in_t_make_X8 hown hK hP 0 rfl rfl 0 (by decide) (hts (.fieldLink RX8 10 "ServiceTree" "services" "Ljava/util/ArrayList;") (by decide +kernel)) (fun _ h9 => h9) rfl dX8_make_47 ?_
          have hPc := hP.sub (ws' := [(a 0, .inr (0, [.int 0, .ref z, .int 0]))]) [1] rfl
          have hDc := hD.sub (ws' := [(a 0, .inr (0, [.int 0, .ref z, .int 0]))]) [1] (by decide) rfl
          have hKc := hK.sub (tys' := []) [] rfl
          have hFc := va_free (wc := [(a 0, .inr (0, [.int 0, .ref z, .int 0]))]) hD hS hA [1] rfl
          refine va_calli (va_runV (As := []) (rest := []) ⟨hx, hb, hml, hown, hts⟩ (c_size l dC dI (a 0) z H.size) (cwV 0 hts wc_t_make_size_61 rfl rfl rfl (by decide +kernel) ⟨Nat.le_of_ble_eq_true rfl, Nat.le_of_ble_eq_true rfl⟩) ⟨fun a U g mk q => by obtain ⟨q0, q1, qP, qK, qD, qN⟩ := q; exact ⟨q0, q1, qP, va_K.moved (u := U) (U := U.calling g mk a) (Vm.Alike.refl U.vm) qK, qD, pw_N.same (u := U) (U := U.calling g mk a) rfl qN⟩, va_recv hKc hPc (ci := 0) (q0 := 0) rfl rfl, fun U hU hW => ⟨rfl, by rw [hU], by rw [hU]; exact hPc, va_K.moved hW.alike hKc, hDc.weaken (fun _ _ _ _ => trivial), pw_N.warm hW hN⟩⟩ rfl rfl hl.1 rfl (lv_room (Nat.le_of_ble_eq_true rfl)) dX8_make_50 ⟨Nat.le_of_ble_eq_true rfl, Nat.le_of_ble_eq_true rfl⟩) hS (fun q _ h => hFc q h) hFc (fun r_22 u t H1 locs ht hvm hw hB hz1 hk1 hS => ?_)
          obtain ⟨hP1, hD1⟩ := hB
          rw [ht] at hP1
          obtain ⟨hP, hD⟩ := va_join (wr := [(h0, .inr (9, [.ref (a 0), .ref (a 1), .ref (a 2), .ref (a 3), .ref (a 4), .ref (a 5), .ref (a 6), .long 0, .long 0, .int 0, .int 0, .int 0, .int 0, .int 0])), (a 6, .inl (cI, 6, .inr (.inl (fun _ => 0))))]) (w1 := [(a 0, .inr (0, [.int 0, .ref z, .int 0]))]) hP hD [1] [0, 2] rfl rfl (by decide) (by decide) hk1 hFc hP1 hD1
          generalize H1 = H at hP hS ⊢
          replace hP : va_P (dC, dI) vwCl [(h0, .inr (9, [.ref (a 0), .ref (a 1), .ref (a 2), .ref (a 3), .ref (a 4), .ref (a 5), .ref (a 6), .long 0, .long 0, .int 0, .int 0, .int 0, .int 0, .int 0])), (a 6, .inl (cI, 6, .inr (.inl (fun _ => 0)))), (a 0, .inr (0, [.int 0, .ref z, .int 0]))] H := hP
          replace hD : va_D A [(h0, .inr (9, [.ref (a 0), .ref (a 1), .ref (a 2), .ref (a 3), .ref (a 4), .ref (a 5), .ref (a 6), .long 0, .long 0, .int 0, .int 0, .int 0, .int 0, .int 0])), (a 6, .inl (cI, 6, .inr (.inl (fun _ => 0)))), (a 0, .inr (0, [.int 0, .ref z, .int 0]))] := hD
          try dsimp only at hw
          subst hw
          refine lv_istore (lv' := [(5, .int 0), (4, .int 0), (0, .ref h0), (1, .int p0), (2, .int p1), (3, .int p2)]) hx hb dX8_make_53 hl (by decide) rfl (fun ls hl => ?_)
          refine lv_iload hx hb dX8_make_55 (lv_at hl 0 rfl) ?_
          refine lv_bipush (v := 40) hx hb dX8_make_57 (by decide) ?_
          refine lv_icmp_lt (tgt := 65) hx hb dX8_make_59 (by decide) (fun _ => ?_) (fun c9 => absurd (by decide) c9)
          refine lv_aload_n hx hb dX8_make_65 rfl (lv_at hl 2 rfl) ?_
          refine va_get (D := (dC, dI)) (ci := 9) (v := .ref (a 0)) (C := RX8) (T := TX8) (N := 14) hx hb hts in_t_make_X8 hown hK hP 0 rfl rfl 0 (by decide) (hts (.fieldLink RX8 10 "ServiceTree" "services" "Ljava/util/ArrayList;") (by decide +kernel)) (fun _ h9 => h9) rfl dX8_make_66 ?_
          refine va_new (ci := 8) (fs := [.int 0, .int 0, .int 0, .null, .null, .null, .int 0, .int 0, .int 0, .int 0, .int 0, .int 0]) (C := RX7) (T := TX7) (N := 12) hx hb hts in_t_make_X7 tyX7 tyX7_ok hown (hts (.classLink RX8 65 RX7) (by decide +kernel)) (hts (.instantiable RX7 12) (by decide +kernel)) (hts (.initialized RX7) (by decide +kernel)) hK hP hD hS hA rfl (fun j hj => dfX7 j hj) (Nat.le_of_ble_eq_true rfl) (Nat.le_of_ble_eq_true rfl) dX8_make_69 (fun q_23 H hP hD hS => ?_)
          replace hP : va_P (dC, dI) vwCl [(h0, .inr (9, [.ref (a 0), .ref (a 1), .ref (a 2), .ref (a 3), .ref (a 4), .ref (a 5), .ref (a 6), .long 0, .long 0, .int 0, .int 0, .int 0, .int 0, .int 0])), (a 6, .inl (cI, 6, .inr (.inl (fun _ => 0)))), (a 0, .inr (0, [.int 0, .ref z, .int 0])), (q_23, .inr (8, [.int 0, .int 0, .int 0, .null, .null, .null, .int 0, .int 0, .int 0, .int 0, .int 0, .int 0]))] H := hP
          replace hD : va_D A [(h0, .inr (9, [.ref (a 0), .ref (a 1), .ref (a 2), .ref (a 3), .ref (a 4), .ref (a 5), .ref (a 6), .long 0, .long 0, .int 0, .int 0, .int 0, .int 0, .int 0])), (a 6, .inl (cI, 6, .inr (.inl (fun _ => 0)))), (a 0, .inr (0, [.int 0, .ref z, .int 0])), (q_23, .inr (8, [.int 0, .int 0, .int 0, .null, .null, .null, .int 0, .int 0, .int 0, .int 0, .int 0, .int 0]))] := hD
          refine W.widen (k := 1) (n := 12) (by omega) (by omega) ?_
          refine lv_dup hx hb dX8_make_72 rfl ?_
          refine lv_iload_n hx hb dX8_make_73 rfl (lv_at hl 3 rfl) ?_
          refine lv_iload_n hx hb dX8_make_74 rfl (lv_at hl 4 rfl) ?_
          refine lv_iload_n hx hb dX8_make_75 rfl (lv_at hl 5 rfl) ?_
          refine lv_aload_n hx hb dX8_make_76 rfl (lv_at hl 2 rfl) ?_
          refine va_get (D := (dC, dI)) (ci := 9) (v := .int 0) (C := RX8) (T := TX8) (N := 14) hx hb hts in_t_make_X8 hown hK hP 0 rfl rfl 9 (by decide) (hts (.fieldLink RX8 67 "ServiceTree" "now" "I") (by decide +kernel)) (fun _ h9 => h9) rfl dX8_make_77 ?_
          have hPc := hP.sub (ws' := [(q_23, .inr (8, [.int 0, .int 0, .int 0, .null, .null, .null, .int 0, .int 0, .int 0, .int 0, .int 0, .int 0]))]) [3] rfl
          have hDc := hD.sub (ws' := [(q_23, .inr (8, [.int 0, .int 0, .int 0, .null, .null, .null, .int 0, .int 0, .int 0, .int 0, .int 0, .int 0]))]) [3] (by decide) rfl
          have hKc := hK.sub (tys' := []) [] rfl
          have hFc := va_free (wc := [(q_23, .inr (8, [.int 0, .int 0, .int 0, .null, .null, .null, .int 0, .int 0, .int 0, .int 0, .int 0, .int 0]))]) hD hS hA [3] rfl
          refine va_callv (va_runI (As := [.int p0, .int p1, .int p2, .int 0]) (rest := [.ref q_23, .ref (a 0)]) ⟨hx, hb, hml, hown, hts⟩ (c_serviceInit l dC dI q_23 p0 p1 p2 0 H.size) (cwI 4 hts wc_t_make_serviceInit_71 rfl rfl rfl (hts (.initialized RX7) (by decide +kernel)) (hts (.methodLink RX8 71 yX7_init) (by decide +kernel)) (hts (.instanceMethod yX7_init) (by decide +kernel)) rfl (by decide +kernel) ⟨Nat.le_of_ble_eq_true rfl, Nat.le_of_ble_eq_true rfl⟩) ⟨fun a U g mk q => by obtain ⟨q0, q1, qP, qK, qD, qN⟩ := q; exact ⟨q0, q1, qP, va_K.moved (u := U) (U := U.calling g mk a) (Vm.Alike.refl U.vm) qK, qD, pw_N.same (u := U) (U := U.calling g mk a) rfl qN⟩, fun U hU hW => ⟨rfl, by rw [hU], by rw [hU]; exact hPc, va_K.moved hW.alike hKc, hDc.weaken (fun _ _ _ _ => trivial), pw_N.warm hW hN⟩⟩ rfl rfl hl.1 rfl (lv_room (Nat.le_of_ble_eq_true rfl)) dX8_make_80 ⟨Nat.le_of_ble_eq_true rfl, Nat.le_of_ble_eq_true rfl⟩) hS (fun q _ h => hFc q h) hFc (fun u t H1 locs ht hvm hw hB hz1 hk1 hS => ?_)
          obtain ⟨l0_25, l1_26, l2_27, hP1, hD1⟩ := hB
          rw [ht] at hP1
          obtain ⟨hP, hD⟩ := va_join (wr := [(h0, .inr (9, [.ref (a 0), .ref (a 1), .ref (a 2), .ref (a 3), .ref (a 4), .ref (a 5), .ref (a 6), .long 0, .long 0, .int 0, .int 0, .int 0, .int 0, .int 0])), (a 6, .inl (cI, 6, .inr (.inl (fun _ => 0)))), (a 0, .inr (0, [.int 0, .ref z, .int 0]))]) (w1 := [(q_23, .inr (8, [.int p0, .int p1, .int p2, .ref l0_25, .ref l1_26, .ref l2_27, .int 0, .int 0, .int 0, .int 0, .int 0, .int 0]))]) hP hD [3] [0, 1, 2] rfl rfl (by decide) (by decide) hk1 hFc hP1 hD1
          generalize H1 = H at hP hS ⊢
          replace hP : va_P (dC, dI) vwCl [(h0, .inr (9, [.ref (a 0), .ref (a 1), .ref (a 2), .ref (a 3), .ref (a 4), .ref (a 5), .ref (a 6), .long 0, .long 0, .int 0, .int 0, .int 0, .int 0, .int 0])), (a 6, .inl (cI, 6, .inr (.inl (fun _ => 0)))), (a 0, .inr (0, [.int 0, .ref z, .int 0])), (q_23, .inr (8, [.int p0, .int p1, .int p2, .ref l0_25, .ref l1_26, .ref l2_27, .int 0, .int 0, .int 0, .int 0, .int 0, .int 0]))] H := hP
          replace hD : va_D A [(h0, .inr (9, [.ref (a 0), .ref (a 1), .ref (a 2), .ref (a 3), .ref (a 4), .ref (a 5), .ref (a 6), .long 0, .long 0, .int 0, .int 0, .int 0, .int 0, .int 0])), (a 6, .inl (cI, 6, .inr (.inl (fun _ => 0)))), (a 0, .inr (0, [.int 0, .ref z, .int 0])), (q_23, .inr (8, [.int p0, .int p1, .int p2, .ref l0_25, .ref l1_26, .ref l2_27, .int 0, .int 0, .int 0, .int 0, .int 0, .int 0]))] := hD
          refine W.widen (k := 6) (n := 61) (by omega) (by omega) ?_
          try dsimp only at hw
          have hPc := hP.sub (ws' := [(a 0, .inr (0, [.int 0, .ref z, .int 0])), (q_23, .inr (8, [.int p0, .int p1, .int p2, .ref l0_25, .ref l1_26, .ref l2_27, .int 0, .int 0, .int 0, .int 0, .int 0, .int 0]))]) [2, 3] rfl
          have hDc := hD.sub (ws' := [(a 0, .inr (0, [.int 0, .ref z, .int 0])), (q_23, .inr (8, [.int p0, .int p1, .int p2, .ref l0_25, .ref l1_26, .ref l2_27, .int 0, .int 0, .int 0, .int 0, .int 0, .int 0]))]) [2, 3] (by decide) rfl
          have hKc := hK.sub (tys' := []) [] rfl
          have hFc := va_free (wc := [(a 0, .inr (0, [.int 0, .ref z, .int 0])), (q_23, .inr (8, [.int p0, .int p1, .int p2, .ref l0_25, .ref l1_26, .ref l2_27, .int 0, .int 0, .int 0, .int 0, .int 0, .int 0]))]) hD hS hA [2, 3] rfl
          refine va_calli (va_runV (As := [.ref q_23]) (rest := []) ⟨hx, hb, hml, hown, hts⟩ (c_add l dC dI (a 0) q_23 z p0 p1 p2 0 l0_25 l1_26 l2_27 H.size) (cwV 1 hts wc_t_make_add_74 rfl rfl rfl (by decide +kernel) ⟨Nat.le_of_ble_eq_true rfl, Nat.le_of_ble_eq_true rfl⟩) ⟨fun a U g mk q => by obtain ⟨q0, q1, qP, qK, qD, qN, qZ, qT, qO⟩ := q; exact ⟨q0, q1, qP, va_K.moved (u := U) (U := U.calling g mk a) (Vm.Alike.refl U.vm) qK, qD, pw_N.same (u := U) (U := U.calling g mk a) rfl qN, va_Z.moved (u := U) (U := U.calling g mk a) (Vm.Alike.refl U.vm) qZ, va_T.moved (u := U) (U := U.calling g mk a) (Vm.Alike.refl U.vm) qT, va_AO.moved (u := U) (U := U.calling g mk a) (Vm.Alike.refl U.vm) qO⟩, va_recv hKc hPc (ci := 0) (q0 := 0) rfl rfl, fun U hU hW => ⟨rfl, by rw [hU], by rw [hU]; exact hPc, va_K.moved hW.alike hKc, hDc.weaken (fun _ _ _ _ => trivial), pw_N.warm hW hN, by rw [hU]; exact va_Z.moved hW.alike ((hZ.kept (fun a h1 h2 => hS.2.1 a h1 h2)).narrow hFc), by rw [hU]; exact va_T.moved hW.alike ((hT.kept (fun a h1 h2 => hS.2.1 a h1 h2)).narrow hFc), va_AO.moved hW.alike hO⟩⟩ rfl rfl hl.1 rfl (lv_room (Nat.le_of_ble_eq_true rfl)) dX8_make_83 ⟨Nat.le_of_ble_eq_true rfl, Nat.le_of_ble_eq_true rfl⟩) hS (fun q _ h => hFc q h) hFc (fun r_28 u t H1 locs ht hvm hw hB hz1 hk1 hS => ?_)
          have hP1 : va_P (dC, dI) vwCl [] H1 := fun k q h => by simp at h
          have hD1 : va_D (va_A [(a 0, .inr (0, [.int 0, .ref z, .int 0])), (q_23, .inr (8, [.int p0, .int p1, .int p2, .ref l0_25, .ref l1_26, .ref l2_27, .int 0, .int 0, .int 0, .int 0, .int 0, .int 0]))] H.size) [] := ⟨fun i j p q h => by simp at h, fun k q h => by simp at h⟩
          obtain ⟨hP, hD⟩ := va_join (wr := [(h0, .inr (9, [.ref (a 0), .ref (a 1), .ref (a 2), .ref (a 3), .ref (a 4), .ref (a 5), .ref (a 6), .long 0, .long 0, .int 0, .int 0, .int 0, .int 0, .int 0])), (a 6, .inl (cI, 6, .inr (.inl (fun _ => 0))))]) (w1 := []) hP hD [2, 3] [0, 1] rfl rfl (by decide) (by decide) hk1 hFc hP1 hD1
          generalize H1 = H at hP hS ⊢
          replace hP : va_P (dC, dI) vwCl [(h0, .inr (9, [.ref (a 0), .ref (a 1), .ref (a 2), .ref (a 3), .ref (a 4), .ref (a 5), .ref (a 6), .long 0, .long 0, .int 0, .int 0, .int 0, .int 0, .int 0])), (a 6, .inl (cI, 6, .inr (.inl (fun _ => 0))))] H := hP
          replace hD : va_D A [(h0, .inr (9, [.ref (a 0), .ref (a 1), .ref (a 2), .ref (a 3), .ref (a 4), .ref (a 5), .ref (a 6), .long 0, .long 0, .int 0, .int 0, .int 0, .int 0, .int 0])), (a 6, .inl (cI, 6, .inr (.inl (fun _ => 0))))] := hD
          refine W.widen (k := 7) (n := 71) (by omega) (by omega) ?_
          try dsimp only at hw
          subst hw
          refine lv_pop hx hb dX8_make_86 rfl ?_
          refine lv_aload_n hx hb dX8_make_87 rfl (lv_at hl 2 rfl) ?_
          refine va_get (D := (dC, dI)) (ci := 9) (v := .ref (a 6)) (C := RX8) (T := TX8) (N := 14) hx hb hts in_t_make_X8 hown hK hP 0 rfl rfl 6 (by decide) (hts (.fieldLink RX8 53 "ServiceTree" "inState" "[J") (by decide +kernel)) (fun _ h9 => h9) rfl dX8_make_88 ?_
          refine lv_iconst (v := 0) hx hb dX8_make_91 (by decide) ?_
          refine lv_dup2_11 hx hb dX8_make_92 rfl rfl ?_
          refine va_lald hx hb hK hP 1 0 rfl rfl (show ¬ ((0 : Int32) < 0 ∨ 6 ≤ (0 : Int32).toNatClampNeg) by decide) dX8_make_93 ?_
          refine lv_topl (fun x_29 ex_29 => ?_)
          obtain rfl : x_29 = 0 := ex_29
          refine lv_iload hx hb dX8_make_94 (lv_at hl 0 rfl) ?_
          have hPc := hP.sub (ws' := []) [] rfl
          have hDc := hD.sub (ws' := []) [] (by decide) rfl
          have hKc := hK.sub (tys' := []) [] rfl
          have hFc := va_free (wc := []) hD hS hA [] rfl
          refine va_calll (va_runS (As := [.int 0]) (rest := [.long 0, .int 0, .ref (a 6)]) ⟨hx, hb, hml, hown, hts⟩ (c_only0 l dC dI  H.size) (va_cwS 1 hts wc_t_make_only0_78 rfl rfl rfl (by decide +kernel) ⟨Nat.le_of_ble_eq_true rfl, Nat.le_of_ble_eq_true rfl⟩) ⟨fun a U g mk q => by obtain ⟨q0, q1, qP, qK, qD, qN⟩ := q; exact ⟨q0, q1, qP, va_K.moved (u := U) (U := U.calling g mk a) (Vm.Alike.refl U.vm) qK, qD, pw_N.same (u := U) (U := U.calling g mk a) rfl qN⟩, fun U hU hW => ⟨rfl, by rw [hU], by rw [hU]; exact hPc, va_K.moved hW.alike hKc, hDc.weaken (fun _ _ _ _ => trivial), pw_N.warm hW hN⟩⟩ rfl rfl hl.1 rfl (lv_room (Nat.le_of_ble_eq_true rfl)) dX8_make_96 ⟨Nat.le_of_ble_eq_true rfl, Nat.le_of_ble_eq_true rfl⟩) hS (fun q _ h => hFc q h) hFc (fun r_30 u t H1 locs ht hvm hw hB hz1 hk1 hS => ?_)
          obtain ⟨hP1, hD1⟩ := hB
          rw [ht] at hP1
          obtain ⟨hP, hD⟩ := va_join (wr := [(h0, .inr (9, [.ref (a 0), .ref (a 1), .ref (a 2), .ref (a 3), .ref (a 4), .ref (a 5), .ref (a 6), .long 0, .long 0, .int 0, .int 0, .int 0, .int 0, .int 0])), (a 6, .inl (cI, 6, .inr (.inl (fun _ => 0))))]) (w1 := []) hP hD [] [0, 1] rfl rfl (by decide) (by decide) hk1 hFc hP1 hD1
          generalize H1 = H at hP hS ⊢
          replace hP : va_P (dC, dI) vwCl [(h0, .inr (9, [.ref (a 0), .ref (a 1), .ref (a 2), .ref (a 3), .ref (a 4), .ref (a 5), .ref (a 6), .long 0, .long 0, .int 0, .int 0, .int 0, .int 0, .int 0])), (a 6, .inl (cI, 6, .inr (.inl (fun _ => 0))))] H := hP
          replace hD : va_D A [(h0, .inr (9, [.ref (a 0), .ref (a 1), .ref (a 2), .ref (a 3), .ref (a 4), .ref (a 5), .ref (a 6), .long 0, .long 0, .int 0, .int 0, .int 0, .int 0, .int 0])), (a 6, .inl (cI, 6, .inr (.inl (fun _ => 0))))] := hD
          try dsimp only at hw
          subst hw
          refine lv_lor hx hb dX8_make_99 ?_
          refine lv_topl (fun x_31 ex_31 => ?_)
          obtain rfl : x_31 = 1 := ex_31.trans (by decide)
          refine va_last hx hb hK hP hD hS 1 0 rfl rfl (show ¬ ((0 : Int32) < 0 ∨ 6 ≤ (0 : Int32).toNatClampNeg) by decide) dX8_make_100 (fun H locs hP hD hS => ?_)
          replace hP : va_P (dC, dI) vwCl [(h0, .inr (9, [.ref (a 0), .ref (a 1), .ref (a 2), .ref (a 3), .ref (a 4), .ref (a 5), .ref (a 6), .long 0, .long 0, .int 0, .int 0, .int 0, .int 0, .int 0])), (a 6, .inl (cI, 6, .inr (.inl (vp_updL (fun _ => 0) (0 : Int32).toNatClampNeg 1))))] H := hP
          replace hD : va_D A [(h0, .inr (9, [.ref (a 0), .ref (a 1), .ref (a 2), .ref (a 3), .ref (a 4), .ref (a 5), .ref (a 6), .long 0, .long 0, .int 0, .int 0, .int 0, .int 0, .int 0])), (a 6, .inl (cI, 6, .inr (.inl (vp_updL (fun _ => 0) (0 : Int32).toNatClampNeg 1))))] := hD
          refine lv_iload hx hb dX8_make_101 (lv_at hl 0 rfl) ?_
          exact W.iret (v := 0) hx hb hr (fun t ht hW => ⟨⟨0, (), rfl, (if_pos (by have k0 := h_2; have k1 := c_3; have k2 := h_19; have k3 := h_21; simp only [p1_le, p1_lt, p1_eq, p1_m6, p1_m1, p1_0, p1_1, p1_2, p1_3, p1_4, p1_5, p1_6, p1_7, p1_8, p1_9, p1_10, p1_11, p1_12, p1_13, p1_14, p1_15, p1_16, p1_17, p1_18, p1_19, p1_20, p1_40, p1_50, p1_200, p1_1000] at k0 k1 k2 k3 ⊢; omega)).symm, trivial⟩, hS.F ht⟩) hS.2.2 dX8_make_103
        · obtain rfl : r_20 = 0 := hw.trans (if_neg h_21)
          refine lv_if_ne (tgt := 46) hx hb dX8_make_41 (by decide) (fun c9 => absurd (by decide) c9) (fun _ => ?_)
          refine lv_iconst (v := (-1)) hx hb dX8_make_44 (by decide) ?_
          refine W.widen (k := 7) (n := 71) (by omega) (by omega) ?_
          exact W.iret (v := (-1)) hx hb hr (fun t ht hW => ⟨⟨(-1), (), rfl, (if_neg (by have k0 := h_2; have k1 := c_3; have k2 := h_19; have k3 := h_21; simp only [p1_le, p1_lt, p1_eq, p1_m6, p1_m1, p1_0, p1_1, p1_2, p1_3, p1_4, p1_5, p1_6, p1_7, p1_8, p1_9, p1_10, p1_11, p1_12, p1_13, p1_14, p1_15, p1_16, p1_17, p1_18, p1_19, p1_20, p1_40, p1_50, p1_200, p1_1000] at k0 k1 k2 k3 ⊢; omega)).symm, trivial⟩, hS.F ht⟩) hS.2.2 dX8_make_45
      · obtain rfl : r_18 = 0 := hw.trans (if_neg h_19)
        refine lv_if_eq (tgt := 44) hx hb dX8_make_31 (by decide) (fun _ => ?_) (fun c9 => absurd (by decide) c9)
        refine lv_iconst (v := (-1)) hx hb dX8_make_44 (by decide) ?_
        refine W.widen (k := 7) (n := 71) (by omega) (by omega) ?_
        exact W.iret (v := (-1)) hx hb hr (fun t ht hW => ⟨⟨(-1), (), rfl, (if_neg (by have k0 := h_2; have k1 := c_3; have k2 := h_19; simp only [p1_le, p1_lt, p1_eq, p1_m6, p1_m1, p1_0, p1_1, p1_2, p1_3, p1_4, p1_5, p1_6, p1_7, p1_8, p1_9, p1_10, p1_11, p1_12, p1_13, p1_14, p1_15, p1_16, p1_17, p1_18, p1_19, p1_20, p1_40, p1_50, p1_200, p1_1000] at k0 k1 k2 ⊢; omega)).symm, trivial⟩, hS.F ht⟩) hS.2.2 dX8_make_45
  · obtain rfl : r_1 = 0 := hw.trans (if_neg h_2)
    refine lv_if_ne (tgt := 11) hx hb dX8_make_6 (by decide) (fun c9 => absurd (by decide) c9) (fun _ => ?_)
    refine lv_iconst (v := (-1)) hx hb dX8_make_9 (by decide) ?_
    refine W.widen (k := 7) (n := 71) (by omega) (by omega) ?_
    exact W.iret (v := (-1)) hx hb hr (fun t ht hW => ⟨⟨(-1), (), rfl, (if_neg (by have k0 := h_2; simp only [p1_le, p1_lt, p1_eq, p1_m6, p1_m1, p1_0, p1_1, p1_2, p1_3, p1_4, p1_5, p1_6, p1_7, p1_8, p1_9, p1_10, p1_11, p1_12, p1_13, p1_14, p1_15, p1_16, p1_17, p1_18, p1_19, p1_20, p1_40, p1_50, p1_200, p1_1000] at k0 ⊢; omega)).symm, trivial⟩, hS.F ht⟩) hS.2.2 dX8_make_10
