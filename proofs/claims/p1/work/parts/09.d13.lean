theorem dJx4a65c_add_72be8_0 : decode cJx4a65c_add_72be8 0 = .ok (.iload_n 3, 1) := by decide +kernel
theorem dJx4a65c_add_72be8_1 : decode cJx4a65c_add_72be8 1 = .ok (.aload_n 2, 1) := by decide +kernel
theorem dJx4a65c_add_72be8_2 : decode cJx4a65c_add_72be8 2 = .ok (.arraylength, 1) := by decide +kernel
theorem dJx4a65c_add_72be8_3 : decode cJx4a65c_add_72be8 3 = .ok (.if_icmp .ne 8, 3) := by decide +kernel
theorem dJx4a65c_add_72be8_6 : decode cJx4a65c_add_72be8 6 = .ok (.aload_n 0, 1) := by decide +kernel
theorem dJx4a65c_add_72be8_7 : decode cJx4a65c_add_72be8 7 = .ok (.invokevirtual 129, 3) := by decide +kernel
theorem dJx4a65c_add_72be8_10 : decode cJx4a65c_add_72be8 10 = .ok (.astore_n 2, 1) := by decide +kernel
theorem dJx4a65c_add_72be8_11 : decode cJx4a65c_add_72be8 11 = .ok (.aload_n 2, 1) := by decide +kernel
theorem dJx4a65c_add_72be8_12 : decode cJx4a65c_add_72be8 12 = .ok (.iload_n 3, 1) := by decide +kernel
theorem dJx4a65c_add_72be8_13 : decode cJx4a65c_add_72be8 13 = .ok (.aload_n 1, 1) := by decide +kernel
theorem dJx4a65c_add_72be8_14 : decode cJx4a65c_add_72be8 14 = .ok (.aastore, 1) := by decide +kernel
theorem dJx4a65c_add_72be8_15 : decode cJx4a65c_add_72be8 15 = .ok (.aload_n 0, 1) := by decide +kernel
theorem dJx4a65c_add_72be8_16 : decode cJx4a65c_add_72be8 16 = .ok (.iload_n 3, 1) := by decide +kernel
theorem dJx4a65c_add_72be8_17 : decode cJx4a65c_add_72be8 17 = .ok (.iconst 1, 1) := by decide +kernel
theorem dJx4a65c_add_72be8_18 : decode cJx4a65c_add_72be8 18 = .ok (.iadd, 1) := by decide +kernel
theorem dJx4a65c_add_72be8_19 : decode cJx4a65c_add_72be8 19 = .ok (.putfield 48, 3) := by decide +kernel
theorem dJx4a65c_add_72be8_22 : decode cJx4a65c_add_72be8 22 = .ok (.return_, 1) := by decide +kernel
def wq_add3 : List Cond := [.code yJx4a65c_add_72be8 cJx4a65c_add_72be8 4 none, .fieldLink RJx4a65c 48 "java/util/ArrayList" "size" "I", .methodLink RJx4a65c 129 yJx4a65c_grow_d5877, .instanceMethod yJx4a65c_grow_d5877, .selects RJx4a65c yJx4a65c_grow_d5877 yJx4a65c_grow_d5877, .initialized RJx4a65c] ++ (wsJx4a65c0 ++ (wq_grow))
theorem in_add3_Jx4a65c : ∀ w ∈ wsJx4a65c0, w ∈ wq_add3 := fun _ h => List.mem_append_right _ (List.mem_append_left _ (h))
set_option maxRecDepth 20000 in
theorem wi_add3 : ∀ w ∈ wq_add3, w ∈ lw_tbl := List.forall_mem_append.mpr ⟨(by decide +kernel), List.forall_mem_append.mpr ⟨inKJx4a65c, wi_grow⟩⟩
set_option maxRecDepth 20000 in
theorem wg_add3 : GoodIn wq_add3 wq_add3 := goodIn_sub (fun _ h => h) (by decide +kernel)
set_option maxRecDepth 20000 in
theorem wc_add3_grow_129 : GoodIn wq_add3 (wsV RJx4a65c 129 RJx4a65c yJx4a65c_grow_d5877 wq_grow) := goodIn_app (goodIn_of _ (by decide +kernel)) (fun w h => ⟨List.mem_append_right _ (List.mem_append_right _ (h)), (wg_grow w h).2⟩)
set_option maxHeartbeats 4000000 in
set_option maxRecDepth 100000 in
theorem c_add3 (l : Launch) (dC : Nat → ClassId) (dI : Nat → Nat → Nat) (h0 : Nat) (h1 : Nat) (z : Nat) (v0 : Int32) (v1 : Int32) (v2 : Int32) (v3 : Int32) (l0 : Nat) (l1 : Nat) (l2 : Nat) (sz : Nat) : Met l yJx4a65c_add_72be8 wq_add3 ({ frames := 3, cells := 1, slots := 10, locals := 67 }) (va_Pc [.ref h0, .ref h1, .ref z, .int 0] (fun U => U.heap.size = sz ∧ va_P (dC, dI) vwCl [(h0, .inr (0, [.int 1, .ref z, .int 0])), (h1, .inr (8, [.int v0, .int v1, .int v2, .ref l0, .ref l1, .ref l2, .int 0, .int v3, .int 0, .int 0, .int 0, .int 0]))] U.heap ∧ va_K (dC, dI) vwCl [] U ∧ va_D (fun _ => True) [(h0, .inr (0, [.int 1, .ref z, .int 0])), (h1, .inr (8, [.int v0, .int v1, .int v2, .ref l0, .ref l1, .ref l2, .int 0, .int v3, .int 0, .int 0, .int 0, .int 0]))] ∧ pw_N U ∧ va_Z "java/util/ArrayList" "DEFAULTCAPACITY_EMPTY_ELEMENTDATA" "[Ljava/lang/Object;" (.ref z) (va_A [(h0, .inr (0, [.int 1, .ref z, .int 0])), (h1, .inr (8, [.int v0, .int v1, .int v2, .ref l0, .ref l1, .ref l2, .int 0, .int v3, .int 0, .int 0, .int 0, .int 0]))] sz) U U.heap ∧ va_T (.object "java/lang/Object") z 0 (fun _ => .null) (va_A [(h0, .inr (0, [.int 1, .ref z, .int 0])), (h1, .inr (8, [.int v0, .int v1, .int v2, .ref l0, .ref l1, .ref l2, .int 0, .int v3, .int 0, .int 0, .int 0, .int 0]))] sz) U U.heap ∧ va_AO "java/lang/Object" U)) (va_Qv (fun (_ : Unit) => True) (fun (_ : Unit) (t : State) => True) (va_A [(h0, .inr (0, [.int 1, .ref z, .int 0])), (h1, .inr (8, [.int v0, .int v1, .int v2, .ref l0, .ref l1, .ref l2, .int 0, .int v3, .int 0, .int 0, .int 0, .int 0]))] sz)) 1 10 (va_A [(h0, .inr (0, [.int 1, .ref z, .int 0])), (h1, .inr (8, [.int v0, .int v1, .int v2, .ref l0, .ref l1, .ref l2, .int 0, .int v3, .int 0, .int 0, .int 0, .int 0]))] sz) := by
  refine Met.ofW (cc := cJx4a65c_add_72be8) (maxL := 4) (ret := none) (by decide) rfl ?_
  intro p e s m args below meth c s₁ B hml hv
  obtain ⟨rfl, hsz, hP, hK, hD0, hN, hZ, hT, hO⟩ := hv
  have hx := B.exec
  have hb := B.bytes
  have hr := B.returns
  have hts := atoms_spec (ws := wq_add3) B.pre
  have hown : s.vm.findClass RJx4a65c = some m.cls := findClass_of_methodNamed B.named
  have hlocks := B.notSynchronized
  subst hsz
  have hD := hD0.self (sz := s.heap.size)
  generalize hAe : va_A [(h0, .inr (0, [.int 1, .ref z, .int 0])), (h1, .inr (8, [.int v0, .int v1, .int v2, .ref l0, .ref l1, .ref l2, .int 0, .int v3, .int 0, .int 0, .int 0, .int 0]))] s.heap.size = A at hD hZ hT ⊢
  have hA : ∀ q : Nat, s.heap.size ≤ q → A q := fun q h => by rw [← hAe]; exact Or.inr h
  have hS : va_S A s.heap s.heap [] := va_S.rf
  have hP : va_P (dC, dI) vwCl [(h0, .inr (0, [.int 1, .ref z, .int 0])), (h1, .inr (8, [.int v0, .int v1, .int v2, .ref l0, .ref l1, .ref l2, .int 0, .int v3, .int 0, .int 0, .int 0, .int 0]))] s.heap := hP
  have hl := lv_entry ([.ref h0, .ref h1, .ref z, .int 0]) (n := 4) (Nat.le_of_ble_eq_true rfl)
  rw [lg_entry_eq]
  generalize (lg_sl ([.ref h0, .ref h1, .ref z, .int 0]) ++ List.replicate (4 - (lg_sl ([.ref h0, .ref h1, .ref z, .int 0])).length) Slot.unset).toArray = ls at hl ⊢
  have hl : lv_has ls 4 [(0, .ref h0), (1, .ref h1), (2, .ref z), (3, .int 0)] := hl
  refine lv_iload_n hx hb dJx4a65c_add_72be8_0 rfl (lv_at hl 3 rfl) ?_
  refine lv_aload_n hx hb dJx4a65c_add_72be8_1 rfl (lv_at hl 2 rfl) ?_
  refine va_tlen (v := 0) hx hb hT hS rfl dJx4a65c_add_72be8_2 ?_
  refine lv_icmp_ne (tgt := 11) hx hb dJx4a65c_add_72be8_3 (by decide) (fun c9 => absurd (by decide) c9) (fun _ => ?_)
  refine lv_aload_n hx hb dJx4a65c_add_72be8_6 rfl (lv_at hl 0 rfl) ?_
  have hPc := hP.sub (ws' := [(h0, .inr (0, [.int 1, .ref z, .int 0]))]) [0] rfl
  have hDc := hD.sub (ws' := [(h0, .inr (0, [.int 1, .ref z, .int 0]))]) [0] (by decide) rfl
  have hKc := hK.sub (tys' := []) [] rfl
  have hFc := va_free (wc := [(h0, .inr (0, [.int 1, .ref z, .int 0]))]) hD hS hA [0] rfl
  refine va_callr (va_runV (As := []) (rest := []) ⟨hx, hb, hml, hown, hts⟩ (c_grow l dC dI h0 z s.heap.size) (cwV 0 hts wc_add3_grow_129 rfl rfl rfl (by decide +kernel) ⟨Nat.le_of_ble_eq_true rfl, Nat.le_of_ble_eq_true rfl⟩) ⟨fun a U g mk q => by obtain ⟨q0, q1, qP, qK, qD, qN, qZ, qT, qO⟩ := q; exact ⟨q0, q1, qP, va_K.moved (u := U) (U := U.calling g mk a) (Vm.Alike.refl U.vm) qK, qD, pw_N.same (u := U) (U := U.calling g mk a) rfl qN, va_Z.moved (u := U) (U := U.calling g mk a) (Vm.Alike.refl U.vm) qZ, va_T.moved (u := U) (U := U.calling g mk a) (Vm.Alike.refl U.vm) qT, va_AO.moved (u := U) (U := U.calling g mk a) (Vm.Alike.refl U.vm) qO⟩, va_recv hKc hPc (ci := 0) (q0 := 0) rfl rfl, fun U hU hW => ⟨rfl, by rw [hU], by rw [hU]; exact hPc, va_K.moved hW.alike hKc, hDc.weaken (fun _ _ _ _ => trivial), pw_N.warm hW hN, by rw [hU]; exact va_Z.moved hW.alike ((hZ.kept (fun a h1 h2 => hS.2.1 a h1 h2)).narrow hFc), by rw [hU]; exact va_T.moved hW.alike ((hT.kept (fun a h1 h2 => hS.2.1 a h1 h2)).narrow hFc), va_AO.moved hW.alike hO⟩⟩ rfl rfl hl.1 rfl (lv_room (Nat.le_of_ble_eq_true rfl)) dJx4a65c_add_72be8_7 ⟨Nat.le_of_ble_eq_true rfl, Nat.le_of_ble_eq_true rfl⟩) hS (fun q _ h => hFc q h) hFc (fun u r_1 t H1 locs ht hvm hw hB hz1 hk1 hS => ?_)
  obtain ⟨cG_2, hP1, hK1, hD1⟩ := hB
  rw [ht] at hP1
  obtain ⟨hP, hD⟩ := va_join (wr := [(h1, .inr (8, [.int v0, .int v1, .int v2, .ref l0, .ref l1, .ref l2, .int 0, .int v3, .int 0, .int 0, .int 0, .int 0]))]) (w1 := [(h0, .inr (0, [.int 1, .ref r_1, .int 0])), (r_1, .inl (cG_2, 10, .inr (.inr (.inr (.inr (fun _ => none))))))]) hP hD [0] [1] rfl rfl (by decide) (by decide) hk1 hFc hP1 hD1
  generalize H1 = H at hP hS ⊢
  replace hP : va_P (dC, dI) vwCl [(h1, .inr (8, [.int v0, .int v1, .int v2, .ref l0, .ref l1, .ref l2, .int 0, .int v3, .int 0, .int 0, .int 0, .int 0])), (h0, .inr (0, [.int 1, .ref r_1, .int 0])), (r_1, .inl (cG_2, 10, .inr (.inr (.inr (.inr (fun _ => none))))))] H := hP
  replace hD : va_D A [(h1, .inr (8, [.int v0, .int v1, .int v2, .ref l0, .ref l1, .ref l2, .int 0, .int v3, .int 0, .int 0, .int 0, .int 0])), (h0, .inr (0, [.int 1, .ref r_1, .int 0])), (r_1, .inl (cG_2, 10, .inr (.inr (.inr (.inr (fun _ => none))))))] := hD
  have hK := hK.app (va_K.moved hvm.symm hK1)
  have hK : va_K (dC, dI) vwCl [(cG_2, .object "java/lang/Object")] s := hK
  refine W.widen (k := 1) (n := 10) (by omega) (by omega) ?_
  try dsimp only at hw
  refine lv_astore_n (lv' := [(2, .ref r_1), (0, .ref h0), (1, .ref h1), (3, .int 0)]) hx hb dJx4a65c_add_72be8_10 rfl hl (by decide) rfl (fun ls hl => ?_)
  refine lv_aload_n hx hb dJx4a65c_add_72be8_11 rfl (lv_at hl 0 rfl) ?_
  refine lv_iload_n hx hb dJx4a65c_add_72be8_12 rfl (lv_at hl 3 rfl) ?_
  refine lv_aload_n hx hb dJx4a65c_add_72be8_13 rfl (lv_at hl 2 rfl) ?_
  refine va_astqO hx hb hK hP hD hS 2 0 0 8 rfl rfl (hN (.castable RX7 "java/lang/Object") (by decide +kernel)) rfl rfl (show ¬ ((0 : Int32) < 0 ∨ 10 ≤ (0 : Int32).toNatClampNeg) by decide) dJx4a65c_add_72be8_14 (fun H locs hP hD hS => ?_)
  replace hP : va_P (dC, dI) vwCl [(h1, .inr (8, [.int v0, .int v1, .int v2, .ref l0, .ref l1, .ref l2, .int 0, .int v3, .int 0, .int 0, .int 0, .int 0])), (h0, .inr (0, [.int 1, .ref r_1, .int 0])), (r_1, .inl (cG_2, 10, .inr (.inr (.inr (.inr (va_up (fun _ => none) (0 : Int32).toNatClampNeg (some h1)))))))] H := hP
  replace hD : va_D A [(h1, .inr (8, [.int v0, .int v1, .int v2, .ref l0, .ref l1, .ref l2, .int 0, .int v3, .int 0, .int 0, .int 0, .int 0])), (h0, .inr (0, [.int 1, .ref r_1, .int 0])), (r_1, .inl (cG_2, 10, .inr (.inr (.inr (.inr (va_up (fun _ => none) (0 : Int32).toNatClampNeg (some h1)))))))] := hD
  refine lv_aload_n hx hb dJx4a65c_add_72be8_15 rfl (lv_at hl 1 rfl) ?_
  refine lv_iload_n hx hb dJx4a65c_add_72be8_16 rfl (lv_at hl 3 rfl) ?_
  refine lv_iconst (v := 1) hx hb dJx4a65c_add_72be8_17 (by decide) ?_
  refine lv_iadd hx hb dJx4a65c_add_72be8_18 ?_
  refine lv_topi (fun x_3 ex_3 => ?_)
  obtain rfl : x_3 = 1 := ex_3.trans (by decide)
  refine va_put (D := (dC, dI)) (ci := 0) (v := .int 1) (ty := .int) (C := RJx4a65c) (T := TJx4a65c) (N := 3) hx hb hts in_add3_Jx4a65c tyJx4a65c tyJx4a65c_ok nmJx4a65c hown hK hP hD hS 1 rfl rfl 2 (by decide) (hts (.fieldLink RJx4a65c 48 "java/util/ArrayList" "size" "I") (by decide +kernel)) (fun _ h9 => h9) rfl (by decide +kernel) rfl rfl (Nat.le_of_ble_eq_true rfl) dJx4a65c_add_72be8_19 (fun H locs hP hD hS => ?_)
  replace hP : va_P (dC, dI) vwCl [(h1, .inr (8, [.int v0, .int v1, .int v2, .ref l0, .ref l1, .ref l2, .int 0, .int v3, .int 0, .int 0, .int 0, .int 0])), (h0, .inr (0, [.int 1, .ref r_1, .int 1])), (r_1, .inl (cG_2, 10, .inr (.inr (.inr (.inr (va_up (fun _ => none) (0 : Int32).toNatClampNeg (some h1)))))))] H := hP
  replace hD : va_D A [(h1, .inr (8, [.int v0, .int v1, .int v2, .ref l0, .ref l1, .ref l2, .int 0, .int v3, .int 0, .int 0, .int 0, .int 0])), (h0, .inr (0, [.int 1, .ref r_1, .int 1])), (r_1, .inl (cG_2, 10, .inr (.inr (.inr (.inr (va_up (fun _ => none) (0 : Int32).toNatClampNeg (some h1)))))))] := hD
  exact W.vret hx hb hr (fun t ht hW => ⟨⟨(), rfl, trivial, trivial⟩, hS.F ht⟩) hS.2.2 dJx4a65c_add_72be8_22
