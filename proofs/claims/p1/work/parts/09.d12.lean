theorem dJx4a65c_grow_d5877_0 : decode cJx4a65c_grow_d5877 0 = .ok (.aload_n 0, 1) := by decide +kernel
theorem dJx4a65c_grow_d5877_1 : decode cJx4a65c_grow_d5877 1 = .ok (.aload_n 0, 1) := by decide +kernel
theorem dJx4a65c_grow_d5877_2 : decode cJx4a65c_grow_d5877 2 = .ok (.getfield 48, 3) := by decide +kernel
theorem dJx4a65c_grow_d5877_5 : decode cJx4a65c_grow_d5877 5 = .ok (.iconst 1, 1) := by decide +kernel
theorem dJx4a65c_grow_d5877_6 : decode cJx4a65c_grow_d5877 6 = .ok (.iadd, 1) := by decide +kernel
theorem dJx4a65c_grow_d5877_7 : decode cJx4a65c_grow_d5877 7 = .ok (.invokevirtual 69, 3) := by decide +kernel
theorem dJx4a65c_grow_d5877_10 : decode cJx4a65c_grow_d5877 10 = .ok (.areturn, 1) := by decide +kernel
def wq_grow : List Cond := [.code yJx4a65c_grow_d5877 cJx4a65c_grow_d5877 1 (some (.array (.object "java/lang/Object"))), .fieldLink RJx4a65c 48 "java/util/ArrayList" "size" "I", .methodLink RJx4a65c 69 yJx4a65c_grow_92f84, .instanceMethod yJx4a65c_grow_92f84, .selects RJx4a65c yJx4a65c_grow_92f84 yJx4a65c_grow_92f84, .initialized RJx4a65c] ++ (wsJx4a65c0 ++ (wq_growI))
theorem in_grow_Jx4a65c : ∀ w ∈ wsJx4a65c0, w ∈ wq_grow := fun _ h => List.mem_append_right _ (List.mem_append_left _ (h))
set_option maxRecDepth 20000 in
theorem wi_grow : ∀ w ∈ wq_grow, w ∈ lw_tbl := List.forall_mem_append.mpr ⟨(by decide +kernel), List.forall_mem_append.mpr ⟨inKJx4a65c, wi_growI⟩⟩
set_option maxRecDepth 20000 in
theorem wg_grow : GoodIn wq_grow wq_grow := goodIn_sub (fun _ h => h) (by decide +kernel)
set_option maxRecDepth 20000 in
theorem wc_grow_growI_69 : GoodIn wq_grow (wsV RJx4a65c 69 RJx4a65c yJx4a65c_grow_92f84 wq_growI) := goodIn_app (goodIn_of _ (by decide +kernel)) (fun w h => ⟨List.mem_append_right _ (List.mem_append_right _ (h)), (wg_growI w h).2⟩)
set_option maxHeartbeats 4000000 in
set_option maxRecDepth 100000 in
theorem c_grow (l : Launch) (dC : Nat → ClassId) (dI : Nat → Nat → Nat) (h0 : Nat) (z : Nat) (sz : Nat) : Met l yJx4a65c_grow_d5877 wq_grow ({ frames := 2, cells := 1, slots := 10, locals := 47 }) (va_Pc [.ref h0] (fun U => U.heap.size = sz ∧ va_P (dC, dI) vwCl [(h0, .inr (0, [.int 1, .ref z, .int 0]))] U.heap ∧ va_K (dC, dI) vwCl [] U ∧ va_D (fun _ => True) [(h0, .inr (0, [.int 1, .ref z, .int 0]))] ∧ pw_N U ∧ va_Z "java/util/ArrayList" "DEFAULTCAPACITY_EMPTY_ELEMENTDATA" "[Ljava/lang/Object;" (.ref z) (va_A [(h0, .inr (0, [.int 1, .ref z, .int 0]))] sz) U U.heap ∧ va_T (.object "java/lang/Object") z 0 (fun _ => .null) (va_A [(h0, .inr (0, [.int 1, .ref z, .int 0]))] sz) U U.heap ∧ va_AO "java/lang/Object" U)) (va_Qr (fun (_ : Unit) => True) (fun (_ : Unit) (ra : Nat) (t : State) => ∃ (cG : ClassId), va_P (dC, dI) vwCl [(h0, .inr (0, [.int 1, .ref ra, .int 0])), (ra, .inl (cG, 10, .inr (.inr (.inr (.inr (fun _ => none))))))] t.heap ∧ va_K (dC, dI) vwCl [(cG, .object "java/lang/Object")] t ∧ va_D (va_A [(h0, .inr (0, [.int 1, .ref z, .int 0]))] sz) [(h0, .inr (0, [.int 1, .ref ra, .int 0])), (ra, .inl (cG, 10, .inr (.inr (.inr (.inr (fun _ => none))))))]) (va_A [(h0, .inr (0, [.int 1, .ref z, .int 0]))] sz)) 1 10 (va_A [(h0, .inr (0, [.int 1, .ref z, .int 0]))] sz) := by
  refine Met.ofW (cc := cJx4a65c_grow_d5877) (maxL := 1) (ret := (some (.array (.object "java/lang/Object")))) (by decide) rfl ?_
  intro p e s m args below meth c s₁ B hml hv
  obtain ⟨rfl, hsz, hP, hK, hD0, hN, hZ, hT, hO⟩ := hv
  have hx := B.exec
  have hb := B.bytes
  have hr := B.returns
  have hts := atoms_spec (ws := wq_grow) B.pre
  have hown : s.vm.findClass RJx4a65c = some m.cls := findClass_of_methodNamed B.named
  have hlocks := B.notSynchronized
  subst hsz
  have hD := hD0.self (sz := s.heap.size)
  generalize hAe : va_A [(h0, .inr (0, [.int 1, .ref z, .int 0]))] s.heap.size = A at hD hZ hT ⊢
  have hA : ∀ q : Nat, s.heap.size ≤ q → A q := fun q h => by rw [← hAe]; exact Or.inr h
  have hS : va_S A s.heap s.heap [] := va_S.rf
  have hP : va_P (dC, dI) vwCl [(h0, .inr (0, [.int 1, .ref z, .int 0]))] s.heap := hP
  have hl := lv_entry ([.ref h0]) (n := 1) (Nat.le_of_ble_eq_true rfl)
  rw [lg_entry_eq]
  generalize (lg_sl ([.ref h0]) ++ List.replicate (1 - (lg_sl ([.ref h0])).length) Slot.unset).toArray = ls at hl ⊢
  have hl : lv_has ls 1 [(0, .ref h0)] := hl
  refine lv_aload_n hx hb dJx4a65c_grow_d5877_0 rfl (lv_at hl 0 rfl) ?_
  refine lv_aload_n hx hb dJx4a65c_grow_d5877_1 rfl (lv_at hl 0 rfl) ?_
  refine va_get (D := (dC, dI)) (ci := 0) (v := .int 0) (C := RJx4a65c) (T := TJx4a65c) (N := 3) hx hb hts in_grow_Jx4a65c hown hK hP 0 rfl rfl 2 (by decide) (hts (.fieldLink RJx4a65c 48 "java/util/ArrayList" "size" "I") (by decide +kernel)) (fun _ h9 => h9) rfl dJx4a65c_grow_d5877_2 ?_
  refine lv_iconst (v := 1) hx hb dJx4a65c_grow_d5877_5 (by decide) ?_
  refine lv_iadd hx hb dJx4a65c_grow_d5877_6 ?_
  refine lv_topi (fun x_1 ex_1 => ?_)
  obtain rfl : x_1 = 1 := ex_1.trans (by decide)
  have hPc := hP.sub (ws' := [(h0, .inr (0, [.int 1, .ref z, .int 0]))]) [0] rfl
  have hDc := hD.sub (ws' := [(h0, .inr (0, [.int 1, .ref z, .int 0]))]) [0] (by decide) rfl
  have hKc := hK.sub (tys' := []) [] rfl
  have hFc := va_free (wc := [(h0, .inr (0, [.int 1, .ref z, .int 0]))]) hD hS hA [0] rfl
  refine va_callr (va_runV (As := [.int 1]) (rest := []) ⟨hx, hb, hml, hown, hts⟩ (c_growI l dC dI h0 z s.heap.size) (cwV 1 hts wc_grow_growI_69 rfl rfl rfl (by decide +kernel) ⟨Nat.le_of_ble_eq_true rfl, Nat.le_of_ble_eq_true rfl⟩) ⟨fun a U g mk q => by obtain ⟨q0, q1, qP, qK, qD, qN, qZ, qT, qO⟩ := q; exact ⟨q0, q1, qP, va_K.moved (u := U) (U := U.calling g mk a) (Vm.Alike.refl U.vm) qK, qD, pw_N.same (u := U) (U := U.calling g mk a) rfl qN, va_Z.moved (u := U) (U := U.calling g mk a) (Vm.Alike.refl U.vm) qZ, va_T.moved (u := U) (U := U.calling g mk a) (Vm.Alike.refl U.vm) qT, va_AO.moved (u := U) (U := U.calling g mk a) (Vm.Alike.refl U.vm) qO⟩, va_recv hKc hPc (ci := 0) (q0 := 0) rfl rfl, fun U hU hW => ⟨rfl, by rw [hU], by rw [hU]; exact hPc, va_K.moved hW.alike hKc, hDc.weaken (fun _ _ _ _ => trivial), pw_N.warm hW hN, by rw [hU]; exact va_Z.moved hW.alike ((hZ.kept (fun a h1 h2 => hS.2.1 a h1 h2)).narrow hFc), by rw [hU]; exact va_T.moved hW.alike ((hT.kept (fun a h1 h2 => hS.2.1 a h1 h2)).narrow hFc), va_AO.moved hW.alike hO⟩⟩ rfl rfl hl.1 rfl (lv_room (Nat.le_of_ble_eq_true rfl)) dJx4a65c_grow_d5877_7 ⟨Nat.le_of_ble_eq_true rfl, Nat.le_of_ble_eq_true rfl⟩) hS (fun q _ h => hFc q h) hFc (fun u r_2 t H1 locs ht hvm hw hB hz1 hk1 hS => ?_)
  obtain ⟨cG_3, hP1, hK1, hD1⟩ := hB
  rw [ht] at hP1
  obtain ⟨hP, hD⟩ := va_join (wr := []) (w1 := [(h0, .inr (0, [.int 1, .ref r_2, .int 0])), (r_2, .inl (cG_3, 10, .inr (.inr (.inr (.inr (fun _ => none))))))]) hP hD [0] [] rfl rfl (by decide) (by decide) hk1 hFc hP1 hD1
  generalize H1 = H at hP hS ⊢
  replace hP : va_P (dC, dI) vwCl [(h0, .inr (0, [.int 1, .ref r_2, .int 0])), (r_2, .inl (cG_3, 10, .inr (.inr (.inr (.inr (fun _ => none))))))] H := hP
  replace hD : va_D A [(h0, .inr (0, [.int 1, .ref r_2, .int 0])), (r_2, .inl (cG_3, 10, .inr (.inr (.inr (.inr (fun _ => none))))))] := hD
  have hK := hK.app (va_K.moved hvm.symm hK1)
  have hK : va_K (dC, dI) vwCl [(cG_3, .object "java/lang/Object")] s := hK
  refine W.widen (k := 1) (n := 10) (by omega) (by omega) ?_
  try dsimp only at hw
  have hP9 := hP.sub (ws' := [(h0, .inr (0, [.int 1, .ref r_2, .int 0])), (r_2, .inl (cG_3, 10, .inr (.inr (.inr (.inr (fun _ => none))))))]) [0, 1] rfl
  have hD9 := hD.sub (ws' := [(h0, .inr (0, [.int 1, .ref r_2, .int 0])), (r_2, .inl (cG_3, 10, .inr (.inr (.inr (.inr (fun _ => none))))))]) [0, 1] (by decide) rfl
  have hK9 := hK.sub (tys' := [(cG_3, .object "java/lang/Object")]) [0] rfl
  exact W.aret hx hb hr (Or.inr ⟨_, rfl⟩) (Or.inr ⟨_, rfl⟩) (fun t ht hW => ⟨⟨(), r_2, rfl, trivial, cG_3, by rw [ht]; exact hP9, va_K.moved hW.alike hK9, hD9⟩, hS.F ht⟩) hS.2.2 dJx4a65c_grow_d5877_10
