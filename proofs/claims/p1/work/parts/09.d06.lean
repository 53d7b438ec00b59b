theorem dX2_init_0 : decode cX2_init 0 = .ok (.aload_n 0, 1) := by decide +kernel
theorem dX2_init_1 : decode cX2_init 1 = .ok (.invokespecial 3, 3) := by decide +kernel
theorem dX2_init_4 : decode cX2_init 4 = .ok (.aload_n 0, 1) := by decide +kernel
theorem dX2_init_5 : decode cX2_init 5 = .ok (.sipush 2000, 3) := by decide +kernel
theorem dX2_init_8 : decode cX2_init 8 = .ok (.newarray .long, 2) := by decide +kernel
theorem dX2_init_10 : decode cX2_init 10 = .ok (.putfield 9, 3) := by decide +kernel
theorem dX2_init_13 : decode cX2_init 13 = .ok (.return_, 1) := by decide +kernel
def wq_histInit : List Cond := [.code yX2_init cX2_init 1 none, .methodLink RX2 3 objectInit, .instanceMethod objectInit, .code objectInit ⟨#[0xb1]⟩ 1 none, .arrayClass .long, .fieldLink RX2 9 "ServiceTree$History" "kept" "[J"] ++ (wsX20)
theorem in_histInit_X2 : ∀ w ∈ wsX20, w ∈ wq_histInit := fun _ h => List.mem_append_right _ (h)
set_option maxRecDepth 20000 in
theorem wi_histInit : ∀ w ∈ wq_histInit, w ∈ lw_tbl := List.forall_mem_append.mpr ⟨(by decide +kernel), inKX2⟩
set_option maxRecDepth 20000 in
theorem wg_histInit : GoodIn wq_histInit wq_histInit := goodIn_sub (fun _ h => h) (by decide +kernel)
set_option maxHeartbeats 4000000 in
set_option maxRecDepth 100000 in
theorem c_histInit (l : Launch) (dC : Nat → ClassId) (dI : Nat → Nat → Nat) (h0 : Nat) (sz : Nat) : Met l yX2_init wq_histInit ({ frames := 1, cells := 1, slots := 2000, locals := 28 }) (va_Pc [.ref h0] (fun U => U.heap.size = sz ∧ va_P (dC, dI) vwCl [(h0, .inr (3, [.null, .int 0]))] U.heap ∧ va_K (dC, dI) vwCl [] U ∧ va_D (fun _ => True) [(h0, .inr (3, [.null, .int 0]))] ∧ pw_N U)) (va_Qv (fun (_ : Unit) => True) (fun (_ : Unit) (t : State) => ∃ (b : Nat), va_P (dC, dI) vwCl [(h0, .inr (3, [.ref b, .int 0]))] t.heap ∧ va_D (va_A [(h0, .inr (3, [.null, .int 0]))] sz) [(h0, .inr (3, [.ref b, .int 0]))]) (va_A [(h0, .inr (3, [.null, .int 0]))] sz)) 1 2000 (va_A [(h0, .inr (3, [.null, .int 0]))] sz) := by
  refine Met.ofW (cc := cX2_init) (maxL := 1) (ret := none) (by decide) rfl ?_
  intro p e s m args below meth c s₁ B hml hv
  obtain ⟨rfl, hsz, hP, hK, hD0, hN⟩ := hv
  have hx := B.exec
  have hb := B.bytes
  have hr := B.returns
  have hts := atoms_spec (ws := wq_histInit) B.pre
  have hown : s.vm.findClass RX2 = some m.cls := findClass_of_methodNamed B.named
  have hlocks := B.notSynchronized
  have hin : meth.name = "<init>" := (name_of_methodNamed B.named B.method).1
  subst hsz
  have hD := hD0.self (sz := s.heap.size)
  generalize hAe : va_A [(h0, .inr (3, [.null, .int 0]))] s.heap.size = A at hD ⊢
  have hA : ∀ q : Nat, s.heap.size ≤ q → A q := fun q h => by rw [← hAe]; exact Or.inr h
  have hS : va_S A s.heap s.heap [] := va_S.rf
  have hP : va_P (dC, dI) vwCl [(h0, .inr (3, [.null, .int 0]))] s.heap := hP
  have hl := lv_entry ([.ref h0]) (n := 1) (Nat.le_of_ble_eq_true rfl)
  rw [lg_entry_eq]
  generalize (lg_sl ([.ref h0]) ++ List.replicate (1 - (lg_sl ([.ref h0])).length) Slot.unset).toArray = ls at hl ⊢
  have hl : lv_has ls 1 [(0, .ref h0)] := hl
  refine lv_aload_n hx hb dX2_init_0 rfl (lv_at hl 0 rfl) ?_
  refine W.objInit hx hb hown (hts (.methodLink RX2 3 objectInit) (by decide +kernel)) (hts (.instanceMethod objectInit) (by decide +kernel)) (hts (.code objectInit ⟨#[0xb1]⟩ 1 none) (by decide +kernel)) rfl (by rw [hml]; exact hl.1) rfl dX2_init_1 (Nat.le_of_ble_eq_true rfl) (Nat.le_of_ble_eq_true rfl) ?_
  refine W.eq (g2 := F0 m 4 ls []) rfl ?_
  refine lv_aload_n hx hb dX2_init_4 rfl (lv_at hl 0 rfl) ?_
  refine lv_sipush (v := 2000) hx hb dX2_init_5 (by decide) ?_
  refine va_newa (atype := .long) (ty := .long) (a0 := (2000, .inr (.inl (fun _ => 0)))) (N' := 2000) hx hb (hts (.arrayClass .long) (by decide +kernel)) rfl hK hP hD hS hA (fun _ => rfl) (by decide) (by decide) (by decide) (Nat.le_of_ble_eq_true rfl) (Nat.le_of_ble_eq_true rfl) dX2_init_8 (fun q_1 cA_2 H hK hP hD hS => ?_)
  have hK : va_K (dC, dI) vwCl [(cA_2, .long)] s := hK
  replace hP : va_P (dC, dI) vwCl [(h0, .inr (3, [.null, .int 0])), (q_1, .inl (cA_2, 2000, .inr (.inl (fun _ => 0))))] H := hP
  replace hD : va_D A [(h0, .inr (3, [.null, .int 0])), (q_1, .inl (cA_2, 2000, .inr (.inl (fun _ => 0))))] := hD
  refine W.widen (k := 1) (n := 2000) (by omega) (by omega) ?_
  refine va_putF (D := (dC, dI)) (ci := 3) (v := .ref q_1) (ty := .array .long) (C := RX2) (T := TX2) (N := 2) hx hb hts in_histInit_X2 tyX2 tyX2_ok nmX2 hown hK hP hD hS 0 rfl rfl 0 (by decide) (hts (.fieldLink RX2 9 "ServiceTree$History" "kept" "[J") (by decide +kernel)) (fun _ h9 => h9) rfl hin rfl (by decide +kernel) rfl rfl (Nat.le_of_ble_eq_true rfl) dX2_init_10 (fun H locs hP hD hS => ?_)
  replace hP : va_P (dC, dI) vwCl [(h0, .inr (3, [.ref q_1, .int 0])), (q_1, .inl (cA_2, 2000, .inr (.inl (fun _ => 0))))] H := hP
  replace hD : va_D A [(h0, .inr (3, [.ref q_1, .int 0])), (q_1, .inl (cA_2, 2000, .inr (.inl (fun _ => 0))))] := hD
  replace hP := hP.sub (ws' := [(h0, .inr (3, [.ref q_1, .int 0]))]) [0] rfl
  replace hD := hD.sub (ws' := [(h0, .inr (3, [.ref q_1, .int 0]))]) [0] (by decide) rfl
  replace hK := hK.sub (tys' := []) [] rfl
  have hP9 := hP.sub (ws' := [(h0, .inr (3, [.ref q_1, .int 0]))]) [0] rfl
  have hD9 := hD.sub (ws' := [(h0, .inr (3, [.ref q_1, .int 0]))]) [0] (by decide) rfl
  exact W.vret hx hb hr (fun t ht hW => ⟨⟨(), rfl, trivial, q_1, by rw [ht]; exact hP9, hD9⟩, hS.F ht⟩) hS.2.2 dX2_init_13
