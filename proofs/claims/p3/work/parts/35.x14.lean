theorem dX8_order_0 : decode cX8_order 0 = .ok (.aload_n 0, 1) := by decide +kernel
theorem dX8_order_1 : decode cX8_order 1 = .ok (.iload_n 1, 1) := by decide +kernel
theorem dX8_order_2 : decode cX8_order 2 = .ok (.iload_n 2, 1) := by decide +kernel
theorem dX8_order_3 : decode cX8_order 3 = .ok (.invokevirtual 128, 3) := by decide +kernel
theorem dX8_order_6 : decode cX8_order 6 = .ok (.istore_n 3, 1) := by decide +kernel
theorem dX8_order_7 : decode cX8_order 7 = .ok (.aload_n 0, 1) := by decide +kernel
theorem dX8_order_8 : decode cX8_order 8 = .ok (.iload_n 3, 1) := by decide +kernel
theorem dX8_order_9 : decode cX8_order 9 = .ok (.invokevirtual 132, 3) := by decide +kernel
theorem dX8_order_12 : decode cX8_order 12 = .ok (.iload_n 3, 1) := by decide +kernel
theorem dX8_order_13 : decode cX8_order 13 = .ok (.ifCond .lt 7, 3) := by decide +kernel
theorem dX8_order_16 : decode cX8_order 16 = .ok (.aload_n 0, 1) := by decide +kernel
theorem dX8_order_17 : decode cX8_order 17 = .ok (.invokevirtual 136, 3) := by decide +kernel
theorem dX8_order_20 : decode cX8_order 20 = .ok (.iload_n 3, 1) := by decide +kernel
theorem dX8_order_21 : decode cX8_order 21 = .ok (.ireturn, 1) := by decide +kernel
theorem dX8_tick_0 : decode cX8_tick 0 = .ok (.iload_n 1, 1) := by decide +kernel
theorem dX8_tick_1 : decode cX8_tick 1 = .ok (.iconst 1, 1) := by decide +kernel
theorem dX8_tick_2 : decode cX8_tick 2 = .ok (.sipush 1000, 3) := by decide +kernel
theorem dX8_tick_5 : decode cX8_tick 5 = .ok (.invokestatic 57, 3) := by decide +kernel
theorem dX8_tick_8 : decode cX8_tick 8 = .ok (.ifCond .ne 5, 3) := by decide +kernel
theorem dX8_tick_11 : decode cX8_tick 11 = .ok (.iconst (-1), 1) := by decide +kernel
theorem dX8_tick_12 : decode cX8_tick 12 = .ok (.ireturn, 1) := by decide +kernel
theorem dX8_tick_13 : decode cX8_tick 13 = .ok (.iconst 0, 1) := by decide +kernel
theorem dX8_tick_14 : decode cX8_tick 14 = .ok (.istore_n 2, 1) := by decide +kernel
theorem dX8_tick_15 : decode cX8_tick 15 = .ok (.iload_n 2, 1) := by decide +kernel
theorem dX8_tick_16 : decode cX8_tick 16 = .ok (.iload_n 1, 1) := by decide +kernel
theorem dX8_tick_17 : decode cX8_tick 17 = .ok (.if_icmp .ge 13, 3) := by decide +kernel
theorem dX8_tick_20 : decode cX8_tick 20 = .ok (.aload_n 0, 1) := by decide +kernel
theorem dX8_tick_21 : decode cX8_tick 21 = .ok (.invokevirtual 139, 3) := by decide +kernel
theorem dX8_tick_24 : decode cX8_tick 24 = .ok (.iinc 2 1, 3) := by decide +kernel
theorem dX8_tick_27 : decode cX8_tick 27 = .ok (.goto (-12), 3) := by decide +kernel
theorem dX8_tick_30 : decode cX8_tick 30 = .ok (.aload_n 0, 1) := by decide +kernel
theorem dX8_tick_31 : decode cX8_tick 31 = .ok (.getfield 67, 3) := by decide +kernel
theorem dX8_tick_34 : decode cX8_tick 34 = .ok (.ireturn, 1) := by decide +kernel
theorem dX8_letter_0 : decode cX8_letter 0 = .ok (.aload_n 0, 1) := by decide +kernel
theorem dX8_letter_1 : decode cX8_letter 1 = .ok (.iload_n 1, 1) := by decide +kernel
theorem dX8_letter_2 : decode cX8_letter 2 = .ok (.invokevirtual 82, 3) := by decide +kernel
theorem dX8_letter_5 : decode cX8_letter 5 = .ok (.ifCond .ne 5, 3) := by decide +kernel
theorem dX8_letter_8 : decode cX8_letter 8 = .ok (.iconst (-1), 1) := by decide +kernel
theorem dX8_letter_9 : decode cX8_letter 9 = .ok (.ireturn, 1) := by decide +kernel
theorem dX8_letter_10 : decode cX8_letter 10 = .ok (.aload_n 0, 1) := by decide +kernel
theorem dX8_letter_11 : decode cX8_letter 11 = .ok (.getfield 10, 3) := by decide +kernel
theorem dX8_letter_14 : decode cX8_letter 14 = .ok (.iload_n 1, 1) := by decide +kernel
theorem dX8_letter_15 : decode cX8_letter 15 = .ok (.invokevirtual 86, 3) := by decide +kernel
theorem dX8_letter_18 : decode cX8_letter 18 = .ok (.checkcast 65, 3) := by decide +kernel
theorem dX8_letter_21 : decode cX8_letter 21 = .ok (.astore_n 2, 1) := by decide +kernel
theorem dX8_letter_22 : decode cX8_letter 22 = .ok (.aload_n 2, 1) := by decide +kernel
theorem dX8_letter_23 : decode cX8_letter 23 = .ok (.getfield 90, 3) := by decide +kernel
theorem dX8_letter_26 : decode cX8_letter 26 = .ok (.iconst 2, 1) := by decide +kernel
theorem dX8_letter_27 : decode cX8_letter 27 = .ok (.if_icmp .eq 6, 3) := by decide +kernel
theorem dX8_letter_30 : decode cX8_letter 30 = .ok (.bipush (-2), 2) := by decide +kernel
theorem dX8_letter_32 : decode cX8_letter 32 = .ok (.ireturn, 1) := by decide +kernel
theorem dX8_letter_33 : decode cX8_letter 33 = .ok (.aload_n 2, 1) := by decide +kernel
theorem dX8_letter_34 : decode cX8_letter 34 = .ok (.getfield 142, 3) := by decide +kernel
theorem dX8_letter_37 : decode cX8_letter 37 = .ok (.invokevirtual 146, 3) := by decide +kernel
theorem dX8_letter_40 : decode cX8_letter 40 = .ok (.ifCond .eq 6, 3) := by decide +kernel
theorem dX8_letter_43 : decode cX8_letter 43 = .ok (.bipush (-6), 2) := by decide +kernel
theorem dX8_letter_45 : decode cX8_letter 45 = .ok (.ireturn, 1) := by decide +kernel
theorem dX8_letter_46 : decode cX8_letter 46 = .ok (.aload_n 0, 1) := by decide +kernel
theorem dX8_letter_47 : decode cX8_letter 47 = .ok (.getfield 152, 3) := by decide +kernel
theorem dX8_letter_50 : decode cX8_letter 50 = .ok (.istore_n 3, 1) := by decide +kernel
theorem dX8_letter_51 : decode cX8_letter 51 = .ok (.aload_n 0, 1) := by decide +kernel
theorem dX8_letter_52 : decode cX8_letter 52 = .ok (.dup, 1) := by decide +kernel
theorem dX8_letter_53 : decode cX8_letter 53 = .ok (.getfield 152, 3) := by decide +kernel
theorem dX8_letter_56 : decode cX8_letter 56 = .ok (.iconst 1, 1) := by decide +kernel
theorem dX8_letter_57 : decode cX8_letter 57 = .ok (.iadd, 1) := by decide +kernel
theorem dX8_letter_58 : decode cX8_letter 58 = .ok (.putfield 152, 3) := by decide +kernel
theorem dX8_letter_61 : decode cX8_letter 61 = .ok (.aload_n 2, 1) := by decide +kernel
theorem dX8_letter_62 : decode cX8_letter 62 = .ok (.getfield 142, 3) := by decide +kernel
theorem dX8_letter_65 : decode cX8_letter 65 = .ok (.iload_n 3, 1) := by decide +kernel
theorem dX8_letter_66 : decode cX8_letter 66 = .ok (.invokevirtual 155, 3) := by decide +kernel
theorem dX8_letter_69 : decode cX8_letter 69 = .ok (.aload_n 0, 1) := by decide +kernel
theorem dX8_letter_70 : decode cX8_letter 70 = .ok (.dup, 1) := by decide +kernel
theorem dX8_letter_71 : decode cX8_letter 71 = .ok (.getfield 158, 3) := by decide +kernel
theorem dX8_letter_74 : decode cX8_letter 74 = .ok (.iload_n 1, 1) := by decide +kernel
theorem dX8_letter_75 : decode cX8_letter 75 = .ok (.invokestatic 78, 3) := by decide +kernel
theorem dX8_letter_78 : decode cX8_letter 78 = .ok (.lor, 1) := by decide +kernel
theorem dX8_letter_79 : decode cX8_letter 79 = .ok (.putfield 158, 3) := by decide +kernel
theorem dX8_letter_82 : decode cX8_letter 82 = .ok (.aload_n 2, 1) := by decide +kernel
theorem dX8_letter_83 : decode cX8_letter 83 = .ok (.getfield 162, 3) := by decide +kernel
theorem dX8_letter_86 : decode cX8_letter 86 = .ok (.ifCond .ne 16, 3) := by decide +kernel
theorem dX8_letter_89 : decode cX8_letter 89 = .ok (.aload_n 0, 1) := by decide +kernel
theorem dX8_letter_90 : decode cX8_letter 90 = .ok (.iconst 0, 1) := by decide +kernel
theorem dX8_letter_91 : decode cX8_letter 91 = .ok (.iload_n 1, 1) := by decide +kernel
theorem dX8_letter_92 : decode cX8_letter 92 = .ok (.invokevirtual 128, 3) := by decide +kernel
theorem dX8_letter_95 : decode cX8_letter 95 = .ok (.ifCond .lt 7, 3) := by decide +kernel
theorem dX8_letter_98 : decode cX8_letter 98 = .ok (.aload_n 0, 1) := by decide +kernel
theorem dX8_letter_99 : decode cX8_letter 99 = .ok (.invokevirtual 136, 3) := by decide +kernel
theorem dX8_letter_102 : decode cX8_letter 102 = .ok (.iload_n 3, 1) := by decide +kernel
theorem dX8_letter_103 : decode cX8_letter 103 = .ok (.ireturn, 1) := by decide +kernel
theorem dX8_plan_0 : decode cX8_plan 0 = .ok (.aload_n 0, 1) := by decide +kernel
theorem dX8_plan_1 : decode cX8_plan 1 = .ok (.iload_n 1, 1) := by decide +kernel
theorem dX8_plan_2 : decode cX8_plan 2 = .ok (.iload_n 2, 1) := by decide +kernel
theorem dX8_plan_3 : decode cX8_plan 3 = .ok (.invokevirtual 128, 3) := by decide +kernel
theorem dX8_plan_6 : decode cX8_plan 6 = .ok (.istore_n 3, 1) := by decide +kernel
theorem dX8_plan_7 : decode cX8_plan 7 = .ok (.aload_n 0, 1) := by decide +kernel
theorem dX8_plan_8 : decode cX8_plan 8 = .ok (.iload_n 3, 1) := by decide +kernel
theorem dX8_plan_9 : decode cX8_plan 9 = .ok (.invokevirtual 132, 3) := by decide +kernel
theorem dX8_plan_12 : decode cX8_plan 12 = .ok (.iload_n 3, 1) := by decide +kernel
theorem dX8_plan_13 : decode cX8_plan 13 = .ok (.ifCond .lt 7, 3) := by decide +kernel
theorem dX8_plan_16 : decode cX8_plan 16 = .ok (.aload_n 0, 1) := by decide +kernel
theorem dX8_plan_17 : decode cX8_plan 17 = .ok (.invokevirtual 204, 3) := by decide +kernel
theorem dX8_plan_20 : decode cX8_plan 20 = .ok (.iload_n 3, 1) := by decide +kernel
theorem dX8_plan_21 : decode cX8_plan 21 = .ok (.ireturn, 1) := by decide +kernel
def wq_x_tick : List Cond := [.code yX8_tick cX8_tick 3 (some .int), .fieldLink RX8 67 "ServiceTree" "now" "I", .methodLink RX8 57 yX8_within, .static yX8_within, .initialized RX8, .methodLink RX8 139 yX8_passTick, .instanceMethod yX8_passTick, .selects RX8 yX8_passTick yX8_passTick] ++ (wsX80 ++ (wq_x_within ++ (wq_x_passTick)))
theorem in_x_tick_X8 : ∀ w ∈ wsX80, w ∈ wq_x_tick := fun _ h => List.mem_append_right _ (List.mem_append_left _ (h))
set_option maxRecDepth 20000 in
theorem wi_x_tick : ∀ w ∈ wq_x_tick, w ∈ lw_tbl := List.forall_mem_append.mpr ⟨(by decide +kernel), List.forall_mem_append.mpr ⟨inKX8, List.forall_mem_append.mpr ⟨wi_x_within, wi_x_passTick⟩⟩⟩
set_option maxRecDepth 20000 in
theorem wg_x_tick : GoodIn wq_x_tick wq_x_tick := goodIn_sub (fun _ h => h) (by decide +kernel)
set_option maxRecDepth 20000 in
theorem wc_x_tick_x_within_57 : GoodIn wq_x_tick (va_wsS RX8 57 yX8_within wq_x_within) := goodIn_app (goodIn_of _ (by decide +kernel)) (fun w h => ⟨List.mem_append_right _ (List.mem_append_right _ (List.mem_append_left _ (h))), (wg_x_within w h).2⟩)
set_option maxRecDepth 20000 in
theorem wc_x_tick_x_passTick_139 : GoodIn wq_x_tick (wsV RX8 139 RX8 yX8_passTick wq_x_passTick) := goodIn_app (goodIn_of _ (by decide +kernel)) (fun w h => ⟨List.mem_append_right _ (List.mem_append_right _ (List.mem_append_right _ (h))), (wg_x_passTick w h).2⟩)
def rm_x_tick : Room := { frames := 7, cells := 0, slots := 0, locals := 156 }
set_option maxHeartbeats 4000000 in
set_option maxRecDepth 100000 in
theorem c_x_tick (l : Launch) (dC : Nat → ClassId) (dI : Nat → Nat → Nat) (h : Nat) (a : Nat → Nat) (e : Nat) (cI cJ cO cE : ClassId) (L : Nat → Int64) (I : Nat → Int32) (M : Nat → Nat → Int64) (J : Nat → Nat → Int32) (n cap : Nat) (fE : Nat → Option Nat) (sd : Nat → Nat → Nat) (si : Nat → Nat → Int32) (sa : Nat → Nat → Nat → Int32) (dl : Nat → Nat) (b : Nat) (p0 : Int32) (sz : Nat) (hX0 : InvX n cap fE sd dl b I J si) (hb0 : b + 120000 < 2147483648)  : Met l yX8_tick wq_x_tick rm_x_tick (va_Pc [.ref h, .int p0] (fun U => U.heap.size = sz ∧ va_P (dC, dI) vwCl (xW h a e cI cJ cO cE L I M J n cap fE sd si sa dl) U.heap ∧ va_K (dC, dI) vwCl (xT cI cJ cO cE) U ∧ va_D (fun _ => True) (xW h a e cI cJ cO cE L I M J n cap fE sd si sa dl) ∧ pw_N U)) (va_Qi (fun (r : Int32) (u : (Nat → Int64) × (Nat → Int32) × (Nat → Nat → Int64) × (Nat → Nat → Int32) × (Nat → Nat → Nat → Int32)) => InvX n cap fE sd dl (b + 120000) u.2.1 J u.2.2.2.1 ∧ (∀ j9 : Nat, j9 ∉ ([0, 1, 5, 6, 7] : List Nat) → u.1 j9 = L j9) ∧ (∀ j9 : Nat, j9 ∉ ([0, 2, 4, 12] : List Nat) → u.2.1 j9 = I j9) ∧ (∀ j9 : Nat, j9 ∉ ([8, 9] : List Nat) → u.2.2.1 j9 = M j9) ∧ (∀ s9 q9 : Nat, q9 ∉ ([6, 7, 8, 9, 10, 11, 21, 22, 31, 32, 33, 34] : List Nat) → u.2.2.2.1 s9 q9 = si s9 q9) ∧ (∀ s9 q9 : Nat, q9 ∉ ([3] : List Nat) → u.2.2.2.2 s9 q9 = sa s9 q9) ∧ (r = (if 1 ≤ p0 ∧ p0 ≤ 1000 then I 0 + p0 else -1) ∧ u.2.1 0 = (if 1 ≤ p0 ∧ p0 ≤ 1000 then I 0 + p0 else I 0))) (fun (u : (Nat → Int64) × (Nat → Int32) × (Nat → Nat → Int64) × (Nat → Nat → Int32) × (Nat → Nat → Nat → Int32)) (t : State) => va_P (dC, dI) vwCl (xW h a e cI cJ cO cE u.1 u.2.1 u.2.2.1 J n cap fE sd u.2.2.2.1 u.2.2.2.2 dl) t.heap ∧ va_D (va_A (xW h a e cI cJ cO cE L I M J n cap fE sd si sa dl) sz) (xW h a e cI cJ cO cE u.1 u.2.1 u.2.2.1 J n cap fE sd u.2.2.2.1 u.2.2.2.2 dl)) (va_A (xW h a e cI cJ cO cE L I M J n cap fE sd si sa dl) sz)) 0 0 (va_A (xW h a e cI cJ cO cE L I M J n cap fE sd si sa dl) sz) := by
  have hn : n ≤ 40 := hX0.1.1
  have hX := hX0
  have hUL : ∀ j9 : Nat, j9 ∉ ([0, 1, 5, 6, 7] : List Nat) → L j9 = L j9 := fun _ _ => rfl
  have hUI : ∀ j9 : Nat, j9 ∉ ([0, 2, 4, 12] : List Nat) → I j9 = I j9 := fun _ _ => rfl
  have hUM : ∀ j9 : Nat, j9 ∉ ([8, 9] : List Nat) → M j9 = M j9 := fun _ _ => rfl
  have hUsi : ∀ s9 q9 : Nat, q9 ∉ ([6, 7, 8, 9, 10, 11, 21, 22, 31, 32, 33, 34] : List Nat) → si s9 q9 = si s9 q9 := fun _ _ _ => rfl
  have hUsa : ∀ s9 q9 : Nat, q9 ∉ ([3] : List Nat) → sa s9 q9 = sa s9 q9 := fun _ _ _ => rfl
  refine Met.ofW (cc := cX8_tick) (maxL := 3) (ret := (some .int)) (by decide) rfl ?_
  intro p e9 s m args below meth c s₁ B hml hv
  obtain ⟨rfl, hsz, hP, hK, hD0, hN⟩ := hv
  have hx := B.exec
  have hb := B.bytes
  have hr := B.returns
  have hts := atoms_spec (ws := wq_x_tick) B.pre
  have hown : s.vm.findClass RX8 = some m.cls := findClass_of_methodNamed B.named
  have hlocks := B.notSynchronized
  subst hsz
  have hD := hD0.self (sz := s.heap.size)
  generalize hAe : va_A (xW h a e cI cJ cO cE L I M J n cap fE sd si sa dl) s.heap.size = A at hD ⊢
  have hA : ∀ q : Nat, s.heap.size ≤ q → A q := fun q h => by rw [← hAe]; exact Or.inr h
  have hS : va_S A s.heap s.heap [] := va_S.rf
  have hl := lv_entry ([.ref h, .int p0]) (n := 3) (Nat.le_of_ble_eq_true rfl)
  rw [lg_entry_eq]
  generalize (lg_sl ([.ref h, .int p0]) ++ List.replicate (3 - (lg_sl ([.ref h, .int p0])).length) Slot.unset).toArray = ls at hl ⊢
  have hl : lv_has ls 3 [(0, .ref h), (1, .int p0)] := hl
  refine mw_Q (fun Q0 hQ => ?_)
  refine lv_iload_n hx hb dX8_tick_0 rfl (lv_at hl 1 rfl) ?_
  refine lv_iconst (v := 1) hx hb dX8_tick_1 (by decide) ?_
  refine lv_sipush (v := 1000) hx hb dX8_tick_2 (by decide) ?_
  have hFc := mw_free hD hS hA
  refine va_calli (va_runS (As := [.int p0, .int 1, .int 1000]) (rest := []) ⟨hx, hb, hml, hown, hts⟩ (c_x_within l dC dI h a e cI cJ cO cE L I M J n cap fE sd si sa dl (b) p0 1 1000 s.heap.size hX (by omega) ) (va_cwS 3 hts wc_x_tick_x_within_57 rfl rfl rfl (by decide +kernel) ⟨Nat.le_of_ble_eq_true rfl, Nat.le_of_ble_eq_true rfl⟩) ⟨fun a9 U g mk q => by obtain ⟨q0, q1, qP, qK, qD, qN⟩ := q; exact ⟨q0, q1, qP, va_K.moved (u := U) (U := U.calling g mk a9) (Vm.Alike.refl U.vm) qK, qD, pw_N.same (u := U) (U := U.calling g mk a9) rfl qN⟩, fun U hU hW => ⟨rfl, by rw [hU], by rw [hU]; exact hP, va_K.moved hW.alike hK, hD.weaken (fun _ _ _ _ => trivial), pw_N.warm hW hN⟩⟩ rfl rfl hl.1 rfl (lv_room (Nat.le_of_ble_eq_true rfl)) dX8_tick_5 ⟨Nat.le_of_ble_eq_true rfl, Nat.le_of_ble_eq_true rfl⟩) hS (fun q _ h => hFc q h) hFc (fun r1 u t H1 locs ht hvm hw hB hz1 hk1 hS => ?_)
  replace hP := hB.1
  rw [ht] at hP
  replace hD : va_D A (xW h a e cI cJ cO cE L I M J n cap fE sd si sa dl) := hB.2.weaken (fun _ q _ h9 => hFc q.1 h9)
  clear hB
  generalize H1 = H at hP hS ⊢
  replace hP : va_P (dC, dI) vwCl (xW h a e cI cJ cO cE L I M J n cap fE sd si sa dl) H := hP
  rcases hw with ⟨rfl, haj2, hbj2⟩ | ⟨rfl, noj2⟩
  · obtain ⟨j2, hj2, ej2⟩ := nI_of2 (n := 1000) (by decide) (xw_ge1 haj2) hbj2
    have gj2 : 0 < j2 := xw_ge1p ej2 haj2
    subst ej2
    refine lv_if_ne (tgt := 13) hx hb dX8_tick_8 (by decide) (fun _ => ?_) (fun c9 => absurd c9 (by decide))
    refine lv_iconst (v := 0) hx hb dX8_tick_13 (by decide) ?_
    refine lv_istore_n (lv' := [(2, .int 0), (0, .ref h), (1, .int (nI j2))]) hx hb dX8_tick_14 rfl hl (by decide) rfl (fun ls hl => ?_)
    have lp6 : ∀ (fu4 i3 : Nat)  (L7 : Nat → Int64) (I8 : Nat → Int32) (M9 : Nat → Nat → Int64) (si10 : Nat → Nat → Int32) (sa11 : Nat → Nat → Nat → Int32) (H : Heap) (locs : List Loc) (ls : Array Slot), j2 < i3 + fu4 → i3 ≤ j2 → InvX n cap fE sd dl (b + 120 * i3) I8 J si10 → (∀ j9 : Nat, j9 ∉ ([0, 1, 5, 6, 7] : List Nat) → L7 j9 = L j9) → (∀ j9 : Nat, j9 ∉ ([0, 2, 4, 12] : List Nat) → I8 j9 = I j9) → (∀ j9 : Nat, j9 ∉ ([8, 9] : List Nat) → M9 j9 = M j9) → (∀ s9 q9 : Nat, q9 ∉ ([6, 7, 8, 9, 10, 11, 21, 22, 31, 32, 33, 34] : List Nat) → si10 s9 q9 = si s9 q9) → (∀ s9 q9 : Nat, q9 ∉ ([3] : List Nat) → sa11 s9 q9 = sa s9 q9) → I8 0 = I 0 + nI i3 → va_P (dC, dI) vwCl (xW h a e cI cJ cO cE L7 I8 M9 J n cap fE sd si10 sa11 dl) H → va_D A (xW h a e cI cJ cO cE L7 I8 M9 J n cap fE sd si10 sa11 dl) → va_S A s.heap H locs → lv_has ls 3 [(2, .int (nI i3)), (0, .ref h), (1, .int (nI j2))] → W p l e9 (headSpec wq_x_tick rm_x_tick).room s m ([.ref h, .int (nI j2)] : List Value).toArray below meth c H locs 0 0 Q0 (F0 m 15 ls []) := by
      intro fu4
      induction fu4 with
      | zero =>
        intro i3  L7 I8 M9 si10 sa11 H locs ls hf hi
        exact absurd hf (by omega)
      | succ fu4 ih5 =>
        intro i3  L7 I8 M9 si10 sa11 H locs ls hfi3 hii3 hX hUL hUI hUM hUsi hUsa htki3 hP hD hS hl
        refine lv_iload_n hx hb dX8_tick_15 rfl (lv_at hl 0 rfl) ?_
        refine lv_iload_n hx hb dX8_tick_16 rfl (lv_at hl 2 rfl) ?_
        refine lv_icmp_ge (tgt := 30) hx hb dX8_tick_17 (by decide) (fun c12 => ?_) (fun c12 => ?_)
        · replace c12 : j2 ≤ i3 := (nI_leI (a := j2) (b := i3) (by omega) (by omega)).mp c12
          refine lv_aload_n hx hb dX8_tick_30 rfl (lv_at hl 1 rfl) ?_
          refine va_get (D := (dC, dI)) (ci := 9) (v := .int (I8 0)) (C := RX8) (T := TX8) (N := 14) hx hb hts in_x_tick_X8 hown hK hP 0 rfl rfl 9 (by decide) (hts (.fieldLink RX8 67 "ServiceTree" "now" "I") (by decide +kernel)) (fun _ h9 => h9) rfl dX8_tick_31 ?_
          refine lv_topi (fun x13 ex13 => ?_)
          rw [hQ]
          exact W.iret (v := x13) hx hb hr (fun t ht hW => ⟨⟨x13, (L7, I8, M9, si10, sa11), rfl, ⟨hX.mono (by omega), hUL, hUI, hUM, hUsi, hUsa, ⟨(by rw [if_pos (show 1 ≤ nI j2 ∧ nI j2 ≤ 1000 from ⟨haj2, hbj2⟩), ex13, htki3, show i3 = j2 by omega]), (by rw [if_pos (show 1 ≤ nI j2 ∧ nI j2 ≤ 1000 from ⟨haj2, hbj2⟩)]; show I8 0 = _; rw [htki3, show i3 = j2 by omega])⟩⟩, by rw [ht]; exact hP, hD⟩, hS.F ht⟩) hS.2.2 dX8_tick_34
        · replace c12 : ¬ (j2 ≤ i3) := fun q9 => c12 ((nI_leI (a := j2) (b := i3) (by omega) (by omega)).mpr q9)
          refine lv_aload_n hx hb dX8_tick_20 rfl (lv_at hl 1 rfl) ?_
          have hFc := mw_free hD hS hA
          refine va_callv (va_runV (As := []) (rest := []) ⟨hx, hb, hml, hown, hts⟩ (c_x_passTick l dC dI h a e cI cJ cO cE L7 I8 M9 J n cap fE sd si10 sa11 dl (b + 120 * i3)  H.size hX (by omega) ) (cwV 0 hts wc_x_tick_x_passTick_139 rfl rfl rfl (by decide +kernel) ⟨Nat.le_of_ble_eq_true rfl, Nat.le_of_ble_eq_true rfl⟩) ⟨fun a9 U g mk q => by obtain ⟨q0, q1, qP, qK, qD, qN⟩ := q; exact ⟨q0, q1, qP, va_K.moved (u := U) (U := U.calling g mk a9) (Vm.Alike.refl U.vm) qK, qD, pw_N.same (u := U) (U := U.calling g mk a9) rfl qN⟩, va_recv hK hP (ci := 9) (q0 := 0) rfl rfl, fun U hU hW => ⟨rfl, by rw [hU], by rw [hU]; exact hP, va_K.moved hW.alike hK, hD.weaken (fun _ _ _ _ => trivial), pw_N.warm hW hN⟩⟩ rfl rfl hl.1 rfl (lv_room (Nat.le_of_ble_eq_true rfl)) dX8_tick_21 ⟨Nat.le_of_ble_eq_true rfl, Nat.le_of_ble_eq_true rfl⟩) hS (fun q _ h => hFc q h) hFc (fun u t H1 locs ht hvm hw hB hz1 hk1 hS => ?_)
          obtain ⟨L15, I16, M17, si18, sa19⟩ := u
          replace hP := hB.1
          rw [ht] at hP
          replace hD : va_D A (xW h a e cI cJ cO cE L15 I16 M17 J n cap fE sd si18 sa19 dl) := hB.2.weaken (fun _ q _ h9 => hFc q.1 h9)
          clear hB
          generalize H1 = H at hP hS ⊢
          replace hP : va_P (dC, dI) vwCl (xW h a e cI cJ cO cE L15 I16 M17 J n cap fE sd si18 sa19 dl) H := hP
          obtain ⟨hwX, whUL, whUI, whUM, whUsi, whUsa, hw⟩ := hw
          replace hX : InvX n cap fE sd dl (b + 120 * i3 + 120) I16 J si18 := hwX
          replace hUL : ∀ j9 : Nat, j9 ∉ ([0, 1, 5, 6, 7] : List Nat) → L15 j9 = L j9 := mw_tr (by decide) whUL hUL
          replace hUI : ∀ j9 : Nat, j9 ∉ ([0, 2, 4, 12] : List Nat) → I16 j9 = I j9 := mw_tr (by decide) whUI hUI
          replace hUM : ∀ j9 : Nat, j9 ∉ ([8, 9] : List Nat) → M17 j9 = M j9 := mw_tr (by decide) whUM hUM
          replace hUsi : ∀ s9 q9 : Nat, q9 ∉ ([6, 7, 8, 9, 10, 11, 21, 22, 31, 32, 33, 34] : List Nat) → si18 s9 q9 = si s9 q9 := xw_tr2 (by decide) whUsi hUsi
          replace hUsa : ∀ s9 q9 : Nat, q9 ∉ ([3] : List Nat) → sa19 s9 q9 = sa s9 q9 := xw_tr2 (by decide) whUsa hUsa
          have hwt := hw
          refine lv_iinc (v := (nI (i3 + 1))) (lv' := [(2, .int (nI (i3 + 1))), (0, .ref h), (1, .int (nI j2))]) hx hb dX8_tick_24 hl (k := 0) rfl (nI_add i3 1) (by decide) rfl (fun ls hl => ?_)
          refine lv_goto (tgt := 15) hx hb dX8_tick_27 (by decide) ?_
          exact ih5 (i3 + 1)  L15 I16 M17 si18 sa19 _ _ _ (by omega) (by omega) (hX.mono (by omega)) hUL hUI hUM hUsi hUsa (by rw [show I16 0 = _ from hwt, htki3, nI_succ, Int32.add_assoc]) hP hD hS (lv_sub hl [0, 1, 2] rfl)
    exact lp6 (j2 + 1) 0  L I M si sa _ _ _ (by omega) (by omega) (hX.mono (by omega)) hUL hUI hUM hUsi hUsa (by rw [nI_0]; exact (Int32.add_zero _).symm) hP hD hS hl
  · refine lv_if_ne (tgt := 13) hx hb dX8_tick_8 (by decide) (fun c9 => absurd (by decide) c9) (fun _ => ?_)
    refine lv_iconst (v := (-1)) hx hb dX8_tick_11 (by decide) ?_
    rw [hQ]
    exact W.iret (v := (-1)) hx hb hr (fun t ht hW => ⟨⟨(-1), (L, I, M, si, sa), rfl, ⟨hX.mono (by omega), hUL, hUI, hUM, hUsi, hUsa, ⟨(if_neg (by have k0 := noj2; simp only [p1_le, p1_lt, p1_eq, p1_m6, p1_m1, p1_0, p1_1, p1_2, p1_3, p1_4, p1_5, p1_6, p1_7, p1_8, p1_9, p1_10, p1_11, p1_12, p1_13, p1_14, p1_15, p1_16, p1_17, p1_18, p1_19, p1_20, p1_40, p1_50, p1_200, p1_1000] at k0 ⊢; omega)).symm, (if_neg (by have k0 := noj2; simp only [p1_le, p1_lt, p1_eq, p1_m6, p1_m1, p1_0, p1_1, p1_2, p1_3, p1_4, p1_5, p1_6, p1_7, p1_8, p1_9, p1_10, p1_11, p1_12, p1_13, p1_14, p1_15, p1_16, p1_17, p1_18, p1_19, p1_20, p1_40, p1_50, p1_200, p1_1000] at k0 ⊢; omega)).symm⟩⟩, by rw [ht]; exact hP, hD⟩, hS.F ht⟩) hS.2.2 dX8_tick_12
def wq_x_order : List Cond := [.code yX8_order cX8_order 4 (some .int), .methodLink RX8 128 yX8_draftOrder, .instanceMethod yX8_draftOrder, .selects RX8 yX8_draftOrder yX8_draftOrder, .initialized RX8, .methodLink RX8 132 yX8_keepRing, .instanceMethod yX8_keepRing, .selects RX8 yX8_keepRing yX8_keepRing, .methodLink RX8 136 yX8_carryOutDraft, .instanceMethod yX8_carryOutDraft, .selects RX8 yX8_carryOutDraft yX8_carryOutDraft] ++ (wq_x_draftOrder ++ (wq_x_keepRing ++ (wq_x_carryOutDraft)))
set_option maxRecDepth 20000 in
theorem wi_x_order : ∀ w ∈ wq_x_order, w ∈ lw_tbl := List.forall_mem_append.mpr ⟨(by decide +kernel), List.forall_mem_append.mpr ⟨wi_x_draftOrder, List.forall_mem_append.mpr ⟨wi_x_keepRing, wi_x_carryOutDraft⟩⟩⟩
set_option maxRecDepth 20000 in
theorem wg_x_order : GoodIn wq_x_order wq_x_order := goodIn_sub (fun _ h => h) (by decide +kernel)
set_option maxRecDepth 20000 in
theorem wc_x_order_x_draftOrder_128 : GoodIn wq_x_order (wsV RX8 128 RX8 yX8_draftOrder wq_x_draftOrder) := goodIn_app (goodIn_of _ (by decide +kernel)) (fun w h => ⟨List.mem_append_right _ (List.mem_append_left _ (h)), (wg_x_draftOrder w h).2⟩)
set_option maxRecDepth 20000 in
theorem wc_x_order_x_keepRing_132 : GoodIn wq_x_order (wsV RX8 132 RX8 yX8_keepRing wq_x_keepRing) := goodIn_app (goodIn_of _ (by decide +kernel)) (fun w h => ⟨List.mem_append_right _ (List.mem_append_right _ (List.mem_append_left _ (h))), (wg_x_keepRing w h).2⟩)
set_option maxRecDepth 20000 in
theorem wc_x_order_x_carryOutDraft_136 : GoodIn wq_x_order (wsV RX8 136 RX8 yX8_carryOutDraft wq_x_carryOutDraft) := goodIn_app (goodIn_of _ (by decide +kernel)) (fun w h => ⟨List.mem_append_right _ (List.mem_append_right _ (List.mem_append_right _ (h))), (wg_x_carryOutDraft w h).2⟩)
def rm_x_order : Room := { frames := 7, cells := 0, slots := 0, locals := 180 }
set_option maxHeartbeats 4000000 in
set_option maxRecDepth 100000 in
theorem c_x_order (l : Launch) (dC : Nat → ClassId) (dI : Nat → Nat → Nat) (h : Nat) (a : Nat → Nat) (e : Nat) (cI cJ cO cE : ClassId) (L : Nat → Int64) (I : Nat → Int32) (M : Nat → Nat → Int64) (J : Nat → Nat → Int32) (n cap : Nat) (fE : Nat → Option Nat) (sd : Nat → Nat → Nat) (si : Nat → Nat → Int32) (sa : Nat → Nat → Nat → Int32) (dl : Nat → Nat) (b : Nat) (p0 : Int32) (p1 : Int32) (sz : Nat) (hX0 : InvX n cap fE sd dl b I J si) (hb0 : b + 80 < 2147483648)  : Met l yX8_order wq_x_order rm_x_order (va_Pc [.ref h, .int p0, .int p1] (fun U => U.heap.size = sz ∧ va_P (dC, dI) vwCl (xW h a e cI cJ cO cE L I M J n cap fE sd si sa dl) U.heap ∧ va_K (dC, dI) vwCl (xT cI cJ cO cE) U ∧ va_D (fun _ => True) (xW h a e cI cJ cO cE L I M J n cap fE sd si sa dl) ∧ pw_N U)) (va_Qi (fun (r : Int32) (u : (Nat → Int64) × (Nat → Int32) × (Nat → Nat → Int64) × (Nat → Nat → Int32) × (Nat → Nat → Nat → Int32)) => InvX n cap fE sd dl (b + 80) u.2.1 J u.2.2.2.1 ∧ (∀ j9 : Nat, j9 ∉ ([0, 2, 3, 4, 5, 6, 7] : List Nat) → u.1 j9 = L j9) ∧ (∀ j9 : Nat, j9 ∉ ([3, 8, 12] : List Nat) → u.2.1 j9 = I j9) ∧ (∀ j9 : Nat, j9 ∉ ([8, 9] : List Nat) → u.2.2.1 j9 = M j9) ∧ (∀ s9 q9 : Nat, q9 ∉ ([6, 7, 8, 9, 10, 11, 21, 22] : List Nat) → u.2.2.2.1 s9 q9 = si s9 q9) ∧ (∀ s9 q9 : Nat, q9 ∉ ([3] : List Nat) → u.2.2.2.2 s9 q9 = sa s9 q9) ∧ (True)) (fun (u : (Nat → Int64) × (Nat → Int32) × (Nat → Nat → Int64) × (Nat → Nat → Int32) × (Nat → Nat → Nat → Int32)) (t : State) => va_P (dC, dI) vwCl (xW h a e cI cJ cO cE u.1 u.2.1 u.2.2.1 J n cap fE sd u.2.2.2.1 u.2.2.2.2 dl) t.heap ∧ va_D (va_A (xW h a e cI cJ cO cE L I M J n cap fE sd si sa dl) sz) (xW h a e cI cJ cO cE u.1 u.2.1 u.2.2.1 J n cap fE sd u.2.2.2.1 u.2.2.2.2 dl)) (va_A (xW h a e cI cJ cO cE L I M J n cap fE sd si sa dl) sz)) 0 0 (va_A (xW h a e cI cJ cO cE L I M J n cap fE sd si sa dl) sz) := by
  have hn : n ≤ 40 := hX0.1.1
  have hX := hX0
  have hUL : ∀ j9 : Nat, j9 ∉ ([0, 2, 3, 4, 5, 6, 7] : List Nat) → L j9 = L j9 := fun _ _ => rfl
  have hUI : ∀ j9 : Nat, j9 ∉ ([3, 8, 12] : List Nat) → I j9 = I j9 := fun _ _ => rfl
  have hUM : ∀ j9 : Nat, j9 ∉ ([8, 9] : List Nat) → M j9 = M j9 := fun _ _ => rfl
  have hUsi : ∀ s9 q9 : Nat, q9 ∉ ([6, 7, 8, 9, 10, 11, 21, 22] : List Nat) → si s9 q9 = si s9 q9 := fun _ _ _ => rfl
  have hUsa : ∀ s9 q9 : Nat, q9 ∉ ([3] : List Nat) → sa s9 q9 = sa s9 q9 := fun _ _ _ => rfl
  refine Met.ofW (cc := cX8_order) (maxL := 4) (ret := (some .int)) (by decide) rfl ?_
  intro p e9 s m args below meth c s₁ B hml hv
  obtain ⟨rfl, hsz, hP, hK, hD0, hN⟩ := hv
  have hx := B.exec
  have hb := B.bytes
  have hr := B.returns
  have hts := atoms_spec (ws := wq_x_order) B.pre
  have hown : s.vm.findClass RX8 = some m.cls := findClass_of_methodNamed B.named
  have hlocks := B.notSynchronized
  subst hsz
  have hD := hD0.self (sz := s.heap.size)
  generalize hAe : va_A (xW h a e cI cJ cO cE L I M J n cap fE sd si sa dl) s.heap.size = A at hD ⊢
  have hA : ∀ q : Nat, s.heap.size ≤ q → A q := fun q h => by rw [← hAe]; exact Or.inr h
  have hS : va_S A s.heap s.heap [] := va_S.rf
  have hl := lv_entry ([.ref h, .int p0, .int p1]) (n := 4) (Nat.le_of_ble_eq_true rfl)
  rw [lg_entry_eq]
  generalize (lg_sl ([.ref h, .int p0, .int p1]) ++ List.replicate (4 - (lg_sl ([.ref h, .int p0, .int p1])).length) Slot.unset).toArray = ls at hl ⊢
  have hl : lv_has ls 4 [(0, .ref h), (1, .int p0), (2, .int p1)] := hl
  refine lv_aload_n hx hb dX8_order_0 rfl (lv_at hl 0 rfl) ?_
  refine lv_iload_n hx hb dX8_order_1 rfl (lv_at hl 1 rfl) ?_
  refine lv_iload_n hx hb dX8_order_2 rfl (lv_at hl 2 rfl) ?_
  have hFc := mw_free hD hS hA
  refine va_calli (va_runV (As := [.int p0, .int p1]) (rest := []) ⟨hx, hb, hml, hown, hts⟩ (c_x_draftOrder l dC dI h a e cI cJ cO cE L I M J n cap fE sd si sa dl (b) p0 p1 s.heap.size hX (by omega) ) (cwV 2 hts wc_x_order_x_draftOrder_128 rfl rfl rfl (by decide +kernel) ⟨Nat.le_of_ble_eq_true rfl, Nat.le_of_ble_eq_true rfl⟩) ⟨fun a9 U g mk q => by obtain ⟨q0, q1, qP, qK, qD, qN⟩ := q; exact ⟨q0, q1, qP, va_K.moved (u := U) (U := U.calling g mk a9) (Vm.Alike.refl U.vm) qK, qD, pw_N.same (u := U) (U := U.calling g mk a9) rfl qN⟩, va_recv hK hP (ci := 9) (q0 := 0) rfl rfl, fun U hU hW => ⟨rfl, by rw [hU], by rw [hU]; exact hP, va_K.moved hW.alike hK, hD.weaken (fun _ _ _ _ => trivial), pw_N.warm hW hN⟩⟩ rfl rfl hl.1 rfl (lv_room (Nat.le_of_ble_eq_true rfl)) dX8_order_3 ⟨Nat.le_of_ble_eq_true rfl, Nat.le_of_ble_eq_true rfl⟩) hS (fun q _ h => hFc q h) hFc (fun r1 u t H1 locs ht hvm hw hB hz1 hk1 hS => ?_)
  obtain ⟨L2, I3⟩ := u
  replace hP := hB.1
  rw [ht] at hP
  replace hD : va_D A (xW h a e cI cJ cO cE L2 I3 M J n cap fE sd si sa dl) := hB.2.weaken (fun _ q _ h9 => hFc q.1 h9)
  clear hB
  generalize H1 = H at hP hS ⊢
  replace hP : va_P (dC, dI) vwCl (xW h a e cI cJ cO cE L2 I3 M J n cap fE sd si sa dl) H := hP
  obtain ⟨hwX, whUL, whUI, hw⟩ := hw
  replace hX : InvX n cap fE sd dl (b) I3 J si := hwX
  replace hUL : ∀ j9 : Nat, j9 ∉ ([0, 2, 3, 4, 5, 6, 7] : List Nat) → L2 j9 = L j9 := mw_tr (by decide) whUL hUL
  replace hUI : ∀ j9 : Nat, j9 ∉ ([3, 8, 12] : List Nat) → I3 j9 = I j9 := mw_tr (by decide) whUI hUI
  refine lv_istore_n (lv' := [(3, .int r1), (0, .ref h), (1, .int p0), (2, .int p1)]) hx hb dX8_order_6 rfl hl (by decide) rfl (fun ls hl => ?_)
  refine lv_aload_n hx hb dX8_order_7 rfl (lv_at hl 1 rfl) ?_
  refine lv_iload_n hx hb dX8_order_8 rfl (lv_at hl 0 rfl) ?_
  have hFc := mw_free hD hS hA
  refine va_callv (va_runV (As := [.int r1]) (rest := []) ⟨hx, hb, hml, hown, hts⟩ (c_x_keepRing l dC dI h a e cI cJ cO cE L2 I3 M J n cap fE sd si sa dl (b) r1 H.size hX (by omega) ) (cwV 1 hts wc_x_order_x_keepRing_132 rfl rfl rfl (by decide +kernel) ⟨Nat.le_of_ble_eq_true rfl, Nat.le_of_ble_eq_true rfl⟩) ⟨fun a9 U g mk q => by obtain ⟨q0, q1, qP, qK, qD, qN⟩ := q; exact ⟨q0, q1, qP, va_K.moved (u := U) (U := U.calling g mk a9) (Vm.Alike.refl U.vm) qK, qD, pw_N.same (u := U) (U := U.calling g mk a9) rfl qN⟩, va_recv hK hP (ci := 9) (q0 := 0) rfl rfl, fun U hU hW => ⟨rfl, by rw [hU], by rw [hU]; exact hP, va_K.moved hW.alike hK, hD.weaken (fun _ _ _ _ => trivial), pw_N.warm hW hN⟩⟩ rfl rfl hl.1 rfl (lv_room (Nat.le_of_ble_eq_true rfl)) dX8_order_9 ⟨Nat.le_of_ble_eq_true rfl, Nat.le_of_ble_eq_true rfl⟩) hS (fun q _ h => hFc q h) hFc (fun u t H1 locs ht hvm hw hB hz1 hk1 hS => ?_)
  obtain ⟨I5, rfl⟩ : ∃ z9, z9 = u := ⟨_, rfl⟩
  replace hP := hB.1
  rw [ht] at hP
  replace hD : va_D A (xW h a e cI cJ cO cE L2 I5 M J n cap fE sd si sa dl) := hB.2.weaken (fun _ q _ h9 => hFc q.1 h9)
  clear hB
  generalize H1 = H at hP hS ⊢
  replace hP : va_P (dC, dI) vwCl (xW h a e cI cJ cO cE L2 I5 M J n cap fE sd si sa dl) H := hP
  obtain ⟨hwX, whUI, hw⟩ := hw
  replace hX : InvX n cap fE sd dl (b) I5 J si := hwX
  replace hUI : ∀ j9 : Nat, j9 ∉ ([3, 8, 12] : List Nat) → I5 j9 = I j9 := mw_tr (by decide) whUI hUI
  refine lv_iload_n hx hb dX8_order_12 rfl (lv_at hl 0 rfl) ?_
  refine lv_if_lt (tgt := 20) hx hb dX8_order_13 (by decide) (fun c6 => ?_) (fun c6 => ?_)
  · refine lv_iload_n hx hb dX8_order_20 rfl (lv_at hl 0 rfl) ?_
    exact W.iret (v := r1) hx hb hr (fun t ht hW => ⟨⟨r1, (L2, I5, M, si, sa), rfl, ⟨hX.mono (by omega), hUL, hUI, hUM, hUsi, hUsa, trivial⟩, by rw [ht]; exact hP, hD⟩, hS.F ht⟩) hS.2.2 dX8_order_21
  · refine lv_aload_n hx hb dX8_order_16 rfl (lv_at hl 1 rfl) ?_
    have hFc := mw_free hD hS hA
    refine va_callv (va_runV (As := []) (rest := []) ⟨hx, hb, hml, hown, hts⟩ (c_x_carryOutDraft l dC dI h a e cI cJ cO cE L2 I5 M J n cap fE sd si sa dl (b)  H.size hX (by omega) ) (cwV 0 hts wc_x_order_x_carryOutDraft_136 rfl rfl rfl (by decide +kernel) ⟨Nat.le_of_ble_eq_true rfl, Nat.le_of_ble_eq_true rfl⟩) ⟨fun a9 U g mk q => by obtain ⟨q0, q1, qP, qK, qD, qN⟩ := q; exact ⟨q0, q1, qP, va_K.moved (u := U) (U := U.calling g mk a9) (Vm.Alike.refl U.vm) qK, qD, pw_N.same (u := U) (U := U.calling g mk a9) rfl qN⟩, va_recv hK hP (ci := 9) (q0 := 0) rfl rfl, fun U hU hW => ⟨rfl, by rw [hU], by rw [hU]; exact hP, va_K.moved hW.alike hK, hD.weaken (fun _ _ _ _ => trivial), pw_N.warm hW hN⟩⟩ rfl rfl hl.1 rfl (lv_room (Nat.le_of_ble_eq_true rfl)) dX8_order_17 ⟨Nat.le_of_ble_eq_true rfl, Nat.le_of_ble_eq_true rfl⟩) hS (fun q _ h => hFc q h) hFc (fun u t H1 locs ht hvm hw hB hz1 hk1 hS => ?_)
    obtain ⟨L8, I9, M10, si11, sa12⟩ := u
    replace hP := hB.1
    rw [ht] at hP
    replace hD : va_D A (xW h a e cI cJ cO cE L8 I9 M10 J n cap fE sd si11 sa12 dl) := hB.2.weaken (fun _ q _ h9 => hFc q.1 h9)
    clear hB
    generalize H1 = H at hP hS ⊢
    replace hP : va_P (dC, dI) vwCl (xW h a e cI cJ cO cE L8 I9 M10 J n cap fE sd si11 sa12 dl) H := hP
    obtain ⟨hwX, whUL, whUI, whUM, whUsi, whUsa, hw⟩ := hw
    replace hX : InvX n cap fE sd dl (b + 80) I9 J si11 := hwX
    replace hUL : ∀ j9 : Nat, j9 ∉ ([0, 2, 3, 4, 5, 6, 7] : List Nat) → L8 j9 = L j9 := mw_tr (by decide) whUL hUL
    replace hUI : ∀ j9 : Nat, j9 ∉ ([3, 8, 12] : List Nat) → I9 j9 = I j9 := mw_tr (by decide) whUI hUI
    replace hUM : ∀ j9 : Nat, j9 ∉ ([8, 9] : List Nat) → M10 j9 = M j9 := mw_tr (by decide) whUM hUM
    replace hUsi : ∀ s9 q9 : Nat, q9 ∉ ([6, 7, 8, 9, 10, 11, 21, 22] : List Nat) → si11 s9 q9 = si s9 q9 := xw_tr2 (by decide) whUsi hUsi
    replace hUsa : ∀ s9 q9 : Nat, q9 ∉ ([3] : List Nat) → sa12 s9 q9 = sa s9 q9 := xw_tr2 (by decide) whUsa hUsa
    refine lv_iload_n hx hb dX8_order_20 rfl (lv_at hl 0 rfl) ?_
    exact W.iret (v := r1) hx hb hr (fun t ht hW => ⟨⟨r1, (L8, I9, M10, si11, sa12), rfl, ⟨hX.mono (by omega), hUL, hUI, hUM, hUsi, hUsa, trivial⟩, by rw [ht]; exact hP, hD⟩, hS.F ht⟩) hS.2.2 dX8_order_21
def wq_x_letter : List Cond := [.code yX8_letter cX8_letter 4 (some .int), .fieldLink RX8 10 "ServiceTree" "services" "Ljava/util/ArrayList;", .classLink RX8 65 RX7, .fieldLink RX8 152 "ServiceTree" "lettersCome" "I", .fieldLink RX8 158 "ServiceTree" "withLetters" "J", .methodLink RX8 82 yX8_exists, .instanceMethod yX8_exists, .selects RX8 yX8_exists yX8_exists, .initialized RX8, .methodLink RX8 86 yJx4a65c_get_915e3, .instanceMethod yJx4a65c_get_915e3, .selects RJx4a65c yJx4a65c_get_915e3 yJx4a65c_get_915e3, .initialized RJx4a65c, .methodLink RX8 146 yX0_isFull, .instanceMethod yX0_isFull, .selects RX0 yX0_isFull yX0_isFull, .initialized RX0, .methodLink RX8 155 yX0_put, .instanceMethod yX0_put, .selects RX0 yX0_put yX0_put, .methodLink RX8 78 yX8_only, .static yX8_only, .methodLink RX8 128 yX8_draftOrder, .instanceMethod yX8_draftOrder, .selects RX8 yX8_draftOrder yX8_draftOrder, .methodLink RX8 136 yX8_carryOutDraft, .instanceMethod yX8_carryOutDraft, .selects RX8 yX8_carryOutDraft yX8_carryOutDraft] ++ (wsX70 ++ (wsX80 ++ (wq_x_exists ++ (wq_x_get ++ (wq_x_isFull ++ (wq_x_put ++ (wq_x_only ++ (wq_x_draftOrder ++ (wq_x_carryOutDraft)))))))))
theorem in_x_letter_X7 : ∀ w ∈ wsX70, w ∈ wq_x_letter := fun _ h => List.mem_append_right _ (List.mem_append_left _ (h))
theorem in_x_letter_X8 : ∀ w ∈ wsX80, w ∈ wq_x_letter := fun _ h => List.mem_append_right _ (List.mem_append_right _ (List.mem_append_left _ (h)))
set_option maxRecDepth 20000 in
theorem wi_x_letter : ∀ w ∈ wq_x_letter, w ∈ lw_tbl := List.forall_mem_append.mpr ⟨(by decide +kernel), List.forall_mem_append.mpr ⟨inKX7, List.forall_mem_append.mpr ⟨inKX8, List.forall_mem_append.mpr ⟨wi_x_exists, List.forall_mem_append.mpr ⟨wi_x_get, List.forall_mem_append.mpr ⟨wi_x_isFull, List.forall_mem_append.mpr ⟨wi_x_put, List.forall_mem_append.mpr ⟨wi_x_only, List.forall_mem_append.mpr ⟨wi_x_draftOrder, wi_x_carryOutDraft⟩⟩⟩⟩⟩⟩⟩⟩⟩
set_option maxRecDepth 20000 in
theorem wg_x_letter : GoodIn wq_x_letter wq_x_letter := goodIn_sub (fun _ h => h) (by decide +kernel)
set_option maxRecDepth 20000 in
theorem wc_x_letter_x_exists_82 : GoodIn wq_x_letter (wsV RX8 82 RX8 yX8_exists wq_x_exists) := goodIn_app (goodIn_of _ (by decide +kernel)) (fun w h => ⟨List.mem_append_right _ (List.mem_append_right _ (List.mem_append_right _ (List.mem_append_left _ (h)))), (wg_x_exists w h).2⟩)
set_option maxRecDepth 20000 in
theorem wc_x_letter_x_get_86 : GoodIn wq_x_letter (wsV RX8 86 RJx4a65c yJx4a65c_get_915e3 wq_x_get) := goodIn_app (goodIn_of _ (by decide +kernel)) (fun w h => ⟨List.mem_append_right _ (List.mem_append_right _ (List.mem_append_right _ (List.mem_append_right _ (List.mem_append_left _ (h))))), (wg_x_get w h).2⟩)
set_option maxRecDepth 20000 in
theorem wc_x_letter_x_isFull_146 : GoodIn wq_x_letter (wsV RX8 146 RX0 yX0_isFull wq_x_isFull) := goodIn_app (goodIn_of _ (by decide +kernel)) (fun w h => ⟨List.mem_append_right _ (List.mem_append_right _ (List.mem_append_right _ (List.mem_append_right _ (List.mem_append_right _ (List.mem_append_left _ (h)))))), (wg_x_isFull w h).2⟩)
set_option maxRecDepth 20000 in
theorem wc_x_letter_x_put_155 : GoodIn wq_x_letter (wsV RX8 155 RX0 yX0_put wq_x_put) := goodIn_app (goodIn_of _ (by decide +kernel)) (fun w h => ⟨List.mem_append_right _ (List.mem_append_right _ (List.mem_append_right _ (List.mem_append_right _ (List.mem_append_right _ (List.mem_append_right _ (List.mem_append_left _ (h))))))), (wg_x_put w h).2⟩)
set_option maxRecDepth 20000 in
theorem wc_x_letter_x_only_78 : GoodIn wq_x_letter (va_wsS RX8 78 yX8_only wq_x_only) := goodIn_app (goodIn_of _ (by decide +kernel)) (fun w h => ⟨List.mem_append_right _ (List.mem_append_right _ (List.mem_append_right _ (List.mem_append_right _ (List.mem_append_right _ (List.mem_append_right _ (List.mem_append_right _ (List.mem_append_left _ (h)))))))), (wg_x_only w h).2⟩)
set_option maxRecDepth 20000 in
theorem wc_x_letter_x_draftOrder_128 : GoodIn wq_x_letter (wsV RX8 128 RX8 yX8_draftOrder wq_x_draftOrder) := goodIn_app (goodIn_of _ (by decide +kernel)) (fun w h => ⟨List.mem_append_right _ (List.mem_append_right _ (List.mem_append_right _ (List.mem_append_right _ (List.mem_append_right _ (List.mem_append_right _ (List.mem_append_right _ (List.mem_append_right _ (List.mem_append_left _ (h))))))))), (wg_x_draftOrder w h).2⟩)
set_option maxRecDepth 20000 in
theorem wc_x_letter_x_carryOutDraft_136 : GoodIn wq_x_letter (wsV RX8 136 RX8 yX8_carryOutDraft wq_x_carryOutDraft) := goodIn_app (goodIn_of _ (by decide +kernel)) (fun w h => ⟨List.mem_append_right _ (List.mem_append_right _ (List.mem_append_right _ (List.mem_append_right _ (List.mem_append_right _ (List.mem_append_right _ (List.mem_append_right _ (List.mem_append_right _ (List.mem_append_right _ (h))))))))), (wg_x_carryOutDraft w h).2⟩)
def rm_x_letter : Room := { frames := 7, cells := 0, slots := 0, locals := 180 }
set_option maxHeartbeats 4000000 in
set_option maxRecDepth 100000 in
theorem c_x_letter (l : Launch) (dC : Nat → ClassId) (dI : Nat → Nat → Nat) (h : Nat) (a : Nat → Nat) (e : Nat) (cI cJ cO cE : ClassId) (L : Nat → Int64) (I : Nat → Int32) (M : Nat → Nat → Int64) (J : Nat → Nat → Int32) (n cap : Nat) (fE : Nat → Option Nat) (sd : Nat → Nat → Nat) (si : Nat → Nat → Int32) (sa : Nat → Nat → Nat → Int32) (dl : Nat → Nat) (b : Nat) (p0 : Int32) (sz : Nat) (hX0 : InvX n cap fE sd dl b I J si) (hb0 : b + 80 < 2147483648)  : Met l yX8_letter wq_x_letter rm_x_letter (va_Pc [.ref h, .int p0] (fun U => U.heap.size = sz ∧ va_P (dC, dI) vwCl (xW h a e cI cJ cO cE L I M J n cap fE sd si sa dl) U.heap ∧ va_K (dC, dI) vwCl (xT cI cJ cO cE) U ∧ va_D (fun _ => True) (xW h a e cI cJ cO cE L I M J n cap fE sd si sa dl) ∧ pw_N U)) (va_Qi (fun (r : Int32) (u : (Nat → Int64) × (Nat → Int32) × (Nat → Nat → Int64) × (Nat → Nat → Int32) × (Nat → Nat → Nat → Int32)) => InvX n cap fE sd dl (b + 80) u.2.1 J u.2.2.2.1 ∧ (∀ j9 : Nat, j9 ∉ ([0, 1, 2, 3, 4, 5, 6, 7] : List Nat) → u.1 j9 = L j9) ∧ (∀ j9 : Nat, j9 ∉ ([1, 8, 12] : List Nat) → u.2.1 j9 = I j9) ∧ (∀ j9 : Nat, j9 ∉ ([8, 9] : List Nat) → u.2.2.1 j9 = M j9) ∧ (∀ s9 q9 : Nat, q9 ∉ ([6, 7, 8, 9, 10, 11, 21, 22, 32] : List Nat) → u.2.2.2.1 s9 q9 = si s9 q9) ∧ (∀ s9 q9 : Nat, q9 ∉ ([3, 5] : List Nat) → u.2.2.2.2 s9 q9 = sa s9 q9) ∧ (True)) (fun (u : (Nat → Int64) × (Nat → Int32) × (Nat → Nat → Int64) × (Nat → Nat → Int32) × (Nat → Nat → Nat → Int32)) (t : State) => va_P (dC, dI) vwCl (xW h a e cI cJ cO cE u.1 u.2.1 u.2.2.1 J n cap fE sd u.2.2.2.1 u.2.2.2.2 dl) t.heap ∧ va_D (va_A (xW h a e cI cJ cO cE L I M J n cap fE sd si sa dl) sz) (xW h a e cI cJ cO cE u.1 u.2.1 u.2.2.1 J n cap fE sd u.2.2.2.1 u.2.2.2.2 dl)) (va_A (xW h a e cI cJ cO cE L I M J n cap fE sd si sa dl) sz)) 0 0 (va_A (xW h a e cI cJ cO cE L I M J n cap fE sd si sa dl) sz) := by
  have hn : n ≤ 40 := hX0.1.1
  have hX := hX0
  have hUL : ∀ j9 : Nat, j9 ∉ ([0, 1, 2, 3, 4, 5, 6, 7] : List Nat) → L j9 = L j9 := fun _ _ => rfl
  have hUI : ∀ j9 : Nat, j9 ∉ ([1, 8, 12] : List Nat) → I j9 = I j9 := fun _ _ => rfl
  have hUM : ∀ j9 : Nat, j9 ∉ ([8, 9] : List Nat) → M j9 = M j9 := fun _ _ => rfl
  have hUsi : ∀ s9 q9 : Nat, q9 ∉ ([6, 7, 8, 9, 10, 11, 21, 22, 32] : List Nat) → si s9 q9 = si s9 q9 := fun _ _ _ => rfl
  have hUsa : ∀ s9 q9 : Nat, q9 ∉ ([3, 5] : List Nat) → sa s9 q9 = sa s9 q9 := fun _ _ _ => rfl
  refine Met.ofW (cc := cX8_letter) (maxL := 4) (ret := (some .int)) (by decide) rfl ?_
  intro p e9 s m args below meth c s₁ B hml hv
  obtain ⟨rfl, hsz, hP, hK, hD0, hN⟩ := hv
  have hx := B.exec
  have hb := B.bytes
  have hr := B.returns
  have hts := atoms_spec (ws := wq_x_letter) B.pre
  have hown : s.vm.findClass RX8 = some m.cls := findClass_of_methodNamed B.named
  have hlocks := B.notSynchronized
  subst hsz
  have hD := hD0.self (sz := s.heap.size)
  generalize hAe : va_A (xW h a e cI cJ cO cE L I M J n cap fE sd si sa dl) s.heap.size = A at hD ⊢
  have hA : ∀ q : Nat, s.heap.size ≤ q → A q := fun q h => by rw [← hAe]; exact Or.inr h
  have hS : va_S A s.heap s.heap [] := va_S.rf
  have hl := lv_entry ([.ref h, .int p0]) (n := 4) (Nat.le_of_ble_eq_true rfl)
  rw [lg_entry_eq]
  generalize (lg_sl ([.ref h, .int p0]) ++ List.replicate (4 - (lg_sl ([.ref h, .int p0])).length) Slot.unset).toArray = ls at hl ⊢
  have hl : lv_has ls 4 [(0, .ref h), (1, .int p0)] := hl
  refine lv_aload_n hx hb dX8_letter_0 rfl (lv_at hl 0 rfl) ?_
  refine lv_iload_n hx hb dX8_letter_1 rfl (lv_at hl 1 rfl) ?_
  have hFc := mw_free hD hS hA
  refine va_calli (va_runV (As := [.int p0]) (rest := []) ⟨hx, hb, hml, hown, hts⟩ (c_x_exists l dC dI h a e cI cJ cO cE L I M J n cap fE sd si sa dl (b) p0 s.heap.size hX (by omega) ) (cwV 1 hts wc_x_letter_x_exists_82 rfl rfl rfl (by decide +kernel) ⟨Nat.le_of_ble_eq_true rfl, Nat.le_of_ble_eq_true rfl⟩) ⟨fun a9 U g mk q => by obtain ⟨q0, q1, qP, qK, qD, qN⟩ := q; exact ⟨q0, q1, qP, va_K.moved (u := U) (U := U.calling g mk a9) (Vm.Alike.refl U.vm) qK, qD, pw_N.same (u := U) (U := U.calling g mk a9) rfl qN⟩, va_recv hK hP (ci := 9) (q0 := 0) rfl rfl, fun U hU hW => ⟨rfl, by rw [hU], by rw [hU]; exact hP, va_K.moved hW.alike hK, hD.weaken (fun _ _ _ _ => trivial), pw_N.warm hW hN⟩⟩ rfl rfl hl.1 rfl (lv_room (Nat.le_of_ble_eq_true rfl)) dX8_letter_2 ⟨Nat.le_of_ble_eq_true rfl, Nat.le_of_ble_eq_true rfl⟩) hS (fun q _ h => hFc q h) hFc (fun r1 u t H1 locs ht hvm hw hB hz1 hk1 hS => ?_)
  replace hP := hB.1
  rw [ht] at hP
  replace hD : va_D A (xW h a e cI cJ cO cE L I M J n cap fE sd si sa dl) := hB.2.weaken (fun _ q _ h9 => hFc q.1 h9)
  clear hB
  generalize H1 = H at hP hS ⊢
  replace hP : va_P (dC, dI) vwCl (xW h a e cI cJ cO cE L I M J n cap fE sd si sa dl) H := hP
  rcases hw with ⟨rfl, j2, hj2, ej2⟩ | ⟨rfl, noj2⟩
  · subst ej2
    refine lv_if_ne (tgt := 10) hx hb dX8_letter_5 (by decide) (fun _ => ?_) (fun c9 => absurd c9 (by decide))
    refine lv_aload_n hx hb dX8_letter_10 rfl (lv_at hl 0 rfl) ?_
    refine va_get (D := (dC, dI)) (ci := 9) (v := .ref (a 0)) (C := RX8) (T := TX8) (N := 14) hx hb hts in_x_letter_X8 hown hK hP 0 rfl rfl 0 (by decide) (hts (.fieldLink RX8 10 "ServiceTree" "services" "Ljava/util/ArrayList;") (by decide +kernel)) (fun _ h9 => h9) rfl dX8_letter_11 ?_
    refine lv_iload_n hx hb dX8_letter_14 rfl (lv_at hl 1 rfl) ?_
    have hFc := mw_free hD hS hA
    refine va_callr (va_runV (As := [.int (nI j2)]) (rest := []) ⟨hx, hb, hml, hown, hts⟩ (c_x_get l dC dI h a e cI cJ cO cE L I M J n cap fE sd si sa dl (b) j2 H.size hX (by omega) (by omega)) (cwV 1 hts wc_x_letter_x_get_86 rfl rfl rfl (by decide +kernel) ⟨Nat.le_of_ble_eq_true rfl, Nat.le_of_ble_eq_true rfl⟩) ⟨fun a9 U g mk q => by obtain ⟨q0, q1, qP, qK, qD, qN⟩ := q; exact ⟨q0, q1, qP, va_K.moved (u := U) (U := U.calling g mk a9) (Vm.Alike.refl U.vm) qK, qD, pw_N.same (u := U) (U := U.calling g mk a9) rfl qN⟩, va_recv hK hP (ci := 0) (q0 := 1) rfl rfl, fun U hU hW => ⟨rfl, by rw [hU], by rw [hU]; exact hP, va_K.moved hW.alike hK, hD.weaken (fun _ _ _ _ => trivial), pw_N.warm hW hN⟩⟩ rfl rfl hl.1 rfl (lv_room (Nat.le_of_ble_eq_true rfl)) dX8_letter_15 ⟨Nat.le_of_ble_eq_true rfl, Nat.le_of_ble_eq_true rfl⟩) hS (fun q _ h => hFc q h) hFc (fun u r3 t H1 locs ht hvm hw hB hz1 hk1 hS => ?_)
    obtain ⟨hra, hB⟩ := hB
    replace hP := hB.1
    rw [ht] at hP
    replace hD : va_D A (xW h a e cI cJ cO cE L I M J n cap fE sd si sa dl) := hB.2.weaken (fun _ q _ h9 => hFc q.1 h9)
    clear hB
    generalize H1 = H at hP hS ⊢
    replace hP : va_P (dC, dI) vwCl (xW h a e cI cJ cO cE L I M J n cap fE sd si sa dl) H := hP
    subst hra
    refine va_castS hx hb hown (hts (.classLink RX8 65 RX7) (by decide +kernel)) (hK.1 8 _ rfl).2 (va_recv hK hP (ci := 8) (q0 := (22 + (6 * j2 + 0))) rfl (xAt_0 h a e cI cJ cO cE L I M J n cap fE sd si sa dl (s := j2) (by omega))) dX8_letter_18 ?_
    refine lv_astore_n (lv' := [(2, .ref (sd j2 0)), (0, .ref h), (1, .int (nI j2))]) hx hb dX8_letter_21 rfl hl (by decide) rfl (fun ls hl => ?_)
    refine lv_aload_n hx hb dX8_letter_22 rfl (lv_at hl 0 rfl) ?_
    refine va_getN (D := (dC, dI)) (ci := 8) (v := .int (si j2 0)) (C := RX7) (T := TX7) (N := 12) hx hb hts in_x_letter_X7 hown hK hP (22 + (6 * j2 + 0)) (xAt_0 h a e cI cJ cO cE L I M J n cap fE sd si sa dl (s := j2) (by omega)) rfl 0 (by decide) (va_Nw.use rfl (hN (.fieldLinkNest RX8 90 "ServiceTree$Service" "kind" "I" "ServiceTree") (by decide +kernel))) (fun _ h9 => h9) rfl dX8_letter_23 ?_
    refine lv_topi (fun x4 ex4 => ?_)
    refine lv_iconst (v := 2) hx hb dX8_letter_26 (by decide) ?_
    refine lv_icmp_eq (tgt := 33) hx hb dX8_letter_27 (by decide) (fun c5 => ?_) (fun c5 => ?_)
    · refine lv_aload_n hx hb dX8_letter_33 rfl (lv_at hl 0 rfl) ?_
      refine va_getN (D := (dC, dI)) (ci := 8) (v := .ref (sd j2 4)) (C := RX7) (T := TX7) (N := 12) hx hb hts in_x_letter_X7 hown hK hP (22 + (6 * j2 + 0)) (xAt_0 h a e cI cJ cO cE L I M J n cap fE sd si sa dl (s := j2) (by omega)) rfl 5 (by decide) (va_Nw.use rfl (hN (.fieldLinkNest RX8 142 "ServiceTree$Service" "door" "LServiceTree$Door;" "ServiceTree") (by decide +kernel))) (fun _ h9 => h9) rfl dX8_letter_34 ?_
      have hFc := mw_free hD hS hA
      refine va_calli (va_runV (As := []) (rest := []) ⟨hx, hb, hml, hown, hts⟩ (c_x_isFull l dC dI h a e cI cJ cO cE L I M J n cap fE sd si sa dl (b) j2 H.size hX (by omega) (by omega)) (cwV 0 hts wc_x_letter_x_isFull_146 rfl rfl rfl (by decide +kernel) ⟨Nat.le_of_ble_eq_true rfl, Nat.le_of_ble_eq_true rfl⟩) ⟨fun a9 U g mk q => by obtain ⟨q0, q1, qP, qK, qD, qN⟩ := q; exact ⟨q0, q1, qP, va_K.moved (u := U) (U := U.calling g mk a9) (Vm.Alike.refl U.vm) qK, qD, pw_N.same (u := U) (U := U.calling g mk a9) rfl qN⟩, va_recv hK hP (ci := 1) (q0 := (22 + (6 * j2 + 4))) rfl (xAt_4 h a e cI cJ cO cE L I M J n cap fE sd si sa dl (s := j2) (by omega)), fun U hU hW => ⟨rfl, by rw [hU], by rw [hU]; exact hP, va_K.moved hW.alike hK, hD.weaken (fun _ _ _ _ => trivial), pw_N.warm hW hN⟩⟩ rfl rfl hl.1 rfl (lv_room (Nat.le_of_ble_eq_true rfl)) dX8_letter_37 ⟨Nat.le_of_ble_eq_true rfl, Nat.le_of_ble_eq_true rfl⟩) hS (fun q _ h => hFc q h) hFc (fun r6 u t H1 locs ht hvm hw hB hz1 hk1 hS => ?_)
      replace hP := hB.1
      rw [ht] at hP
      replace hD : va_D A (xW h a e cI cJ cO cE L I M J n cap fE sd si sa dl) := hB.2.weaken (fun _ q _ h9 => hFc q.1 h9)
      clear hB
      generalize H1 = H at hP hS ⊢
      replace hP : va_P (dC, dI) vwCl (xW h a e cI cJ cO cE L I M J n cap fE sd si sa dl) H := hP
      rcases hw with rfl | ⟨rfl, z7, hz7, ez7⟩
      · refine lv_if_eq (tgt := 46) hx hb dX8_letter_40 (by decide) (fun c9 => absurd c9 (by decide)) (fun _ => ?_)
        refine lv_bipush (v := (-6)) hx hb dX8_letter_43 (by decide) ?_
        exact W.iret (v := (-6)) hx hb hr (fun t ht hW => ⟨⟨(-6), (L, I, M, si, sa), rfl, ⟨hX.mono (by omega), hUL, hUI, hUM, hUsi, hUsa, trivial⟩, by rw [ht]; exact hP, hD⟩, hS.F ht⟩) hS.2.2 dX8_letter_45
      · refine lv_if_eq (tgt := 46) hx hb dX8_letter_40 (by decide) (fun _ => ?_) (fun c9 => absurd (by decide) c9)
        refine lv_aload_n hx hb dX8_letter_46 rfl (lv_at hl 1 rfl) ?_
        refine va_get (D := (dC, dI)) (ci := 9) (v := .int (I 1)) (C := RX8) (T := TX8) (N := 14) hx hb hts in_x_letter_X8 hown hK hP 0 rfl rfl 10 (by decide) (hts (.fieldLink RX8 152 "ServiceTree" "lettersCome" "I") (by decide +kernel)) (fun _ h9 => h9) rfl dX8_letter_47 ?_
        refine lv_topi (fun x8 ex8 => ?_)
        refine lv_istore_n (lv' := [(3, .int x8), (2, .ref (sd j2 0)), (0, .ref h), (1, .int (nI j2))]) hx hb dX8_letter_50 rfl hl (by decide) rfl (fun ls hl => ?_)
        refine lv_aload_n hx hb dX8_letter_51 rfl (lv_at hl 2 rfl) ?_
        refine lv_dup hx hb dX8_letter_52 rfl ?_
        refine va_get (D := (dC, dI)) (ci := 9) (v := .int (I 1)) (C := RX8) (T := TX8) (N := 14) hx hb hts in_x_letter_X8 hown hK hP 0 rfl rfl 10 (by decide) (hts (.fieldLink RX8 152 "ServiceTree" "lettersCome" "I") (by decide +kernel)) (fun _ h9 => h9) rfl dX8_letter_53 ?_
        refine p1_topr (v := .int x8) (congrArg Value.int ex8.symm) ?_
        refine lv_iconst (v := 1) hx hb dX8_letter_56 (by decide) ?_
        refine lv_iadd hx hb dX8_letter_57 ?_
        refine lv_topi (fun x9 ex9 => ?_)
        refine va_put (D := (dC, dI)) (ci := 9) (fs := [.ref (a 0), .ref (a 1), .ref (a 2), .ref (a 3), .ref (a 4), .ref (a 5), .ref (a 6), .long (L 0), .long (L 1), .int (I 0), .int (I 1), .int (I 2), .int (I 3), .int (I 4)]) (v := .int x9) (ty := .int) (C := RX8) (T := TX8) (N := 14) hx hb hts in_x_letter_X8 tyX8 tyX8_ok nmX8 hown hK hP hD hS 0 rfl rfl 10 (by decide) (hts (.fieldLink RX8 152 "ServiceTree" "lettersCome" "I") (by decide +kernel)) (fun _ h9 => h9) rfl (by decide +kernel) rfl rfl (Nat.le_of_ble_eq_true rfl) dX8_letter_58 (fun H locs hP hD hS => ?_)
        replace hP : va_P (dC, dI) vwCl ((xW h a e cI cJ cO cE L I M J n cap fE sd si sa dl).set 0 (h, .inr (9, [.ref (a 0), .ref (a 1), .ref (a 2), .ref (a 3), .ref (a 4), .ref (a 5), .ref (a 6), .long (L 0), .long (L 1), .int (I 0), .int x9, .int (I 2), .int (I 3), .int (I 4)]))) H := hP
        replace hD : va_D A ((xW h a e cI cJ cO cE L I M J n cap fE sd si sa dl).set 0 (h, .inr (9, [.ref (a 0), .ref (a 1), .ref (a 2), .ref (a 3), .ref (a 4), .ref (a 5), .ref (a 6), .long (L 0), .long (L 1), .int (I 0), .int x9, .int (I 2), .int (I 3), .int (I 4)]))) := hD
        rw [xF_I1] at hP hD
        obtain ⟨I10, eI10⟩ : ∃ f9 : Nat → Int32, f9 = va_up I 1 x9 := ⟨_, rfl⟩
        rw [← eI10] at hP hD
        replace hX : InvX n cap fE sd dl (b) I10 J si := by rw [eI10]; exact hX.setI (by decide)
        replace hUI : ∀ j9 : Nat, j9 ∉ ([1, 8, 12] : List Nat) → I10 j9 = I j9 := by rw [eI10]; exact mw_up (by decide) hUI
        refine lv_aload_n hx hb dX8_letter_61 rfl (lv_at hl 1 rfl) ?_
        refine va_getN (D := (dC, dI)) (ci := 8) (v := .ref (sd j2 4)) (C := RX7) (T := TX7) (N := 12) hx hb hts in_x_letter_X7 hown hK hP (22 + (6 * j2 + 0)) (xAt_0 h a e cI cJ cO cE L I10 M J n cap fE sd si sa dl (s := j2) (by omega)) rfl 5 (by decide) (va_Nw.use rfl (hN (.fieldLinkNest RX8 142 "ServiceTree$Service" "door" "LServiceTree$Door;" "ServiceTree") (by decide +kernel))) (fun _ h9 => h9) rfl dX8_letter_62 ?_
        refine lv_iload_n hx hb dX8_letter_65 rfl (lv_at hl 0 rfl) ?_
        have hFc := mw_free hD hS hA
        refine va_callv (va_runV (As := [.int x8]) (rest := []) ⟨hx, hb, hml, hown, hts⟩ (c_x_put l dC dI h a e cI cJ cO cE L I10 M J n cap fE sd si sa dl (b) j2 x8 H.size hX (by omega) (by omega)) (cwV 1 hts wc_x_letter_x_put_155 rfl rfl rfl (by decide +kernel) ⟨Nat.le_of_ble_eq_true rfl, Nat.le_of_ble_eq_true rfl⟩) ⟨fun a9 U g mk q => by obtain ⟨q0, q1, qP, qK, qD, qN⟩ := q; exact ⟨q0, q1, qP, va_K.moved (u := U) (U := U.calling g mk a9) (Vm.Alike.refl U.vm) qK, qD, pw_N.same (u := U) (U := U.calling g mk a9) rfl qN⟩, va_recv hK hP (ci := 1) (q0 := (22 + (6 * j2 + 4))) rfl (xAt_4 h a e cI cJ cO cE L I10 M J n cap fE sd si sa dl (s := j2) (by omega)), fun U hU hW => ⟨rfl, by rw [hU], by rw [hU]; exact hP, va_K.moved hW.alike hK, hD.weaken (fun _ _ _ _ => trivial), pw_N.warm hW hN⟩⟩ rfl rfl hl.1 rfl (lv_room (Nat.le_of_ble_eq_true rfl)) dX8_letter_66 ⟨Nat.le_of_ble_eq_true rfl, Nat.le_of_ble_eq_true rfl⟩) hS (fun q _ h => hFc q h) hFc (fun u t H1 locs ht hvm hw hB hz1 hk1 hS => ?_)
        obtain ⟨si12, sa13⟩ := u
        replace hP := hB.1
        rw [ht] at hP
        replace hD : va_D A (xW h a e cI cJ cO cE L I10 M J n cap fE sd si12 sa13 dl) := hB.2.weaken (fun _ q _ h9 => hFc q.1 h9)
        clear hB
        generalize H1 = H at hP hS ⊢
        replace hP : va_P (dC, dI) vwCl (xW h a e cI cJ cO cE L I10 M J n cap fE sd si12 sa13 dl) H := hP
        obtain ⟨hwX, whUsi, whUsa, hw⟩ := hw
        replace hX : InvX n cap fE sd dl (b) I10 J si12 := hwX
        replace hUsi : ∀ s9 q9 : Nat, q9 ∉ ([6, 7, 8, 9, 10, 11, 21, 22, 32] : List Nat) → si12 s9 q9 = si s9 q9 := xw_tr2 (by decide) whUsi hUsi
        replace hUsa : ∀ s9 q9 : Nat, q9 ∉ ([3, 5] : List Nat) → sa13 s9 q9 = sa s9 q9 := xw_tr2 (by decide) whUsa hUsa
        refine lv_aload_n hx hb dX8_letter_69 rfl (lv_at hl 2 rfl) ?_
        refine lv_dup hx hb dX8_letter_70 rfl ?_
        refine va_get (D := (dC, dI)) (ci := 9) (v := .long (L 1)) (C := RX8) (T := TX8) (N := 14) hx hb hts in_x_letter_X8 hown hK hP 0 rfl rfl 8 (by decide) (hts (.fieldLink RX8 158 "ServiceTree" "withLetters" "J") (by decide +kernel)) (fun _ h9 => h9) rfl dX8_letter_71 ?_
        refine lv_topl (fun x14 ex14 => ?_)
        refine lv_iload_n hx hb dX8_letter_74 rfl (lv_at hl 3 rfl) ?_
        have hFc := mw_free hD hS hA
        refine va_calll (va_runS (As := [.int (nI j2)]) (rest := [.long x14, .ref h]) ⟨hx, hb, hml, hown, hts⟩ (c_x_only l dC dI h a e cI cJ cO cE L I10 M J n cap fE sd si12 sa13 dl (b) (nI j2) H.size hX (by omega) ) (va_cwS 1 hts wc_x_letter_x_only_78 rfl rfl rfl (by decide +kernel) ⟨Nat.le_of_ble_eq_true rfl, Nat.le_of_ble_eq_true rfl⟩) ⟨fun a9 U g mk q => by obtain ⟨q0, q1, qP, qK, qD, qN⟩ := q; exact ⟨q0, q1, qP, va_K.moved (u := U) (U := U.calling g mk a9) (Vm.Alike.refl U.vm) qK, qD, pw_N.same (u := U) (U := U.calling g mk a9) rfl qN⟩, fun U hU hW => ⟨rfl, by rw [hU], by rw [hU]; exact hP, va_K.moved hW.alike hK, hD.weaken (fun _ _ _ _ => trivial), pw_N.warm hW hN⟩⟩ rfl rfl hl.1 rfl (lv_room (Nat.le_of_ble_eq_true rfl)) dX8_letter_75 ⟨Nat.le_of_ble_eq_true rfl, Nat.le_of_ble_eq_true rfl⟩) hS (fun q _ h => hFc q h) hFc (fun r15 u t H1 locs ht hvm hw hB hz1 hk1 hS => ?_)
        replace hP := hB.1
        rw [ht] at hP
        replace hD : va_D A (xW h a e cI cJ cO cE L I10 M J n cap fE sd si12 sa13 dl) := hB.2.weaken (fun _ q _ h9 => hFc q.1 h9)
        clear hB
        generalize H1 = H at hP hS ⊢
        replace hP : va_P (dC, dI) vwCl (xW h a e cI cJ cO cE L I10 M J n cap fE sd si12 sa13 dl) H := hP
        refine lv_lor hx hb dX8_letter_78 ?_
        refine lv_topl (fun x16 ex16 => ?_)
        refine va_put (D := (dC, dI)) (ci := 9) (fs := [.ref (a 0), .ref (a 1), .ref (a 2), .ref (a 3), .ref (a 4), .ref (a 5), .ref (a 6), .long (L 0), .long (L 1), .int (I10 0), .int (I10 1), .int (I10 2), .int (I10 3), .int (I10 4)]) (v := .long x16) (ty := .long) (C := RX8) (T := TX8) (N := 14) hx hb hts in_x_letter_X8 tyX8 tyX8_ok nmX8 hown hK hP hD hS 0 rfl rfl 8 (by decide) (hts (.fieldLink RX8 158 "ServiceTree" "withLetters" "J") (by decide +kernel)) (fun _ h9 => h9) rfl (by decide +kernel) rfl rfl (Nat.le_of_ble_eq_true rfl) dX8_letter_79 (fun H locs hP hD hS => ?_)
        replace hP : va_P (dC, dI) vwCl ((xW h a e cI cJ cO cE L I10 M J n cap fE sd si12 sa13 dl).set 0 (h, .inr (9, [.ref (a 0), .ref (a 1), .ref (a 2), .ref (a 3), .ref (a 4), .ref (a 5), .ref (a 6), .long (L 0), .long x16, .int (I10 0), .int (I10 1), .int (I10 2), .int (I10 3), .int (I10 4)]))) H := hP
        replace hD : va_D A ((xW h a e cI cJ cO cE L I10 M J n cap fE sd si12 sa13 dl).set 0 (h, .inr (9, [.ref (a 0), .ref (a 1), .ref (a 2), .ref (a 3), .ref (a 4), .ref (a 5), .ref (a 6), .long (L 0), .long x16, .int (I10 0), .int (I10 1), .int (I10 2), .int (I10 3), .int (I10 4)]))) := hD
        rw [xF_L1] at hP hD
        obtain ⟨L17, eL17⟩ : ∃ f9 : Nat → Int64, f9 = va_up L 1 x16 := ⟨_, rfl⟩
        rw [← eL17] at hP hD
        replace hUL : ∀ j9 : Nat, j9 ∉ ([0, 1, 2, 3, 4, 5, 6, 7] : List Nat) → L17 j9 = L j9 := by rw [eL17]; exact mw_up (by decide) hUL
        refine lv_aload_n hx hb dX8_letter_82 rfl (lv_at hl 1 rfl) ?_
        refine va_getN (D := (dC, dI)) (ci := 8) (v := .int (si12 j2 6)) (C := RX7) (T := TX7) (N := 12) hx hb hts in_x_letter_X7 hown hK hP (22 + (6 * j2 + 0)) (xAt_0 h a e cI cJ cO cE L17 I10 M J n cap fE sd si12 sa13 dl (s := j2) (by omega)) rfl 6 (by decide) (va_Nw.use rfl (hN (.fieldLinkNest RX8 162 "ServiceTree$Service" "state" "I" "ServiceTree") (by decide +kernel))) (fun _ h9 => h9) rfl dX8_letter_83 ?_
        obtain ⟨z18, hz18, ez18⟩ := hX.2.2.2.1 j2
        refine p1_topr (v := .int (nI z18)) (congrArg Value.int ez18) ?_
        refine lv_if_ne (tgt := 102) hx hb dX8_letter_86 (by decide) (fun c19 => ?_) (fun c19 => ?_)
        · replace c19 : ¬ (z18 = 0) := fun q9 => c19 ((nI_eq (a := z18) (b := 0) (by omega) (by omega)).mpr q9)
          refine lv_iload_n hx hb dX8_letter_102 rfl (lv_at hl 0 rfl) ?_
          exact W.iret (v := x8) hx hb hr (fun t ht hW => ⟨⟨x8, (L17, I10, M, si12, sa13), rfl, ⟨hX.mono (by omega), hUL, hUI, hUM, hUsi, hUsa, trivial⟩, by rw [ht]; exact hP, hD⟩, hS.F ht⟩) hS.2.2 dX8_letter_103
        · replace c19 : z18 = 0 := (nI_eq (a := z18) (b := 0) (by omega) (by omega)).mp c19
          refine lv_aload_n hx hb dX8_letter_89 rfl (lv_at hl 2 rfl) ?_
          refine lv_iconst (v := 0) hx hb dX8_letter_90 (by decide) ?_
          refine lv_iload_n hx hb dX8_letter_91 rfl (lv_at hl 3 rfl) ?_
          have hFc := mw_free hD hS hA
          refine va_calli (va_runV (As := [.int 0, .int (nI j2)]) (rest := []) ⟨hx, hb, hml, hown, hts⟩ (c_x_draftOrder l dC dI h a e cI cJ cO cE L17 I10 M J n cap fE sd si12 sa13 dl (b) 0 (nI j2) H.size hX (by omega) ) (cwV 2 hts wc_x_letter_x_draftOrder_128 rfl rfl rfl (by decide +kernel) ⟨Nat.le_of_ble_eq_true rfl, Nat.le_of_ble_eq_true rfl⟩) ⟨fun a9 U g mk q => by obtain ⟨q0, q1, qP, qK, qD, qN⟩ := q; exact ⟨q0, q1, qP, va_K.moved (u := U) (U := U.calling g mk a9) (Vm.Alike.refl U.vm) qK, qD, pw_N.same (u := U) (U := U.calling g mk a9) rfl qN⟩, va_recv hK hP (ci := 9) (q0 := 0) rfl rfl, fun U hU hW => ⟨rfl, by rw [hU], by rw [hU]; exact hP, va_K.moved hW.alike hK, hD.weaken (fun _ _ _ _ => trivial), pw_N.warm hW hN⟩⟩ rfl rfl hl.1 rfl (lv_room (Nat.le_of_ble_eq_true rfl)) dX8_letter_92 ⟨Nat.le_of_ble_eq_true rfl, Nat.le_of_ble_eq_true rfl⟩) hS (fun q _ h => hFc q h) hFc (fun r20 u t H1 locs ht hvm hw hB hz1 hk1 hS => ?_)
          obtain ⟨L21, I22⟩ := u
          replace hP := hB.1
          rw [ht] at hP
          replace hD : va_D A (xW h a e cI cJ cO cE L21 I22 M J n cap fE sd si12 sa13 dl) := hB.2.weaken (fun _ q _ h9 => hFc q.1 h9)
          clear hB
          generalize H1 = H at hP hS ⊢
          replace hP : va_P (dC, dI) vwCl (xW h a e cI cJ cO cE L21 I22 M J n cap fE sd si12 sa13 dl) H := hP
          obtain ⟨hwX, whUL, whUI, hw⟩ := hw
          replace hX : InvX n cap fE sd dl (b) I22 J si12 := hwX
          replace hUL : ∀ j9 : Nat, j9 ∉ ([0, 1, 2, 3, 4, 5, 6, 7] : List Nat) → L21 j9 = L j9 := mw_tr (by decide) whUL hUL
          replace hUI : ∀ j9 : Nat, j9 ∉ ([1, 8, 12] : List Nat) → I22 j9 = I j9 := mw_tr (by decide) whUI hUI
          refine lv_if_lt (tgt := 102) hx hb dX8_letter_95 (by decide) (fun c23 => ?_) (fun c23 => ?_)
          · refine lv_iload_n hx hb dX8_letter_102 rfl (lv_at hl 0 rfl) ?_
            exact W.iret (v := x8) hx hb hr (fun t ht hW => ⟨⟨x8, (L21, I22, M, si12, sa13), rfl, ⟨hX.mono (by omega), hUL, hUI, hUM, hUsi, hUsa, trivial⟩, by rw [ht]; exact hP, hD⟩, hS.F ht⟩) hS.2.2 dX8_letter_103
          · refine lv_aload_n hx hb dX8_letter_98 rfl (lv_at hl 2 rfl) ?_
            have hFc := mw_free hD hS hA
            refine va_callv (va_runV (As := []) (rest := []) ⟨hx, hb, hml, hown, hts⟩ (c_x_carryOutDraft l dC dI h a e cI cJ cO cE L21 I22 M J n cap fE sd si12 sa13 dl (b)  H.size hX (by omega) ) (cwV 0 hts wc_x_letter_x_carryOutDraft_136 rfl rfl rfl (by decide +kernel) ⟨Nat.le_of_ble_eq_true rfl, Nat.le_of_ble_eq_true rfl⟩) ⟨fun a9 U g mk q => by obtain ⟨q0, q1, qP, qK, qD, qN⟩ := q; exact ⟨q0, q1, qP, va_K.moved (u := U) (U := U.calling g mk a9) (Vm.Alike.refl U.vm) qK, qD, pw_N.same (u := U) (U := U.calling g mk a9) rfl qN⟩, va_recv hK hP (ci := 9) (q0 := 0) rfl rfl, fun U hU hW => ⟨rfl, by rw [hU], by rw [hU]; exact hP, va_K.moved hW.alike hK, hD.weaken (fun _ _ _ _ => trivial), pw_N.warm hW hN⟩⟩ rfl rfl hl.1 rfl (lv_room (Nat.le_of_ble_eq_true rfl)) dX8_letter_99 ⟨Nat.le_of_ble_eq_true rfl, Nat.le_of_ble_eq_true rfl⟩) hS (fun q _ h => hFc q h) hFc (fun u t H1 locs ht hvm hw hB hz1 hk1 hS => ?_)
            obtain ⟨L25, I26, M27, si28, sa29⟩ := u
            replace hP := hB.1
            rw [ht] at hP
            replace hD : va_D A (xW h a e cI cJ cO cE L25 I26 M27 J n cap fE sd si28 sa29 dl) := hB.2.weaken (fun _ q _ h9 => hFc q.1 h9)
            clear hB
            generalize H1 = H at hP hS ⊢
            replace hP : va_P (dC, dI) vwCl (xW h a e cI cJ cO cE L25 I26 M27 J n cap fE sd si28 sa29 dl) H := hP
            obtain ⟨hwX, whUL, whUI, whUM, whUsi, whUsa, hw⟩ := hw
            replace hX : InvX n cap fE sd dl (b + 80) I26 J si28 := hwX
            replace hUL : ∀ j9 : Nat, j9 ∉ ([0, 1, 2, 3, 4, 5, 6, 7] : List Nat) → L25 j9 = L j9 := mw_tr (by decide) whUL hUL
            replace hUI : ∀ j9 : Nat, j9 ∉ ([1, 8, 12] : List Nat) → I26 j9 = I j9 := mw_tr (by decide) whUI hUI
            replace hUM : ∀ j9 : Nat, j9 ∉ ([8, 9] : List Nat) → M27 j9 = M j9 := mw_tr (by decide) whUM hUM
            replace hUsi : ∀ s9 q9 : Nat, q9 ∉ ([6, 7, 8, 9, 10, 11, 21, 22, 32] : List Nat) → si28 s9 q9 = si s9 q9 := xw_tr2 (by decide) whUsi hUsi
            replace hUsa : ∀ s9 q9 : Nat, q9 ∉ ([3, 5] : List Nat) → sa29 s9 q9 = sa s9 q9 := xw_tr2 (by decide) whUsa hUsa
            refine lv_iload_n hx hb dX8_letter_102 rfl (lv_at hl 0 rfl) ?_
            exact W.iret (v := x8) hx hb hr (fun t ht hW => ⟨⟨x8, (L25, I26, M27, si28, sa29), rfl, ⟨hX.mono (by omega), hUL, hUI, hUM, hUsi, hUsa, trivial⟩, by rw [ht]; exact hP, hD⟩, hS.F ht⟩) hS.2.2 dX8_letter_103
    · refine lv_bipush (v := (-2)) hx hb dX8_letter_30 (by decide) ?_
      exact W.iret (v := (-2)) hx hb hr (fun t ht hW => ⟨⟨(-2), (L, I, M, si, sa), rfl, ⟨hX.mono (by omega), hUL, hUI, hUM, hUsi, hUsa, trivial⟩, by rw [ht]; exact hP, hD⟩, hS.F ht⟩) hS.2.2 dX8_letter_32
  · refine lv_if_ne (tgt := 10) hx hb dX8_letter_5 (by decide) (fun c9 => absurd (by decide) c9) (fun _ => ?_)
    refine lv_iconst (v := (-1)) hx hb dX8_letter_8 (by decide) ?_
    exact W.iret (v := (-1)) hx hb hr (fun t ht hW => ⟨⟨(-1), (L, I, M, si, sa), rfl, ⟨hX.mono (by omega), hUL, hUI, hUM, hUsi, hUsa, trivial⟩, by rw [ht]; exact hP, hD⟩, hS.F ht⟩) hS.2.2 dX8_letter_9
def wq_x_plan : List Cond := [.code yX8_plan cX8_plan 4 (some .int), .methodLink RX8 128 yX8_draftOrder, .instanceMethod yX8_draftOrder, .selects RX8 yX8_draftOrder yX8_draftOrder, .initialized RX8, .methodLink RX8 132 yX8_keepRing, .instanceMethod yX8_keepRing, .selects RX8 yX8_keepRing yX8_keepRing, .methodLink RX8 204 yX8_layOutDraft, .instanceMethod yX8_layOutDraft, .selects RX8 yX8_layOutDraft yX8_layOutDraft] ++ (wq_x_draftOrder ++ (wq_x_keepRing ++ (wq_x_layOutDraft)))
set_option maxRecDepth 20000 in
theorem wi_x_plan : ∀ w ∈ wq_x_plan, w ∈ lw_tbl := List.forall_mem_append.mpr ⟨(by decide +kernel), List.forall_mem_append.mpr ⟨wi_x_draftOrder, List.forall_mem_append.mpr ⟨wi_x_keepRing, wi_x_layOutDraft⟩⟩⟩
set_option maxRecDepth 20000 in
theorem wg_x_plan : GoodIn wq_x_plan wq_x_plan := goodIn_sub (fun _ h => h) (by decide +kernel)
set_option maxRecDepth 20000 in
theorem wc_x_plan_x_draftOrder_128 : GoodIn wq_x_plan (wsV RX8 128 RX8 yX8_draftOrder wq_x_draftOrder) := goodIn_app (goodIn_of _ (by decide +kernel)) (fun w h => ⟨List.mem_append_right _ (List.mem_append_left _ (h)), (wg_x_draftOrder w h).2⟩)
set_option maxRecDepth 20000 in
theorem wc_x_plan_x_keepRing_132 : GoodIn wq_x_plan (wsV RX8 132 RX8 yX8_keepRing wq_x_keepRing) := goodIn_app (goodIn_of _ (by decide +kernel)) (fun w h => ⟨List.mem_append_right _ (List.mem_append_right _ (List.mem_append_left _ (h))), (wg_x_keepRing w h).2⟩)
set_option maxRecDepth 20000 in
theorem wc_x_plan_x_layOutDraft_204 : GoodIn wq_x_plan (wsV RX8 204 RX8 yX8_layOutDraft wq_x_layOutDraft) := goodIn_app (goodIn_of _ (by decide +kernel)) (fun w h => ⟨List.mem_append_right _ (List.mem_append_right _ (List.mem_append_right _ (h))), (wg_x_layOutDraft w h).2⟩)
def rm_x_plan : Room := { frames := 7, cells := 0, slots := 0, locals := 180 }
set_option maxHeartbeats 4000000 in
set_option maxRecDepth 100000 in
theorem c_x_plan (l : Launch) (dC : Nat → ClassId) (dI : Nat → Nat → Nat) (h : Nat) (a : Nat → Nat) (e : Nat) (cI cJ cO cE : ClassId) (L : Nat → Int64) (I : Nat → Int32) (M : Nat → Nat → Int64) (J : Nat → Nat → Int32) (n cap : Nat) (fE : Nat → Option Nat) (sd : Nat → Nat → Nat) (si : Nat → Nat → Int32) (sa : Nat → Nat → Nat → Int32) (dl : Nat → Nat) (b : Nat) (p0 : Int32) (p1 : Int32) (sz : Nat) (hX0 : InvX n cap fE sd dl b I J si) (hb0 : b + 0 < 2147483648)  : Met l yX8_plan wq_x_plan rm_x_plan (va_Pc [.ref h, .int p0, .int p1] (fun U => U.heap.size = sz ∧ va_P (dC, dI) vwCl (xW h a e cI cJ cO cE L I M J n cap fE sd si sa dl) U.heap ∧ va_K (dC, dI) vwCl (xT cI cJ cO cE) U ∧ va_D (fun _ => True) (xW h a e cI cJ cO cE L I M J n cap fE sd si sa dl) ∧ pw_N U)) (va_Qi (fun (r : Int32) (u : (Nat → Int64) × (Nat → Int32) × (Nat → Nat → Int32)) => InvX n cap fE sd dl (b + 0) u.2.1 u.2.2 si ∧ (∀ j9 : Nat, j9 ∉ ([2, 3, 4, 8] : List Nat) → u.1 j9 = L j9) ∧ (∀ j9 : Nat, j9 ∉ ([3, 8, 9, 10, 11] : List Nat) → u.2.1 j9 = I j9) ∧ (∀ j9 : Nat, j9 ∉ ([0, 1, 2] : List Nat) → u.2.2 j9 = J j9) ∧ (True)) (fun (u : (Nat → Int64) × (Nat → Int32) × (Nat → Nat → Int32)) (t : State) => va_P (dC, dI) vwCl (xW h a e cI cJ cO cE u.1 u.2.1 M u.2.2 n cap fE sd si sa dl) t.heap ∧ va_D (va_A (xW h a e cI cJ cO cE L I M J n cap fE sd si sa dl) sz) (xW h a e cI cJ cO cE u.1 u.2.1 M u.2.2 n cap fE sd si sa dl)) (va_A (xW h a e cI cJ cO cE L I M J n cap fE sd si sa dl) sz)) 0 0 (va_A (xW h a e cI cJ cO cE L I M J n cap fE sd si sa dl) sz) := by
  have hn : n ≤ 40 := hX0.1.1
  have hX := hX0
  have hUL : ∀ j9 : Nat, j9 ∉ ([2, 3, 4, 8] : List Nat) → L j9 = L j9 := fun _ _ => rfl
  have hUI : ∀ j9 : Nat, j9 ∉ ([3, 8, 9, 10, 11] : List Nat) → I j9 = I j9 := fun _ _ => rfl
  have hUJ : ∀ j9 : Nat, j9 ∉ ([0, 1, 2] : List Nat) → J j9 = J j9 := fun _ _ => rfl
  refine Met.ofW (cc := cX8_plan) (maxL := 4) (ret := (some .int)) (by decide) rfl ?_
  intro p e9 s m args below meth c s₁ B hml hv
  obtain ⟨rfl, hsz, hP, hK, hD0, hN⟩ := hv
  have hx := B.exec
  have hb := B.bytes
  have hr := B.returns
  have hts := atoms_spec (ws := wq_x_plan) B.pre
  have hown : s.vm.findClass RX8 = some m.cls := findClass_of_methodNamed B.named
  have hlocks := B.notSynchronized
  subst hsz
  have hD := hD0.self (sz := s.heap.size)
  generalize hAe : va_A (xW h a e cI cJ cO cE L I M J n cap fE sd si sa dl) s.heap.size = A at hD ⊢
  have hA : ∀ q : Nat, s.heap.size ≤ q → A q := fun q h => by rw [← hAe]; exact Or.inr h
  have hS : va_S A s.heap s.heap [] := va_S.rf
  have hl := lv_entry ([.ref h, .int p0, .int p1]) (n := 4) (Nat.le_of_ble_eq_true rfl)
  rw [lg_entry_eq]
  generalize (lg_sl ([.ref h, .int p0, .int p1]) ++ List.replicate (4 - (lg_sl ([.ref h, .int p0, .int p1])).length) Slot.unset).toArray = ls at hl ⊢
  have hl : lv_has ls 4 [(0, .ref h), (1, .int p0), (2, .int p1)] := hl
  refine lv_aload_n hx hb dX8_plan_0 rfl (lv_at hl 0 rfl) ?_
  refine lv_iload_n hx hb dX8_plan_1 rfl (lv_at hl 1 rfl) ?_
  refine lv_iload_n hx hb dX8_plan_2 rfl (lv_at hl 2 rfl) ?_
  have hFc := mw_free hD hS hA
  refine va_calli (va_runV (As := [.int p0, .int p1]) (rest := []) ⟨hx, hb, hml, hown, hts⟩ (c_x_draftOrder l dC dI h a e cI cJ cO cE L I M J n cap fE sd si sa dl (b) p0 p1 s.heap.size hX (by omega) ) (cwV 2 hts wc_x_plan_x_draftOrder_128 rfl rfl rfl (by decide +kernel) ⟨Nat.le_of_ble_eq_true rfl, Nat.le_of_ble_eq_true rfl⟩) ⟨fun a9 U g mk q => by obtain ⟨q0, q1, qP, qK, qD, qN⟩ := q; exact ⟨q0, q1, qP, va_K.moved (u := U) (U := U.calling g mk a9) (Vm.Alike.refl U.vm) qK, qD, pw_N.same (u := U) (U := U.calling g mk a9) rfl qN⟩, va_recv hK hP (ci := 9) (q0 := 0) rfl rfl, fun U hU hW => ⟨rfl, by rw [hU], by rw [hU]; exact hP, va_K.moved hW.alike hK, hD.weaken (fun _ _ _ _ => trivial), pw_N.warm hW hN⟩⟩ rfl rfl hl.1 rfl (lv_room (Nat.le_of_ble_eq_true rfl)) dX8_plan_3 ⟨Nat.le_of_ble_eq_true rfl, Nat.le_of_ble_eq_true rfl⟩) hS (fun q _ h => hFc q h) hFc (fun r1 u t H1 locs ht hvm hw hB hz1 hk1 hS => ?_)
  obtain ⟨L2, I3⟩ := u
  replace hP := hB.1
  rw [ht] at hP
  replace hD : va_D A (xW h a e cI cJ cO cE L2 I3 M J n cap fE sd si sa dl) := hB.2.weaken (fun _ q _ h9 => hFc q.1 h9)
  clear hB
  generalize H1 = H at hP hS ⊢
  replace hP : va_P (dC, dI) vwCl (xW h a e cI cJ cO cE L2 I3 M J n cap fE sd si sa dl) H := hP
  obtain ⟨hwX, whUL, whUI, hw⟩ := hw
  replace hX : InvX n cap fE sd dl (b) I3 J si := hwX
  replace hUL : ∀ j9 : Nat, j9 ∉ ([2, 3, 4, 8] : List Nat) → L2 j9 = L j9 := mw_tr (by decide) whUL hUL
  replace hUI : ∀ j9 : Nat, j9 ∉ ([3, 8, 9, 10, 11] : List Nat) → I3 j9 = I j9 := mw_tr (by decide) whUI hUI
  refine lv_istore_n (lv' := [(3, .int r1), (0, .ref h), (1, .int p0), (2, .int p1)]) hx hb dX8_plan_6 rfl hl (by decide) rfl (fun ls hl => ?_)
  refine lv_aload_n hx hb dX8_plan_7 rfl (lv_at hl 1 rfl) ?_
  refine lv_iload_n hx hb dX8_plan_8 rfl (lv_at hl 0 rfl) ?_
  have hFc := mw_free hD hS hA
  refine va_callv (va_runV (As := [.int r1]) (rest := []) ⟨hx, hb, hml, hown, hts⟩ (c_x_keepRing l dC dI h a e cI cJ cO cE L2 I3 M J n cap fE sd si sa dl (b) r1 H.size hX (by omega) ) (cwV 1 hts wc_x_plan_x_keepRing_132 rfl rfl rfl (by decide +kernel) ⟨Nat.le_of_ble_eq_true rfl, Nat.le_of_ble_eq_true rfl⟩) ⟨fun a9 U g mk q => by obtain ⟨q0, q1, qP, qK, qD, qN⟩ := q; exact ⟨q0, q1, qP, va_K.moved (u := U) (U := U.calling g mk a9) (Vm.Alike.refl U.vm) qK, qD, pw_N.same (u := U) (U := U.calling g mk a9) rfl qN⟩, va_recv hK hP (ci := 9) (q0 := 0) rfl rfl, fun U hU hW => ⟨rfl, by rw [hU], by rw [hU]; exact hP, va_K.moved hW.alike hK, hD.weaken (fun _ _ _ _ => trivial), pw_N.warm hW hN⟩⟩ rfl rfl hl.1 rfl (lv_room (Nat.le_of_ble_eq_true rfl)) dX8_plan_9 ⟨Nat.le_of_ble_eq_true rfl, Nat.le_of_ble_eq_true rfl⟩) hS (fun q _ h => hFc q h) hFc (fun u t H1 locs ht hvm hw hB hz1 hk1 hS => ?_)
  obtain ⟨I5, rfl⟩ : ∃ z9, z9 = u := ⟨_, rfl⟩
  replace hP := hB.1
  rw [ht] at hP
  replace hD : va_D A (xW h a e cI cJ cO cE L2 I5 M J n cap fE sd si sa dl) := hB.2.weaken (fun _ q _ h9 => hFc q.1 h9)
  clear hB
  generalize H1 = H at hP hS ⊢
  replace hP : va_P (dC, dI) vwCl (xW h a e cI cJ cO cE L2 I5 M J n cap fE sd si sa dl) H := hP
  obtain ⟨hwX, whUI, hw⟩ := hw
  replace hX : InvX n cap fE sd dl (b) I5 J si := hwX
  replace hUI : ∀ j9 : Nat, j9 ∉ ([3, 8, 9, 10, 11] : List Nat) → I5 j9 = I j9 := mw_tr (by decide) whUI hUI
  refine lv_iload_n hx hb dX8_plan_12 rfl (lv_at hl 0 rfl) ?_
  refine lv_if_lt (tgt := 20) hx hb dX8_plan_13 (by decide) (fun c6 => ?_) (fun c6 => ?_)
  · refine lv_iload_n hx hb dX8_plan_20 rfl (lv_at hl 0 rfl) ?_
    exact W.iret (v := r1) hx hb hr (fun t ht hW => ⟨⟨r1, (L2, I5, J), rfl, ⟨hX.mono (by omega), hUL, hUI, hUJ, trivial⟩, by rw [ht]; exact hP, hD⟩, hS.F ht⟩) hS.2.2 dX8_plan_21
  · refine lv_aload_n hx hb dX8_plan_16 rfl (lv_at hl 1 rfl) ?_
    have hFc := mw_free hD hS hA
    refine va_callv (va_runV (As := []) (rest := []) ⟨hx, hb, hml, hown, hts⟩ (c_x_layOutDraft l dC dI h a e cI cJ cO cE L2 I5 M J n cap fE sd si sa dl (b)  H.size hX (by omega) ) (cwV 0 hts wc_x_plan_x_layOutDraft_204 rfl rfl rfl (by decide +kernel) ⟨Nat.le_of_ble_eq_true rfl, Nat.le_of_ble_eq_true rfl⟩) ⟨fun a9 U g mk q => by obtain ⟨q0, q1, qP, qK, qD, qN⟩ := q; exact ⟨q0, q1, qP, va_K.moved (u := U) (U := U.calling g mk a9) (Vm.Alike.refl U.vm) qK, qD, pw_N.same (u := U) (U := U.calling g mk a9) rfl qN⟩, va_recv hK hP (ci := 9) (q0 := 0) rfl rfl, fun U hU hW => ⟨rfl, by rw [hU], by rw [hU]; exact hP, va_K.moved hW.alike hK, hD.weaken (fun _ _ _ _ => trivial), pw_N.warm hW hN⟩⟩ rfl rfl hl.1 rfl (lv_room (Nat.le_of_ble_eq_true rfl)) dX8_plan_17 ⟨Nat.le_of_ble_eq_true rfl, Nat.le_of_ble_eq_true rfl⟩) hS (fun q _ h => hFc q h) hFc (fun u t H1 locs ht hvm hw hB hz1 hk1 hS => ?_)
    obtain ⟨L8, I9, J10⟩ := u
    replace hP := hB.1
    rw [ht] at hP
    replace hD : va_D A (xW h a e cI cJ cO cE L8 I9 M J10 n cap fE sd si sa dl) := hB.2.weaken (fun _ q _ h9 => hFc q.1 h9)
    clear hB
    generalize H1 = H at hP hS ⊢
    replace hP : va_P (dC, dI) vwCl (xW h a e cI cJ cO cE L8 I9 M J10 n cap fE sd si sa dl) H := hP
    obtain ⟨hwX, whUL, whUI, whUJ, hw⟩ := hw
    replace hX : InvX n cap fE sd dl (b) I9 J10 si := hwX
    replace hUL : ∀ j9 : Nat, j9 ∉ ([2, 3, 4, 8] : List Nat) → L8 j9 = L j9 := mw_tr (by decide) whUL hUL
    replace hUI : ∀ j9 : Nat, j9 ∉ ([3, 8, 9, 10, 11] : List Nat) → I9 j9 = I j9 := mw_tr (by decide) whUI hUI
    replace hUJ : ∀ j9 : Nat, j9 ∉ ([0, 1, 2] : List Nat) → J10 j9 = J j9 := mw_tr (by decide) whUJ hUJ
    refine lv_iload_n hx hb dX8_plan_20 rfl (lv_at hl 0 rfl) ?_
    exact W.iret (v := r1) hx hb hr (fun t ht hW => ⟨⟨r1, (L8, I9, J10), rfl, ⟨hX.mono (by omega), hUL, hUI, hUJ, trivial⟩, by rw [ht]; exact hP, hD⟩, hS.F ht⟩) hS.2.2 dX8_plan_21
