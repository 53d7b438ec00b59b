theorem dX3_kindOf_0 : decode cX3_kindOf 0 = .ok (.aload_n 0, 1) := by decide +kernel
theorem dX3_kindOf_1 : decode cX3_kindOf 1 = .ok (.getfield 15, 3) := by decide +kernel
theorem dX3_kindOf_4 : decode cX3_kindOf 4 = .ok (.iload_n 1, 1) := by decide +kernel
theorem dX3_kindOf_5 : decode cX3_kindOf 5 = .ok (.invokestatic 25, 3) := by decide +kernel
theorem dX3_kindOf_8 : decode cX3_kindOf 8 = .ok (.ifCond .eq 5, 3) := by decide +kernel
theorem dX3_kindOf_11 : decode cX3_kindOf 11 = .ok (.iconst 1, 1) := by decide +kernel
theorem dX3_kindOf_12 : decode cX3_kindOf 12 = .ok (.ireturn, 1) := by decide +kernel
theorem dX3_kindOf_13 : decode cX3_kindOf 13 = .ok (.aload_n 0, 1) := by decide +kernel
theorem dX3_kindOf_14 : decode cX3_kindOf 14 = .ok (.getfield 19, 3) := by decide +kernel
theorem dX3_kindOf_17 : decode cX3_kindOf 17 = .ok (.iload_n 1, 1) := by decide +kernel
theorem dX3_kindOf_18 : decode cX3_kindOf 18 = .ok (.invokestatic 25, 3) := by decide +kernel
theorem dX3_kindOf_21 : decode cX3_kindOf 21 = .ok (.ifCond .eq 7, 3) := by decide +kernel
theorem dX3_kindOf_24 : decode cX3_kindOf 24 = .ok (.iconst 2, 1) := by decide +kernel
theorem dX3_kindOf_25 : decode cX3_kindOf 25 = .ok (.goto 4, 3) := by decide +kernel
theorem dX3_kindOf_28 : decode cX3_kindOf 28 = .ok (.iconst 0, 1) := by decide +kernel
theorem dX3_kindOf_29 : decode cX3_kindOf 29 = .ok (.ireturn, 1) := by decide +kernel
theorem dX3_awaitedBy_0 : decode cX3_awaitedBy 0 = .ok (.aload_n 0, 1) := by decide +kernel
theorem dX3_awaitedBy_1 : decode cX3_awaitedBy 1 = .ok (.getfield 9, 3) := by decide +kernel
theorem dX3_awaitedBy_4 : decode cX3_awaitedBy 4 = .ok (.iload_n 1, 1) := by decide +kernel
theorem dX3_awaitedBy_5 : decode cX3_awaitedBy 5 = .ok (.aload_n 0, 1) := by decide +kernel
theorem dX3_awaitedBy_6 : decode cX3_awaitedBy 6 = .ok (.getfield 15, 3) := by decide +kernel
theorem dX3_awaitedBy_9 : decode cX3_awaitedBy 9 = .ok (.aload_n 0, 1) := by decide +kernel
theorem dX3_awaitedBy_10 : decode cX3_awaitedBy 10 = .ok (.getfield 19, 3) := by decide +kernel
theorem dX3_awaitedBy_13 : decode cX3_awaitedBy 13 = .ok (.invokevirtual 29, 3) := by decide +kernel
theorem dX3_awaitedBy_16 : decode cX3_awaitedBy 16 = .ok (.lreturn, 1) := by decide +kernel
theorem dX3_awaiting_0 : decode cX3_awaiting 0 = .ok (.lconst 0, 1) := by decide +kernel
theorem dX3_awaiting_1 : decode cX3_awaiting 1 = .ok (.lstore_n 2, 1) := by decide +kernel
theorem dX3_awaiting_2 : decode cX3_awaiting 2 = .ok (.iconst 0, 1) := by decide +kernel
theorem dX3_awaiting_3 : decode cX3_awaiting 3 = .ok (.istore 4, 2) := by decide +kernel
theorem dX3_awaiting_5 : decode cX3_awaiting 5 = .ok (.iload 4, 2) := by decide +kernel
theorem dX3_awaiting_7 : decode cX3_awaiting 7 = .ok (.bipush 40, 2) := by decide +kernel
theorem dX3_awaiting_9 : decode cX3_awaiting 9 = .ok (.if_icmp .ge 30, 3) := by decide +kernel
theorem dX3_awaiting_12 : decode cX3_awaiting 12 = .ok (.aload_n 0, 1) := by decide +kernel
theorem dX3_awaiting_13 : decode cX3_awaiting 13 = .ok (.iload 4, 2) := by decide +kernel
theorem dX3_awaiting_15 : decode cX3_awaiting 15 = .ok (.invokevirtual 35, 3) := by decide +kernel
theorem dX3_awaiting_18 : decode cX3_awaiting 18 = .ok (.iload_n 1, 1) := by decide +kernel
theorem dX3_awaiting_19 : decode cX3_awaiting 19 = .ok (.invokestatic 25, 3) := by decide +kernel
theorem dX3_awaiting_22 : decode cX3_awaiting 22 = .ok (.ifCond .eq 11, 3) := by decide +kernel
theorem dX3_awaiting_25 : decode cX3_awaiting 25 = .ok (.lload_n 2, 1) := by decide +kernel
theorem dX3_awaiting_26 : decode cX3_awaiting 26 = .ok (.iload 4, 2) := by decide +kernel
theorem dX3_awaiting_28 : decode cX3_awaiting 28 = .ok (.invokestatic 38, 3) := by decide +kernel
theorem dX3_awaiting_31 : decode cX3_awaiting 31 = .ok (.lor, 1) := by decide +kernel
theorem dX3_awaiting_32 : decode cX3_awaiting 32 = .ok (.lstore_n 2, 1) := by decide +kernel
theorem dX3_awaiting_33 : decode cX3_awaiting 33 = .ok (.iinc 4 1, 3) := by decide +kernel
theorem dX3_awaiting_36 : decode cX3_awaiting 36 = .ok (.goto (-31), 3) := by decide +kernel
theorem dX3_awaiting_39 : decode cX3_awaiting 39 = .ok (.lload_n 2, 1) := by decide +kernel
theorem dX3_awaiting_40 : decode cX3_awaiting 40 = .ok (.lreturn, 1) := by decide +kernel
theorem dX3_leastReady_0 : decode cX3_leastReady 0 = .ok (.aload_n 0, 1) := by decide +kernel
theorem dX3_leastReady_1 : decode cX3_leastReady 1 = .ok (.invokevirtual 41, 3) := by decide +kernel
theorem dX3_leastReady_4 : decode cX3_leastReady 4 = .ok (.aload_n 0, 1) := by decide +kernel
theorem dX3_leastReady_5 : decode cX3_leastReady 5 = .ok (.getfield 22, 3) := by decide +kernel
theorem dX3_leastReady_8 : decode cX3_leastReady 8 = .ok (.ldc2_w 45, 3) := by decide +kernel
theorem dX3_leastReady_11 : decode cX3_leastReady 11 = .ok (.lxor, 1) := by decide +kernel
theorem dX3_leastReady_12 : decode cX3_leastReady 12 = .ok (.land, 1) := by decide +kernel
theorem dX3_leastReady_13 : decode cX3_leastReady 13 = .ok (.lstore_n 1, 1) := by decide +kernel
theorem dX3_leastReady_14 : decode cX3_leastReady 14 = .ok (.iconst 0, 1) := by decide +kernel
theorem dX3_leastReady_15 : decode cX3_leastReady 15 = .ok (.istore_n 3, 1) := by decide +kernel
theorem dX3_leastReady_16 : decode cX3_leastReady 16 = .ok (.iload_n 3, 1) := by decide +kernel
theorem dX3_leastReady_17 : decode cX3_leastReady 17 = .ok (.bipush 40, 2) := by decide +kernel
theorem dX3_leastReady_19 : decode cX3_leastReady 19 = .ok (.if_icmp .ge 29, 3) := by decide +kernel
theorem dX3_leastReady_22 : decode cX3_leastReady 22 = .ok (.lload_n 1, 1) := by decide +kernel
theorem dX3_leastReady_23 : decode cX3_leastReady 23 = .ok (.iload_n 3, 1) := by decide +kernel
theorem dX3_leastReady_24 : decode cX3_leastReady 24 = .ok (.invokestatic 25, 3) := by decide +kernel
theorem dX3_leastReady_27 : decode cX3_leastReady 27 = .ok (.ifCond .eq 15, 3) := by decide +kernel
theorem dX3_leastReady_30 : decode cX3_leastReady 30 = .ok (.aload_n 0, 1) := by decide +kernel
theorem dX3_leastReady_31 : decode cX3_leastReady 31 = .ok (.iload_n 3, 1) := by decide +kernel
theorem dX3_leastReady_32 : decode cX3_leastReady 32 = .ok (.invokevirtual 35, 3) := by decide +kernel
theorem dX3_leastReady_35 : decode cX3_leastReady 35 = .ok (.lconst 0, 1) := by decide +kernel
theorem dX3_leastReady_36 : decode cX3_leastReady 36 = .ok (.lcmp, 1) := by decide +kernel
theorem dX3_leastReady_37 : decode cX3_leastReady 37 = .ok (.ifCond .ne 5, 3) := by decide +kernel
theorem dX3_leastReady_40 : decode cX3_leastReady 40 = .ok (.iload_n 3, 1) := by decide +kernel
theorem dX3_leastReady_41 : decode cX3_leastReady 41 = .ok (.ireturn, 1) := by decide +kernel
theorem dX3_leastReady_42 : decode cX3_leastReady 42 = .ok (.iinc 3 1, 3) := by decide +kernel
theorem dX3_leastReady_45 : decode cX3_leastReady 45 = .ok (.goto (-29), 3) := by decide +kernel
theorem dX3_leastReady_48 : decode cX3_leastReady 48 = .ok (.iconst (-1), 1) := by decide +kernel
theorem dX3_leastReady_49 : decode cX3_leastReady 49 = .ok (.ireturn, 1) := by decide +kernel
theorem dX3_noteState_0 : decode cX3_noteState 0 = .ok (.aload_n 0, 1) := by decide +kernel
theorem dX3_noteState_1 : decode cX3_noteState 1 = .ok (.getfield 22, 3) := by decide +kernel
theorem dX3_noteState_4 : decode cX3_noteState 4 = .ok (.iload_n 1, 1) := by decide +kernel
theorem dX3_noteState_5 : decode cX3_noteState 5 = .ok (.invokestatic 25, 3) := by decide +kernel
theorem dX3_noteState_8 : decode cX3_noteState 8 = .ok (.ifCond .ne 4, 3) := by decide +kernel
theorem dX3_noteState_11 : decode cX3_noteState 11 = .ok (.return_, 1) := by decide +kernel
theorem dX3_noteState_12 : decode cX3_noteState 12 = .ok (.aload_n 0, 1) := by decide +kernel
theorem dX3_noteState_13 : decode cX3_noteState 13 = .ok (.getfield 15, 3) := by decide +kernel
theorem dX3_noteState_16 : decode cX3_noteState 16 = .ok (.iload_n 1, 1) := by decide +kernel
theorem dX3_noteState_17 : decode cX3_noteState 17 = .ok (.invokestatic 25, 3) := by decide +kernel
theorem dX3_noteState_20 : decode cX3_noteState 20 = .ok (.ifCond .eq 16, 3) := by decide +kernel
theorem dX3_noteState_23 : decode cX3_noteState 23 = .ok (.iload_n 2, 1) := by decide +kernel
theorem dX3_noteState_24 : decode cX3_noteState 24 = .ok (.iconst 1, 1) := by decide +kernel
theorem dX3_noteState_25 : decode cX3_noteState 25 = .ok (.if_icmp .ne 7, 3) := by decide +kernel
theorem dX3_noteState_28 : decode cX3_noteState 28 = .ok (.iconst 1, 1) := by decide +kernel
theorem dX3_noteState_29 : decode cX3_noteState 29 = .ok (.goto 16, 3) := by decide +kernel
theorem dX3_noteState_32 : decode cX3_noteState 32 = .ok (.iconst 0, 1) := by decide +kernel
theorem dX3_noteState_33 : decode cX3_noteState 33 = .ok (.goto 12, 3) := by decide +kernel
theorem dX3_noteState_36 : decode cX3_noteState 36 = .ok (.iload_n 2, 1) := by decide +kernel
theorem dX3_noteState_37 : decode cX3_noteState 37 = .ok (.ifCond .eq 7, 3) := by decide +kernel
theorem dX3_noteState_40 : decode cX3_noteState 40 = .ok (.iconst 1, 1) := by decide +kernel
theorem dX3_noteState_41 : decode cX3_noteState 41 = .ok (.goto 4, 3) := by decide +kernel
theorem dX3_noteState_44 : decode cX3_noteState 44 = .ok (.iconst 0, 1) := by decide +kernel
theorem dX3_noteState_45 : decode cX3_noteState 45 = .ok (.istore_n 3, 1) := by decide +kernel
theorem dX3_noteState_46 : decode cX3_noteState 46 = .ok (.iload_n 3, 1) := by decide +kernel
theorem dX3_noteState_47 : decode cX3_noteState 47 = .ok (.ifCond .ne 8, 3) := by decide +kernel
theorem dX3_noteState_50 : decode cX3_noteState 50 = .ok (.aload_n 0, 1) := by decide +kernel
theorem dX3_noteState_51 : decode cX3_noteState 51 = .ok (.iload_n 1, 1) := by decide +kernel
theorem dX3_noteState_52 : decode cX3_noteState 52 = .ok (.invokevirtual 47, 3) := by decide +kernel
theorem dX3_noteState_55 : decode cX3_noteState 55 = .ok (.return_, 1) := by decide +kernel
def wq_x_kindOf : List Cond := [.code yX3_kindOf cX3_kindOf 2 (some .int), .fieldLink RX3 15 "ServiceTree$Jobs" "starts" "J", .initialized RX8, .static yX8_holds, .fieldLink RX3 19 "ServiceTree$Jobs" "stops" "J"] ++ (wsX30 ++ (wq_x_holds))
theorem in_x_kindOf_X3 : ∀ w ∈ wsX30, w ∈ wq_x_kindOf := fun _ h => List.mem_append_right _ (List.mem_append_left _ (h))
set_option maxRecDepth 20000 in
theorem wi_x_kindOf : ∀ w ∈ wq_x_kindOf, w ∈ lw_tbl := List.forall_mem_append.mpr ⟨(by decide +kernel), List.forall_mem_append.mpr ⟨inKX3, wi_x_holds⟩⟩
set_option maxRecDepth 20000 in
theorem wg_x_kindOf : GoodIn wq_x_kindOf wq_x_kindOf := goodIn_sub (fun _ h => h) (by decide +kernel)
theorem wc_x_kindOf_x_holds_25 : GoodIn wq_x_kindOf wq_x_holds := (fun w h => ⟨List.mem_append_right _ (List.mem_append_right _ (h)), (wg_x_holds w h).2⟩)
def rm_x_kindOf : Room := { frames := 1, cells := 0, slots := 0, locals := 22 }
set_option maxHeartbeats 4000000 in
set_option maxRecDepth 100000 in
theorem c_x_kindOf (l : Launch) (dC : Nat → ClassId) (dI : Nat → Nat → Nat) (h : Nat) (a : Nat → Nat) (e : Nat) (cI cJ cO cE : ClassId) (L : Nat → Int64) (I : Nat → Int32) (M : Nat → Nat → Int64) (J : Nat → Nat → Int32) (n cap : Nat) (fE : Nat → Option Nat) (sd : Nat → Nat → Nat) (si : Nat → Nat → Int32) (sa : Nat → Nat → Nat → Int32) (dl : Nat → Nat) (b : Nat) (p0 : Int32) (sz : Nat) (hX0 : InvX n cap fE sd dl b I J si) (hb0 : b + 0 < 2147483648)  : Met l yX3_kindOf wq_x_kindOf rm_x_kindOf (va_Pc [.ref (a 3), .int p0] (fun U => U.heap.size = sz ∧ va_P (dC, dI) vwCl (xW h a e cI cJ cO cE L I M J n cap fE sd si sa dl) U.heap ∧ va_K (dC, dI) vwCl (xT cI cJ cO cE) U ∧ va_D (fun _ => True) (xW h a e cI cJ cO cE L I M J n cap fE sd si sa dl) ∧ pw_N U)) (va_Qi (fun (r : Int32) (u : Unit) => (True)) (fun (u : Unit) (t : State) => va_P (dC, dI) vwCl (xW h a e cI cJ cO cE L I M J n cap fE sd si sa dl) t.heap ∧ va_D (va_A (xW h a e cI cJ cO cE L I M J n cap fE sd si sa dl) sz) (xW h a e cI cJ cO cE L I M J n cap fE sd si sa dl)) (va_A (xW h a e cI cJ cO cE L I M J n cap fE sd si sa dl) sz)) 0 0 (va_A (xW h a e cI cJ cO cE L I M J n cap fE sd si sa dl) sz) := by
  have hn : n ≤ 40 := hX0.1.1
  have hX := hX0
  refine Met.ofW (cc := cX3_kindOf) (maxL := 2) (ret := (some .int)) (by decide) rfl ?_
  intro p e9 s m args below meth c s₁ B hml hv
  obtain ⟨rfl, hsz, hP, hK, hD0, hN⟩ := hv
  have hx := B.exec
  have hb := B.bytes
  have hr := B.returns
  have hts := atoms_spec (ws := wq_x_kindOf) B.pre
  have hown : s.vm.findClass RX3 = some m.cls := findClass_of_methodNamed B.named
  have hlocks := B.notSynchronized
  subst hsz
  have hD := hD0.self (sz := s.heap.size)
  generalize hAe : va_A (xW h a e cI cJ cO cE L I M J n cap fE sd si sa dl) s.heap.size = A at hD ⊢
  have hA : ∀ q : Nat, s.heap.size ≤ q → A q := fun q h => by rw [← hAe]; exact Or.inr h
  have hS : va_S A s.heap s.heap [] := va_S.rf
  have hl := lv_entry ([.ref (a 3), .int p0]) (n := 2) (Nat.le_of_ble_eq_true rfl)
  rw [lg_entry_eq]
  generalize (lg_sl ([.ref (a 3), .int p0]) ++ List.replicate (2 - (lg_sl ([.ref (a 3), .int p0])).length) Slot.unset).toArray = ls at hl ⊢
  have hl : lv_has ls 2 [(0, .ref (a 3)), (1, .int p0)] := hl
  refine lv_aload_n hx hb dX3_kindOf_0 rfl (lv_at hl 0 rfl) ?_
  refine va_get (D := (dC, dI)) (ci := 4) (v := .long (L 5)) (C := RX3) (T := TX3) (N := 4) hx hb hts in_x_kindOf_X3 hown hK hP 14 rfl rfl 1 (by decide) (hts (.fieldLink RX3 15 "ServiceTree$Jobs" "starts" "J") (by decide +kernel)) (fun _ h9 => h9) rfl dX3_kindOf_1 ?_
  refine lv_topl (fun x1 ex1 => ?_)
  refine lv_iload_n hx hb dX3_kindOf_4 rfl (lv_at hl 1 rfl) ?_
  have hFc := mw_free hD hS hA
  refine va_calli (va_runSN (As := [.long x1, .int p0]) (rest := []) ⟨hx, hb, hml, hown, hts⟩ (c_x_holds l dC dI h a e cI cJ cO cE L I M J n cap fE sd si sa dl (b) x1 p0 s.heap.size hX (by omega) ) ⟨va_cnB 2 hts wc_x_kindOf_x_holds_25 rfl rfl rfl (hN (.methodLinkNest RX3 25 yX8_holds "ServiceTree") (by decide +kernel)) (hts (.initialized RX8) (by decide +kernel)) (by decide +kernel) ⟨Nat.le_of_ble_eq_true rfl, Nat.le_of_ble_eq_true rfl⟩, hts (.static yX8_holds) (by decide +kernel), trivial⟩ ⟨fun a9 U g mk q => by obtain ⟨q0, q1, qP, qK, qD, qN⟩ := q; exact ⟨q0, q1, qP, va_K.moved (u := U) (U := U.calling g mk a9) (Vm.Alike.refl U.vm) qK, qD, pw_N.same (u := U) (U := U.calling g mk a9) rfl qN⟩, fun U hU hW => ⟨rfl, by rw [hU], by rw [hU]; exact hP, va_K.moved hW.alike hK, hD.weaken (fun _ _ _ _ => trivial), pw_N.warm hW hN⟩⟩ rfl rfl hl.1 rfl (lv_room (Nat.le_of_ble_eq_true rfl)) dX3_kindOf_5 ⟨Nat.le_of_ble_eq_true rfl, Nat.le_of_ble_eq_true rfl⟩) hS (fun q _ h => hFc q h) hFc (fun r2 u t H1 locs ht hvm hw hB hz1 hk1 hS => ?_)
  replace hP := hB.1
  rw [ht] at hP
  replace hD : va_D A (xW h a e cI cJ cO cE L I M J n cap fE sd si sa dl) := hB.2.weaken (fun _ q _ h9 => hFc q.1 h9)
  clear hB
  generalize H1 = H at hP hS ⊢
  replace hP : va_P (dC, dI) vwCl (xW h a e cI cJ cO cE L I M J n cap fE sd si sa dl) H := hP
  have br2 := hw
  refine lv_if_eq (tgt := 13) hx hb dX3_kindOf_8 (by decide) (fun c3 => ?_) (fun c3 => ?_)
  · refine lv_aload_n hx hb dX3_kindOf_13 rfl (lv_at hl 0 rfl) ?_
    refine va_get (D := (dC, dI)) (ci := 4) (v := .long (L 6)) (C := RX3) (T := TX3) (N := 4) hx hb hts in_x_kindOf_X3 hown hK hP 14 rfl rfl 2 (by decide) (hts (.fieldLink RX3 19 "ServiceTree$Jobs" "stops" "J") (by decide +kernel)) (fun _ h9 => h9) rfl dX3_kindOf_14 ?_
    refine lv_topl (fun x4 ex4 => ?_)
    refine lv_iload_n hx hb dX3_kindOf_17 rfl (lv_at hl 1 rfl) ?_
    have hFc := mw_free hD hS hA
    refine va_calli (va_runSN (As := [.long x4, .int p0]) (rest := []) ⟨hx, hb, hml, hown, hts⟩ (c_x_holds l dC dI h a e cI cJ cO cE L I M J n cap fE sd si sa dl (b) x4 p0 H.size hX (by omega) ) ⟨va_cnB 2 hts wc_x_kindOf_x_holds_25 rfl rfl rfl (hN (.methodLinkNest RX3 25 yX8_holds "ServiceTree") (by decide +kernel)) (hts (.initialized RX8) (by decide +kernel)) (by decide +kernel) ⟨Nat.le_of_ble_eq_true rfl, Nat.le_of_ble_eq_true rfl⟩, hts (.static yX8_holds) (by decide +kernel), trivial⟩ ⟨fun a9 U g mk q => by obtain ⟨q0, q1, qP, qK, qD, qN⟩ := q; exact ⟨q0, q1, qP, va_K.moved (u := U) (U := U.calling g mk a9) (Vm.Alike.refl U.vm) qK, qD, pw_N.same (u := U) (U := U.calling g mk a9) rfl qN⟩, fun U hU hW => ⟨rfl, by rw [hU], by rw [hU]; exact hP, va_K.moved hW.alike hK, hD.weaken (fun _ _ _ _ => trivial), pw_N.warm hW hN⟩⟩ rfl rfl hl.1 rfl (lv_room (Nat.le_of_ble_eq_true rfl)) dX3_kindOf_18 ⟨Nat.le_of_ble_eq_true rfl, Nat.le_of_ble_eq_true rfl⟩) hS (fun q _ h => hFc q h) hFc (fun r5 u t H1 locs ht hvm hw hB hz1 hk1 hS => ?_)
    replace hP := hB.1
    rw [ht] at hP
    replace hD : va_D A (xW h a e cI cJ cO cE L I M J n cap fE sd si sa dl) := hB.2.weaken (fun _ q _ h9 => hFc q.1 h9)
    clear hB
    generalize H1 = H at hP hS ⊢
    replace hP : va_P (dC, dI) vwCl (xW h a e cI cJ cO cE L I M J n cap fE sd si sa dl) H := hP
    have br5 := hw
    refine lv_if_eq (tgt := 28) hx hb dX3_kindOf_21 (by decide) (fun c6 => ?_) (fun c6 => ?_)
    · refine lv_iconst (v := 0) hx hb dX3_kindOf_28 (by decide) ?_
      exact W.iret (v := 0) hx hb hr (fun t ht hW => ⟨⟨0, (), rfl, trivial, by rw [ht]; exact hP, hD⟩, hS.F ht⟩) hS.2.2 dX3_kindOf_29
    · refine lv_iconst (v := 2) hx hb dX3_kindOf_24 (by decide) ?_
      refine lv_goto (tgt := 29) hx hb dX3_kindOf_25 (by decide) ?_
      exact W.iret (v := 2) hx hb hr (fun t ht hW => ⟨⟨2, (), rfl, trivial, by rw [ht]; exact hP, hD⟩, hS.F ht⟩) hS.2.2 dX3_kindOf_29
  · refine lv_iconst (v := 1) hx hb dX3_kindOf_11 (by decide) ?_
    exact W.iret (v := 1) hx hb hr (fun t ht hW => ⟨⟨1, (), rfl, trivial, by rw [ht]; exact hP, hD⟩, hS.F ht⟩) hS.2.2 dX3_kindOf_12
def wq_x_jawaited : List Cond := [.code yX3_awaitedBy cX3_awaitedBy 2 (some .long), .fieldLink RX3 9 "ServiceTree$Jobs" "relations" "LServiceTree$Relations;", .fieldLink RX3 15 "ServiceTree$Jobs" "starts" "J", .fieldLink RX3 19 "ServiceTree$Jobs" "stops" "J", .methodLink RX3 29 yX5_awaitedBy, .instanceMethod yX5_awaitedBy, .selects RX5 yX5_awaitedBy yX5_awaitedBy, .initialized RX5] ++ (wsX30 ++ (wq_x_rawaited))
theorem in_x_jawaited_X3 : ∀ w ∈ wsX30, w ∈ wq_x_jawaited := fun _ h => List.mem_append_right _ (List.mem_append_left _ (h))
set_option maxRecDepth 20000 in
theorem wi_x_jawaited : ∀ w ∈ wq_x_jawaited, w ∈ lw_tbl := List.forall_mem_append.mpr ⟨(by decide +kernel), List.forall_mem_append.mpr ⟨inKX3, wi_x_rawaited⟩⟩
set_option maxRecDepth 20000 in
theorem wg_x_jawaited : GoodIn wq_x_jawaited wq_x_jawaited := goodIn_sub (fun _ h => h) (by decide +kernel)
set_option maxRecDepth 20000 in
theorem wc_x_jawaited_x_rawaited_29 : GoodIn wq_x_jawaited (wsV RX3 29 RX5 yX5_awaitedBy wq_x_rawaited) := goodIn_app (goodIn_of _ (by decide +kernel)) (fun w h => ⟨List.mem_append_right _ (List.mem_append_right _ (h)), (wg_x_rawaited w h).2⟩)
def rm_x_jawaited : Room := { frames := 2, cells := 0, slots := 0, locals := 47 }
set_option maxHeartbeats 4000000 in
set_option maxRecDepth 100000 in
theorem c_x_jawaited (l : Launch) (dC : Nat → ClassId) (dI : Nat → Nat → Nat) (h : Nat) (a : Nat → Nat) (e : Nat) (cI cJ cO cE : ClassId) (L : Nat → Int64) (I : Nat → Int32) (M : Nat → Nat → Int64) (J : Nat → Nat → Int32) (n cap : Nat) (fE : Nat → Option Nat) (sd : Nat → Nat → Nat) (si : Nat → Nat → Int32) (sa : Nat → Nat → Nat → Int32) (dl : Nat → Nat) (b : Nat) (av : Nat) (sz : Nat) (hX0 : InvX n cap fE sd dl b I J si) (hb0 : b + 0 < 2147483648) (hp0 : av < 40) : Met l yX3_awaitedBy wq_x_jawaited rm_x_jawaited (va_Pc [.ref (a 3), .int (nI av)] (fun U => U.heap.size = sz ∧ va_P (dC, dI) vwCl (xW h a e cI cJ cO cE L I M J n cap fE sd si sa dl) U.heap ∧ va_K (dC, dI) vwCl (xT cI cJ cO cE) U ∧ va_D (fun _ => True) (xW h a e cI cJ cO cE L I M J n cap fE sd si sa dl) ∧ pw_N U)) (va_Ql (fun (r : Int64) (u : Unit) => (True)) (fun (u : Unit) (t : State) => va_P (dC, dI) vwCl (xW h a e cI cJ cO cE L I M J n cap fE sd si sa dl) t.heap ∧ va_D (va_A (xW h a e cI cJ cO cE L I M J n cap fE sd si sa dl) sz) (xW h a e cI cJ cO cE L I M J n cap fE sd si sa dl)) (va_A (xW h a e cI cJ cO cE L I M J n cap fE sd si sa dl) sz)) 0 0 (va_A (xW h a e cI cJ cO cE L I M J n cap fE sd si sa dl) sz) := by
  have hn : n ≤ 40 := hX0.1.1
  have hX := hX0
  refine Met.ofW (cc := cX3_awaitedBy) (maxL := 2) (ret := (some .long)) (by decide) rfl ?_
  intro p e9 s m args below meth c s₁ B hml hv
  obtain ⟨rfl, hsz, hP, hK, hD0, hN⟩ := hv
  have hx := B.exec
  have hb := B.bytes
  have hr := B.returns
  have hts := atoms_spec (ws := wq_x_jawaited) B.pre
  have hown : s.vm.findClass RX3 = some m.cls := findClass_of_methodNamed B.named
  have hlocks := B.notSynchronized
  subst hsz
  have hD := hD0.self (sz := s.heap.size)
  generalize hAe : va_A (xW h a e cI cJ cO cE L I M J n cap fE sd si sa dl) s.heap.size = A at hD ⊢
  have hA : ∀ q : Nat, s.heap.size ≤ q → A q := fun q h => by rw [← hAe]; exact Or.inr h
  have hS : va_S A s.heap s.heap [] := va_S.rf
  have hl := lv_entry ([.ref (a 3), .int (nI av)]) (n := 2) (Nat.le_of_ble_eq_true rfl)
  rw [lg_entry_eq]
  generalize (lg_sl ([.ref (a 3), .int (nI av)]) ++ List.replicate (2 - (lg_sl ([.ref (a 3), .int (nI av)])).length) Slot.unset).toArray = ls at hl ⊢
  have hl : lv_has ls 2 [(0, .ref (a 3)), (1, .int (nI av))] := hl
  refine lv_aload_n hx hb dX3_awaitedBy_0 rfl (lv_at hl 0 rfl) ?_
  refine va_get (D := (dC, dI)) (ci := 4) (v := .ref (a 1)) (C := RX3) (T := TX3) (N := 4) hx hb hts in_x_jawaited_X3 hown hK hP 14 rfl rfl 0 (by decide) (hts (.fieldLink RX3 9 "ServiceTree$Jobs" "relations" "LServiceTree$Relations;") (by decide +kernel)) (fun _ h9 => h9) rfl dX3_awaitedBy_1 ?_
  refine lv_iload_n hx hb dX3_awaitedBy_4 rfl (lv_at hl 1 rfl) ?_
  refine lv_aload_n hx hb dX3_awaitedBy_5 rfl (lv_at hl 0 rfl) ?_
  refine va_get (D := (dC, dI)) (ci := 4) (v := .long (L 5)) (C := RX3) (T := TX3) (N := 4) hx hb hts in_x_jawaited_X3 hown hK hP 14 rfl rfl 1 (by decide) (hts (.fieldLink RX3 15 "ServiceTree$Jobs" "starts" "J") (by decide +kernel)) (fun _ h9 => h9) rfl dX3_awaitedBy_6 ?_
  refine lv_topl (fun x1 ex1 => ?_)
  refine lv_aload_n hx hb dX3_awaitedBy_9 rfl (lv_at hl 0 rfl) ?_
  refine va_get (D := (dC, dI)) (ci := 4) (v := .long (L 6)) (C := RX3) (T := TX3) (N := 4) hx hb hts in_x_jawaited_X3 hown hK hP 14 rfl rfl 2 (by decide) (hts (.fieldLink RX3 19 "ServiceTree$Jobs" "stops" "J") (by decide +kernel)) (fun _ h9 => h9) rfl dX3_awaitedBy_10 ?_
  refine lv_topl (fun x2 ex2 => ?_)
  have hFc := mw_free hD hS hA
  refine va_calll (va_runV (As := [.int (nI av), .long x1, .long x2]) (rest := []) ⟨hx, hb, hml, hown, hts⟩ (c_x_rawaited l dC dI h a e cI cJ cO cE L I M J n cap fE sd si sa dl (b) av x1 x2 s.heap.size hX (by omega) (by omega)) (cwV 3 hts wc_x_jawaited_x_rawaited_29 rfl rfl rfl (by decide +kernel) ⟨Nat.le_of_ble_eq_true rfl, Nat.le_of_ble_eq_true rfl⟩) ⟨fun a9 U g mk q => by obtain ⟨q0, q1, qP, qK, qD, qN⟩ := q; exact ⟨q0, q1, qP, va_K.moved (u := U) (U := U.calling g mk a9) (Vm.Alike.refl U.vm) qK, qD, pw_N.same (u := U) (U := U.calling g mk a9) rfl qN⟩, va_recv hK hP (ci := 6) (q0 := 2) rfl rfl, fun U hU hW => ⟨rfl, by rw [hU], by rw [hU]; exact hP, va_K.moved hW.alike hK, hD.weaken (fun _ _ _ _ => trivial), pw_N.warm hW hN⟩⟩ rfl rfl hl.1 rfl (lv_room (Nat.le_of_ble_eq_true rfl)) dX3_awaitedBy_13 ⟨Nat.le_of_ble_eq_true rfl, Nat.le_of_ble_eq_true rfl⟩) hS (fun q _ h => hFc q h) hFc (fun r3 u t H1 locs ht hvm hw hB hz1 hk1 hS => ?_)
  replace hP := hB.1
  rw [ht] at hP
  replace hD : va_D A (xW h a e cI cJ cO cE L I M J n cap fE sd si sa dl) := hB.2.weaken (fun _ q _ h9 => hFc q.1 h9)
  clear hB
  generalize H1 = H at hP hS ⊢
  replace hP : va_P (dC, dI) vwCl (xW h a e cI cJ cO cE L I M J n cap fE sd si sa dl) H := hP
  exact W.lret (v := r3) hx hb hr (fun t ht hW => ⟨⟨r3, (), rfl, trivial, by rw [ht]; exact hP, hD⟩, hS.F ht⟩) hS.2.2 dX3_awaitedBy_16
def wq_x_awaiting : List Cond := [.code yX3_awaiting cX3_awaiting 5 (some .long), .initialized RX8, .static yX8_holds, .static yX8_only, .methodLink RX3 35 yX3_awaitedBy, .instanceMethod yX3_awaitedBy, .selects RX3 yX3_awaitedBy yX3_awaitedBy, .initialized RX3] ++ (wq_x_jawaited ++ (wq_x_holds ++ (wq_x_only)))
set_option maxRecDepth 20000 in
theorem wi_x_awaiting : ∀ w ∈ wq_x_awaiting, w ∈ lw_tbl := List.forall_mem_append.mpr ⟨(by decide +kernel), List.forall_mem_append.mpr ⟨wi_x_jawaited, List.forall_mem_append.mpr ⟨wi_x_holds, wi_x_only⟩⟩⟩
set_option maxRecDepth 20000 in
theorem wg_x_awaiting : GoodIn wq_x_awaiting wq_x_awaiting := goodIn_sub (fun _ h => h) (by decide +kernel)
set_option maxRecDepth 20000 in
theorem wc_x_awaiting_x_jawaited_35 : GoodIn wq_x_awaiting (wsV RX3 35 RX3 yX3_awaitedBy wq_x_jawaited) := goodIn_app (goodIn_of _ (by decide +kernel)) (fun w h => ⟨List.mem_append_right _ (List.mem_append_left _ (h)), (wg_x_jawaited w h).2⟩)
theorem wc_x_awaiting_x_holds_25 : GoodIn wq_x_awaiting wq_x_holds := (fun w h => ⟨List.mem_append_right _ (List.mem_append_right _ (List.mem_append_left _ (h))), (wg_x_holds w h).2⟩)
theorem wc_x_awaiting_x_only_38 : GoodIn wq_x_awaiting wq_x_only := (fun w h => ⟨List.mem_append_right _ (List.mem_append_right _ (List.mem_append_right _ (h))), (wg_x_only w h).2⟩)
def rm_x_awaiting : Room := { frames := 3, cells := 0, slots := 0, locals := 68 }
set_option maxHeartbeats 4000000 in
set_option maxRecDepth 100000 in
theorem c_x_awaiting (l : Launch) (dC : Nat → ClassId) (dI : Nat → Nat → Nat) (h : Nat) (a : Nat → Nat) (e : Nat) (cI cJ cO cE : ClassId) (L : Nat → Int64) (I : Nat → Int32) (M : Nat → Nat → Int64) (J : Nat → Nat → Int32) (n cap : Nat) (fE : Nat → Option Nat) (sd : Nat → Nat → Nat) (si : Nat → Nat → Int32) (sa : Nat → Nat → Nat → Int32) (dl : Nat → Nat) (b : Nat) (p0 : Int32) (sz : Nat) (hX0 : InvX n cap fE sd dl b I J si) (hb0 : b + 0 < 2147483648)  : Met l yX3_awaiting wq_x_awaiting rm_x_awaiting (va_Pc [.ref (a 3), .int p0] (fun U => U.heap.size = sz ∧ va_P (dC, dI) vwCl (xW h a e cI cJ cO cE L I M J n cap fE sd si sa dl) U.heap ∧ va_K (dC, dI) vwCl (xT cI cJ cO cE) U ∧ va_D (fun _ => True) (xW h a e cI cJ cO cE L I M J n cap fE sd si sa dl) ∧ pw_N U)) (va_Ql (fun (r : Int64) (u : Unit) => (True)) (fun (u : Unit) (t : State) => va_P (dC, dI) vwCl (xW h a e cI cJ cO cE L I M J n cap fE sd si sa dl) t.heap ∧ va_D (va_A (xW h a e cI cJ cO cE L I M J n cap fE sd si sa dl) sz) (xW h a e cI cJ cO cE L I M J n cap fE sd si sa dl)) (va_A (xW h a e cI cJ cO cE L I M J n cap fE sd si sa dl) sz)) 0 0 (va_A (xW h a e cI cJ cO cE L I M J n cap fE sd si sa dl) sz) := by
  have hn : n ≤ 40 := hX0.1.1
  have hX := hX0
  refine Met.ofW (cc := cX3_awaiting) (maxL := 5) (ret := (some .long)) (by decide) rfl ?_
  intro p e9 s m args below meth c s₁ B hml hv
  obtain ⟨rfl, hsz, hP, hK, hD0, hN⟩ := hv
  have hx := B.exec
  have hb := B.bytes
  have hr := B.returns
  have hts := atoms_spec (ws := wq_x_awaiting) B.pre
  have hown : s.vm.findClass RX3 = some m.cls := findClass_of_methodNamed B.named
  have hlocks := B.notSynchronized
  subst hsz
  have hD := hD0.self (sz := s.heap.size)
  generalize hAe : va_A (xW h a e cI cJ cO cE L I M J n cap fE sd si sa dl) s.heap.size = A at hD ⊢
  have hA : ∀ q : Nat, s.heap.size ≤ q → A q := fun q h => by rw [← hAe]; exact Or.inr h
  have hS : va_S A s.heap s.heap [] := va_S.rf
  have hl := lv_entry ([.ref (a 3), .int p0]) (n := 5) (Nat.le_of_ble_eq_true rfl)
  rw [lg_entry_eq]
  generalize (lg_sl ([.ref (a 3), .int p0]) ++ List.replicate (5 - (lg_sl ([.ref (a 3), .int p0])).length) Slot.unset).toArray = ls at hl ⊢
  have hl : lv_has ls 5 [(0, .ref (a 3)), (1, .int p0)] := hl
  refine mw_Q (fun Q0 hQ => ?_)
  refine lv_lconst (v := 0) hx hb dX3_awaiting_0 (by decide) ?_
  refine lv_lstore_n (lv' := [(2, .long 0), (0, .ref (a 3)), (1, .int p0)]) hx hb dX3_awaiting_1 rfl hl (by decide) rfl (fun ls hl => ?_)
  refine lv_iconst (v := 0) hx hb dX3_awaiting_2 (by decide) ?_
  refine lv_istore (lv' := [(4, .int 0), (2, .long 0), (0, .ref (a 3)), (1, .int p0)]) hx hb dX3_awaiting_3 hl (by decide) rfl (fun ls hl => ?_)
  have lp4 : ∀ (fu2 i1 : Nat) (y5 : Int64)  (H : Heap) (locs : List Loc) (ls : Array Slot), 40 < i1 + fu2 → i1 ≤ 40 → va_P (dC, dI) vwCl (xW h a e cI cJ cO cE L I M J n cap fE sd si sa dl) H → va_D A (xW h a e cI cJ cO cE L I M J n cap fE sd si sa dl) → va_S A s.heap H locs → lv_has ls 5 [(4, .int (nI i1)), (2, .long y5), (0, .ref (a 3)), (1, .int p0)] → W p l e9 (headSpec wq_x_awaiting rm_x_awaiting).room s m ([.ref (a 3), .int p0] : List Value).toArray below meth c H locs 0 0 Q0 (F0 m 5 ls []) := by
    intro fu2
    induction fu2 with
    | zero =>
      intro i1 y5  H locs ls hf hi
      exact absurd hf (by omega)
    | succ fu2 ih3 =>
      intro i1 y5  H locs ls hfi1 hii1 hP hD hS hl
      refine lv_iload hx hb dX3_awaiting_5 (lv_at hl 0 rfl) ?_
      refine lv_bipush (v := 40) hx hb dX3_awaiting_7 (by decide) ?_
      refine lv_icmp_ge (tgt := 39) hx hb dX3_awaiting_9 (by decide) (fun c6 => ?_) (fun c6 => ?_)
      · replace c6 : 40 ≤ i1 := (nI_leI (a := 40) (b := i1) (by omega) (by omega)).mp c6
        refine lv_lload_n hx hb dX3_awaiting_39 rfl (lv_at hl 1 rfl) ?_
        rw [hQ]
        exact W.lret (v := y5) hx hb hr (fun t ht hW => ⟨⟨y5, (), rfl, trivial, by rw [ht]; exact hP, hD⟩, hS.F ht⟩) hS.2.2 dX3_awaiting_40
      · replace c6 : ¬ (40 ≤ i1) := fun q9 => c6 ((nI_leI (a := 40) (b := i1) (by omega) (by omega)).mpr q9)
        refine lv_aload_n hx hb dX3_awaiting_12 rfl (lv_at hl 2 rfl) ?_
        refine lv_iload hx hb dX3_awaiting_13 (lv_at hl 0 rfl) ?_
        have hFc := mw_free hD hS hA
        refine va_calll (va_runV (As := [.int (nI i1)]) (rest := []) ⟨hx, hb, hml, hown, hts⟩ (c_x_jawaited l dC dI h a e cI cJ cO cE L I M J n cap fE sd si sa dl (b) i1 H.size hX (by omega) (by omega)) (cwV 1 hts wc_x_awaiting_x_jawaited_35 rfl rfl rfl (by decide +kernel) ⟨Nat.le_of_ble_eq_true rfl, Nat.le_of_ble_eq_true rfl⟩) ⟨fun a9 U g mk q => by obtain ⟨q0, q1, qP, qK, qD, qN⟩ := q; exact ⟨q0, q1, qP, va_K.moved (u := U) (U := U.calling g mk a9) (Vm.Alike.refl U.vm) qK, qD, pw_N.same (u := U) (U := U.calling g mk a9) rfl qN⟩, va_recv hK hP (ci := 4) (q0 := 14) rfl rfl, fun U hU hW => ⟨rfl, by rw [hU], by rw [hU]; exact hP, va_K.moved hW.alike hK, hD.weaken (fun _ _ _ _ => trivial), pw_N.warm hW hN⟩⟩ rfl rfl hl.1 rfl (lv_room (Nat.le_of_ble_eq_true rfl)) dX3_awaiting_15 ⟨Nat.le_of_ble_eq_true rfl, Nat.le_of_ble_eq_true rfl⟩) hS (fun q _ h => hFc q h) hFc (fun r7 u t H1 locs ht hvm hw hB hz1 hk1 hS => ?_)
        replace hP := hB.1
        rw [ht] at hP
        replace hD : va_D A (xW h a e cI cJ cO cE L I M J n cap fE sd si sa dl) := hB.2.weaken (fun _ q _ h9 => hFc q.1 h9)
        clear hB
        generalize H1 = H at hP hS ⊢
        replace hP : va_P (dC, dI) vwCl (xW h a e cI cJ cO cE L I M J n cap fE sd si sa dl) H := hP
        refine lv_iload_n hx hb dX3_awaiting_18 rfl (lv_at hl 3 rfl) ?_
        have hFc := mw_free hD hS hA
        refine va_calli (va_runSN (As := [.long r7, .int p0]) (rest := []) ⟨hx, hb, hml, hown, hts⟩ (c_x_holds l dC dI h a e cI cJ cO cE L I M J n cap fE sd si sa dl (b) r7 p0 H.size hX (by omega) ) ⟨va_cnB 2 hts wc_x_awaiting_x_holds_25 rfl rfl rfl (hN (.methodLinkNest RX3 25 yX8_holds "ServiceTree") (by decide +kernel)) (hts (.initialized RX8) (by decide +kernel)) (by decide +kernel) ⟨Nat.le_of_ble_eq_true rfl, Nat.le_of_ble_eq_true rfl⟩, hts (.static yX8_holds) (by decide +kernel), trivial⟩ ⟨fun a9 U g mk q => by obtain ⟨q0, q1, qP, qK, qD, qN⟩ := q; exact ⟨q0, q1, qP, va_K.moved (u := U) (U := U.calling g mk a9) (Vm.Alike.refl U.vm) qK, qD, pw_N.same (u := U) (U := U.calling g mk a9) rfl qN⟩, fun U hU hW => ⟨rfl, by rw [hU], by rw [hU]; exact hP, va_K.moved hW.alike hK, hD.weaken (fun _ _ _ _ => trivial), pw_N.warm hW hN⟩⟩ rfl rfl hl.1 rfl (lv_room (Nat.le_of_ble_eq_true rfl)) dX3_awaiting_19 ⟨Nat.le_of_ble_eq_true rfl, Nat.le_of_ble_eq_true rfl⟩) hS (fun q _ h => hFc q h) hFc (fun r8 u t H1 locs ht hvm hw hB hz1 hk1 hS => ?_)
        replace hP := hB.1
        rw [ht] at hP
        replace hD : va_D A (xW h a e cI cJ cO cE L I M J n cap fE sd si sa dl) := hB.2.weaken (fun _ q _ h9 => hFc q.1 h9)
        clear hB
        generalize H1 = H at hP hS ⊢
        replace hP : va_P (dC, dI) vwCl (xW h a e cI cJ cO cE L I M J n cap fE sd si sa dl) H := hP
        have br8 := hw
        refine lv_if_eq (tgt := 33) hx hb dX3_awaiting_22 (by decide) (fun c9 => ?_) (fun c9 => ?_)
        · refine lv_iinc (v := (nI (i1 + 1))) (lv' := [(4, .int (nI (i1 + 1))), (2, .long y5), (0, .ref (a 3)), (1, .int p0)]) hx hb dX3_awaiting_33 hl (k := 0) rfl (nI_add i1 1) (by decide) rfl (fun ls hl => ?_)
          refine lv_goto (tgt := 5) hx hb dX3_awaiting_36 (by decide) ?_
          exact ih3 (i1 + 1) y5  _ _ _ (by omega) (by omega)  hP hD hS (lv_sub hl [0, 1, 2, 3] rfl)
        · refine lv_lload_n hx hb dX3_awaiting_25 rfl (lv_at hl 1 rfl) ?_
          refine lv_iload hx hb dX3_awaiting_26 (lv_at hl 0 rfl) ?_
          have hFc := mw_free hD hS hA
          refine va_calll (va_runSN (As := [.int (nI i1)]) (rest := [.long y5]) ⟨hx, hb, hml, hown, hts⟩ (c_x_only l dC dI h a e cI cJ cO cE L I M J n cap fE sd si sa dl (b) (nI i1) H.size hX (by omega) ) ⟨va_cnB 1 hts wc_x_awaiting_x_only_38 rfl rfl rfl (hN (.methodLinkNest RX3 38 yX8_only "ServiceTree") (by decide +kernel)) (hts (.initialized RX8) (by decide +kernel)) (by decide +kernel) ⟨Nat.le_of_ble_eq_true rfl, Nat.le_of_ble_eq_true rfl⟩, hts (.static yX8_only) (by decide +kernel), trivial⟩ ⟨fun a9 U g mk q => by obtain ⟨q0, q1, qP, qK, qD, qN⟩ := q; exact ⟨q0, q1, qP, va_K.moved (u := U) (U := U.calling g mk a9) (Vm.Alike.refl U.vm) qK, qD, pw_N.same (u := U) (U := U.calling g mk a9) rfl qN⟩, fun U hU hW => ⟨rfl, by rw [hU], by rw [hU]; exact hP, va_K.moved hW.alike hK, hD.weaken (fun _ _ _ _ => trivial), pw_N.warm hW hN⟩⟩ rfl rfl hl.1 rfl (lv_room (Nat.le_of_ble_eq_true rfl)) dX3_awaiting_28 ⟨Nat.le_of_ble_eq_true rfl, Nat.le_of_ble_eq_true rfl⟩) hS (fun q _ h => hFc q h) hFc (fun r10 u t H1 locs ht hvm hw hB hz1 hk1 hS => ?_)
          replace hP := hB.1
          rw [ht] at hP
          replace hD : va_D A (xW h a e cI cJ cO cE L I M J n cap fE sd si sa dl) := hB.2.weaken (fun _ q _ h9 => hFc q.1 h9)
          clear hB
          generalize H1 = H at hP hS ⊢
          replace hP : va_P (dC, dI) vwCl (xW h a e cI cJ cO cE L I M J n cap fE sd si sa dl) H := hP
          refine lv_lor hx hb dX3_awaiting_31 ?_
          refine lv_topl (fun x11 ex11 => ?_)
          refine lv_lstore_n (lv' := [(2, .long x11), (4, .int (nI i1)), (0, .ref (a 3)), (1, .int p0)]) hx hb dX3_awaiting_32 rfl hl (by decide) rfl (fun ls hl => ?_)
          refine lv_iinc (v := (nI (i1 + 1))) (lv' := [(4, .int (nI (i1 + 1))), (2, .long x11), (0, .ref (a 3)), (1, .int p0)]) hx hb dX3_awaiting_33 hl (k := 1) rfl (nI_add i1 1) (by decide) rfl (fun ls hl => ?_)
          refine lv_goto (tgt := 5) hx hb dX3_awaiting_36 (by decide) ?_
          exact ih3 (i1 + 1) x11  _ _ _ (by omega) (by omega)  hP hD hS (lv_sub hl [0, 1, 2, 3] rfl)
  exact lp4 (40 + 1) 0 0  _ _ _ (by omega) (by omega)  hP hD hS hl
def wq_x_leastReady : List Cond := [.code yX3_leastReady cX3_leastReady 4 (some .int), .fieldLink RX3 22 "ServiceTree$Jobs" "begun" "J", .constantLong RX3 45 (-1), .initialized RX8, .static yX8_holds, .methodLink RX3 41 yX3_left, .instanceMethod yX3_left, .selects RX3 yX3_left yX3_left, .initialized RX3, .methodLink RX3 35 yX3_awaitedBy, .instanceMethod yX3_awaitedBy, .selects RX3 yX3_awaitedBy yX3_awaitedBy] ++ (wsX30 ++ (wq_x_left ++ (wq_x_holds ++ (wq_x_jawaited))))
theorem in_x_leastReady_X3 : ∀ w ∈ wsX30, w ∈ wq_x_leastReady := fun _ h => List.mem_append_right _ (List.mem_append_left _ (h))
set_option maxRecDepth 20000 in
theorem wi_x_leastReady : ∀ w ∈ wq_x_leastReady, w ∈ lw_tbl := List.forall_mem_append.mpr ⟨(by decide +kernel), List.forall_mem_append.mpr ⟨inKX3, List.forall_mem_append.mpr ⟨wi_x_left, List.forall_mem_append.mpr ⟨wi_x_holds, wi_x_jawaited⟩⟩⟩⟩
set_option maxRecDepth 20000 in
theorem wg_x_leastReady : GoodIn wq_x_leastReady wq_x_leastReady := goodIn_sub (fun _ h => h) (by decide +kernel)
set_option maxRecDepth 20000 in
theorem wc_x_leastReady_x_left_41 : GoodIn wq_x_leastReady (wsV RX3 41 RX3 yX3_left wq_x_left) := goodIn_app (goodIn_of _ (by decide +kernel)) (fun w h => ⟨List.mem_append_right _ (List.mem_append_right _ (List.mem_append_left _ (h))), (wg_x_left w h).2⟩)
theorem wc_x_leastReady_x_holds_25 : GoodIn wq_x_leastReady wq_x_holds := (fun w h => ⟨List.mem_append_right _ (List.mem_append_right _ (List.mem_append_right _ (List.mem_append_left _ (h)))), (wg_x_holds w h).2⟩)
set_option maxRecDepth 20000 in
theorem wc_x_leastReady_x_jawaited_35 : GoodIn wq_x_leastReady (wsV RX3 35 RX3 yX3_awaitedBy wq_x_jawaited) := goodIn_app (goodIn_of _ (by decide +kernel)) (fun w h => ⟨List.mem_append_right _ (List.mem_append_right _ (List.mem_append_right _ (List.mem_append_right _ (h)))), (wg_x_jawaited w h).2⟩)
def rm_x_leastReady : Room := { frames := 3, cells := 0, slots := 0, locals := 68 }
set_option maxHeartbeats 4000000 in
set_option maxRecDepth 100000 in
theorem c_x_leastReady (l : Launch) (dC : Nat → ClassId) (dI : Nat → Nat → Nat) (h : Nat) (a : Nat → Nat) (e : Nat) (cI cJ cO cE : ClassId) (L : Nat → Int64) (I : Nat → Int32) (M : Nat → Nat → Int64) (J : Nat → Nat → Int32) (n cap : Nat) (fE : Nat → Option Nat) (sd : Nat → Nat → Nat) (si : Nat → Nat → Int32) (sa : Nat → Nat → Nat → Int32) (dl : Nat → Nat) (b : Nat)  (sz : Nat) (hX0 : InvX n cap fE sd dl b I J si) (hb0 : b + 0 < 2147483648)  : Met l yX3_leastReady wq_x_leastReady rm_x_leastReady (va_Pc [.ref (a 3)] (fun U => U.heap.size = sz ∧ va_P (dC, dI) vwCl (xW h a e cI cJ cO cE L I M J n cap fE sd si sa dl) U.heap ∧ va_K (dC, dI) vwCl (xT cI cJ cO cE) U ∧ va_D (fun _ => True) (xW h a e cI cJ cO cE L I M J n cap fE sd si sa dl) ∧ pw_N U)) (va_Qi (fun (r : Int32) (u : Unit) => (True)) (fun (u : Unit) (t : State) => va_P (dC, dI) vwCl (xW h a e cI cJ cO cE L I M J n cap fE sd si sa dl) t.heap ∧ va_D (va_A (xW h a e cI cJ cO cE L I M J n cap fE sd si sa dl) sz) (xW h a e cI cJ cO cE L I M J n cap fE sd si sa dl)) (va_A (xW h a e cI cJ cO cE L I M J n cap fE sd si sa dl) sz)) 0 0 (va_A (xW h a e cI cJ cO cE L I M J n cap fE sd si sa dl) sz) := by
  have hn : n ≤ 40 := hX0.1.1
  have hX := hX0
  refine Met.ofW (cc := cX3_leastReady) (maxL := 4) (ret := (some .int)) (by decide) rfl ?_
  intro p e9 s m args below meth c s₁ B hml hv
  obtain ⟨rfl, hsz, hP, hK, hD0, hN⟩ := hv
  have hx := B.exec
  have hb := B.bytes
  have hr := B.returns
  have hts := atoms_spec (ws := wq_x_leastReady) B.pre
  have hown : s.vm.findClass RX3 = some m.cls := findClass_of_methodNamed B.named
  have hlocks := B.notSynchronized
  subst hsz
  have hD := hD0.self (sz := s.heap.size)
  generalize hAe : va_A (xW h a e cI cJ cO cE L I M J n cap fE sd si sa dl) s.heap.size = A at hD ⊢
  have hA : ∀ q : Nat, s.heap.size ≤ q → A q := fun q h => by rw [← hAe]; exact Or.inr h
  have hS : va_S A s.heap s.heap [] := va_S.rf
  have hl := lv_entry ([.ref (a 3)]) (n := 4) (Nat.le_of_ble_eq_true rfl)
  rw [lg_entry_eq]
  generalize (lg_sl ([.ref (a 3)]) ++ List.replicate (4 - (lg_sl ([.ref (a 3)])).length) Slot.unset).toArray = ls at hl ⊢
  have hl : lv_has ls 4 [(0, .ref (a 3))] := hl
  refine mw_Q (fun Q0 hQ => ?_)
  refine lv_aload_n hx hb dX3_leastReady_0 rfl (lv_at hl 0 rfl) ?_
  have hFc := mw_free hD hS hA
  refine va_calll (va_runV (As := []) (rest := []) ⟨hx, hb, hml, hown, hts⟩ (c_x_left l dC dI h a e cI cJ cO cE L I M J n cap fE sd si sa dl (b)  s.heap.size hX (by omega) ) (cwV 0 hts wc_x_leastReady_x_left_41 rfl rfl rfl (by decide +kernel) ⟨Nat.le_of_ble_eq_true rfl, Nat.le_of_ble_eq_true rfl⟩) ⟨fun a9 U g mk q => by obtain ⟨q0, q1, qP, qK, qD, qN⟩ := q; exact ⟨q0, q1, qP, va_K.moved (u := U) (U := U.calling g mk a9) (Vm.Alike.refl U.vm) qK, qD, pw_N.same (u := U) (U := U.calling g mk a9) rfl qN⟩, va_recv hK hP (ci := 4) (q0 := 14) rfl rfl, fun U hU hW => ⟨rfl, by rw [hU], by rw [hU]; exact hP, va_K.moved hW.alike hK, hD.weaken (fun _ _ _ _ => trivial), pw_N.warm hW hN⟩⟩ rfl rfl hl.1 rfl (lv_room (Nat.le_of_ble_eq_true rfl)) dX3_leastReady_1 ⟨Nat.le_of_ble_eq_true rfl, Nat.le_of_ble_eq_true rfl⟩) hS (fun q _ h => hFc q h) hFc (fun r1 u t H1 locs ht hvm hw hB hz1 hk1 hS => ?_)
  replace hP := hB.1
  rw [ht] at hP
  replace hD : va_D A (xW h a e cI cJ cO cE L I M J n cap fE sd si sa dl) := hB.2.weaken (fun _ q _ h9 => hFc q.1 h9)
  clear hB
  generalize H1 = H at hP hS ⊢
  replace hP : va_P (dC, dI) vwCl (xW h a e cI cJ cO cE L I M J n cap fE sd si sa dl) H := hP
  refine lv_aload_n hx hb dX3_leastReady_4 rfl (lv_at hl 0 rfl) ?_
  refine va_get (D := (dC, dI)) (ci := 4) (v := .long (L 7)) (C := RX3) (T := TX3) (N := 4) hx hb hts in_x_leastReady_X3 hown hK hP 14 rfl rfl 3 (by decide) (hts (.fieldLink RX3 22 "ServiceTree$Jobs" "begun" "J") (by decide +kernel)) (fun _ h9 => h9) rfl dX3_leastReady_5 ?_
  refine lv_topl (fun x2 ex2 => ?_)
  refine lv_ldc2 (v := (-1)) hx hb hown (hts (.constantLong RX3 45 (-1)) (by decide +kernel)) dX3_leastReady_8 ?_
  refine lv_lxor hx hb dX3_leastReady_11 ?_
  refine lv_topl (fun x3 ex3 => ?_)
  refine lv_land hx hb dX3_leastReady_12 ?_
  refine lv_topl (fun x4 ex4 => ?_)
  refine lv_lstore_n (lv' := [(1, .long x4), (0, .ref (a 3))]) hx hb dX3_leastReady_13 rfl hl (by decide) rfl (fun ls hl => ?_)
  refine lv_iconst (v := 0) hx hb dX3_leastReady_14 (by decide) ?_
  refine lv_istore_n (lv' := [(3, .int 0), (1, .long x4), (0, .ref (a 3))]) hx hb dX3_leastReady_15 rfl hl (by decide) rfl (fun ls hl => ?_)
  have lp8 : ∀ (fu6 i5 : Nat)   (H : Heap) (locs : List Loc) (ls : Array Slot), 40 < i5 + fu6 → i5 ≤ 40 → va_P (dC, dI) vwCl (xW h a e cI cJ cO cE L I M J n cap fE sd si sa dl) H → va_D A (xW h a e cI cJ cO cE L I M J n cap fE sd si sa dl) → va_S A s.heap H locs → lv_has ls 4 [(3, .int (nI i5)), (1, .long x4), (0, .ref (a 3))] → W p l e9 (headSpec wq_x_leastReady rm_x_leastReady).room s m ([.ref (a 3)] : List Value).toArray below meth c H locs 0 0 Q0 (F0 m 16 ls []) := by
    intro fu6
    induction fu6 with
    | zero =>
      intro i5   H locs ls hf hi
      exact absurd hf (by omega)
    | succ fu6 ih7 =>
      intro i5   H locs ls hfi5 hii5 hP hD hS hl
      refine lv_iload_n hx hb dX3_leastReady_16 rfl (lv_at hl 0 rfl) ?_
      refine lv_bipush (v := 40) hx hb dX3_leastReady_17 (by decide) ?_
      refine lv_icmp_ge (tgt := 48) hx hb dX3_leastReady_19 (by decide) (fun c9 => ?_) (fun c9 => ?_)
      · replace c9 : 40 ≤ i5 := (nI_leI (a := 40) (b := i5) (by omega) (by omega)).mp c9
        refine lv_iconst (v := (-1)) hx hb dX3_leastReady_48 (by decide) ?_
        rw [hQ]
        exact W.iret (v := (-1)) hx hb hr (fun t ht hW => ⟨⟨(-1), (), rfl, trivial, by rw [ht]; exact hP, hD⟩, hS.F ht⟩) hS.2.2 dX3_leastReady_49
      · replace c9 : ¬ (40 ≤ i5) := fun q9 => c9 ((nI_leI (a := 40) (b := i5) (by omega) (by omega)).mpr q9)
        refine lv_lload_n hx hb dX3_leastReady_22 rfl (lv_at hl 1 rfl) ?_
        refine lv_iload_n hx hb dX3_leastReady_23 rfl (lv_at hl 0 rfl) ?_
        have hFc := mw_free hD hS hA
        refine va_calli (va_runSN (As := [.long x4, .int (nI i5)]) (rest := []) ⟨hx, hb, hml, hown, hts⟩ (c_x_holds l dC dI h a e cI cJ cO cE L I M J n cap fE sd si sa dl (b) x4 (nI i5) H.size hX (by omega) ) ⟨va_cnB 2 hts wc_x_leastReady_x_holds_25 rfl rfl rfl (hN (.methodLinkNest RX3 25 yX8_holds "ServiceTree") (by decide +kernel)) (hts (.initialized RX8) (by decide +kernel)) (by decide +kernel) ⟨Nat.le_of_ble_eq_true rfl, Nat.le_of_ble_eq_true rfl⟩, hts (.static yX8_holds) (by decide +kernel), trivial⟩ ⟨fun a9 U g mk q => by obtain ⟨q0, q1, qP, qK, qD, qN⟩ := q; exact ⟨q0, q1, qP, va_K.moved (u := U) (U := U.calling g mk a9) (Vm.Alike.refl U.vm) qK, qD, pw_N.same (u := U) (U := U.calling g mk a9) rfl qN⟩, fun U hU hW => ⟨rfl, by rw [hU], by rw [hU]; exact hP, va_K.moved hW.alike hK, hD.weaken (fun _ _ _ _ => trivial), pw_N.warm hW hN⟩⟩ rfl rfl hl.1 rfl (lv_room (Nat.le_of_ble_eq_true rfl)) dX3_leastReady_24 ⟨Nat.le_of_ble_eq_true rfl, Nat.le_of_ble_eq_true rfl⟩) hS (fun q _ h => hFc q h) hFc (fun r10 u t H1 locs ht hvm hw hB hz1 hk1 hS => ?_)
        replace hP := hB.1
        rw [ht] at hP
        replace hD : va_D A (xW h a e cI cJ cO cE L I M J n cap fE sd si sa dl) := hB.2.weaken (fun _ q _ h9 => hFc q.1 h9)
        clear hB
        generalize H1 = H at hP hS ⊢
        replace hP : va_P (dC, dI) vwCl (xW h a e cI cJ cO cE L I M J n cap fE sd si sa dl) H := hP
        have br10 := hw
        refine lv_if_eq (tgt := 42) hx hb dX3_leastReady_27 (by decide) (fun c11 => ?_) (fun c11 => ?_)
        · refine lv_iinc (v := (nI (i5 + 1))) (lv' := [(3, .int (nI (i5 + 1))), (1, .long x4), (0, .ref (a 3))]) hx hb dX3_leastReady_42 hl (k := 0) rfl (nI_add i5 1) (by decide) rfl (fun ls hl => ?_)
          refine lv_goto (tgt := 16) hx hb dX3_leastReady_45 (by decide) ?_
          exact ih7 (i5 + 1)   _ _ _ (by omega) (by omega)  hP hD hS (lv_sub hl [0, 1, 2] rfl)
        · refine lv_aload_n hx hb dX3_leastReady_30 rfl (lv_at hl 2 rfl) ?_
          refine lv_iload_n hx hb dX3_leastReady_31 rfl (lv_at hl 0 rfl) ?_
          have hFc := mw_free hD hS hA
          refine va_calll (va_runV (As := [.int (nI i5)]) (rest := []) ⟨hx, hb, hml, hown, hts⟩ (c_x_jawaited l dC dI h a e cI cJ cO cE L I M J n cap fE sd si sa dl (b) i5 H.size hX (by omega) (by omega)) (cwV 1 hts wc_x_leastReady_x_jawaited_35 rfl rfl rfl (by decide +kernel) ⟨Nat.le_of_ble_eq_true rfl, Nat.le_of_ble_eq_true rfl⟩) ⟨fun a9 U g mk q => by obtain ⟨q0, q1, qP, qK, qD, qN⟩ := q; exact ⟨q0, q1, qP, va_K.moved (u := U) (U := U.calling g mk a9) (Vm.Alike.refl U.vm) qK, qD, pw_N.same (u := U) (U := U.calling g mk a9) rfl qN⟩, va_recv hK hP (ci := 4) (q0 := 14) rfl rfl, fun U hU hW => ⟨rfl, by rw [hU], by rw [hU]; exact hP, va_K.moved hW.alike hK, hD.weaken (fun _ _ _ _ => trivial), pw_N.warm hW hN⟩⟩ rfl rfl hl.1 rfl (lv_room (Nat.le_of_ble_eq_true rfl)) dX3_leastReady_32 ⟨Nat.le_of_ble_eq_true rfl, Nat.le_of_ble_eq_true rfl⟩) hS (fun q _ h => hFc q h) hFc (fun r12 u t H1 locs ht hvm hw hB hz1 hk1 hS => ?_)
          replace hP := hB.1
          rw [ht] at hP
          replace hD : va_D A (xW h a e cI cJ cO cE L I M J n cap fE sd si sa dl) := hB.2.weaken (fun _ q _ h9 => hFc q.1 h9)
          clear hB
          generalize H1 = H at hP hS ⊢
          replace hP : va_P (dC, dI) vwCl (xW h a e cI cJ cO cE L I M J n cap fE sd si sa dl) H := hP
          refine lv_lconst (v := 0) hx hb dX3_leastReady_35 (by decide) ?_
          refine W.lcmp hx hb dX3_leastReady_36 ?_
          refine lv_topi (fun x13 ex13 => ?_)
          refine lv_if_ne (tgt := 42) hx hb dX3_leastReady_37 (by decide) (fun c14 => ?_) (fun c14 => ?_)
          · refine lv_iinc (v := (nI (i5 + 1))) (lv' := [(3, .int (nI (i5 + 1))), (1, .long x4), (0, .ref (a 3))]) hx hb dX3_leastReady_42 hl (k := 0) rfl (nI_add i5 1) (by decide) rfl (fun ls hl => ?_)
            refine lv_goto (tgt := 16) hx hb dX3_leastReady_45 (by decide) ?_
            exact ih7 (i5 + 1)   _ _ _ (by omega) (by omega)  hP hD hS (lv_sub hl [0, 1, 2] rfl)
          · refine lv_iload_n hx hb dX3_leastReady_40 rfl (lv_at hl 0 rfl) ?_
            rw [hQ]
            exact W.iret (v := (nI i5)) hx hb hr (fun t ht hW => ⟨⟨(nI i5), (), rfl, trivial, by rw [ht]; exact hP, hD⟩, hS.F ht⟩) hS.2.2 dX3_leastReady_41
  exact lp8 (40 + 1) 0   _ _ _ (by omega) (by omega)  hP hD hS hl
def wq_x_noteState : List Cond := [.code yX3_noteState cX3_noteState 4 none, .fieldLink RX3 22 "ServiceTree$Jobs" "begun" "J", .initialized RX8, .static yX8_holds, .fieldLink RX3 15 "ServiceTree$Jobs" "starts" "J", .methodLink RX3 47 yX3_end, .instanceMethod yX3_end, .selects RX3 yX3_end yX3_end, .initialized RX3] ++ (wsX30 ++ (wq_x_holds ++ (wq_x_jend)))
theorem in_x_noteState_X3 : ∀ w ∈ wsX30, w ∈ wq_x_noteState := fun _ h => List.mem_append_right _ (List.mem_append_left _ (h))
set_option maxRecDepth 20000 in
theorem wi_x_noteState : ∀ w ∈ wq_x_noteState, w ∈ lw_tbl := List.forall_mem_append.mpr ⟨(by decide +kernel), List.forall_mem_append.mpr ⟨inKX3, List.forall_mem_append.mpr ⟨wi_x_holds, wi_x_jend⟩⟩⟩
set_option maxRecDepth 20000 in
theorem wg_x_noteState : GoodIn wq_x_noteState wq_x_noteState := goodIn_sub (fun _ h => h) (by decide +kernel)
theorem wc_x_noteState_x_holds_25 : GoodIn wq_x_noteState wq_x_holds := (fun w h => ⟨List.mem_append_right _ (List.mem_append_right _ (List.mem_append_left _ (h))), (wg_x_holds w h).2⟩)
set_option maxRecDepth 20000 in
theorem wc_x_noteState_x_jend_47 : GoodIn wq_x_noteState (wsV RX3 47 RX3 yX3_end wq_x_jend) := goodIn_app (goodIn_of _ (by decide +kernel)) (fun w h => ⟨List.mem_append_right _ (List.mem_append_right _ (List.mem_append_right _ (h))), (wg_x_jend w h).2⟩)
def rm_x_noteState : Room := { frames := 1, cells := 0, slots := 0, locals := 23 }
set_option maxHeartbeats 4000000 in
set_option maxRecDepth 100000 in
theorem c_x_noteState (l : Launch) (dC : Nat → ClassId) (dI : Nat → Nat → Nat) (h : Nat) (a : Nat → Nat) (e : Nat) (cI cJ cO cE : ClassId) (L : Nat → Int64) (I : Nat → Int32) (M : Nat → Nat → Int64) (J : Nat → Nat → Int32) (n cap : Nat) (fE : Nat → Option Nat) (sd : Nat → Nat → Nat) (si : Nat → Nat → Int32) (sa : Nat → Nat → Nat → Int32) (dl : Nat → Nat) (b : Nat) (p0 : Int32) (p1 : Int32) (sz : Nat) (hX0 : InvX n cap fE sd dl b I J si) (hb0 : b + 0 < 2147483648)  : Met l yX3_noteState wq_x_noteState rm_x_noteState (va_Pc [.ref (a 3), .int p0, .int p1] (fun U => U.heap.size = sz ∧ va_P (dC, dI) vwCl (xW h a e cI cJ cO cE L I M J n cap fE sd si sa dl) U.heap ∧ va_K (dC, dI) vwCl (xT cI cJ cO cE) U ∧ va_D (fun _ => True) (xW h a e cI cJ cO cE L I M J n cap fE sd si sa dl) ∧ pw_N U)) (va_Qv (fun (u : (Nat → Int64)) => InvX n cap fE sd dl (b + 0) I J si ∧ (∀ j9 : Nat, j9 ∉ ([5, 6, 7] : List Nat) → u j9 = L j9) ∧ (True)) (fun (u : (Nat → Int64)) (t : State) => va_P (dC, dI) vwCl (xW h a e cI cJ cO cE u I M J n cap fE sd si sa dl) t.heap ∧ va_D (va_A (xW h a e cI cJ cO cE L I M J n cap fE sd si sa dl) sz) (xW h a e cI cJ cO cE u I M J n cap fE sd si sa dl)) (va_A (xW h a e cI cJ cO cE L I M J n cap fE sd si sa dl) sz)) 0 0 (va_A (xW h a e cI cJ cO cE L I M J n cap fE sd si sa dl) sz) := by
  have hn : n ≤ 40 := hX0.1.1
  have hX := hX0
  have hUL : ∀ j9 : Nat, j9 ∉ ([5, 6, 7] : List Nat) → L j9 = L j9 := fun _ _ => rfl
  refine Met.ofW (cc := cX3_noteState) (maxL := 4) (ret := none) (by decide) rfl ?_
  intro p e9 s m args below meth c s₁ B hml hv
  obtain ⟨rfl, hsz, hP, hK, hD0, hN⟩ := hv
  have hx := B.exec
  have hb := B.bytes
  have hr := B.returns
  have hts := atoms_spec (ws := wq_x_noteState) B.pre
  have hown : s.vm.findClass RX3 = some m.cls := findClass_of_methodNamed B.named
  have hlocks := B.notSynchronized
  subst hsz
  have hD := hD0.self (sz := s.heap.size)
  generalize hAe : va_A (xW h a e cI cJ cO cE L I M J n cap fE sd si sa dl) s.heap.size = A at hD ⊢
  have hA : ∀ q : Nat, s.heap.size ≤ q → A q := fun q h => by rw [← hAe]; exact Or.inr h
  have hS : va_S A s.heap s.heap [] := va_S.rf
  have hl := lv_entry ([.ref (a 3), .int p0, .int p1]) (n := 4) (Nat.le_of_ble_eq_true rfl)
  rw [lg_entry_eq]
  generalize (lg_sl ([.ref (a 3), .int p0, .int p1]) ++ List.replicate (4 - (lg_sl ([.ref (a 3), .int p0, .int p1])).length) Slot.unset).toArray = ls at hl ⊢
  have hl : lv_has ls 4 [(0, .ref (a 3)), (1, .int p0), (2, .int p1)] := hl
  refine lv_aload_n hx hb dX3_noteState_0 rfl (lv_at hl 0 rfl) ?_
  refine va_get (D := (dC, dI)) (ci := 4) (v := .long (L 7)) (C := RX3) (T := TX3) (N := 4) hx hb hts in_x_noteState_X3 hown hK hP 14 rfl rfl 3 (by decide) (hts (.fieldLink RX3 22 "ServiceTree$Jobs" "begun" "J") (by decide +kernel)) (fun _ h9 => h9) rfl dX3_noteState_1 ?_
  refine lv_topl (fun x1 ex1 => ?_)
  refine lv_iload_n hx hb dX3_noteState_4 rfl (lv_at hl 1 rfl) ?_
  have hFc := mw_free hD hS hA
  refine va_calli (va_runSN (As := [.long x1, .int p0]) (rest := []) ⟨hx, hb, hml, hown, hts⟩ (c_x_holds l dC dI h a e cI cJ cO cE L I M J n cap fE sd si sa dl (b) x1 p0 s.heap.size hX (by omega) ) ⟨va_cnB 2 hts wc_x_noteState_x_holds_25 rfl rfl rfl (hN (.methodLinkNest RX3 25 yX8_holds "ServiceTree") (by decide +kernel)) (hts (.initialized RX8) (by decide +kernel)) (by decide +kernel) ⟨Nat.le_of_ble_eq_true rfl, Nat.le_of_ble_eq_true rfl⟩, hts (.static yX8_holds) (by decide +kernel), trivial⟩ ⟨fun a9 U g mk q => by obtain ⟨q0, q1, qP, qK, qD, qN⟩ := q; exact ⟨q0, q1, qP, va_K.moved (u := U) (U := U.calling g mk a9) (Vm.Alike.refl U.vm) qK, qD, pw_N.same (u := U) (U := U.calling g mk a9) rfl qN⟩, fun U hU hW => ⟨rfl, by rw [hU], by rw [hU]; exact hP, va_K.moved hW.alike hK, hD.weaken (fun _ _ _ _ => trivial), pw_N.warm hW hN⟩⟩ rfl rfl hl.1 rfl (lv_room (Nat.le_of_ble_eq_true rfl)) dX3_noteState_5 ⟨Nat.le_of_ble_eq_true rfl, Nat.le_of_ble_eq_true rfl⟩) hS (fun q _ h => hFc q h) hFc (fun r2 u t H1 locs ht hvm hw hB hz1 hk1 hS => ?_)
  replace hP := hB.1
  rw [ht] at hP
  replace hD : va_D A (xW h a e cI cJ cO cE L I M J n cap fE sd si sa dl) := hB.2.weaken (fun _ q _ h9 => hFc q.1 h9)
  clear hB
  generalize H1 = H at hP hS ⊢
  replace hP : va_P (dC, dI) vwCl (xW h a e cI cJ cO cE L I M J n cap fE sd si sa dl) H := hP
  have br2 := hw
  refine lv_if_ne (tgt := 12) hx hb dX3_noteState_8 (by decide) (fun c3 => ?_) (fun c3 => ?_)
  · refine lv_aload_n hx hb dX3_noteState_12 rfl (lv_at hl 0 rfl) ?_
    refine va_get (D := (dC, dI)) (ci := 4) (v := .long (L 5)) (C := RX3) (T := TX3) (N := 4) hx hb hts in_x_noteState_X3 hown hK hP 14 rfl rfl 1 (by decide) (hts (.fieldLink RX3 15 "ServiceTree$Jobs" "starts" "J") (by decide +kernel)) (fun _ h9 => h9) rfl dX3_noteState_13 ?_
    refine lv_topl (fun x4 ex4 => ?_)
    refine lv_iload_n hx hb dX3_noteState_16 rfl (lv_at hl 1 rfl) ?_
    have hFc := mw_free hD hS hA
    refine va_calli (va_runSN (As := [.long x4, .int p0]) (rest := []) ⟨hx, hb, hml, hown, hts⟩ (c_x_holds l dC dI h a e cI cJ cO cE L I M J n cap fE sd si sa dl (b) x4 p0 H.size hX (by omega) ) ⟨va_cnB 2 hts wc_x_noteState_x_holds_25 rfl rfl rfl (hN (.methodLinkNest RX3 25 yX8_holds "ServiceTree") (by decide +kernel)) (hts (.initialized RX8) (by decide +kernel)) (by decide +kernel) ⟨Nat.le_of_ble_eq_true rfl, Nat.le_of_ble_eq_true rfl⟩, hts (.static yX8_holds) (by decide +kernel), trivial⟩ ⟨fun a9 U g mk q => by obtain ⟨q0, q1, qP, qK, qD, qN⟩ := q; exact ⟨q0, q1, qP, va_K.moved (u := U) (U := U.calling g mk a9) (Vm.Alike.refl U.vm) qK, qD, pw_N.same (u := U) (U := U.calling g mk a9) rfl qN⟩, fun U hU hW => ⟨rfl, by rw [hU], by rw [hU]; exact hP, va_K.moved hW.alike hK, hD.weaken (fun _ _ _ _ => trivial), pw_N.warm hW hN⟩⟩ rfl rfl hl.1 rfl (lv_room (Nat.le_of_ble_eq_true rfl)) dX3_noteState_17 ⟨Nat.le_of_ble_eq_true rfl, Nat.le_of_ble_eq_true rfl⟩) hS (fun q _ h => hFc q h) hFc (fun r5 u t H1 locs ht hvm hw hB hz1 hk1 hS => ?_)
    replace hP := hB.1
    rw [ht] at hP
    replace hD : va_D A (xW h a e cI cJ cO cE L I M J n cap fE sd si sa dl) := hB.2.weaken (fun _ q _ h9 => hFc q.1 h9)
    clear hB
    generalize H1 = H at hP hS ⊢
    replace hP : va_P (dC, dI) vwCl (xW h a e cI cJ cO cE L I M J n cap fE sd si sa dl) H := hP
    have br5 := hw
    refine lv_if_eq (tgt := 36) hx hb dX3_noteState_20 (by decide) (fun c6 => ?_) (fun c6 => ?_)
    · refine lv_iload_n hx hb dX3_noteState_36 rfl (lv_at hl 2 rfl) ?_
      refine lv_if_eq (tgt := 44) hx hb dX3_noteState_37 (by decide) (fun c7 => ?_) (fun c7 => ?_)
      · refine lv_iconst (v := 0) hx hb dX3_noteState_44 (by decide) ?_
        refine lv_istore_n (lv' := [(3, .int 0), (0, .ref (a 3)), (1, .int p0), (2, .int p1)]) hx hb dX3_noteState_45 rfl hl (by decide) rfl (fun ls hl => ?_)
        refine lv_iload_n hx hb dX3_noteState_46 rfl (lv_at hl 0 rfl) ?_
        refine lv_if_ne (tgt := 55) hx hb dX3_noteState_47 (by decide) (fun c9 => absurd (by decide) c9) (fun _ => ?_)
        refine lv_aload_n hx hb dX3_noteState_50 rfl (lv_at hl 1 rfl) ?_
        refine lv_iload_n hx hb dX3_noteState_51 rfl (lv_at hl 2 rfl) ?_
        have hFc := mw_free hD hS hA
        refine va_callv (va_runV (As := [.int p0]) (rest := []) ⟨hx, hb, hml, hown, hts⟩ (c_x_jend l dC dI h a e cI cJ cO cE L I M J n cap fE sd si sa dl (b) p0 H.size hX (by omega) ) (cwV 1 hts wc_x_noteState_x_jend_47 rfl rfl rfl (by decide +kernel) ⟨Nat.le_of_ble_eq_true rfl, Nat.le_of_ble_eq_true rfl⟩) ⟨fun a9 U g mk q => by obtain ⟨q0, q1, qP, qK, qD, qN⟩ := q; exact ⟨q0, q1, qP, va_K.moved (u := U) (U := U.calling g mk a9) (Vm.Alike.refl U.vm) qK, qD, pw_N.same (u := U) (U := U.calling g mk a9) rfl qN⟩, va_recv hK hP (ci := 4) (q0 := 14) rfl rfl, fun U hU hW => ⟨rfl, by rw [hU], by rw [hU]; exact hP, va_K.moved hW.alike hK, hD.weaken (fun _ _ _ _ => trivial), pw_N.warm hW hN⟩⟩ rfl rfl hl.1 rfl (lv_room (Nat.le_of_ble_eq_true rfl)) dX3_noteState_52 ⟨Nat.le_of_ble_eq_true rfl, Nat.le_of_ble_eq_true rfl⟩) hS (fun q _ h => hFc q h) hFc (fun u t H1 locs ht hvm hw hB hz1 hk1 hS => ?_)
        obtain ⟨L9, rfl⟩ : ∃ z9, z9 = u := ⟨_, rfl⟩
        replace hP := hB.1
        rw [ht] at hP
        replace hD : va_D A (xW h a e cI cJ cO cE L9 I M J n cap fE sd si sa dl) := hB.2.weaken (fun _ q _ h9 => hFc q.1 h9)
        clear hB
        generalize H1 = H at hP hS ⊢
        replace hP : va_P (dC, dI) vwCl (xW h a e cI cJ cO cE L9 I M J n cap fE sd si sa dl) H := hP
        obtain ⟨hwX, whUL, hw⟩ := hw
        replace hX : InvX n cap fE sd dl (b) I J si := hwX
        replace hUL : ∀ j9 : Nat, j9 ∉ ([5, 6, 7] : List Nat) → L9 j9 = L j9 := mw_tr (by decide) whUL hUL
        exact W.vret hx hb hr (fun t ht hW => ⟨⟨L9, rfl, ⟨hX.mono (by omega), hUL, trivial⟩, by rw [ht]; exact hP, hD⟩, hS.F ht⟩) hS.2.2 dX3_noteState_55
      · refine lv_iconst (v := 1) hx hb dX3_noteState_40 (by decide) ?_
        refine lv_goto (tgt := 45) hx hb dX3_noteState_41 (by decide) ?_
        refine lv_istore_n (lv' := [(3, .int 1), (0, .ref (a 3)), (1, .int p0), (2, .int p1)]) hx hb dX3_noteState_45 rfl hl (by decide) rfl (fun ls hl => ?_)
        refine lv_iload_n hx hb dX3_noteState_46 rfl (lv_at hl 0 rfl) ?_
        refine lv_if_ne (tgt := 55) hx hb dX3_noteState_47 (by decide) (fun _ => ?_) (fun c9 => absurd c9 (by decide))
        exact W.vret hx hb hr (fun t ht hW => ⟨⟨L, rfl, ⟨hX.mono (by omega), hUL, trivial⟩, by rw [ht]; exact hP, hD⟩, hS.F ht⟩) hS.2.2 dX3_noteState_55
    · refine lv_iload_n hx hb dX3_noteState_23 rfl (lv_at hl 2 rfl) ?_
      refine lv_iconst (v := 1) hx hb dX3_noteState_24 (by decide) ?_
      refine lv_icmp_ne (tgt := 32) hx hb dX3_noteState_25 (by decide) (fun c10 => ?_) (fun c10 => ?_)
      · refine lv_iconst (v := 0) hx hb dX3_noteState_32 (by decide) ?_
        refine lv_goto (tgt := 45) hx hb dX3_noteState_33 (by decide) ?_
        refine lv_istore_n (lv' := [(3, .int 0), (0, .ref (a 3)), (1, .int p0), (2, .int p1)]) hx hb dX3_noteState_45 rfl hl (by decide) rfl (fun ls hl => ?_)
        refine lv_iload_n hx hb dX3_noteState_46 rfl (lv_at hl 0 rfl) ?_
        refine lv_if_ne (tgt := 55) hx hb dX3_noteState_47 (by decide) (fun c9 => absurd (by decide) c9) (fun _ => ?_)
        refine lv_aload_n hx hb dX3_noteState_50 rfl (lv_at hl 1 rfl) ?_
        refine lv_iload_n hx hb dX3_noteState_51 rfl (lv_at hl 2 rfl) ?_
        have hFc := mw_free hD hS hA
        refine va_callv (va_runV (As := [.int p0]) (rest := []) ⟨hx, hb, hml, hown, hts⟩ (c_x_jend l dC dI h a e cI cJ cO cE L I M J n cap fE sd si sa dl (b) p0 H.size hX (by omega) ) (cwV 1 hts wc_x_noteState_x_jend_47 rfl rfl rfl (by decide +kernel) ⟨Nat.le_of_ble_eq_true rfl, Nat.le_of_ble_eq_true rfl⟩) ⟨fun a9 U g mk q => by obtain ⟨q0, q1, qP, qK, qD, qN⟩ := q; exact ⟨q0, q1, qP, va_K.moved (u := U) (U := U.calling g mk a9) (Vm.Alike.refl U.vm) qK, qD, pw_N.same (u := U) (U := U.calling g mk a9) rfl qN⟩, va_recv hK hP (ci := 4) (q0 := 14) rfl rfl, fun U hU hW => ⟨rfl, by rw [hU], by rw [hU]; exact hP, va_K.moved hW.alike hK, hD.weaken (fun _ _ _ _ => trivial), pw_N.warm hW hN⟩⟩ rfl rfl hl.1 rfl (lv_room (Nat.le_of_ble_eq_true rfl)) dX3_noteState_52 ⟨Nat.le_of_ble_eq_true rfl, Nat.le_of_ble_eq_true rfl⟩) hS (fun q _ h => hFc q h) hFc (fun u t H1 locs ht hvm hw hB hz1 hk1 hS => ?_)
        obtain ⟨L12, rfl⟩ : ∃ z9, z9 = u := ⟨_, rfl⟩
        replace hP := hB.1
        rw [ht] at hP
        replace hD : va_D A (xW h a e cI cJ cO cE L12 I M J n cap fE sd si sa dl) := hB.2.weaken (fun _ q _ h9 => hFc q.1 h9)
        clear hB
        generalize H1 = H at hP hS ⊢
        replace hP : va_P (dC, dI) vwCl (xW h a e cI cJ cO cE L12 I M J n cap fE sd si sa dl) H := hP
        obtain ⟨hwX, whUL, hw⟩ := hw
        replace hX : InvX n cap fE sd dl (b) I J si := hwX
        replace hUL : ∀ j9 : Nat, j9 ∉ ([5, 6, 7] : List Nat) → L12 j9 = L j9 := mw_tr (by decide) whUL hUL
        exact W.vret hx hb hr (fun t ht hW => ⟨⟨L12, rfl, ⟨hX.mono (by omega), hUL, trivial⟩, by rw [ht]; exact hP, hD⟩, hS.F ht⟩) hS.2.2 dX3_noteState_55
      · refine lv_iconst (v := 1) hx hb dX3_noteState_28 (by decide) ?_
        refine lv_goto (tgt := 45) hx hb dX3_noteState_29 (by decide) ?_
        refine lv_istore_n (lv' := [(3, .int 1), (0, .ref (a 3)), (1, .int p0), (2, .int p1)]) hx hb dX3_noteState_45 rfl hl (by decide) rfl (fun ls hl => ?_)
        refine lv_iload_n hx hb dX3_noteState_46 rfl (lv_at hl 0 rfl) ?_
        refine lv_if_ne (tgt := 55) hx hb dX3_noteState_47 (by decide) (fun _ => ?_) (fun c9 => absurd c9 (by decide))
        exact W.vret hx hb hr (fun t ht hW => ⟨⟨L, rfl, ⟨hX.mono (by omega), hUL, trivial⟩, by rw [ht]; exact hP, hD⟩, hS.F ht⟩) hS.2.2 dX3_noteState_55
  · exact W.vret hx hb hr (fun t ht hW => ⟨⟨L, rfl, ⟨hX.mono (by omega), hUL, trivial⟩, by rw [ht]; exact hP, hD⟩, hS.F ht⟩) hS.2.2 dX3_noteState_11
