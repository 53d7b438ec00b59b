def wq_x_again2 : List Cond := [.code yX8_again cX8_again 5 (some .int), .fieldLink RX8 10 "ServiceTree" "services" "Ljava/util/ArrayList;", .classLink RX8 65 RX7, .methodLink RX8 82 yX8_exists, .instanceMethod yX8_exists, .selects RX8 yX8_exists yX8_exists, .initialized RX8, .methodLink RX8 57 yX8_within, .static yX8_within, .methodLink RX8 86 yJx4a65c_get_915e3, .instanceMethod yJx4a65c_get_915e3, .selects RJx4a65c yJx4a65c_get_915e3 yJx4a65c_get_915e3, .initialized RJx4a65c, .methodLink RX8 101 yX6_allow, .instanceMethod yX6_allow, .selects RX6 yX6_allow yX6_allow, .initialized RX6] ++ (wsX70 ++ (wsX80 ++ (wq_x_exists ++ (wq_x_within ++ (wq_x_get ++ (wq_x_allow))))))
theorem in_x_again2_X7 : ∀ w ∈ wsX70, w ∈ wq_x_again2 := fun _ h => List.mem_append_right _ (List.mem_append_left _ (h))
theorem in_x_again2_X8 : ∀ w ∈ wsX80, w ∈ wq_x_again2 := fun _ h => List.mem_append_right _ (List.mem_append_right _ (List.mem_append_left _ (h)))
set_option maxRecDepth 20000 in
theorem wi_x_again2 : ∀ w ∈ wq_x_again2, w ∈ lw_tbl := List.forall_mem_append.mpr ⟨(by decide +kernel), List.forall_mem_append.mpr ⟨inKX7, List.forall_mem_append.mpr ⟨inKX8, List.forall_mem_append.mpr ⟨wi_x_exists, List.forall_mem_append.mpr ⟨wi_x_within, List.forall_mem_append.mpr ⟨wi_x_get, wi_x_allow⟩⟩⟩⟩⟩⟩
set_option maxRecDepth 20000 in
theorem wg_x_again2 : GoodIn wq_x_again2 wq_x_again2 := goodIn_sub (fun _ h => h) (by decide +kernel)
set_option maxRecDepth 20000 in
theorem wc_x_again2_x_exists_82 : GoodIn wq_x_again2 (wsV RX8 82 RX8 yX8_exists wq_x_exists) := goodIn_app (goodIn_of _ (by decide +kernel)) (fun w h => ⟨List.mem_append_right _ (List.mem_append_right _ (List.mem_append_right _ (List.mem_append_left _ (h)))), (wg_x_exists w h).2⟩)
set_option maxRecDepth 20000 in
theorem wc_x_again2_x_within_57 : GoodIn wq_x_again2 (va_wsS RX8 57 yX8_within wq_x_within) := goodIn_app (goodIn_of _ (by decide +kernel)) (fun w h => ⟨List.mem_append_right _ (List.mem_append_right _ (List.mem_append_right _ (List.mem_append_right _ (List.mem_append_left _ (h))))), (wg_x_within w h).2⟩)
set_option maxRecDepth 20000 in
theorem wc_x_again2_x_get_86 : GoodIn wq_x_again2 (wsV RX8 86 RJx4a65c yJx4a65c_get_915e3 wq_x_get) := goodIn_app (goodIn_of _ (by decide +kernel)) (fun w h => ⟨List.mem_append_right _ (List.mem_append_right _ (List.mem_append_right _ (List.mem_append_right _ (List.mem_append_right _ (List.mem_append_left _ (h)))))), (wg_x_get w h).2⟩)
set_option maxRecDepth 20000 in
theorem wc_x_again2_x_allow_101 : GoodIn wq_x_again2 (wsV RX8 101 RX6 yX6_allow wq_x_allow) := goodIn_app (goodIn_of _ (by decide +kernel)) (fun w h => ⟨List.mem_append_right _ (List.mem_append_right _ (List.mem_append_right _ (List.mem_append_right _ (List.mem_append_right _ (List.mem_append_right _ (h)))))), (wg_x_allow w h).2⟩)
def rm_x_again2 : Room := { frames := 3, cells := 0, slots := 0, locals := 64 }
set_option maxHeartbeats 4000000 in
set_option maxRecDepth 100000 in
theorem c_x_again2 (l : Launch) (dC : Nat → ClassId) (dI : Nat → Nat → Nat) (h : Nat) (a : Nat → Nat) (e : Nat) (cI cJ cO cE : ClassId) (L : Nat → Int64) (I : Nat → Int32) (M : Nat → Nat → Int64) (J : Nat → Nat → Int32) (n cap : Nat) (fE : Nat → Option Nat) (sd : Nat → Nat → Nat) (si : Nat → Nat → Int32) (sa : Nat → Nat → Nat → Int32) (dl : Nat → Nat) (b : Nat) (p0 : Int32) (p1 : Int32) (p2 : Int32) (p3 : Int32) (sz : Nat) (hX0 : InvX n cap fE sd dl b I J si) (hb0 : b + 0 < 2147483648)  : Met l yX8_again wq_x_again2 rm_x_again2 (va_Pc [.ref h, .int p0, .int p1, .int p2, .int p3] (fun U => U.heap.size = sz ∧ va_P (dC, dI) vwCl (xW h a e cI cJ cO cE L I M J n cap fE sd si sa dl) U.heap ∧ va_K (dC, dI) vwCl (xT cI cJ cO cE) U ∧ va_D (fun _ => True) (xW h a e cI cJ cO cE L I M J n cap fE sd si sa dl) ∧ pw_N U)) (va_Qi (fun (r : Int32) (u : (Nat → Nat → Int32)) => InvX n cap fE sd dl (b + 0) I J u ∧ (∀ s9 q9 : Nat, q9 ∉ ([23, 24, 25] : List Nat) → u s9 q9 = si s9 q9) ∧ (r = (if 0 ≤ p0 ∧ p0 < nI n ∧ 1 ≤ p1 ∧ p1 ≤ 50 ∧ 0 ≤ p2 ∧ p2 ≤ 10 ∧ 1 ≤ p3 ∧ p3 ≤ 200 then 1 else -1))) (fun (u : (Nat → Nat → Int32)) (t : State) => va_P (dC, dI) vwCl (xW h a e cI cJ cO cE L I M J n cap fE sd u sa dl) t.heap ∧ va_D (va_A (xW h a e cI cJ cO cE L I M J n cap fE sd si sa dl) sz) (xW h a e cI cJ cO cE L I M J n cap fE sd u sa dl)) (va_A (xW h a e cI cJ cO cE L I M J n cap fE sd si sa dl) sz)) 0 0 (va_A (xW h a e cI cJ cO cE L I M J n cap fE sd si sa dl) sz) := by
  have hn : n ≤ 40 := hX0.1.1
  have hX := hX0
  have hUsi : ∀ s9 q9 : Nat, q9 ∉ ([23, 24, 25] : List Nat) → si s9 q9 = si s9 q9 := fun _ _ _ => rfl
  refine Met.ofW (cc := cX8_again) (maxL := 5) (ret := (some .int)) (by decide) rfl ?_
  intro p e9 s m args below meth c s₁ B hml hv
  obtain ⟨rfl, hsz, hP, hK, hD0, hN⟩ := hv
  have hx := B.exec
  have hb := B.bytes
  have hr := B.returns
  have hts := atoms_spec (ws := wq_x_again2) B.pre
  have hown : s.vm.findClass RX8 = some m.cls := findClass_of_methodNamed B.named
  have hlocks := B.notSynchronized
  subst hsz
  have hD := hD0.self (sz := s.heap.size)
  generalize hAe : va_A (xW h a e cI cJ cO cE L I M J n cap fE sd si sa dl) s.heap.size = A at hD ⊢
  have hA : ∀ q : Nat, s.heap.size ≤ q → A q := fun q h => by rw [← hAe]; exact Or.inr h
  have hS : va_S A s.heap s.heap [] := va_S.rf
  have hl := lv_entry ([.ref h, .int p0, .int p1, .int p2, .int p3]) (n := 5) (Nat.le_of_ble_eq_true rfl)
  rw [lg_entry_eq]
  generalize (lg_sl ([.ref h, .int p0, .int p1, .int p2, .int p3]) ++ List.replicate (5 - (lg_sl ([.ref h, .int p0, .int p1, .int p2, .int p3])).length) Slot.unset).toArray = ls at hl ⊢
  have hl : lv_has ls 5 [(0, .ref h), (1, .int p0), (2, .int p1), (3, .int p2), (4, .int p3)] := hl
  refine lv_aload_n hx hb dX8_again_0 rfl (lv_at hl 0 rfl) ?_
  refine lv_iload_n hx hb dX8_again_1 rfl (lv_at hl 1 rfl) ?_
  have hFc := mw_free hD hS hA
  refine va_calli (va_runV (As := [.int p0]) (rest := []) ⟨hx, hb, hml, hown, hts⟩ (c_x_exists l dC dI h a e cI cJ cO cE L I M J n cap fE sd si sa dl (b) p0 s.heap.size hX (by omega) ) (cwV 1 hts wc_x_again2_x_exists_82 rfl rfl rfl (by decide +kernel) ⟨Nat.le_of_ble_eq_true rfl, Nat.le_of_ble_eq_true rfl⟩) ⟨fun a9 U g mk q => by obtain ⟨q0, q1, qP, qK, qD, qN⟩ := q; exact ⟨q0, q1, qP, va_K.moved (u := U) (U := U.calling g mk a9) (Vm.Alike.refl U.vm) qK, qD, pw_N.same (u := U) (U := U.calling g mk a9) rfl qN⟩, va_recv hK hP (ci := 9) (q0 := 0) rfl rfl, fun U hU hW => ⟨rfl, by rw [hU], by rw [hU]; exact hP, va_K.moved hW.alike hK, hD.weaken (fun _ _ _ _ => trivial), pw_N.warm hW hN⟩⟩ rfl rfl hl.1 rfl (lv_room (Nat.le_of_ble_eq_true rfl)) dX8_again_2 ⟨Nat.le_of_ble_eq_true rfl, Nat.le_of_ble_eq_true rfl⟩) hS (fun q _ h => hFc q h) hFc (fun r1 u t H1 locs ht hvm hw hB hz1 hk1 hS => ?_)
  replace hP := hB.1
  rw [ht] at hP
  replace hD : va_D A (xW h a e cI cJ cO cE L I M J n cap fE sd si sa dl) := hB.2.weaken (fun _ q _ h9 => hFc q.1 h9)
  clear hB
  generalize H1 = H at hP hS ⊢
  replace hP : va_P (dC, dI) vwCl (xW h a e cI cJ cO cE L I M J n cap fE sd si sa dl) H := hP
  rcases hw with ⟨rfl, j2, hj2, ej2⟩ | ⟨rfl, noj2⟩
  · subst ej2
    refine lv_if_eq (tgt := 40) hx hb dX8_again_5 (by decide) (fun c9 => absurd c9 (by decide)) (fun _ => ?_)
    refine lv_iload_n hx hb dX8_again_8 rfl (lv_at hl 2 rfl) ?_
    refine lv_iconst (v := 1) hx hb dX8_again_9 (by decide) ?_
    refine lv_bipush (v := 50) hx hb dX8_again_10 (by decide) ?_
    have hFc := mw_free hD hS hA
    refine va_calli (va_runS (As := [.int p1, .int 1, .int 50]) (rest := []) ⟨hx, hb, hml, hown, hts⟩ (c_x_within l dC dI h a e cI cJ cO cE L I M J n cap fE sd si sa dl (b) p1 1 50 H.size hX (by omega) ) (va_cwS 3 hts wc_x_again2_x_within_57 rfl rfl rfl (by decide +kernel) ⟨Nat.le_of_ble_eq_true rfl, Nat.le_of_ble_eq_true rfl⟩) ⟨fun a9 U g mk q => by obtain ⟨q0, q1, qP, qK, qD, qN⟩ := q; exact ⟨q0, q1, qP, va_K.moved (u := U) (U := U.calling g mk a9) (Vm.Alike.refl U.vm) qK, qD, pw_N.same (u := U) (U := U.calling g mk a9) rfl qN⟩, fun U hU hW => ⟨rfl, by rw [hU], by rw [hU]; exact hP, va_K.moved hW.alike hK, hD.weaken (fun _ _ _ _ => trivial), pw_N.warm hW hN⟩⟩ rfl rfl hl.1 rfl (lv_room (Nat.le_of_ble_eq_true rfl)) dX8_again_12 ⟨Nat.le_of_ble_eq_true rfl, Nat.le_of_ble_eq_true rfl⟩) hS (fun q _ h => hFc q h) hFc (fun r3 u t H1 locs ht hvm hw hB hz1 hk1 hS => ?_)
    replace hP := hB.1
    rw [ht] at hP
    replace hD : va_D A (xW h a e cI cJ cO cE L I M J n cap fE sd si sa dl) := hB.2.weaken (fun _ q _ h9 => hFc q.1 h9)
    clear hB
    generalize H1 = H at hP hS ⊢
    replace hP : va_P (dC, dI) vwCl (xW h a e cI cJ cO cE L I M J n cap fE sd si sa dl) H := hP
    rcases hw with ⟨rfl, haj4, hbj4⟩ | ⟨rfl, noj4⟩
    · obtain ⟨j4, hj4, ej4⟩ := nI_of2 (n := 50) (by decide) (xw_ge1 haj4) hbj4
      have gj4 : 0 < j4 := xw_ge1p ej4 haj4
      subst ej4
      refine lv_if_eq (tgt := 40) hx hb dX8_again_15 (by decide) (fun c9 => absurd c9 (by decide)) (fun _ => ?_)
      refine lv_iload_n hx hb dX8_again_18 rfl (lv_at hl 3 rfl) ?_
      refine lv_iconst (v := 0) hx hb dX8_again_19 (by decide) ?_
      refine lv_bipush (v := 10) hx hb dX8_again_20 (by decide) ?_
      have hFc := mw_free hD hS hA
      refine va_calli (va_runS (As := [.int p2, .int 0, .int 10]) (rest := []) ⟨hx, hb, hml, hown, hts⟩ (c_x_within l dC dI h a e cI cJ cO cE L I M J n cap fE sd si sa dl (b) p2 0 10 H.size hX (by omega) ) (va_cwS 3 hts wc_x_again2_x_within_57 rfl rfl rfl (by decide +kernel) ⟨Nat.le_of_ble_eq_true rfl, Nat.le_of_ble_eq_true rfl⟩) ⟨fun a9 U g mk q => by obtain ⟨q0, q1, qP, qK, qD, qN⟩ := q; exact ⟨q0, q1, qP, va_K.moved (u := U) (U := U.calling g mk a9) (Vm.Alike.refl U.vm) qK, qD, pw_N.same (u := U) (U := U.calling g mk a9) rfl qN⟩, fun U hU hW => ⟨rfl, by rw [hU], by rw [hU]; exact hP, va_K.moved hW.alike hK, hD.weaken (fun _ _ _ _ => trivial), pw_N.warm hW hN⟩⟩ rfl rfl hl.1 rfl (lv_room (Nat.le_of_ble_eq_true rfl)) dX8_again_22 ⟨Nat.le_of_ble_eq_true rfl, Nat.le_of_ble_eq_true rfl⟩) hS (fun q _ h => hFc q h) hFc (fun r5 u t H1 locs ht hvm hw hB hz1 hk1 hS => ?_)
      replace hP := hB.1
      rw [ht] at hP
      replace hD : va_D A (xW h a e cI cJ cO cE L I M J n cap fE sd si sa dl) := hB.2.weaken (fun _ q _ h9 => hFc q.1 h9)
      clear hB
      generalize H1 = H at hP hS ⊢
      replace hP : va_P (dC, dI) vwCl (xW h a e cI cJ cO cE L I M J n cap fE sd si sa dl) H := hP
      rcases hw with ⟨rfl, haj6, hbj6⟩ | ⟨rfl, noj6⟩
      · obtain ⟨j6, hj6, ej6⟩ := nI_of2 (n := 10) (by decide) (xw_ge0 haj6) hbj6
        subst ej6
        refine lv_if_eq (tgt := 40) hx hb dX8_again_25 (by decide) (fun c9 => absurd c9 (by decide)) (fun _ => ?_)
        refine lv_iload hx hb dX8_again_28 (lv_at hl 4 rfl) ?_
        refine lv_iconst (v := 1) hx hb dX8_again_30 (by decide) ?_
        refine lv_sipush (v := 200) hx hb dX8_again_31 (by decide) ?_
        have hFc := mw_free hD hS hA
        refine va_calli (va_runS (As := [.int p3, .int 1, .int 200]) (rest := []) ⟨hx, hb, hml, hown, hts⟩ (c_x_within l dC dI h a e cI cJ cO cE L I M J n cap fE sd si sa dl (b) p3 1 200 H.size hX (by omega) ) (va_cwS 3 hts wc_x_again2_x_within_57 rfl rfl rfl (by decide +kernel) ⟨Nat.le_of_ble_eq_true rfl, Nat.le_of_ble_eq_true rfl⟩) ⟨fun a9 U g mk q => by obtain ⟨q0, q1, qP, qK, qD, qN⟩ := q; exact ⟨q0, q1, qP, va_K.moved (u := U) (U := U.calling g mk a9) (Vm.Alike.refl U.vm) qK, qD, pw_N.same (u := U) (U := U.calling g mk a9) rfl qN⟩, fun U hU hW => ⟨rfl, by rw [hU], by rw [hU]; exact hP, va_K.moved hW.alike hK, hD.weaken (fun _ _ _ _ => trivial), pw_N.warm hW hN⟩⟩ rfl rfl hl.1 rfl (lv_room (Nat.le_of_ble_eq_true rfl)) dX8_again_34 ⟨Nat.le_of_ble_eq_true rfl, Nat.le_of_ble_eq_true rfl⟩) hS (fun q _ h => hFc q h) hFc (fun r7 u t H1 locs ht hvm hw hB hz1 hk1 hS => ?_)
        replace hP := hB.1
        rw [ht] at hP
        replace hD : va_D A (xW h a e cI cJ cO cE L I M J n cap fE sd si sa dl) := hB.2.weaken (fun _ q _ h9 => hFc q.1 h9)
        clear hB
        generalize H1 = H at hP hS ⊢
        replace hP : va_P (dC, dI) vwCl (xW h a e cI cJ cO cE L I M J n cap fE sd si sa dl) H := hP
        rcases hw with ⟨rfl, haj8, hbj8⟩ | ⟨rfl, noj8⟩
        · obtain ⟨j8, hj8, ej8⟩ := nI_of2 (n := 200) (by decide) (xw_ge1 haj8) hbj8
          have gj8 : 0 < j8 := xw_ge1p ej8 haj8
          subst ej8
          refine lv_if_ne (tgt := 42) hx hb dX8_again_37 (by decide) (fun _ => ?_) (fun c9 => absurd c9 (by decide))
          refine lv_aload_n hx hb dX8_again_42 rfl (lv_at hl 0 rfl) ?_
          refine va_get (D := (dC, dI)) (ci := 9) (v := .ref (a 0)) (C := RX8) (T := TX8) (N := 14) hx hb hts in_x_again2_X8 hown hK hP 0 rfl rfl 0 (by decide) (hts (.fieldLink RX8 10 "ServiceTree" "services" "Ljava/util/ArrayList;") (by decide +kernel)) (fun _ h9 => h9) rfl dX8_again_43 ?_
          refine lv_iload_n hx hb dX8_again_46 rfl (lv_at hl 1 rfl) ?_
          have hFc := mw_free hD hS hA
          refine va_callr (va_runV (As := [.int (nI j2)]) (rest := []) ⟨hx, hb, hml, hown, hts⟩ (c_x_get l dC dI h a e cI cJ cO cE L I M J n cap fE sd si sa dl (b) j2 H.size hX (by omega) (by omega)) (cwV 1 hts wc_x_again2_x_get_86 rfl rfl rfl (by decide +kernel) ⟨Nat.le_of_ble_eq_true rfl, Nat.le_of_ble_eq_true rfl⟩) ⟨fun a9 U g mk q => by obtain ⟨q0, q1, qP, qK, qD, qN⟩ := q; exact ⟨q0, q1, qP, va_K.moved (u := U) (U := U.calling g mk a9) (Vm.Alike.refl U.vm) qK, qD, pw_N.same (u := U) (U := U.calling g mk a9) rfl qN⟩, va_recv hK hP (ci := 0) (q0 := 1) rfl rfl, fun U hU hW => ⟨rfl, by rw [hU], by rw [hU]; exact hP, va_K.moved hW.alike hK, hD.weaken (fun _ _ _ _ => trivial), pw_N.warm hW hN⟩⟩ rfl rfl hl.1 rfl (lv_room (Nat.le_of_ble_eq_true rfl)) dX8_again_47 ⟨Nat.le_of_ble_eq_true rfl, Nat.le_of_ble_eq_true rfl⟩) hS (fun q _ h => hFc q h) hFc (fun u r9 t H1 locs ht hvm hw hB hz1 hk1 hS => ?_)
          obtain ⟨hra, hB⟩ := hB
          replace hP := hB.1
          rw [ht] at hP
          replace hD : va_D A (xW h a e cI cJ cO cE L I M J n cap fE sd si sa dl) := hB.2.weaken (fun _ q _ h9 => hFc q.1 h9)
          clear hB
          generalize H1 = H at hP hS ⊢
          replace hP : va_P (dC, dI) vwCl (xW h a e cI cJ cO cE L I M J n cap fE sd si sa dl) H := hP
          subst hra
          refine va_castS hx hb hown (hts (.classLink RX8 65 RX7) (by decide +kernel)) (hK.1 8 _ rfl).2 (va_recv hK hP (ci := 8) (q0 := (22 + (6 * j2 + 0))) rfl (xAt_0 h a e cI cJ cO cE L I M J n cap fE sd si sa dl (s := j2) (by omega))) dX8_again_50 ?_
          refine va_getN (D := (dC, dI)) (ci := 8) (v := .ref (sd j2 2)) (C := RX7) (T := TX7) (N := 12) hx hb hts in_x_again2_X7 hown hK hP (22 + (6 * j2 + 0)) (xAt_0 h a e cI cJ cO cE L I M J n cap fE sd si sa dl (s := j2) (by omega)) rfl 4 (by decide) (va_Nw.use rfl (hN (.fieldLinkNest RX8 97 "ServiceTree$Service" "restarts" "LServiceTree$Restarts;" "ServiceTree") (by decide +kernel))) (fun _ h9 => h9) rfl dX8_again_53 ?_
          refine lv_iload_n hx hb dX8_again_56 rfl (lv_at hl 2 rfl) ?_
          refine lv_iload_n hx hb dX8_again_57 rfl (lv_at hl 3 rfl) ?_
          refine lv_iload hx hb dX8_again_58 (lv_at hl 4 rfl) ?_
          have hFc := mw_free hD hS hA
          refine va_callv (va_runV (As := [.int (nI j4), .int (nI j6), .int (nI j8)]) (rest := []) ⟨hx, hb, hml, hown, hts⟩ (c_x_allow l dC dI h a e cI cJ cO cE L I M J n cap fE sd si sa dl (b) j2 (nI j4) j6 (nI j8) H.size hX (by omega) (by omega) (by omega)) (cwV 3 hts wc_x_again2_x_allow_101 rfl rfl rfl (by decide +kernel) ⟨Nat.le_of_ble_eq_true rfl, Nat.le_of_ble_eq_true rfl⟩) ⟨fun a9 U g mk q => by obtain ⟨q0, q1, qP, qK, qD, qN⟩ := q; exact ⟨q0, q1, qP, va_K.moved (u := U) (U := U.calling g mk a9) (Vm.Alike.refl U.vm) qK, qD, pw_N.same (u := U) (U := U.calling g mk a9) rfl qN⟩, va_recv hK hP (ci := 7) (q0 := (22 + (6 * j2 + 2))) rfl (xAt_2 h a e cI cJ cO cE L I M J n cap fE sd si sa dl (s := j2) (by omega)), fun U hU hW => ⟨rfl, by rw [hU], by rw [hU]; exact hP, va_K.moved hW.alike hK, hD.weaken (fun _ _ _ _ => trivial), pw_N.warm hW hN⟩⟩ rfl rfl hl.1 rfl (lv_room (Nat.le_of_ble_eq_true rfl)) dX8_again_60 ⟨Nat.le_of_ble_eq_true rfl, Nat.le_of_ble_eq_true rfl⟩) hS (fun q _ h => hFc q h) hFc (fun u t H1 locs ht hvm hw hB hz1 hk1 hS => ?_)
          obtain ⟨si11, rfl⟩ : ∃ z9, z9 = u := ⟨_, rfl⟩
          replace hP := hB.1
          rw [ht] at hP
          replace hD : va_D A (xW h a e cI cJ cO cE L I M J n cap fE sd si11 sa dl) := hB.2.weaken (fun _ q _ h9 => hFc q.1 h9)
          clear hB
          generalize H1 = H at hP hS ⊢
          replace hP : va_P (dC, dI) vwCl (xW h a e cI cJ cO cE L I M J n cap fE sd si11 sa dl) H := hP
          obtain ⟨hwX, whUsi, hw⟩ := hw
          replace hX : InvX n cap fE sd dl (b) I J si11 := hwX
          replace hUsi : ∀ s9 q9 : Nat, q9 ∉ ([23, 24, 25] : List Nat) → si11 s9 q9 = si s9 q9 := xw_tr2 (by decide) whUsi hUsi
          refine lv_iconst (v := 1) hx hb dX8_again_63 (by decide) ?_
          exact W.iret (v := 1) hx hb hr (fun t ht hW => ⟨⟨1, si11, rfl, ⟨hX.mono (by omega), hUsi, (if_pos ⟨nI_pos' (by omega), nI_lt hj2 (by omega), haj4, hbj4, haj6, hbj6, haj8, hbj8⟩).symm⟩, by rw [ht]; exact hP, hD⟩, hS.F ht⟩) hS.2.2 dX8_again_64
        · refine lv_if_ne (tgt := 42) hx hb dX8_again_37 (by decide) (fun c9 => absurd (by decide) c9) (fun _ => ?_)
          refine lv_iconst (v := (-1)) hx hb dX8_again_40 (by decide) ?_
          exact W.iret (v := (-1)) hx hb hr (fun t ht hW => ⟨⟨(-1), si, rfl, ⟨hX.mono (by omega), hUsi, (if_neg (by have k0 := haj4; have k1 := hbj4; have k2 := haj6; have k3 := hbj6; have k4 := noj8; simp only [p1_le, p1_lt, p1_eq, p1_m6, p1_m1, p1_0, p1_1, p1_2, p1_3, p1_4, p1_5, p1_6, p1_7, p1_8, p1_9, p1_10, p1_11, p1_12, p1_13, p1_14, p1_15, p1_16, p1_17, p1_18, p1_19, p1_20, p1_40, p1_50, p1_200, p1_1000] at k0 k1 k2 k3 k4 ⊢; omega)).symm⟩, by rw [ht]; exact hP, hD⟩, hS.F ht⟩) hS.2.2 dX8_again_41
      · refine lv_if_eq (tgt := 40) hx hb dX8_again_25 (by decide) (fun _ => ?_) (fun c9 => absurd (by decide) c9)
        refine lv_iconst (v := (-1)) hx hb dX8_again_40 (by decide) ?_
        exact W.iret (v := (-1)) hx hb hr (fun t ht hW => ⟨⟨(-1), si, rfl, ⟨hX.mono (by omega), hUsi, (if_neg (by have k0 := haj4; have k1 := hbj4; have k2 := noj6; simp only [p1_le, p1_lt, p1_eq, p1_m6, p1_m1, p1_0, p1_1, p1_2, p1_3, p1_4, p1_5, p1_6, p1_7, p1_8, p1_9, p1_10, p1_11, p1_12, p1_13, p1_14, p1_15, p1_16, p1_17, p1_18, p1_19, p1_20, p1_40, p1_50, p1_200, p1_1000] at k0 k1 k2 ⊢; omega)).symm⟩, by rw [ht]; exact hP, hD⟩, hS.F ht⟩) hS.2.2 dX8_again_41
    · refine lv_if_eq (tgt := 40) hx hb dX8_again_15 (by decide) (fun _ => ?_) (fun c9 => absurd (by decide) c9)
      refine lv_iconst (v := (-1)) hx hb dX8_again_40 (by decide) ?_
      exact W.iret (v := (-1)) hx hb hr (fun t ht hW => ⟨⟨(-1), si, rfl, ⟨hX.mono (by omega), hUsi, (if_neg (by have k0 := noj4; simp only [p1_le, p1_lt, p1_eq, p1_m6, p1_m1, p1_0, p1_1, p1_2, p1_3, p1_4, p1_5, p1_6, p1_7, p1_8, p1_9, p1_10, p1_11, p1_12, p1_13, p1_14, p1_15, p1_16, p1_17, p1_18, p1_19, p1_20, p1_40, p1_50, p1_200, p1_1000] at k0 ⊢; omega)).symm⟩, by rw [ht]; exact hP, hD⟩, hS.F ht⟩) hS.2.2 dX8_again_41
  · refine lv_if_eq (tgt := 40) hx hb dX8_again_5 (by decide) (fun _ => ?_) (fun c9 => absurd (by decide) c9)
    refine lv_iconst (v := (-1)) hx hb dX8_again_40 (by decide) ?_
    exact W.iret (v := (-1)) hx hb hr (fun t ht hW => ⟨⟨(-1), si, rfl, ⟨hX.mono (by omega), hUsi, (if_neg (by have k0 := noj2; simp only [p1_le, p1_lt, p1_eq, p1_m6, p1_m1, p1_0, p1_1, p1_2, p1_3, p1_4, p1_5, p1_6, p1_7, p1_8, p1_9, p1_10, p1_11, p1_12, p1_13, p1_14, p1_15, p1_16, p1_17, p1_18, p1_19, p1_20, p1_40, p1_50, p1_200, p1_1000] at k0 ⊢; omega)).symm⟩, by rw [ht]; exact hP, hD⟩, hS.F ht⟩) hS.2.2 dX8_again_41
def wq_m_again2 : List Cond := [.code yX9_again cX9_again 5 (some .int), .fieldLink RX9 22 "ServiceTreeModel" "delay" "[I", .fieldLink RX9 25 "ServiceTreeModel" "budget" "[I", .fieldLink RX9 28 "ServiceTreeModel" "window" "[I", .methodLink RX9 135 yX9_is, .instanceMethod yX9_is, .selects RX9 yX9_is yX9_is, .initialized RX9] ++ (wsX90 ++ (wq_m_is))
theorem in_m_again2_X9 : ∀ w ∈ wsX90, w ∈ wq_m_again2 := fun _ h => List.mem_append_right _ (List.mem_append_left _ (h))
set_option maxRecDepth 20000 in
theorem wi_m_again2 : ∀ w ∈ wq_m_again2, w ∈ lw_tbl := List.forall_mem_append.mpr ⟨(by decide +kernel), List.forall_mem_append.mpr ⟨inKX9, wi_m_is⟩⟩
set_option maxRecDepth 20000 in
theorem wg_m_again2 : GoodIn wq_m_again2 wq_m_again2 := goodIn_sub (fun _ h => h) (by decide +kernel)
set_option maxRecDepth 20000 in
theorem wc_m_again2_m_is_135 : GoodIn wq_m_again2 (wsV RX9 135 RX9 yX9_is wq_m_is) := goodIn_app (goodIn_of _ (by decide +kernel)) (fun w h => ⟨List.mem_append_right _ (List.mem_append_right _ (h)), (wg_m_is w h).2⟩)
def rm_m_again2 : Room := { frames := 1, cells := 0, slots := 0, locals := 21 }
set_option maxHeartbeats 4000000 in
set_option maxRecDepth 100000 in
theorem c_m_again2 (l : Launch) (dC : Nat → ClassId) (dI : Nat → Nat → Nat) (h : Nat) (a : Nat → Nat) (k : Nat → ClassId) (F : Nat → Nat → Int32) (V : Nat → Int32) (n b : Nat) (p0 : Int32) (p1 : Int32) (p2 : Int32) (p3 : Int32) (sz : Nat) (hI0 : InvM n b F V) (hb0 : b + 0 < 2147483648)  : Met l yX9_again wq_m_again2 rm_m_again2 (va_Pc [.ref h, .int p0, .int p1, .int p2, .int p3] (fun U => U.heap.size = sz ∧ va_P (dC, dI) vwCl (mW h a k F V) U.heap ∧ va_K (dC, dI) vwCl (mT k) U ∧ va_D (fun _ => True) (mW h a k F V))) (va_Qi (fun (r : Int32) (u : (Nat → Nat → Int32) × (Nat → Int32)) => StM n (b + 0) F V u.1 u.2 ∧ (∀ j : Nat, j ∉ ([4, 5, 6] : List Nat) → u.1 j = F j) ∧ (∀ j : Nat, j ∉ ([] : List Nat) → u.2 j = V j) ∧ (r = (if 0 ≤ p0 ∧ p0 < nI n ∧ 1 ≤ p1 ∧ p1 ≤ 50 ∧ 0 ≤ p2 ∧ p2 ≤ 10 ∧ 1 ≤ p3 ∧ p3 ≤ 200 then 1 else -1))) (fun (u : (Nat → Nat → Int32) × (Nat → Int32)) (t : State) => va_P (dC, dI) vwCl (mW h a k u.1 u.2) t.heap ∧ va_D (va_A (mW h a k F V) sz) (mW h a k u.1 u.2)) (va_A (mW h a k F V) sz)) 0 0 (va_A (mW h a k F V) sz) := by
  have hn : n ≤ 40 := hI0.1
  have hI : StM n b F V F V := StM.rf hI0
  have hU : ∀ j : Nat, j ∉ ([4, 5, 6] : List Nat) → F j = F j := fun _ _ => rfl
  have hV : ∀ j : Nat, j ∉ ([] : List Nat) → V j = V j := fun _ _ => rfl
  refine Met.ofW (cc := cX9_again) (maxL := 5) (ret := (some .int)) (by decide) rfl ?_
  intro p e s m args below meth c s₁ B hml hv
  obtain ⟨rfl, hsz, hP, hK, hD0⟩ := hv
  have hx := B.exec
  have hb := B.bytes
  have hr := B.returns
  have hts := atoms_spec (ws := wq_m_again2) B.pre
  have hown : s.vm.findClass RX9 = some m.cls := findClass_of_methodNamed B.named
  have hlocks := B.notSynchronized
  subst hsz
  have hD := hD0.self (sz := s.heap.size)
  generalize hAe : va_A (mW h a k F V) s.heap.size = A at hD ⊢
  have hA : ∀ q : Nat, s.heap.size ≤ q → A q := fun q h => by rw [← hAe]; exact Or.inr h
  have hS : va_S A s.heap s.heap [] := va_S.rf
  have hl := lv_entry ([.ref h, .int p0, .int p1, .int p2, .int p3]) (n := 5) (Nat.le_of_ble_eq_true rfl)
  rw [lg_entry_eq]
  generalize (lg_sl ([.ref h, .int p0, .int p1, .int p2, .int p3]) ++ List.replicate (5 - (lg_sl ([.ref h, .int p0, .int p1, .int p2, .int p3])).length) Slot.unset).toArray = ls at hl ⊢
  have hl : lv_has ls 5 [(0, .ref h), (1, .int p0), (2, .int p1), (3, .int p2), (4, .int p3)] := hl
  refine lv_aload_n hx hb dX9_again_0 rfl (lv_at hl 0 rfl) ?_
  refine lv_iload_n hx hb dX9_again_1 rfl (lv_at hl 1 rfl) ?_
  have hFc := mw_free hD hS hA
  refine va_calli (va_runV (As := [.int p0]) (rest := []) ⟨hx, hb, hml, hown, hts⟩ (c_m_is l dC dI h a k F V n (b) p0 s.heap.size hI.1 (by omega) ) (cwV 1 hts wc_m_again2_m_is_135 rfl rfl rfl (by decide +kernel) ⟨Nat.le_of_ble_eq_true rfl, Nat.le_of_ble_eq_true rfl⟩) ⟨fun a9 U g mk q => by obtain ⟨q0, q1, qP, qK, qD⟩ := q; exact ⟨q0, q1, qP, va_K.moved (u := U) (U := U.calling g mk a9) (Vm.Alike.refl U.vm) qK, qD⟩, va_recv hK hP (ci := 10) (q0 := 0) rfl rfl, fun U hU hW => ⟨rfl, by rw [hU], by rw [hU]; exact hP, va_K.moved hW.alike hK, hD.weaken (fun _ _ _ _ => trivial)⟩⟩ rfl rfl hl.1 rfl (lv_room (Nat.le_of_ble_eq_true rfl)) dX9_again_2 ⟨Nat.le_of_ble_eq_true rfl, Nat.le_of_ble_eq_true rfl⟩) hS (fun q _ h => hFc q h) hFc (fun r1 u t H1 locs ht hvm hw hB hz1 hk1 hS => ?_)
  obtain ⟨F2, V3⟩ := u
  replace hP := hB.1
  rw [ht] at hP
  replace hD : va_D A (mW h a k F2 V3) := hB.2.weaken (fun _ q _ h9 => hFc q.1 h9)
  clear hB
  generalize H1 = H at hP hS ⊢
  replace hP : va_P (dC, dI) vwCl (mW h a k F2 V3) H := hP
  obtain ⟨hwF, hwV, hw⟩ : F2 = F ∧ V3 = V ∧ _ := hw
  rw [hwF, hwV] at hP hD
  rcases hw with ⟨rfl, j4, hj4, ej4⟩ | ⟨rfl, noj4⟩
  · subst ej4
    refine lv_if_eq (tgt := 43) hx hb dX9_again_5 (by decide) (fun c9 => absurd c9 (by decide)) (fun _ => ?_)
    refine lv_iload_n hx hb dX9_again_8 rfl (lv_at hl 2 rfl) ?_
    refine lv_iconst (v := 1) hx hb dX9_again_9 (by decide) ?_
    refine lv_icmp_lt (tgt := 43) hx hb dX9_again_10 (by decide) (fun c5 => ?_) (fun c5 => ?_)
    · refine lv_iconst (v := (-1)) hx hb dX9_again_43 (by decide) ?_
      exact W.iret (v := (-1)) hx hb hr (fun t ht hW => ⟨⟨(-1), (F, V), rfl, ⟨hI.mono (by omega), hU, hV, (if_neg (by have k0 := c5; have k1 := nI_lt (a := j4) (b := n) (by omega) (by omega); have k2 := nI_pos' (n := j4) (by omega); simp only [p1_le, p1_lt, p1_eq, p1_m6, p1_m1, p1_0, p1_1, p1_2, p1_3, p1_4, p1_5, p1_6, p1_7, p1_8, p1_9, p1_10, p1_11, p1_12, p1_13, p1_14, p1_15, p1_16, p1_17, p1_18, p1_19, p1_20, p1_40, p1_50, p1_200, p1_1000] at k0 k1 k2 ⊢; omega)).symm⟩, by rw [ht]; exact hP, hD⟩, hS.F ht⟩) hS.2.2 dX9_again_44
    · refine lv_iload_n hx hb dX9_again_13 rfl (lv_at hl 2 rfl) ?_
      refine lv_bipush (v := 50) hx hb dX9_again_14 (by decide) ?_
      refine lv_icmp_gt (tgt := 43) hx hb dX9_again_16 (by decide) (fun c6 => ?_) (fun c6 => ?_)
      · refine lv_iconst (v := (-1)) hx hb dX9_again_43 (by decide) ?_
        exact W.iret (v := (-1)) hx hb hr (fun t ht hW => ⟨⟨(-1), (F, V), rfl, ⟨hI.mono (by omega), hU, hV, (if_neg (by have k0 := c5; have k1 := c6; have k2 := nI_lt (a := j4) (b := n) (by omega) (by omega); have k3 := nI_pos' (n := j4) (by omega); simp only [p1_le, p1_lt, p1_eq, p1_m6, p1_m1, p1_0, p1_1, p1_2, p1_3, p1_4, p1_5, p1_6, p1_7, p1_8, p1_9, p1_10, p1_11, p1_12, p1_13, p1_14, p1_15, p1_16, p1_17, p1_18, p1_19, p1_20, p1_40, p1_50, p1_200, p1_1000] at k0 k1 k2 k3 ⊢; omega)).symm⟩, by rw [ht]; exact hP, hD⟩, hS.F ht⟩) hS.2.2 dX9_again_44
      · refine lv_iload_n hx hb dX9_again_19 rfl (lv_at hl 3 rfl) ?_
        refine lv_if_lt (tgt := 43) hx hb dX9_again_20 (by decide) (fun c7 => ?_) (fun c7 => ?_)
        · refine lv_iconst (v := (-1)) hx hb dX9_again_43 (by decide) ?_
          exact W.iret (v := (-1)) hx hb hr (fun t ht hW => ⟨⟨(-1), (F, V), rfl, ⟨hI.mono (by omega), hU, hV, (if_neg (by have k0 := c5; have k1 := c6; have k2 := c7; have k3 := nI_lt (a := j4) (b := n) (by omega) (by omega); have k4 := nI_pos' (n := j4) (by omega); simp only [p1_le, p1_lt, p1_eq, p1_m6, p1_m1, p1_0, p1_1, p1_2, p1_3, p1_4, p1_5, p1_6, p1_7, p1_8, p1_9, p1_10, p1_11, p1_12, p1_13, p1_14, p1_15, p1_16, p1_17, p1_18, p1_19, p1_20, p1_40, p1_50, p1_200, p1_1000] at k0 k1 k2 k3 k4 ⊢; omega)).symm⟩, by rw [ht]; exact hP, hD⟩, hS.F ht⟩) hS.2.2 dX9_again_44
        · refine lv_iload_n hx hb dX9_again_23 rfl (lv_at hl 3 rfl) ?_
          refine lv_bipush (v := 10) hx hb dX9_again_24 (by decide) ?_
          refine lv_icmp_gt (tgt := 43) hx hb dX9_again_26 (by decide) (fun c8 => ?_) (fun c8 => ?_)
          · refine lv_iconst (v := (-1)) hx hb dX9_again_43 (by decide) ?_
            exact W.iret (v := (-1)) hx hb hr (fun t ht hW => ⟨⟨(-1), (F, V), rfl, ⟨hI.mono (by omega), hU, hV, (if_neg (by have k0 := c5; have k1 := c6; have k2 := c7; have k3 := c8; have k4 := nI_lt (a := j4) (b := n) (by omega) (by omega); have k5 := nI_pos' (n := j4) (by omega); simp only [p1_le, p1_lt, p1_eq, p1_m6, p1_m1, p1_0, p1_1, p1_2, p1_3, p1_4, p1_5, p1_6, p1_7, p1_8, p1_9, p1_10, p1_11, p1_12, p1_13, p1_14, p1_15, p1_16, p1_17, p1_18, p1_19, p1_20, p1_40, p1_50, p1_200, p1_1000] at k0 k1 k2 k3 k4 k5 ⊢; omega)).symm⟩, by rw [ht]; exact hP, hD⟩, hS.F ht⟩) hS.2.2 dX9_again_44
          · refine lv_iload hx hb dX9_again_29 (lv_at hl 4 rfl) ?_
            refine lv_iconst (v := 1) hx hb dX9_again_31 (by decide) ?_
            refine lv_icmp_lt (tgt := 43) hx hb dX9_again_32 (by decide) (fun c9 => ?_) (fun c9 => ?_)
            · refine lv_iconst (v := (-1)) hx hb dX9_again_43 (by decide) ?_
              exact W.iret (v := (-1)) hx hb hr (fun t ht hW => ⟨⟨(-1), (F, V), rfl, ⟨hI.mono (by omega), hU, hV, (if_neg (by have k0 := c5; have k1 := c6; have k2 := c7; have k3 := c8; have k4 := c9; have k5 := nI_lt (a := j4) (b := n) (by omega) (by omega); have k6 := nI_pos' (n := j4) (by omega); simp only [p1_le, p1_lt, p1_eq, p1_m6, p1_m1, p1_0, p1_1, p1_2, p1_3, p1_4, p1_5, p1_6, p1_7, p1_8, p1_9, p1_10, p1_11, p1_12, p1_13, p1_14, p1_15, p1_16, p1_17, p1_18, p1_19, p1_20, p1_40, p1_50, p1_200, p1_1000] at k0 k1 k2 k3 k4 k5 k6 ⊢; omega)).symm⟩, by rw [ht]; exact hP, hD⟩, hS.F ht⟩) hS.2.2 dX9_again_44
            · refine lv_iload hx hb dX9_again_35 (lv_at hl 4 rfl) ?_
              refine lv_sipush (v := 200) hx hb dX9_again_37 (by decide) ?_
              refine lv_icmp_le (tgt := 45) hx hb dX9_again_40 (by decide) (fun c10 => ?_) (fun c10 => ?_)
              · refine lv_aload_n hx hb dX9_again_45 rfl (lv_at hl 0 rfl) ?_
                refine va_get (D := (dC, dI)) (ci := 10) (v := .ref (a 4)) (C := RX9) (T := TX9) (N := 46) hx hb hts in_m_again2_X9 hown hK hP 0 rfl rfl 4 (by decide) (hts (.fieldLink RX9 22 "ServiceTreeModel" "delay" "[I") (by decide +kernel)) (fun _ h9 => h9) rfl dX9_again_46 ?_
                refine lv_iload_n hx hb dX9_again_49 rfl (lv_at hl 1 rfl) ?_
                refine lv_iload_n hx hb dX9_again_50 rfl (lv_at hl 2 rfl) ?_
                refine va_iast (n := 40) (f := F 4) hx hb hK hP hD hS 5 4 rfl rfl (vp_in_nI (n := j4) (by omega) (by decide)) dX9_again_51 (fun H locs hP hD hS => ?_)
                rw [mW_set_4] at hP hD
                obtain ⟨F11, eF11⟩ : ∃ f9 : Nat → Nat → Int32, f9 = va_up F 4 (upd (F 4) (nI j4).toNatClampNeg p1) := ⟨_, rfl⟩
                rw [← eF11] at hP hD
                replace hI : StM n (b) F V F11 V := ⟨by rw [eF11]; exact hI.1.setF (by decide), trivial⟩
                replace hU : ∀ j : Nat, j ∉ ([4, 5, 6] : List Nat) → F11 j = F j := by rw [eF11]; exact mw_up (by decide) hU
                refine lv_aload_n hx hb dX9_again_52 rfl (lv_at hl 0 rfl) ?_
                refine va_get (D := (dC, dI)) (ci := 10) (v := .ref (a 5)) (C := RX9) (T := TX9) (N := 46) hx hb hts in_m_again2_X9 hown hK hP 0 rfl rfl 5 (by decide) (hts (.fieldLink RX9 25 "ServiceTreeModel" "budget" "[I") (by decide +kernel)) (fun _ h9 => h9) rfl dX9_again_53 ?_
                refine lv_iload_n hx hb dX9_again_56 rfl (lv_at hl 1 rfl) ?_
                refine lv_iload_n hx hb dX9_again_57 rfl (lv_at hl 3 rfl) ?_
                refine va_iast (n := 40) (f := F11 5) hx hb hK hP hD hS 6 5 rfl rfl (vp_in_nI (n := j4) (by omega) (by decide)) dX9_again_58 (fun H locs hP hD hS => ?_)
                rw [mW_set_5] at hP hD
                obtain ⟨F12, eF12⟩ : ∃ f9 : Nat → Nat → Int32, f9 = va_up F11 5 (upd (F11 5) (nI j4).toNatClampNeg p2) := ⟨_, rfl⟩
                rw [← eF12] at hP hD
                replace hI : StM n (b) F V F12 V := ⟨by rw [eF12]; exact hI.1.setF (by decide), trivial⟩
                replace hU : ∀ j : Nat, j ∉ ([4, 5, 6] : List Nat) → F12 j = F j := by rw [eF12]; exact mw_up (by decide) hU
                refine lv_aload_n hx hb dX9_again_59 rfl (lv_at hl 0 rfl) ?_
                refine va_get (D := (dC, dI)) (ci := 10) (v := .ref (a 6)) (C := RX9) (T := TX9) (N := 46) hx hb hts in_m_again2_X9 hown hK hP 0 rfl rfl 6 (by decide) (hts (.fieldLink RX9 28 "ServiceTreeModel" "window" "[I") (by decide +kernel)) (fun _ h9 => h9) rfl dX9_again_60 ?_
                refine lv_iload_n hx hb dX9_again_63 rfl (lv_at hl 1 rfl) ?_
                refine lv_iload hx hb dX9_again_64 (lv_at hl 4 rfl) ?_
                refine va_iast (n := 40) (f := F12 6) hx hb hK hP hD hS 7 6 rfl rfl (vp_in_nI (n := j4) (by omega) (by decide)) dX9_again_66 (fun H locs hP hD hS => ?_)
                rw [mW_set_6] at hP hD
                obtain ⟨F13, eF13⟩ : ∃ f9 : Nat → Nat → Int32, f9 = va_up F12 6 (upd (F12 6) (nI j4).toNatClampNeg p3) := ⟨_, rfl⟩
                rw [← eF13] at hP hD
                replace hI : StM n (b) F V F13 V := ⟨by rw [eF13]; exact hI.1.setF (by decide), trivial⟩
                replace hU : ∀ j : Nat, j ∉ ([4, 5, 6] : List Nat) → F13 j = F j := by rw [eF13]; exact mw_up (by decide) hU
                refine lv_iconst (v := 1) hx hb dX9_again_67 (by decide) ?_
                exact W.iret (v := 1) hx hb hr (fun t ht hW => ⟨⟨1, (F13, V), rfl, ⟨hI.mono (by omega), hU, hV, (if_pos (by have k0 := c5; have k1 := c6; have k2 := c7; have k3 := c8; have k4 := c9; have k5 := c10; have k6 := nI_lt (a := j4) (b := n) (by omega) (by omega); have k7 := nI_pos' (n := j4) (by omega); simp only [p1_le, p1_lt, p1_eq, p1_m6, p1_m1, p1_0, p1_1, p1_2, p1_3, p1_4, p1_5, p1_6, p1_7, p1_8, p1_9, p1_10, p1_11, p1_12, p1_13, p1_14, p1_15, p1_16, p1_17, p1_18, p1_19, p1_20, p1_40, p1_50, p1_200, p1_1000] at k0 k1 k2 k3 k4 k5 k6 k7 ⊢; omega)).symm⟩, by rw [ht]; exact hP, hD⟩, hS.F ht⟩) hS.2.2 dX9_again_68
              · refine lv_iconst (v := (-1)) hx hb dX9_again_43 (by decide) ?_
                exact W.iret (v := (-1)) hx hb hr (fun t ht hW => ⟨⟨(-1), (F, V), rfl, ⟨hI.mono (by omega), hU, hV, (if_neg (by have k0 := c5; have k1 := c6; have k2 := c7; have k3 := c8; have k4 := c9; have k5 := c10; have k6 := nI_lt (a := j4) (b := n) (by omega) (by omega); have k7 := nI_pos' (n := j4) (by omega); simp only [p1_le, p1_lt, p1_eq, p1_m6, p1_m1, p1_0, p1_1, p1_2, p1_3, p1_4, p1_5, p1_6, p1_7, p1_8, p1_9, p1_10, p1_11, p1_12, p1_13, p1_14, p1_15, p1_16, p1_17, p1_18, p1_19, p1_20, p1_40, p1_50, p1_200, p1_1000] at k0 k1 k2 k3 k4 k5 k6 k7 ⊢; omega)).symm⟩, by rw [ht]; exact hP, hD⟩, hS.F ht⟩) hS.2.2 dX9_again_44
  · refine lv_if_eq (tgt := 43) hx hb dX9_again_5 (by decide) (fun _ => ?_) (fun c9 => absurd (by decide) c9)
    refine lv_iconst (v := (-1)) hx hb dX9_again_43 (by decide) ?_
    exact W.iret (v := (-1)) hx hb hr (fun t ht hW => ⟨⟨(-1), (F, V), rfl, ⟨hI.mono (by omega), hU, hV, (if_neg (by have k0 := noj4; simp only [p1_le, p1_lt, p1_eq, p1_m6, p1_m1, p1_0, p1_1, p1_2, p1_3, p1_4, p1_5, p1_6, p1_7, p1_8, p1_9, p1_10, p1_11, p1_12, p1_13, p1_14, p1_15, p1_16, p1_17, p1_18, p1_19, p1_20, p1_40, p1_50, p1_200, p1_1000] at k0 ⊢; omega)).symm⟩, by rw [ht]; exact hP, hD⟩, hS.F ht⟩) hS.2.2 dX9_again_44
