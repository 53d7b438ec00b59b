def wq_x_life2 : List Cond := [.code yX8_life cX8_life 6 (some .int), .fieldLink RX8 10 "ServiceTree" "services" "Ljava/util/ArrayList;", .classLink RX8 65 RX7, .methodLink RX8 82 yX8_exists, .instanceMethod yX8_exists, .selects RX8 yX8_exists yX8_exists, .initialized RX8, .methodLink RX8 57 yX8_within, .static yX8_within, .methodLink RX8 86 yJx4a65c_get_915e3, .instanceMethod yJx4a65c_get_915e3, .selects RJx4a65c yJx4a65c_get_915e3 yJx4a65c_get_915e3, .initialized RJx4a65c] ++ (wsX70 ++ (wsX80 ++ (wq_x_exists ++ (wq_x_within ++ (wq_x_get)))))
theorem in_x_life2_X7 : ∀ w ∈ wsX70, w ∈ wq_x_life2 := fun _ h => List.mem_append_right _ (List.mem_append_left _ (h))
theorem in_x_life2_X8 : ∀ w ∈ wsX80, w ∈ wq_x_life2 := fun _ h => List.mem_append_right _ (List.mem_append_right _ (List.mem_append_left _ (h)))
set_option maxRecDepth 20000 in
theorem wi_x_life2 : ∀ w ∈ wq_x_life2, w ∈ lw_tbl := List.forall_mem_append.mpr ⟨(by decide +kernel), List.forall_mem_append.mpr ⟨inKX7, List.forall_mem_append.mpr ⟨inKX8, List.forall_mem_append.mpr ⟨wi_x_exists, List.forall_mem_append.mpr ⟨wi_x_within, wi_x_get⟩⟩⟩⟩⟩
set_option maxRecDepth 20000 in
theorem wg_x_life2 : GoodIn wq_x_life2 wq_x_life2 := goodIn_sub (fun _ h => h) (by decide +kernel)
set_option maxRecDepth 20000 in
theorem wc_x_life2_x_exists_82 : GoodIn wq_x_life2 (wsV RX8 82 RX8 yX8_exists wq_x_exists) := goodIn_app (goodIn_of _ (by decide +kernel)) (fun w h => ⟨List.mem_append_right _ (List.mem_append_right _ (List.mem_append_right _ (List.mem_append_left _ (h)))), (wg_x_exists w h).2⟩)
set_option maxRecDepth 20000 in
theorem wc_x_life2_x_within_57 : GoodIn wq_x_life2 (va_wsS RX8 57 yX8_within wq_x_within) := goodIn_app (goodIn_of _ (by decide +kernel)) (fun w h => ⟨List.mem_append_right _ (List.mem_append_right _ (List.mem_append_right _ (List.mem_append_right _ (List.mem_append_left _ (h))))), (wg_x_within w h).2⟩)
set_option maxRecDepth 20000 in
theorem wc_x_life2_x_get_86 : GoodIn wq_x_life2 (wsV RX8 86 RJx4a65c yJx4a65c_get_915e3 wq_x_get) := goodIn_app (goodIn_of _ (by decide +kernel)) (fun w h => ⟨List.mem_append_right _ (List.mem_append_right _ (List.mem_append_right _ (List.mem_append_right _ (List.mem_append_right _ (h))))), (wg_x_get w h).2⟩)
def rm_x_life2 : Room := { frames := 3, cells := 0, slots := 0, locals := 64 }
set_option maxHeartbeats 4000000 in
set_option maxRecDepth 100000 in
theorem c_x_life2 (l : Launch) (dC : Nat → ClassId) (dI : Nat → Nat → Nat) (h : Nat) (a : Nat → Nat) (e : Nat) (cI cJ cO cE : ClassId) (L : Nat → Int64) (I : Nat → Int32) (M : Nat → Nat → Int64) (J : Nat → Nat → Int32) (n cap : Nat) (fE : Nat → Option Nat) (sd : Nat → Nat → Nat) (si : Nat → Nat → Int32) (sa : Nat → Nat → Nat → Int32) (dl : Nat → Nat) (b : Nat) (p0 : Int32) (p1 : Int32) (p2 : Int32) (sz : Nat) (hX0 : InvX n cap fE sd dl b I J si) (hb0 : b + 0 < 2147483648)  : Met l yX8_life wq_x_life2 rm_x_life2 (va_Pc [.ref h, .int p0, .int p1, .int p2] (fun U => U.heap.size = sz ∧ va_P (dC, dI) vwCl (xW h a e cI cJ cO cE L I M J n cap fE sd si sa dl) U.heap ∧ va_K (dC, dI) vwCl (xT cI cJ cO cE) U ∧ va_D (fun _ => True) (xW h a e cI cJ cO cE L I M J n cap fE sd si sa dl) ∧ pw_N U)) (va_Qi (fun (r : Int32) (u : (Nat → Nat → Nat → Int32)) => InvX n cap fE sd dl (b + 0) I J si ∧ (∀ s9 q9 : Nat, q9 ∉ ([1] : List Nat) → u s9 q9 = sa s9 q9) ∧ ((¬ (0 ≤ p0 ∧ p0 < nI n ∧ 0 ≤ p1 ∧ p1 ≤ 7 ∧ 0 ≤ p2 ∧ p2 ≤ 1000) ∧ r = -1 ∧ u = sa) ∨ ∃ sv iv : Nat, sv < n ∧ iv < 8 ∧ p0 = nI sv ∧ p1 = nI iv ∧ (0 ≤ p2 ∧ p2 ≤ 1000) ∧ ((si sv 0 = 3 ∧ r = -2 ∧ u = sa) ∨ (si sv 0 ≠ 3 ∧ r = sa sv 1 iv ∧ u = up2 sa sv 1 (upd (sa sv 1) iv p2))))) (fun (u : (Nat → Nat → Nat → Int32)) (t : State) => va_P (dC, dI) vwCl (xW h a e cI cJ cO cE L I M J n cap fE sd si u dl) t.heap ∧ va_D (va_A (xW h a e cI cJ cO cE L I M J n cap fE sd si sa dl) sz) (xW h a e cI cJ cO cE L I M J n cap fE sd si u dl)) (va_A (xW h a e cI cJ cO cE L I M J n cap fE sd si sa dl) sz)) 0 0 (va_A (xW h a e cI cJ cO cE L I M J n cap fE sd si sa dl) sz) := by
  have hn : n ≤ 40 := hX0.1.1
  have hX := hX0
  have hUsa : ∀ s9 q9 : Nat, q9 ∉ ([1] : List Nat) → sa s9 q9 = sa s9 q9 := fun _ _ _ => rfl
  refine Met.ofW (cc := cX8_life) (maxL := 6) (ret := (some .int)) (by decide) rfl ?_
  intro p e9 s m args below meth c s₁ B hml hv
  obtain ⟨rfl, hsz, hP, hK, hD0, hN⟩ := hv
  have hx := B.exec
  have hb := B.bytes
  have hr := B.returns
  have hts := atoms_spec (ws := wq_x_life2) B.pre
  have hown : s.vm.findClass RX8 = some m.cls := findClass_of_methodNamed B.named
  have hlocks := B.notSynchronized
  subst hsz
  have hD := hD0.self (sz := s.heap.size)
  generalize hAe : va_A (xW h a e cI cJ cO cE L I M J n cap fE sd si sa dl) s.heap.size = A at hD ⊢
  have hA : ∀ q : Nat, s.heap.size ≤ q → A q := fun q h => by rw [← hAe]; exact Or.inr h
  have hS : va_S A s.heap s.heap [] := va_S.rf
  have hl := lv_entry ([.ref h, .int p0, .int p1, .int p2]) (n := 6) (Nat.le_of_ble_eq_true rfl)
  rw [lg_entry_eq]
  generalize (lg_sl ([.ref h, .int p0, .int p1, .int p2]) ++ List.replicate (6 - (lg_sl ([.ref h, .int p0, .int p1, .int p2])).length) Slot.unset).toArray = ls at hl ⊢
  have hl : lv_has ls 6 [(0, .ref h), (1, .int p0), (2, .int p1), (3, .int p2)] := hl
  refine lv_aload_n hx hb dX8_life_0 rfl (lv_at hl 0 rfl) ?_
  refine lv_iload_n hx hb dX8_life_1 rfl (lv_at hl 1 rfl) ?_
  have hFc := mw_free hD hS hA
  refine va_calli (va_runV (As := [.int p0]) (rest := []) ⟨hx, hb, hml, hown, hts⟩ (c_x_exists l dC dI h a e cI cJ cO cE L I M J n cap fE sd si sa dl (b) p0 s.heap.size hX (by omega) ) (cwV 1 hts wc_x_life2_x_exists_82 rfl rfl rfl (by decide +kernel) ⟨Nat.le_of_ble_eq_true rfl, Nat.le_of_ble_eq_true rfl⟩) ⟨fun a9 U g mk q => by obtain ⟨q0, q1, qP, qK, qD, qN⟩ := q; exact ⟨q0, q1, qP, va_K.moved (u := U) (U := U.calling g mk a9) (Vm.Alike.refl U.vm) qK, qD, pw_N.same (u := U) (U := U.calling g mk a9) rfl qN⟩, va_recv hK hP (ci := 9) (q0 := 0) rfl rfl, fun U hU hW => ⟨rfl, by rw [hU], by rw [hU]; exact hP, va_K.moved hW.alike hK, hD.weaken (fun _ _ _ _ => trivial), pw_N.warm hW hN⟩⟩ rfl rfl hl.1 rfl (lv_room (Nat.le_of_ble_eq_true rfl)) dX8_life_2 ⟨Nat.le_of_ble_eq_true rfl, Nat.le_of_ble_eq_true rfl⟩) hS (fun q _ h => hFc q h) hFc (fun r1 u t H1 locs ht hvm hw hB hz1 hk1 hS => ?_)
  replace hP := hB.1
  rw [ht] at hP
  replace hD : va_D A (xW h a e cI cJ cO cE L I M J n cap fE sd si sa dl) := hB.2.weaken (fun _ q _ h9 => hFc q.1 h9)
  clear hB
  generalize H1 = H at hP hS ⊢
  replace hP : va_P (dC, dI) vwCl (xW h a e cI cJ cO cE L I M J n cap fE sd si sa dl) H := hP
  rcases hw with ⟨rfl, j2, hj2, ej2⟩ | ⟨rfl, noj2⟩
  · subst ej2
    refine lv_if_eq (tgt := 29) hx hb dX8_life_5 (by decide) (fun c9 => absurd c9 (by decide)) (fun _ => ?_)
    refine lv_iload_n hx hb dX8_life_8 rfl (lv_at hl 2 rfl) ?_
    refine lv_iconst (v := 0) hx hb dX8_life_9 (by decide) ?_
    refine lv_bipush (v := 7) hx hb dX8_life_10 (by decide) ?_
    have hFc := mw_free hD hS hA
    refine va_calli (va_runS (As := [.int p1, .int 0, .int 7]) (rest := []) ⟨hx, hb, hml, hown, hts⟩ (c_x_within l dC dI h a e cI cJ cO cE L I M J n cap fE sd si sa dl (b) p1 0 7 H.size hX (by omega) ) (va_cwS 3 hts wc_x_life2_x_within_57 rfl rfl rfl (by decide +kernel) ⟨Nat.le_of_ble_eq_true rfl, Nat.le_of_ble_eq_true rfl⟩) ⟨fun a9 U g mk q => by obtain ⟨q0, q1, qP, qK, qD, qN⟩ := q; exact ⟨q0, q1, qP, va_K.moved (u := U) (U := U.calling g mk a9) (Vm.Alike.refl U.vm) qK, qD, pw_N.same (u := U) (U := U.calling g mk a9) rfl qN⟩, fun U hU hW => ⟨rfl, by rw [hU], by rw [hU]; exact hP, va_K.moved hW.alike hK, hD.weaken (fun _ _ _ _ => trivial), pw_N.warm hW hN⟩⟩ rfl rfl hl.1 rfl (lv_room (Nat.le_of_ble_eq_true rfl)) dX8_life_12 ⟨Nat.le_of_ble_eq_true rfl, Nat.le_of_ble_eq_true rfl⟩) hS (fun q _ h => hFc q h) hFc (fun r3 u t H1 locs ht hvm hw hB hz1 hk1 hS => ?_)
    replace hP := hB.1
    rw [ht] at hP
    replace hD : va_D A (xW h a e cI cJ cO cE L I M J n cap fE sd si sa dl) := hB.2.weaken (fun _ q _ h9 => hFc q.1 h9)
    clear hB
    generalize H1 = H at hP hS ⊢
    replace hP : va_P (dC, dI) vwCl (xW h a e cI cJ cO cE L I M J n cap fE sd si sa dl) H := hP
    rcases hw with ⟨rfl, haj4, hbj4⟩ | ⟨rfl, noj4⟩
    · obtain ⟨j4, hj4, ej4⟩ := nI_of2 (n := 7) (by decide) (xw_ge0 haj4) hbj4
      subst ej4
      refine lv_if_eq (tgt := 29) hx hb dX8_life_15 (by decide) (fun c9 => absurd c9 (by decide)) (fun _ => ?_)
      refine lv_iload_n hx hb dX8_life_18 rfl (lv_at hl 3 rfl) ?_
      refine lv_iconst (v := 0) hx hb dX8_life_19 (by decide) ?_
      refine lv_sipush (v := 1000) hx hb dX8_life_20 (by decide) ?_
      have hFc := mw_free hD hS hA
      refine va_calli (va_runS (As := [.int p2, .int 0, .int 1000]) (rest := []) ⟨hx, hb, hml, hown, hts⟩ (c_x_within l dC dI h a e cI cJ cO cE L I M J n cap fE sd si sa dl (b) p2 0 1000 H.size hX (by omega) ) (va_cwS 3 hts wc_x_life2_x_within_57 rfl rfl rfl (by decide +kernel) ⟨Nat.le_of_ble_eq_true rfl, Nat.le_of_ble_eq_true rfl⟩) ⟨fun a9 U g mk q => by obtain ⟨q0, q1, qP, qK, qD, qN⟩ := q; exact ⟨q0, q1, qP, va_K.moved (u := U) (U := U.calling g mk a9) (Vm.Alike.refl U.vm) qK, qD, pw_N.same (u := U) (U := U.calling g mk a9) rfl qN⟩, fun U hU hW => ⟨rfl, by rw [hU], by rw [hU]; exact hP, va_K.moved hW.alike hK, hD.weaken (fun _ _ _ _ => trivial), pw_N.warm hW hN⟩⟩ rfl rfl hl.1 rfl (lv_room (Nat.le_of_ble_eq_true rfl)) dX8_life_23 ⟨Nat.le_of_ble_eq_true rfl, Nat.le_of_ble_eq_true rfl⟩) hS (fun q _ h => hFc q h) hFc (fun r5 u t H1 locs ht hvm hw hB hz1 hk1 hS => ?_)
      replace hP := hB.1
      rw [ht] at hP
      replace hD : va_D A (xW h a e cI cJ cO cE L I M J n cap fE sd si sa dl) := hB.2.weaken (fun _ q _ h9 => hFc q.1 h9)
      clear hB
      generalize H1 = H at hP hS ⊢
      replace hP : va_P (dC, dI) vwCl (xW h a e cI cJ cO cE L I M J n cap fE sd si sa dl) H := hP
      rcases hw with ⟨rfl, haj6, hbj6⟩ | ⟨rfl, noj6⟩
      · obtain ⟨j6, hj6, ej6⟩ := nI_of2 (n := 1000) (by decide) (xw_ge0 haj6) hbj6
        subst ej6
        refine lv_if_ne (tgt := 31) hx hb dX8_life_26 (by decide) (fun _ => ?_) (fun c9 => absurd c9 (by decide))
        refine lv_aload_n hx hb dX8_life_31 rfl (lv_at hl 0 rfl) ?_
        refine va_get (D := (dC, dI)) (ci := 9) (v := .ref (a 0)) (C := RX8) (T := TX8) (N := 14) hx hb hts in_x_life2_X8 hown hK hP 0 rfl rfl 0 (by decide) (hts (.fieldLink RX8 10 "ServiceTree" "services" "Ljava/util/ArrayList;") (by decide +kernel)) (fun _ h9 => h9) rfl dX8_life_32 ?_
        refine lv_iload_n hx hb dX8_life_35 rfl (lv_at hl 1 rfl) ?_
        have hFc := mw_free hD hS hA
        refine va_callr (va_runV (As := [.int (nI j2)]) (rest := []) ⟨hx, hb, hml, hown, hts⟩ (c_x_get l dC dI h a e cI cJ cO cE L I M J n cap fE sd si sa dl (b) j2 H.size hX (by omega) (by omega)) (cwV 1 hts wc_x_life2_x_get_86 rfl rfl rfl (by decide +kernel) ⟨Nat.le_of_ble_eq_true rfl, Nat.le_of_ble_eq_true rfl⟩) ⟨fun a9 U g mk q => by obtain ⟨q0, q1, qP, qK, qD, qN⟩ := q; exact ⟨q0, q1, qP, va_K.moved (u := U) (U := U.calling g mk a9) (Vm.Alike.refl U.vm) qK, qD, pw_N.same (u := U) (U := U.calling g mk a9) rfl qN⟩, va_recv hK hP (ci := 0) (q0 := 1) rfl rfl, fun U hU hW => ⟨rfl, by rw [hU], by rw [hU]; exact hP, va_K.moved hW.alike hK, hD.weaken (fun _ _ _ _ => trivial), pw_N.warm hW hN⟩⟩ rfl rfl hl.1 rfl (lv_room (Nat.le_of_ble_eq_true rfl)) dX8_life_36 ⟨Nat.le_of_ble_eq_true rfl, Nat.le_of_ble_eq_true rfl⟩) hS (fun q _ h => hFc q h) hFc (fun u r7 t H1 locs ht hvm hw hB hz1 hk1 hS => ?_)
        obtain ⟨hra, hB⟩ := hB
        replace hP := hB.1
        rw [ht] at hP
        replace hD : va_D A (xW h a e cI cJ cO cE L I M J n cap fE sd si sa dl) := hB.2.weaken (fun _ q _ h9 => hFc q.1 h9)
        clear hB
        generalize H1 = H at hP hS ⊢
        replace hP : va_P (dC, dI) vwCl (xW h a e cI cJ cO cE L I M J n cap fE sd si sa dl) H := hP
        subst hra
        refine va_castS hx hb hown (hts (.classLink RX8 65 RX7) (by decide +kernel)) (hK.1 8 _ rfl).2 (va_recv hK hP (ci := 8) (q0 := (22 + (6 * j2 + 0))) rfl (xAt_0 h a e cI cJ cO cE L I M J n cap fE sd si sa dl (s := j2) (by omega))) dX8_life_39 ?_
        refine lv_astore (lv' := [(4, .ref (sd j2 0)), (0, .ref h), (1, .int (nI j2)), (2, .int (nI j4)), (3, .int (nI j6))]) hx hb dX8_life_42 hl (by decide) rfl (fun ls hl => ?_)
        refine lv_aload hx hb dX8_life_44 (lv_at hl 0 rfl) ?_
        refine va_getN (D := (dC, dI)) (ci := 8) (v := .int (si j2 0)) (C := RX7) (T := TX7) (N := 12) hx hb hts in_x_life2_X7 hown hK hP (22 + (6 * j2 + 0)) (xAt_0 h a e cI cJ cO cE L I M J n cap fE sd si sa dl (s := j2) (by omega)) rfl 0 (by decide) (va_Nw.use rfl (hN (.fieldLinkNest RX8 90 "ServiceTree$Service" "kind" "I" "ServiceTree") (by decide +kernel))) (fun _ h9 => h9) rfl dX8_life_46 ?_
        refine lv_topi (fun x8 ex8 => ?_)
        refine lv_iconst (v := 3) hx hb dX8_life_49 (by decide) ?_
        refine lv_icmp_ne (tgt := 56) hx hb dX8_life_50 (by decide) (fun c9 => ?_) (fun c9 => ?_)
        · refine lv_aload hx hb dX8_life_56 (lv_at hl 0 rfl) ?_
          refine va_getN (D := (dC, dI)) (ci := 8) (v := .ref (sd j2 1)) (C := RX7) (T := TX7) (N := 12) hx hb hts in_x_life2_X7 hown hK hP (22 + (6 * j2 + 0)) (xAt_0 h a e cI cJ cO cE L I M J n cap fE sd si sa dl (s := j2) (by omega)) rfl 3 (by decide) (va_Nw.use rfl (hN (.fieldLinkNest RX8 93 "ServiceTree$Service" "lives" "[I" "ServiceTree") (by decide +kernel))) (fun _ h9 => h9) rfl dX8_life_58 ?_
          refine lv_iload_n hx hb dX8_life_61 rfl (lv_at hl 3 rfl) ?_
          refine va_iald (n := 8) (f := sa j2 1) hx hb hK hP (22 + (6 * j2 + 1)) 0 (xAt_1 h a e cI cJ cO cE L I M J n cap fE sd si sa dl (s := j2) (by omega)) rfl (vp_in_nI (n := j4) (by omega) (by omega)) dX8_life_62 ?_
          refine lv_topi (fun x10 ex10 => ?_)
          refine lv_istore (lv' := [(5, .int x10), (4, .ref (sd j2 0)), (0, .ref h), (1, .int (nI j2)), (2, .int (nI j4)), (3, .int (nI j6))]) hx hb dX8_life_63 hl (by decide) rfl (fun ls hl => ?_)
          refine lv_aload hx hb dX8_life_65 (lv_at hl 1 rfl) ?_
          refine va_getN (D := (dC, dI)) (ci := 8) (v := .ref (sd j2 1)) (C := RX7) (T := TX7) (N := 12) hx hb hts in_x_life2_X7 hown hK hP (22 + (6 * j2 + 0)) (xAt_0 h a e cI cJ cO cE L I M J n cap fE sd si sa dl (s := j2) (by omega)) rfl 3 (by decide) (va_Nw.use rfl (hN (.fieldLinkNest RX8 93 "ServiceTree$Service" "lives" "[I" "ServiceTree") (by decide +kernel))) (fun _ h9 => h9) rfl dX8_life_67 ?_
          refine lv_iload_n hx hb dX8_life_70 rfl (lv_at hl 4 rfl) ?_
          refine lv_iload_n hx hb dX8_life_71 rfl (lv_at hl 5 rfl) ?_
          refine va_iast (n := 8) (f := sa j2 1) hx hb hK hP hD hS (22 + (6 * j2 + 1)) 0 (xAt_1 h a e cI cJ cO cE L I M J n cap fE sd si sa dl (s := j2) (by omega)) rfl (vp_in_nI (n := j4) (by omega) (by omega)) dX8_life_72 (fun H locs hP hD hS => ?_)
          rw [xSa_1 h a e cI cJ cO cE L I M J n cap fE sd si sa dl (s := j2) (by omega)] at hP hD
          obtain ⟨sa11, esa11⟩ : ∃ f9 : Nat → Nat → Nat → Int32, f9 = up2 sa j2 1 (upd (sa j2 1) (nI j4).toNatClampNeg (nI j6)) := ⟨_, rfl⟩
          rw [← esa11] at hP hD
          replace hUsa : ∀ s9 q9 : Nat, q9 ∉ ([1] : List Nat) → sa11 s9 q9 = sa s9 q9 := by rw [esa11]; exact xw_up2 (by decide) hUsa
          refine lv_iload hx hb dX8_life_73 (lv_at hl 0 rfl) ?_
          exact W.iret (v := x10) hx hb hr (fun t ht hW => ⟨⟨x10, sa11, rfl, ⟨hX.mono (by omega), hUsa, Or.inr ⟨j2, j4, by omega, by omega, rfl, rfl, ⟨haj6, hbj6⟩, Or.inr ⟨by rw [← ex8]; exact c9, by rw [ex10, nI_clamp (show j4 < 2 ^ 31 by omega)], by rw [esa11, nI_clamp (show j4 < 2 ^ 31 by omega)]⟩⟩⟩, by rw [ht]; exact hP, hD⟩, hS.F ht⟩) hS.2.2 dX8_life_75
        · refine lv_bipush (v := (-2)) hx hb dX8_life_53 (by decide) ?_
          exact W.iret (v := (-2)) hx hb hr (fun t ht hW => ⟨⟨(-2), sa, rfl, ⟨hX.mono (by omega), hUsa, Or.inr ⟨j2, j4, by omega, by omega, rfl, rfl, ⟨haj6, hbj6⟩, Or.inl ⟨by rw [← ex8]; exact c9, rfl, rfl⟩⟩⟩, by rw [ht]; exact hP, hD⟩, hS.F ht⟩) hS.2.2 dX8_life_55
      · refine lv_if_ne (tgt := 31) hx hb dX8_life_26 (by decide) (fun c9 => absurd (by decide) c9) (fun _ => ?_)
        refine lv_iconst (v := (-1)) hx hb dX8_life_29 (by decide) ?_
        exact W.iret (v := (-1)) hx hb hr (fun t ht hW => ⟨⟨(-1), sa, rfl, ⟨hX.mono (by omega), hUsa, Or.inl ⟨by have k0 := haj4; have k1 := hbj4; have k2 := noj6; simp only [p1_le, p1_lt, p1_eq, p1_m6, p1_m1, p1_0, p1_1, p1_2, p1_3, p1_4, p1_5, p1_6, p1_7, p1_8, p1_9, p1_10, p1_11, p1_12, p1_13, p1_14, p1_15, p1_16, p1_17, p1_18, p1_19, p1_20, p1_40, p1_50, p1_200, p1_1000] at k0 k1 k2 ⊢; omega, rfl, rfl⟩⟩, by rw [ht]; exact hP, hD⟩, hS.F ht⟩) hS.2.2 dX8_life_30
    · refine lv_if_eq (tgt := 29) hx hb dX8_life_15 (by decide) (fun _ => ?_) (fun c9 => absurd (by decide) c9)
      refine lv_iconst (v := (-1)) hx hb dX8_life_29 (by decide) ?_
      exact W.iret (v := (-1)) hx hb hr (fun t ht hW => ⟨⟨(-1), sa, rfl, ⟨hX.mono (by omega), hUsa, Or.inl ⟨by have k0 := noj4; simp only [p1_le, p1_lt, p1_eq, p1_m6, p1_m1, p1_0, p1_1, p1_2, p1_3, p1_4, p1_5, p1_6, p1_7, p1_8, p1_9, p1_10, p1_11, p1_12, p1_13, p1_14, p1_15, p1_16, p1_17, p1_18, p1_19, p1_20, p1_40, p1_50, p1_200, p1_1000] at k0 ⊢; omega, rfl, rfl⟩⟩, by rw [ht]; exact hP, hD⟩, hS.F ht⟩) hS.2.2 dX8_life_30
  · refine lv_if_eq (tgt := 29) hx hb dX8_life_5 (by decide) (fun _ => ?_) (fun c9 => absurd (by decide) c9)
    refine lv_iconst (v := (-1)) hx hb dX8_life_29 (by decide) ?_
    exact W.iret (v := (-1)) hx hb hr (fun t ht hW => ⟨⟨(-1), sa, rfl, ⟨hX.mono (by omega), hUsa, Or.inl ⟨by have k0 := noj2; simp only [p1_le, p1_lt, p1_eq, p1_m6, p1_m1, p1_0, p1_1, p1_2, p1_3, p1_4, p1_5, p1_6, p1_7, p1_8, p1_9, p1_10, p1_11, p1_12, p1_13, p1_14, p1_15, p1_16, p1_17, p1_18, p1_19, p1_20, p1_40, p1_50, p1_200, p1_1000] at k0 ⊢; omega, rfl, rfl⟩⟩, by rw [ht]; exact hP, hD⟩, hS.F ht⟩) hS.2.2 dX8_life_30
def wq_m_life2 : List Cond := [.code yX9_life cX9_life 5 (some .int), .fieldLink RX9 9 "ServiceTreeModel" "kind" "[I", .fieldLink RX9 19 "ServiceTreeModel" "life" "[I", .methodLink RX9 135 yX9_is, .instanceMethod yX9_is, .selects RX9 yX9_is yX9_is, .initialized RX9] ++ (wsX90 ++ (wq_m_is))
theorem in_m_life2_X9 : ∀ w ∈ wsX90, w ∈ wq_m_life2 := fun _ h => List.mem_append_right _ (List.mem_append_left _ (h))
set_option maxRecDepth 20000 in
theorem wi_m_life2 : ∀ w ∈ wq_m_life2, w ∈ lw_tbl := List.forall_mem_append.mpr ⟨(by decide +kernel), List.forall_mem_append.mpr ⟨inKX9, wi_m_is⟩⟩
set_option maxRecDepth 20000 in
theorem wg_m_life2 : GoodIn wq_m_life2 wq_m_life2 := goodIn_sub (fun _ h => h) (by decide +kernel)
set_option maxRecDepth 20000 in
theorem wc_m_life2_m_is_135 : GoodIn wq_m_life2 (wsV RX9 135 RX9 yX9_is wq_m_is) := goodIn_app (goodIn_of _ (by decide +kernel)) (fun w h => ⟨List.mem_append_right _ (List.mem_append_right _ (h)), (wg_m_is w h).2⟩)
def rm_m_life2 : Room := { frames := 1, cells := 0, slots := 0, locals := 21 }
set_option maxHeartbeats 4000000 in
set_option maxRecDepth 100000 in
theorem c_m_life2 (l : Launch) (dC : Nat → ClassId) (dI : Nat → Nat → Nat) (h : Nat) (a : Nat → Nat) (k : Nat → ClassId) (F : Nat → Nat → Int32) (V : Nat → Int32) (n b : Nat) (p0 : Int32) (p1 : Int32) (p2 : Int32) (sz : Nat) (hI0 : InvM n b F V) (hb0 : b + 0 < 2147483648)  : Met l yX9_life wq_m_life2 rm_m_life2 (va_Pc [.ref h, .int p0, .int p1, .int p2] (fun U => U.heap.size = sz ∧ va_P (dC, dI) vwCl (mW h a k F V) U.heap ∧ va_K (dC, dI) vwCl (mT k) U ∧ va_D (fun _ => True) (mW h a k F V))) (va_Qi (fun (r : Int32) (u : (Nat → Nat → Int32) × (Nat → Int32)) => StM n (b + 0) F V u.1 u.2 ∧ (∀ j : Nat, j ∉ ([3] : List Nat) → u.1 j = F j) ∧ (∀ j : Nat, j ∉ ([] : List Nat) → u.2 j = V j) ∧ ((¬ (0 ≤ p0 ∧ p0 < nI n ∧ 0 ≤ p1 ∧ p1 ≤ 7 ∧ 0 ≤ p2 ∧ p2 ≤ 1000) ∧ r = -1 ∧ u.1 = F) ∨ ∃ sv iv : Nat, sv < n ∧ iv < 8 ∧ p0 = nI sv ∧ p1 = nI iv ∧ (0 ≤ p2 ∧ p2 ≤ 1000) ∧ ((F 0 sv = 3 ∧ r = -2 ∧ u.1 = F) ∨ (F 0 sv ≠ 3 ∧ r = F 3 (8 * sv + iv) ∧ u.1 = va_up F 3 (upd (F 3) (8 * sv + iv) p2))))) (fun (u : (Nat → Nat → Int32) × (Nat → Int32)) (t : State) => va_P (dC, dI) vwCl (mW h a k u.1 u.2) t.heap ∧ va_D (va_A (mW h a k F V) sz) (mW h a k u.1 u.2)) (va_A (mW h a k F V) sz)) 0 0 (va_A (mW h a k F V) sz) := by
  have hn : n ≤ 40 := hI0.1
  have hI : StM n b F V F V := StM.rf hI0
  have hU : ∀ j : Nat, j ∉ ([3] : List Nat) → F j = F j := fun _ _ => rfl
  have hV : ∀ j : Nat, j ∉ ([] : List Nat) → V j = V j := fun _ _ => rfl
  refine Met.ofW (cc := cX9_life) (maxL := 5) (ret := (some .int)) (by decide) rfl ?_
  intro p e s m args below meth c s₁ B hml hv
  obtain ⟨rfl, hsz, hP, hK, hD0⟩ := hv
  have hx := B.exec
  have hb := B.bytes
  have hr := B.returns
  have hts := atoms_spec (ws := wq_m_life2) B.pre
  have hown : s.vm.findClass RX9 = some m.cls := findClass_of_methodNamed B.named
  have hlocks := B.notSynchronized
  subst hsz
  have hD := hD0.self (sz := s.heap.size)
  generalize hAe : va_A (mW h a k F V) s.heap.size = A at hD ⊢
  have hA : ∀ q : Nat, s.heap.size ≤ q → A q := fun q h => by rw [← hAe]; exact Or.inr h
  have hS : va_S A s.heap s.heap [] := va_S.rf
  have hl := lv_entry ([.ref h, .int p0, .int p1, .int p2]) (n := 5) (Nat.le_of_ble_eq_true rfl)
  rw [lg_entry_eq]
  generalize (lg_sl ([.ref h, .int p0, .int p1, .int p2]) ++ List.replicate (5 - (lg_sl ([.ref h, .int p0, .int p1, .int p2])).length) Slot.unset).toArray = ls at hl ⊢
  have hl : lv_has ls 5 [(0, .ref h), (1, .int p0), (2, .int p1), (3, .int p2)] := hl
  refine lv_aload_n hx hb dX9_life_0 rfl (lv_at hl 0 rfl) ?_
  refine lv_iload_n hx hb dX9_life_1 rfl (lv_at hl 1 rfl) ?_
  have hFc := mw_free hD hS hA
  refine va_calli (va_runV (As := [.int p0]) (rest := []) ⟨hx, hb, hml, hown, hts⟩ (c_m_is l dC dI h a k F V n (b) p0 s.heap.size hI.1 (by omega) ) (cwV 1 hts wc_m_life2_m_is_135 rfl rfl rfl (by decide +kernel) ⟨Nat.le_of_ble_eq_true rfl, Nat.le_of_ble_eq_true rfl⟩) ⟨fun a9 U g mk q => by obtain ⟨q0, q1, qP, qK, qD⟩ := q; exact ⟨q0, q1, qP, va_K.moved (u := U) (U := U.calling g mk a9) (Vm.Alike.refl U.vm) qK, qD⟩, va_recv hK hP (ci := 10) (q0 := 0) rfl rfl, fun U hU hW => ⟨rfl, by rw [hU], by rw [hU]; exact hP, va_K.moved hW.alike hK, hD.weaken (fun _ _ _ _ => trivial)⟩⟩ rfl rfl hl.1 rfl (lv_room (Nat.le_of_ble_eq_true rfl)) dX9_life_2 ⟨Nat.le_of_ble_eq_true rfl, Nat.le_of_ble_eq_true rfl⟩) hS (fun q _ h => hFc q h) hFc (fun r1 u t H1 locs ht hvm hw hB hz1 hk1 hS => ?_)
  obtain ⟨F2, V3⟩ := u
  replace hP := hB.1
  rw [ht] at hP
  replace hD : va_D A (mW h a k F2 V3) := hB.2.weaken (fun _ q _ h9 => hFc q.1 h9)
  clear hB
  generalize H1 = H at hP hS ⊢
  replace hP : va_P (dC, dI) vwCl (mW h a k F2 V3) H := hP
  obtain ⟨hwF, hwV, hw⟩ : F2 = F ∧ V3 = V ∧ _ := hw
  rw [hwF, hwV] at hP hD
  rcases hw with ⟨rfl, j4, hj4, ej4⟩ | ⟨rfl, noj4⟩
  · subst ej4
    refine lv_if_eq (tgt := 29) hx hb dX9_life_5 (by decide) (fun c9 => absurd c9 (by decide)) (fun _ => ?_)
    refine lv_iload_n hx hb dX9_life_8 rfl (lv_at hl 2 rfl) ?_
    refine lv_if_lt (tgt := 29) hx hb dX9_life_9 (by decide) (fun c5 => ?_) (fun c5 => ?_)
    · refine lv_iconst (v := (-1)) hx hb dX9_life_29 (by decide) ?_
      exact W.iret (v := (-1)) hx hb hr (fun t ht hW => ⟨⟨(-1), (F, V), rfl, ⟨hI.mono (by omega), hU, hV, Or.inl ⟨by have k0 := c5; have k1 := nI_lt (a := j4) (b := n) (by omega) (by omega); have k2 := nI_pos' (n := j4) (by omega); simp only [p1_le, p1_lt, p1_eq, p1_m6, p1_m1, p1_0, p1_1, p1_2, p1_3, p1_4, p1_5, p1_6, p1_7, p1_8, p1_9, p1_10, p1_11, p1_12, p1_13, p1_14, p1_15, p1_16, p1_17, p1_18, p1_19, p1_20, p1_40, p1_50, p1_200, p1_1000] at k0 k1 k2 ⊢; omega, rfl, rfl⟩⟩, by rw [ht]; exact hP, hD⟩, hS.F ht⟩) hS.2.2 dX9_life_30
    · refine lv_iload_n hx hb dX9_life_12 rfl (lv_at hl 2 rfl) ?_
      refine lv_bipush (v := 7) hx hb dX9_life_13 (by decide) ?_
      refine lv_icmp_gt (tgt := 29) hx hb dX9_life_15 (by decide) (fun c6 => ?_) (fun c6 => ?_)
      · refine lv_iconst (v := (-1)) hx hb dX9_life_29 (by decide) ?_
        exact W.iret (v := (-1)) hx hb hr (fun t ht hW => ⟨⟨(-1), (F, V), rfl, ⟨hI.mono (by omega), hU, hV, Or.inl ⟨by have k0 := c5; have k1 := c6; have k2 := nI_lt (a := j4) (b := n) (by omega) (by omega); have k3 := nI_pos' (n := j4) (by omega); simp only [p1_le, p1_lt, p1_eq, p1_m6, p1_m1, p1_0, p1_1, p1_2, p1_3, p1_4, p1_5, p1_6, p1_7, p1_8, p1_9, p1_10, p1_11, p1_12, p1_13, p1_14, p1_15, p1_16, p1_17, p1_18, p1_19, p1_20, p1_40, p1_50, p1_200, p1_1000] at k0 k1 k2 k3 ⊢; omega, rfl, rfl⟩⟩, by rw [ht]; exact hP, hD⟩, hS.F ht⟩) hS.2.2 dX9_life_30
      · obtain ⟨j7, hj7, ej7⟩ := nI_of2 (x := p1) (M := 7) (n := 7) (by decide) c5 (Int32.not_lt.mp c6)
        subst ej7
        refine lv_iload_n hx hb dX9_life_18 rfl (lv_at hl 3 rfl) ?_
        refine lv_if_lt (tgt := 29) hx hb dX9_life_19 (by decide) (fun c8 => ?_) (fun c8 => ?_)
        · refine lv_iconst (v := (-1)) hx hb dX9_life_29 (by decide) ?_
          exact W.iret (v := (-1)) hx hb hr (fun t ht hW => ⟨⟨(-1), (F, V), rfl, ⟨hI.mono (by omega), hU, hV, Or.inl ⟨by have k0 := c5; have k1 := c6; have k2 := c8; have k3 := nI_lt (a := j4) (b := n) (by omega) (by omega); have k4 := nI_pos' (n := j4) (by omega); simp only [p1_le, p1_lt, p1_eq, p1_m6, p1_m1, p1_0, p1_1, p1_2, p1_3, p1_4, p1_5, p1_6, p1_7, p1_8, p1_9, p1_10, p1_11, p1_12, p1_13, p1_14, p1_15, p1_16, p1_17, p1_18, p1_19, p1_20, p1_40, p1_50, p1_200, p1_1000] at k0 k1 k2 k3 k4 ⊢; omega, rfl, rfl⟩⟩, by rw [ht]; exact hP, hD⟩, hS.F ht⟩) hS.2.2 dX9_life_30
        · refine lv_iload_n hx hb dX9_life_22 rfl (lv_at hl 3 rfl) ?_
          refine lv_sipush (v := 1000) hx hb dX9_life_23 (by decide) ?_
          refine lv_icmp_le (tgt := 31) hx hb dX9_life_26 (by decide) (fun c9 => ?_) (fun c9 => ?_)
          · refine lv_aload_n hx hb dX9_life_31 rfl (lv_at hl 0 rfl) ?_
            refine va_get (D := (dC, dI)) (ci := 10) (v := .ref (a 0)) (C := RX9) (T := TX9) (N := 46) hx hb hts in_m_life2_X9 hown hK hP 0 rfl rfl 0 (by decide) (hts (.fieldLink RX9 9 "ServiceTreeModel" "kind" "[I") (by decide +kernel)) (fun _ h9 => h9) rfl dX9_life_32 ?_
            refine lv_iload_n hx hb dX9_life_35 rfl (lv_at hl 1 rfl) ?_
            refine va_iald (n := 40) (f := F 0) hx hb hK hP 1 0 rfl rfl (vp_in_nI (n := j4) (by omega) (by decide)) dX9_life_36 ?_
            refine lv_topi (fun x10 ex10 => ?_)
            refine lv_iconst (v := 3) hx hb dX9_life_37 (by decide) ?_
            refine lv_icmp_ne (tgt := 44) hx hb dX9_life_38 (by decide) (fun c11 => ?_) (fun c11 => ?_)
            · refine lv_aload_n hx hb dX9_life_44 rfl (lv_at hl 0 rfl) ?_
              refine va_get (D := (dC, dI)) (ci := 10) (v := .ref (a 3)) (C := RX9) (T := TX9) (N := 46) hx hb hts in_m_life2_X9 hown hK hP 0 rfl rfl 3 (by decide) (hts (.fieldLink RX9 19 "ServiceTreeModel" "life" "[I") (by decide +kernel)) (fun _ h9 => h9) rfl dX9_life_45 ?_
              refine lv_bipush (v := 8) hx hb dX9_life_48 (by decide) ?_
              refine lv_iload_n hx hb dX9_life_50 rfl (lv_at hl 1 rfl) ?_
              refine lv_imul hx hb dX9_life_51 ?_
              refine p1_topr (v := .int (nI (8 * j4))) (congrArg Value.int (pk_mul 8 j4)) ?_
              refine lv_iload_n hx hb dX9_life_52 rfl (lv_at hl 2 rfl) ?_
              refine lv_iadd hx hb dX9_life_53 ?_
              refine p1_topr (v := .int (nI ((8 * j4) + j7))) (congrArg Value.int (nI_add (8 * j4) j7)) ?_
              refine va_iald (n := 320) (f := F 3) hx hb hK hP 4 3 rfl rfl (vp_in_nI (n := (8 * j4) + j7) (by omega) (by decide)) dX9_life_54 ?_
              refine lv_topi (fun x12 ex12 => ?_)
              refine lv_istore (lv' := [(4, .int x12), (0, .ref h), (1, .int (nI j4)), (2, .int (nI j7)), (3, .int p2)]) hx hb dX9_life_55 hl (by decide) rfl (fun ls hl => ?_)
              refine lv_aload_n hx hb dX9_life_57 rfl (lv_at hl 1 rfl) ?_
              refine va_get (D := (dC, dI)) (ci := 10) (v := .ref (a 3)) (C := RX9) (T := TX9) (N := 46) hx hb hts in_m_life2_X9 hown hK hP 0 rfl rfl 3 (by decide) (hts (.fieldLink RX9 19 "ServiceTreeModel" "life" "[I") (by decide +kernel)) (fun _ h9 => h9) rfl dX9_life_58 ?_
              refine lv_bipush (v := 8) hx hb dX9_life_61 (by decide) ?_
              refine lv_iload_n hx hb dX9_life_63 rfl (lv_at hl 2 rfl) ?_
              refine lv_imul hx hb dX9_life_64 ?_
              refine p1_topr (v := .int (nI (8 * j4))) (congrArg Value.int (pk_mul 8 j4)) ?_
              refine lv_iload_n hx hb dX9_life_65 rfl (lv_at hl 3 rfl) ?_
              refine lv_iadd hx hb dX9_life_66 ?_
              refine p1_topr (v := .int (nI ((8 * j4) + j7))) (congrArg Value.int (nI_add (8 * j4) j7)) ?_
              refine lv_iload_n hx hb dX9_life_67 rfl (lv_at hl 4 rfl) ?_
              refine va_iast (n := 320) (f := F 3) hx hb hK hP hD hS 4 3 rfl rfl (vp_in_nI (n := (8 * j4) + j7) (by omega) (by decide)) dX9_life_68 (fun H locs hP hD hS => ?_)
              rw [mW_set_3] at hP hD
              obtain ⟨F13, eF13⟩ : ∃ f9 : Nat → Nat → Int32, f9 = va_up F 3 (upd (F 3) (nI ((8 * j4) + j7)).toNatClampNeg p2) := ⟨_, rfl⟩
              rw [← eF13] at hP hD
              replace hI : StM n (b) F V F13 V := ⟨by rw [eF13]; exact hI.1.setF (by decide), trivial⟩
              replace hU : ∀ j : Nat, j ∉ ([3] : List Nat) → F13 j = F j := by rw [eF13]; exact mw_up (by decide) hU
              refine lv_iload hx hb dX9_life_69 (lv_at hl 0 rfl) ?_
              exact W.iret (v := x12) hx hb hr (fun t ht hW => ⟨⟨x12, (F13, V), rfl, ⟨hI.mono (by omega), hU, hV, Or.inr ⟨j4, j7, by omega, by omega, rfl, rfl, (by have k0 := c5; have k1 := c6; have k2 := c8; have k3 := c9; have k4 := c11; simp only [p1_le, p1_lt, p1_eq, p1_m6, p1_m1, p1_0, p1_1, p1_2, p1_3, p1_4, p1_5, p1_6, p1_7, p1_8, p1_9, p1_10, p1_11, p1_12, p1_13, p1_14, p1_15, p1_16, p1_17, p1_18, p1_19, p1_20, p1_40, p1_50, p1_200, p1_1000] at k0 k1 k2 k3 k4 ⊢; omega), Or.inr ⟨by rw [nI_clamp (show j4 < 2 ^ 31 by omega)] at ex10; rw [← ex10]; exact c11, by rw [ex12, nI_clamp (show 8 * j4 + j7 < 2 ^ 31 by omega)], by show F13 = _; rw [eF13, nI_clamp (show 8 * j4 + j7 < 2 ^ 31 by omega)]⟩⟩⟩, by rw [ht]; exact hP, hD⟩, hS.F ht⟩) hS.2.2 dX9_life_71
            · refine lv_bipush (v := (-2)) hx hb dX9_life_41 (by decide) ?_
              exact W.iret (v := (-2)) hx hb hr (fun t ht hW => ⟨⟨(-2), (F, V), rfl, ⟨hI.mono (by omega), hU, hV, Or.inr ⟨j4, j7, by omega, by omega, rfl, rfl, (by have k0 := c5; have k1 := c6; have k2 := c8; have k3 := c9; have k4 := c11; simp only [p1_le, p1_lt, p1_eq, p1_m6, p1_m1, p1_0, p1_1, p1_2, p1_3, p1_4, p1_5, p1_6, p1_7, p1_8, p1_9, p1_10, p1_11, p1_12, p1_13, p1_14, p1_15, p1_16, p1_17, p1_18, p1_19, p1_20, p1_40, p1_50, p1_200, p1_1000] at k0 k1 k2 k3 k4 ⊢; omega), Or.inl ⟨by rw [nI_clamp (show j4 < 2 ^ 31 by omega)] at ex10; rw [← ex10]; exact c11, rfl, rfl⟩⟩⟩, by rw [ht]; exact hP, hD⟩, hS.F ht⟩) hS.2.2 dX9_life_43
          · refine lv_iconst (v := (-1)) hx hb dX9_life_29 (by decide) ?_
            exact W.iret (v := (-1)) hx hb hr (fun t ht hW => ⟨⟨(-1), (F, V), rfl, ⟨hI.mono (by omega), hU, hV, Or.inl ⟨by have k0 := c5; have k1 := c6; have k2 := c8; have k3 := c9; have k4 := nI_lt (a := j4) (b := n) (by omega) (by omega); have k5 := nI_pos' (n := j4) (by omega); simp only [p1_le, p1_lt, p1_eq, p1_m6, p1_m1, p1_0, p1_1, p1_2, p1_3, p1_4, p1_5, p1_6, p1_7, p1_8, p1_9, p1_10, p1_11, p1_12, p1_13, p1_14, p1_15, p1_16, p1_17, p1_18, p1_19, p1_20, p1_40, p1_50, p1_200, p1_1000] at k0 k1 k2 k3 k4 k5 ⊢; omega, rfl, rfl⟩⟩, by rw [ht]; exact hP, hD⟩, hS.F ht⟩) hS.2.2 dX9_life_30
  · refine lv_if_eq (tgt := 29) hx hb dX9_life_5 (by decide) (fun _ => ?_) (fun c9 => absurd (by decide) c9)
    refine lv_iconst (v := (-1)) hx hb dX9_life_29 (by decide) ?_
    exact W.iret (v := (-1)) hx hb hr (fun t ht hW => ⟨⟨(-1), (F, V), rfl, ⟨hI.mono (by omega), hU, hV, Or.inl ⟨by have k0 := noj4; simp only [p1_le, p1_lt, p1_eq, p1_m6, p1_m1, p1_0, p1_1, p1_2, p1_3, p1_4, p1_5, p1_6, p1_7, p1_8, p1_9, p1_10, p1_11, p1_12, p1_13, p1_14, p1_15, p1_16, p1_17, p1_18, p1_19, p1_20, p1_40, p1_50, p1_200, p1_1000] at k0 ⊢; omega, rfl, rfl⟩⟩, by rw [ht]; exact hP, hD⟩, hS.F ht⟩) hS.2.2 dX9_life_30
