set_option maxHeartbeats 4000000 in
set_option maxRecDepth 100000 in
theorem lc_14 {p : Program} {e : Env} {s : State} {m : MethodId} {below : List Frame} {meth : Method} {c : Code} (l : Launch) {b L : Nat} {xs : Nat → Int32} {dC : Nat → ClassId} {dI : Nat → Nat → Nat} {h : Nat} {a : Nat → Nat} {cI cJ cO cE : ClassId} {h2 : Nat} {a2 : Nat → Nat} {k2 : Nat → ClassId} {z mi : Nat} {j : Nat} (hL : L ≤ 2560) (hj : 5 * j + 5 ≤ L) (C : lwC p s m c b L xs dC dI cI cJ cO cE k2 z mi) {ev : Nat} {n : Nat} {cap : Nat} {fE : Nat → Option Nat} {sd : Nat → Nat → Nat} {Lc : Nat → Int64} {I : Nat → Int32} {M : Nat → Nat → Int64} {J : Nat → Nat → Int32} {si : Nat → Nat → Int32} {sa : Nat → Nat → Nat → Int32} {dl : Nat → Nat} {F : Nat → Nat → Int32} {V : Nat → Int32} {H : Heap} {locs : List Loc} {ls : Array Slot} (hI : LI z (j) ev n cap fE sd dl Lc I M J si sa F V) (hP : va_P (dC, dI) vwCl (xW h a ev cI cJ cO cE Lc I M J n cap fE sd si sa dl ++ mW h2 a2 k2 F V) H) (hD : va_D (lwA s) (xW h a ev cI cJ cO cE Lc I M J n cap fE sd si sa dl ++ mW h2 a2 k2 F V)) (hS : va_S (lwA s) s.heap H locs) (hl : lv_has ls 4 [(3, .int (nI (5 * j))), (2, .ref h2), (1, .ref h), (0, .ref b)]) (K : LK p l e s m below meth c b dC dI h a cI cJ cO cE h2 a2 k2 z (j + 1)) : W p l e room_1 s m #[Value.ref b] below meth c H locs (60 + 7 * j) (19218 + 261 * j) (lw_Z below #[Value.ref b] s) (F0 m 620 ls []) := by
  obtain ⟨hx, hb, hml, hown, hts, hX, hbl, hKx, hKm, hN, hZ, hT, hO, hMi, hDc0⟩ := C
  have hbA : ¬ lwA s b := Nat.not_le.mpr hbl
  have hA : ∀ q : Nat, s.heap.size ≤ q → lwA s q := fun _ h => h
  have hI1 := hI.1
  have hI2 := hI.2.1
  refine lv_aload_n hx hb dL_law_620 rfl (lv_at hl 2 rfl) ?_
  refine lv_aload_n hx hb dL_law_621 rfl (lv_at hl 3 rfl) ?_
  refine lv_iload_n hx hb dL_law_622 rfl (lv_at hl 0 rfl) ?_
  refine lv_iconst (v := 1) hx hb dL_law_623 (by decide) ?_
  refine lv_iadd hx hb dL_law_624 ?_
  refine p1_topr (v := .int (nI (5 * j + 1))) (congrArg Value.int (nI_add (5 * j) 1)) ?_
  refine va_sld hx hb hX hbl hbA hS (nI_in (c := 5 * j + 1) (N := L) (by omega) (by omega)) dL_law_625 ?_
  refine p1_topr (v := .int (xs (5 * j + 1))) (congrArg (fun t9 => Value.int (xs t9)) (nI_clamp (by omega))) ?_
  refine lv_aload_n hx hb dL_law_626 rfl (lv_at hl 3 rfl) ?_
  refine lv_iload_n hx hb dL_law_627 rfl (lv_at hl 0 rfl) ?_
  refine lv_iconst (v := 2) hx hb dL_law_628 (by decide) ?_
  refine lv_iadd hx hb dL_law_629 ?_
  refine p1_topr (v := .int (nI (5 * j + 2))) (congrArg Value.int (nI_add (5 * j) 2)) ?_
  refine va_sld hx hb hX hbl hbA hS (nI_in (c := 5 * j + 2) (N := L) (by omega) (by omega)) dL_law_630 ?_
  refine p1_topr (v := .int (xs (5 * j + 2))) (congrArg (fun t9 => Value.int (xs t9)) (nI_clamp (by omega))) ?_
  replace hP := xq_perm List.perm_append_comm hP
  replace hD := xd_perm List.perm_append_comm hD
  have hPc := xq_right hP
  have hDc := xd_right hD
  have hFc := xj_free hD hS hA
  refine va_calli (va_runV (As := [.int (xs (5 * j + 1)), .int (xs (5 * j + 2))]) (rest := []) ⟨hx, hb, hml, hown, hts⟩ (c_y_planned l dC dI h a ev cI cJ cO cE Lc I M J n cap fE sd si sa dl (402000 * j) (xs (5 * j + 1)) (xs (5 * j + 2)) H.size hI1 (by omega)) (cwV 2 hts wc_law_y_planned_73 rfl rfl rfl (by decide +kernel) ⟨Nat.le_of_ble_eq_true rfl, Nat.le_of_ble_eq_true rfl⟩) ⟨fun a9 U g9 mk q => by obtain ⟨q0, q1, qP, qK, qD, qN⟩ := q; exact ⟨q0, q1, qP, va_K.moved (u := U) (U := U.calling g9 mk a9) (Vm.Alike.refl U.vm) qK, qD, pw_N.same (u := U) (U := U.calling g9 mk a9) rfl qN⟩, va_recv hKx hPc (ci := 9) (q0 := 0) rfl rfl, fun U hU hW => ⟨rfl, by rw [hU], by rw [hU]; exact hPc, va_K.moved hW.alike hKx, hDc.weaken (fun _ _ _ _ => trivial), pw_N.warm hW hN⟩⟩ rfl rfl hl.1 rfl (lv_room (Nat.le_of_ble_eq_true rfl)) dL_law_631 ⟨by show 60 + 7 * j + 0 ≤ 600000; omega, by show 19218 + 261 * j + 0 ≤ 7302250; omega⟩) hS (fun q _ h => hFc q h) hFc (fun r0 u0 t H1 locs ht hvm hw0 hB hz1 hk1 hS => ?_)
  obtain ⟨hP1, hD1⟩ := hB
  rw [ht] at hP1
  obtain ⟨hP, hD⟩ := xj_join hP hD hk1 hFc hP1 hD1
  generalize H1 = H at hP hS ⊢
  clear hP1 hD1 hPc hDc hFc hk1 hz1 ht hvm
  replace hw0 := hw0
  replace hP : va_P (dC, dI) vwCl (mW h2 a2 k2 F V ++ xW h a ev cI cJ cO cE Lc I M J n cap fE sd si sa dl) H := hP
  replace hD : va_D (lwA s) (mW h2 a2 k2 F V ++ xW h a ev cI cJ cO cE Lc I M J n cap fE sd si sa dl) := hD
  refine lv_pop hx hb dL_law_634 rfl ?_
  refine lv_aload_n hx hb dL_law_635 rfl (lv_at hl 1 rfl) ?_
  refine lv_aload_n hx hb dL_law_636 rfl (lv_at hl 3 rfl) ?_
  refine lv_iload_n hx hb dL_law_637 rfl (lv_at hl 0 rfl) ?_
  refine lv_iconst (v := 1) hx hb dL_law_638 (by decide) ?_
  refine lv_iadd hx hb dL_law_639 ?_
  refine p1_topr (v := .int (nI (5 * j + 1))) (congrArg Value.int (nI_add (5 * j) 1)) ?_
  refine va_sld hx hb hX hbl hbA hS (nI_in (c := 5 * j + 1) (N := L) (by omega) (by omega)) dL_law_640 ?_
  refine p1_topr (v := .int (xs (5 * j + 1))) (congrArg (fun t9 => Value.int (xs t9)) (nI_clamp (by omega))) ?_
  refine lv_aload_n hx hb dL_law_641 rfl (lv_at hl 3 rfl) ?_
  refine lv_iload_n hx hb dL_law_642 rfl (lv_at hl 0 rfl) ?_
  refine lv_iconst (v := 2) hx hb dL_law_643 (by decide) ?_
  refine lv_iadd hx hb dL_law_644 ?_
  refine p1_topr (v := .int (nI (5 * j + 2))) (congrArg Value.int (nI_add (5 * j) 2)) ?_
  refine va_sld hx hb hX hbl hbA hS (nI_in (c := 5 * j + 2) (N := L) (by omega) (by omega)) dL_law_645 ?_
  refine p1_topr (v := .int (xs (5 * j + 2))) (congrArg (fun t9 => Value.int (xs t9)) (nI_clamp (by omega))) ?_
  replace hP := xq_perm List.perm_append_comm hP
  replace hD := xd_perm List.perm_append_comm hD
  have hPc := xq_right hP
  have hDc := xd_right hD
  have hFc := xj_free hD hS hA
  refine va_calli (va_runV (As := [.int (xs (5 * j + 1)), .int (xs (5 * j + 2))]) (rest := []) ⟨hx, hb, hml, hown, hts⟩ (c_w_planned l dC dI h2 a2 k2 F V n (402000 * j) (xs (5 * j + 1)) (xs (5 * j + 2)) H.size hI2 (by omega)) (cwV 2 hts wc_law_w_planned_76 rfl rfl rfl (by decide +kernel) ⟨Nat.le_of_ble_eq_true rfl, Nat.le_of_ble_eq_true rfl⟩) ⟨fun a9 U g mk q => by obtain ⟨q0, q1, qP, qK, qD⟩ := q; exact ⟨q0, q1, qP, va_K.moved (u := U) (U := U.calling g mk a9) (Vm.Alike.refl U.vm) qK, qD⟩, va_recv hKm hPc (ci := 10) (q0 := 0) rfl rfl, fun U hU hW => ⟨rfl, by rw [hU], by rw [hU]; exact hPc, va_K.moved hW.alike hKm, hDc.weaken (fun _ _ _ _ => trivial)⟩⟩ rfl rfl hl.1 rfl (lv_room (Nat.le_of_ble_eq_true rfl)) dL_law_646 ⟨by show 60 + 7 * j + 0 + 0 ≤ 600000; omega, by show 19218 + 261 * j + 0 + 0 ≤ 7302250; omega⟩) hS (fun q _ h => hFc q h) hFc (fun r1 u1 t H1 locs ht hvm hw1 hB hz1 hk1 hS => ?_)
  obtain ⟨hP1, hD1⟩ := hB
  rw [ht] at hP1
  obtain ⟨hP, hD⟩ := xj_join hP hD hk1 hFc hP1 hD1
  generalize H1 = H at hP hS ⊢
  clear hP1 hD1 hPc hDc hFc hk1 hz1 ht hvm
  obtain ⟨F1, V1⟩ := u1
  obtain ⟨hwF, hwV, hw1⟩ := hw1
  replace hP : va_P (dC, dI) vwCl (xW h a ev cI cJ cO cE Lc I M J n cap fE sd si sa dl ++ mW h2 a2 k2 F1 V1) H := hP
  replace hD : va_D (lwA s) (xW h a ev cI cJ cO cE Lc I M J n cap fE sd si sa dl ++ mW h2 a2 k2 F1 V1) := hD
  replace hwF : F1 = F := hwF
  replace hwV : V1 = V := hwV
  rw [hwF, hwV] at hP hD
  replace hP : va_P (dC, dI) vwCl (xW h a ev cI cJ cO cE Lc I M J n cap fE sd si sa dl ++ mW h2 a2 k2 F V) H := hP
  replace hD : va_D (lwA s) (xW h a ev cI cJ cO cE Lc I M J n cap fE sd si sa dl ++ mW h2 a2 k2 F V) := hD
  refine lv_pop hx hb dL_law_649 rfl ?_
  refine lv_goto (tgt := 738) hx hb dL_law_650 (by decide) ?_
  refine lv_iinc (v := nI (5 * (j + 1))) (lv' := [(3, .int (nI (5 * (j + 1)))), (2, .ref h2), (1, .ref h), (0, .ref b)]) hx hb dL_law_738 hl (k := 0) rfl (nI_add (5 * j) 5) (by decide) rfl (fun ls hl => ?_)
  refine lv_goto (tgt := 18) hx hb dL_law_741 (by decide) ?_
  refine W.widen (k := 60 + 7 * (j + 1)) (n := 19218 + 261 * (j + 1)) (by omega) (by omega) ?_
  exact K ev n cap fE sd Lc I M J si sa dl F V H locs ls ⟨hI1.mono (by omega), hI2.mono (by omega), hI.2.2.1, hI.2.2.2.step (by omega)⟩ hP hD hS hl
set_option maxHeartbeats 4000000 in
set_option maxRecDepth 100000 in
theorem lc_15 {p : Program} {e : Env} {s : State} {m : MethodId} {below : List Frame} {meth : Method} {c : Code} (l : Launch) {b L : Nat} {xs : Nat → Int32} {dC : Nat → ClassId} {dI : Nat → Nat → Nat} {h : Nat} {a : Nat → Nat} {cI cJ cO cE : ClassId} {h2 : Nat} {a2 : Nat → Nat} {k2 : Nat → ClassId} {z mi : Nat} {j : Nat} (hL : L ≤ 2560) (hj : 5 * j + 5 ≤ L) (C : lwC p s m c b L xs dC dI cI cJ cO cE k2 z mi) {ev : Nat} {n : Nat} {cap : Nat} {fE : Nat → Option Nat} {sd : Nat → Nat → Nat} {Lc : Nat → Int64} {I : Nat → Int32} {M : Nat → Nat → Int64} {J : Nat → Nat → Int32} {si : Nat → Nat → Int32} {sa : Nat → Nat → Nat → Int32} {dl : Nat → Nat} {F : Nat → Nat → Int32} {V : Nat → Int32} {H : Heap} {locs : List Loc} {ls : Array Slot} (hI : LI z (j) ev n cap fE sd dl Lc I M J si sa F V) (hP : va_P (dC, dI) vwCl (xW h a ev cI cJ cO cE Lc I M J n cap fE sd si sa dl ++ mW h2 a2 k2 F V) H) (hD : va_D (lwA s) (xW h a ev cI cJ cO cE Lc I M J n cap fE sd si sa dl ++ mW h2 a2 k2 F V)) (hS : va_S (lwA s) s.heap H locs) (hl : lv_has ls 4 [(3, .int (nI (5 * j))), (2, .ref h2), (1, .ref h), (0, .ref b)]) (K : LK p l e s m below meth c b dC dI h a cI cJ cO cE h2 a2 k2 z (j + 1)) : W p l e room_1 s m #[Value.ref b] below meth c H locs (60 + 7 * j) (19218 + 261 * j) (lw_Z below #[Value.ref b] s) (F0 m 653 ls []) := by
  obtain ⟨hx, hb, hml, hown, hts, hX, hbl, hKx, hKm, hN, hZ, hT, hO, hMi, hDc0⟩ := C
  have hbA : ¬ lwA s b := Nat.not_le.mpr hbl
  have hA : ∀ q : Nat, s.heap.size ≤ q → lwA s q := fun _ h => h
  have hI1 := hI.1
  have hI2 := hI.2.1
  refine lv_aload_n hx hb dL_law_653 rfl (lv_at hl 2 rfl) ?_
  replace hP := xq_perm List.perm_append_comm hP
  replace hD := xd_perm List.perm_append_comm hD
  have hPc := xq_right hP
  have hDc := xd_right hD
  have hFc := xj_free hD hS hA
  refine va_calli (va_runV (As := []) (rest := []) ⟨hx, hb, hml, hown, hts⟩ (c_y_quick l dC dI h a ev cI cJ cO cE Lc I M J n cap fE sd si sa dl (402000 * j)  H.size hI1 (by omega)) (cwV 0 hts wc_law_y_quick_77 rfl rfl rfl (by decide +kernel) ⟨Nat.le_of_ble_eq_true rfl, Nat.le_of_ble_eq_true rfl⟩) ⟨fun a9 U g9 mk q => by obtain ⟨q0, q1, qP, qK, qD, qN⟩ := q; exact ⟨q0, q1, qP, va_K.moved (u := U) (U := U.calling g9 mk a9) (Vm.Alike.refl U.vm) qK, qD, pw_N.same (u := U) (U := U.calling g9 mk a9) rfl qN⟩, va_recv hKx hPc (ci := 9) (q0 := 0) rfl rfl, fun U hU hW => ⟨rfl, by rw [hU], by rw [hU]; exact hPc, va_K.moved hW.alike hKx, hDc.weaken (fun _ _ _ _ => trivial), pw_N.warm hW hN⟩⟩ rfl rfl hl.1 rfl (lv_room (Nat.le_of_ble_eq_true rfl)) dL_law_654 ⟨by show 60 + 7 * j + 0 ≤ 600000; omega, by show 19218 + 261 * j + 0 ≤ 7302250; omega⟩) hS (fun q _ h => hFc q h) hFc (fun r0 u0 t H1 locs ht hvm hw0 hB hz1 hk1 hS => ?_)
  obtain ⟨hP1, hD1⟩ := hB
  rw [ht] at hP1
  obtain ⟨hP, hD⟩ := xj_join hP hD hk1 hFc hP1 hD1
  generalize H1 = H at hP hS ⊢
  clear hP1 hD1 hPc hDc hFc hk1 hz1 ht hvm
  replace hw0 := hw0
  replace hP : va_P (dC, dI) vwCl (mW h2 a2 k2 F V ++ xW h a ev cI cJ cO cE Lc I M J n cap fE sd si sa dl) H := hP
  replace hD : va_D (lwA s) (mW h2 a2 k2 F V ++ xW h a ev cI cJ cO cE Lc I M J n cap fE sd si sa dl) := hD
  refine lv_pop hx hb dL_law_657 rfl ?_
  refine lv_aload_n hx hb dL_law_658 rfl (lv_at hl 1 rfl) ?_
  replace hP := xq_perm List.perm_append_comm hP
  replace hD := xd_perm List.perm_append_comm hD
  have hPc := xq_right hP
  have hDc := xd_right hD
  have hFc := xj_free hD hS hA
  refine va_calli (va_runV (As := []) (rest := []) ⟨hx, hb, hml, hown, hts⟩ (c_w_quick l dC dI h2 a2 k2 F V n (402000 * j)  H.size hI2 (by omega)) (cwV 0 hts wc_law_w_quick_81 rfl rfl rfl (by decide +kernel) ⟨Nat.le_of_ble_eq_true rfl, Nat.le_of_ble_eq_true rfl⟩) ⟨fun a9 U g mk q => by obtain ⟨q0, q1, qP, qK, qD⟩ := q; exact ⟨q0, q1, qP, va_K.moved (u := U) (U := U.calling g mk a9) (Vm.Alike.refl U.vm) qK, qD⟩, va_recv hKm hPc (ci := 10) (q0 := 0) rfl rfl, fun U hU hW => ⟨rfl, by rw [hU], by rw [hU]; exact hPc, va_K.moved hW.alike hKm, hDc.weaken (fun _ _ _ _ => trivial)⟩⟩ rfl rfl hl.1 rfl (lv_room (Nat.le_of_ble_eq_true rfl)) dL_law_659 ⟨by show 60 + 7 * j + 0 + 0 ≤ 600000; omega, by show 19218 + 261 * j + 0 + 0 ≤ 7302250; omega⟩) hS (fun q _ h => hFc q h) hFc (fun r1 u1 t H1 locs ht hvm hw1 hB hz1 hk1 hS => ?_)
  obtain ⟨hP1, hD1⟩ := hB
  rw [ht] at hP1
  obtain ⟨hP, hD⟩ := xj_join hP hD hk1 hFc hP1 hD1
  generalize H1 = H at hP hS ⊢
  clear hP1 hD1 hPc hDc hFc hk1 hz1 ht hvm
  obtain ⟨F1, V1⟩ := u1
  obtain ⟨hwF, hwV, hw1⟩ := hw1
  replace hP : va_P (dC, dI) vwCl (xW h a ev cI cJ cO cE Lc I M J n cap fE sd si sa dl ++ mW h2 a2 k2 F1 V1) H := hP
  replace hD : va_D (lwA s) (xW h a ev cI cJ cO cE Lc I M J n cap fE sd si sa dl ++ mW h2 a2 k2 F1 V1) := hD
  replace hwF : F1 = F := hwF
  replace hwV : V1 = V := hwV
  rw [hwF, hwV] at hP hD
  replace hP : va_P (dC, dI) vwCl (xW h a ev cI cJ cO cE Lc I M J n cap fE sd si sa dl ++ mW h2 a2 k2 F V) H := hP
  replace hD : va_D (lwA s) (xW h a ev cI cJ cO cE Lc I M J n cap fE sd si sa dl ++ mW h2 a2 k2 F V) := hD
  refine lv_pop hx hb dL_law_662 rfl ?_
  refine lv_goto (tgt := 738) hx hb dL_law_663 (by decide) ?_
  refine lv_iinc (v := nI (5 * (j + 1))) (lv' := [(3, .int (nI (5 * (j + 1)))), (2, .ref h2), (1, .ref h), (0, .ref b)]) hx hb dL_law_738 hl (k := 0) rfl (nI_add (5 * j) 5) (by decide) rfl (fun ls hl => ?_)
  refine lv_goto (tgt := 18) hx hb dL_law_741 (by decide) ?_
  refine W.widen (k := 60 + 7 * (j + 1)) (n := 19218 + 261 * (j + 1)) (by omega) (by omega) ?_
  exact K ev n cap fE sd Lc I M J si sa dl F V H locs ls ⟨hI1.mono (by omega), hI2.mono (by omega), hI.2.2.1, hI.2.2.2.step (by omega)⟩ hP hD hS hl
set_option maxHeartbeats 4000000 in
set_option maxRecDepth 100000 in
theorem lc_16 {p : Program} {e : Env} {s : State} {m : MethodId} {below : List Frame} {meth : Method} {c : Code} (l : Launch) {b L : Nat} {xs : Nat → Int32} {dC : Nat → ClassId} {dI : Nat → Nat → Nat} {h : Nat} {a : Nat → Nat} {cI cJ cO cE : ClassId} {h2 : Nat} {a2 : Nat → Nat} {k2 : Nat → ClassId} {z mi : Nat} {j : Nat} (hL : L ≤ 2560) (hj : 5 * j + 5 ≤ L) (C : lwC p s m c b L xs dC dI cI cJ cO cE k2 z mi) {ev : Nat} {n : Nat} {cap : Nat} {fE : Nat → Option Nat} {sd : Nat → Nat → Nat} {Lc : Nat → Int64} {I : Nat → Int32} {M : Nat → Nat → Int64} {J : Nat → Nat → Int32} {si : Nat → Nat → Int32} {sa : Nat → Nat → Nat → Int32} {dl : Nat → Nat} {F : Nat → Nat → Int32} {V : Nat → Int32} {H : Heap} {locs : List Loc} {ls : Array Slot} (hI : LI z (j) ev n cap fE sd dl Lc I M J si sa F V) (hP : va_P (dC, dI) vwCl (xW h a ev cI cJ cO cE Lc I M J n cap fE sd si sa dl ++ mW h2 a2 k2 F V) H) (hD : va_D (lwA s) (xW h a ev cI cJ cO cE Lc I M J n cap fE sd si sa dl ++ mW h2 a2 k2 F V)) (hS : va_S (lwA s) s.heap H locs) (hl : lv_has ls 4 [(3, .int (nI (5 * j))), (2, .ref h2), (1, .ref h), (0, .ref b)]) (K : LK p l e s m below meth c b dC dI h a cI cJ cO cE h2 a2 k2 z (j + 1)) : W p l e room_1 s m #[Value.ref b] below meth c H locs (60 + 7 * j) (19218 + 261 * j) (lw_Z below #[Value.ref b] s) (F0 m 666 ls []) := by
  obtain ⟨hx, hb, hml, hown, hts, hX, hbl, hKx, hKm, hN, hZ, hT, hO, hMi, hDc0⟩ := C
  have hbA : ¬ lwA s b := Nat.not_le.mpr hbl
  have hA : ∀ q : Nat, s.heap.size ≤ q → lwA s q := fun _ h => h
  have hI1 := hI.1
  have hI2 := hI.2.1
  refine lv_aload_n hx hb dL_law_666 rfl (lv_at hl 2 rfl) ?_
  replace hP := xq_perm List.perm_append_comm hP
  replace hD := xd_perm List.perm_append_comm hD
  have hPc := xq_right hP
  have hDc := xd_right hD
  have hFc := xj_free hD hS hA
  refine va_calli (va_runV (As := []) (rest := []) ⟨hx, hb, hml, hown, hts⟩ (c_y_ring l dC dI h a ev cI cJ cO cE Lc I M J n cap fE sd si sa dl (402000 * j)  H.size hI1 (by omega)) (cwV 0 hts wc_law_y_ring_82 rfl rfl rfl (by decide +kernel) ⟨Nat.le_of_ble_eq_true rfl, Nat.le_of_ble_eq_true rfl⟩) ⟨fun a9 U g9 mk q => by obtain ⟨q0, q1, qP, qK, qD, qN⟩ := q; exact ⟨q0, q1, qP, va_K.moved (u := U) (U := U.calling g9 mk a9) (Vm.Alike.refl U.vm) qK, qD, pw_N.same (u := U) (U := U.calling g9 mk a9) rfl qN⟩, va_recv hKx hPc (ci := 9) (q0 := 0) rfl rfl, fun U hU hW => ⟨rfl, by rw [hU], by rw [hU]; exact hPc, va_K.moved hW.alike hKx, hDc.weaken (fun _ _ _ _ => trivial), pw_N.warm hW hN⟩⟩ rfl rfl hl.1 rfl (lv_room (Nat.le_of_ble_eq_true rfl)) dL_law_667 ⟨by show 60 + 7 * j + 0 ≤ 600000; omega, by show 19218 + 261 * j + 0 ≤ 7302250; omega⟩) hS (fun q _ h => hFc q h) hFc (fun r0 u0 t H1 locs ht hvm hw0 hB hz1 hk1 hS => ?_)
  obtain ⟨hP1, hD1⟩ := hB
  rw [ht] at hP1
  obtain ⟨hP, hD⟩ := xj_join hP hD hk1 hFc hP1 hD1
  generalize H1 = H at hP hS ⊢
  clear hP1 hD1 hPc hDc hFc hk1 hz1 ht hvm
  replace hw0 := hw0
  replace hP : va_P (dC, dI) vwCl (mW h2 a2 k2 F V ++ xW h a ev cI cJ cO cE Lc I M J n cap fE sd si sa dl) H := hP
  replace hD : va_D (lwA s) (mW h2 a2 k2 F V ++ xW h a ev cI cJ cO cE Lc I M J n cap fE sd si sa dl) := hD
  refine lv_pop hx hb dL_law_670 rfl ?_
  refine lv_aload_n hx hb dL_law_671 rfl (lv_at hl 1 rfl) ?_
  replace hP := xq_perm List.perm_append_comm hP
  replace hD := xd_perm List.perm_append_comm hD
  have hPc := xq_right hP
  have hDc := xd_right hD
  have hFc := xj_free hD hS hA
  refine va_calli (va_runV (As := []) (rest := []) ⟨hx, hb, hml, hown, hts⟩ (c_w_ring l dC dI h2 a2 k2 F V n (402000 * j)  H.size hI2 (by omega)) (cwV 0 hts wc_law_w_ring_85 rfl rfl rfl (by decide +kernel) ⟨Nat.le_of_ble_eq_true rfl, Nat.le_of_ble_eq_true rfl⟩) ⟨fun a9 U g mk q => by obtain ⟨q0, q1, qP, qK, qD⟩ := q; exact ⟨q0, q1, qP, va_K.moved (u := U) (U := U.calling g mk a9) (Vm.Alike.refl U.vm) qK, qD⟩, va_recv hKm hPc (ci := 10) (q0 := 0) rfl rfl, fun U hU hW => ⟨rfl, by rw [hU], by rw [hU]; exact hPc, va_K.moved hW.alike hKm, hDc.weaken (fun _ _ _ _ => trivial)⟩⟩ rfl rfl hl.1 rfl (lv_room (Nat.le_of_ble_eq_true rfl)) dL_law_672 ⟨by show 60 + 7 * j + 0 + 0 ≤ 600000; omega, by show 19218 + 261 * j + 0 + 0 ≤ 7302250; omega⟩) hS (fun q _ h => hFc q h) hFc (fun r1 u1 t H1 locs ht hvm hw1 hB hz1 hk1 hS => ?_)
  obtain ⟨hP1, hD1⟩ := hB
  rw [ht] at hP1
  obtain ⟨hP, hD⟩ := xj_join hP hD hk1 hFc hP1 hD1
  generalize H1 = H at hP hS ⊢
  clear hP1 hD1 hPc hDc hFc hk1 hz1 ht hvm
  obtain ⟨F1, V1⟩ := u1
  obtain ⟨hwF, hwV, hw1⟩ := hw1
  replace hP : va_P (dC, dI) vwCl (xW h a ev cI cJ cO cE Lc I M J n cap fE sd si sa dl ++ mW h2 a2 k2 F1 V1) H := hP
  replace hD : va_D (lwA s) (xW h a ev cI cJ cO cE Lc I M J n cap fE sd si sa dl ++ mW h2 a2 k2 F1 V1) := hD
  replace hwF : F1 = F := hwF
  replace hwV : V1 = V := hwV
  rw [hwF, hwV] at hP hD
  replace hP : va_P (dC, dI) vwCl (xW h a ev cI cJ cO cE Lc I M J n cap fE sd si sa dl ++ mW h2 a2 k2 F V) H := hP
  replace hD : va_D (lwA s) (xW h a ev cI cJ cO cE Lc I M J n cap fE sd si sa dl ++ mW h2 a2 k2 F V) := hD
  refine lv_pop hx hb dL_law_675 rfl ?_
  refine lv_goto (tgt := 738) hx hb dL_law_676 (by decide) ?_
  refine lv_iinc (v := nI (5 * (j + 1))) (lv' := [(3, .int (nI (5 * (j + 1)))), (2, .ref h2), (1, .ref h), (0, .ref b)]) hx hb dL_law_738 hl (k := 0) rfl (nI_add (5 * j) 5) (by decide) rfl (fun ls hl => ?_)
  refine lv_goto (tgt := 18) hx hb dL_law_741 (by decide) ?_
  refine W.widen (k := 60 + 7 * (j + 1)) (n := 19218 + 261 * (j + 1)) (by omega) (by omega) ?_
  exact K ev n cap fE sd Lc I M J si sa dl F V H locs ls ⟨hI1.mono (by omega), hI2.mono (by omega), hI.2.2.1, hI.2.2.2.step (by omega)⟩ hP hD hS hl
set_option maxHeartbeats 4000000 in
set_option maxRecDepth 100000 in
theorem lc_17 {p : Program} {e : Env} {s : State} {m : MethodId} {below : List Frame} {meth : Method} {c : Code} (l : Launch) {b L : Nat} {xs : Nat → Int32} {dC : Nat → ClassId} {dI : Nat → Nat → Nat} {h : Nat} {a : Nat → Nat} {cI cJ cO cE : ClassId} {h2 : Nat} {a2 : Nat → Nat} {k2 : Nat → ClassId} {z mi : Nat} {j : Nat} (hL : L ≤ 2560) (hj : 5 * j + 5 ≤ L) (C : lwC p s m c b L xs dC dI cI cJ cO cE k2 z mi) {ev : Nat} {n : Nat} {cap : Nat} {fE : Nat → Option Nat} {sd : Nat → Nat → Nat} {Lc : Nat → Int64} {I : Nat → Int32} {M : Nat → Nat → Int64} {J : Nat → Nat → Int32} {si : Nat → Nat → Int32} {sa : Nat → Nat → Nat → Int32} {dl : Nat → Nat} {F : Nat → Nat → Int32} {V : Nat → Int32} {H : Heap} {locs : List Loc} {ls : Array Slot} (hI : LI z (j) ev n cap fE sd dl Lc I M J si sa F V) (hP : va_P (dC, dI) vwCl (xW h a ev cI cJ cO cE Lc I M J n cap fE sd si sa dl ++ mW h2 a2 k2 F V) H) (hD : va_D (lwA s) (xW h a ev cI cJ cO cE Lc I M J n cap fE sd si sa dl ++ mW h2 a2 k2 F V)) (hS : va_S (lwA s) s.heap H locs) (hl : lv_has ls 4 [(3, .int (nI (5 * j))), (2, .ref h2), (1, .ref h), (0, .ref b)]) (K : LK p l e s m below meth c b dC dI h a cI cJ cO cE h2 a2 k2 z (j + 1)) : W p l e room_1 s m #[Value.ref b] below meth c H locs (60 + 7 * j) (19218 + 261 * j) (lw_Z below #[Value.ref b] s) (F0 m 679 ls []) := by
  obtain ⟨hx, hb, hml, hown, hts, hX, hbl, hKx, hKm, hN, hZ, hT, hO, hMi, hDc0⟩ := C
  have hbA : ¬ lwA s b := Nat.not_le.mpr hbl
  have hA : ∀ q : Nat, s.heap.size ≤ q → lwA s q := fun _ h => h
  have hI1 := hI.1
  have hI2 := hI.2.1
  refine lv_aload_n hx hb dL_law_679 rfl (lv_at hl 2 rfl) ?_
  replace hP := xq_perm List.perm_append_comm hP
  replace hD := xd_perm List.perm_append_comm hD
  have hPc := xq_right hP
  have hDc := xd_right hD
  have hFc := xj_free hD hS hA
  refine va_calli (va_runV (As := []) (rest := []) ⟨hx, hb, hml, hown, hts⟩ (c_y_changes l dC dI h a ev cI cJ cO cE Lc I M J n cap fE sd si sa dl (402000 * j)  H.size hI1 (by omega)) (cwV 0 hts wc_law_y_changes_86 rfl rfl rfl (by decide +kernel) ⟨Nat.le_of_ble_eq_true rfl, Nat.le_of_ble_eq_true rfl⟩) ⟨fun a9 U g9 mk q => by obtain ⟨q0, q1, qP, qK, qD, qN⟩ := q; exact ⟨q0, q1, qP, va_K.moved (u := U) (U := U.calling g9 mk a9) (Vm.Alike.refl U.vm) qK, qD, pw_N.same (u := U) (U := U.calling g9 mk a9) rfl qN⟩, va_recv hKx hPc (ci := 9) (q0 := 0) rfl rfl, fun U hU hW => ⟨rfl, by rw [hU], by rw [hU]; exact hPc, va_K.moved hW.alike hKx, hDc.weaken (fun _ _ _ _ => trivial), pw_N.warm hW hN⟩⟩ rfl rfl hl.1 rfl (lv_room (Nat.le_of_ble_eq_true rfl)) dL_law_680 ⟨by show 60 + 7 * j + 0 ≤ 600000; omega, by show 19218 + 261 * j + 0 ≤ 7302250; omega⟩) hS (fun q _ h => hFc q h) hFc (fun r0 u0 t H1 locs ht hvm hw0 hB hz1 hk1 hS => ?_)
  obtain ⟨hP1, hD1⟩ := hB
  rw [ht] at hP1
  obtain ⟨hP, hD⟩ := xj_join hP hD hk1 hFc hP1 hD1
  generalize H1 = H at hP hS ⊢
  clear hP1 hD1 hPc hDc hFc hk1 hz1 ht hvm
  replace hw0 := hw0
  replace hP : va_P (dC, dI) vwCl (mW h2 a2 k2 F V ++ xW h a ev cI cJ cO cE Lc I M J n cap fE sd si sa dl) H := hP
  replace hD : va_D (lwA s) (mW h2 a2 k2 F V ++ xW h a ev cI cJ cO cE Lc I M J n cap fE sd si sa dl) := hD
  refine lv_pop hx hb dL_law_683 rfl ?_
  refine lv_aload_n hx hb dL_law_684 rfl (lv_at hl 1 rfl) ?_
  replace hP := xq_perm List.perm_append_comm hP
  replace hD := xd_perm List.perm_append_comm hD
  have hPc := xq_right hP
  have hDc := xd_right hD
  have hFc := xj_free hD hS hA
  refine va_calli (va_runV (As := []) (rest := []) ⟨hx, hb, hml, hown, hts⟩ (c_w_changes l dC dI h2 a2 k2 F V n (402000 * j)  H.size hI2 (by omega)) (cwV 0 hts wc_law_w_changes_89 rfl rfl rfl (by decide +kernel) ⟨Nat.le_of_ble_eq_true rfl, Nat.le_of_ble_eq_true rfl⟩) ⟨fun a9 U g mk q => by obtain ⟨q0, q1, qP, qK, qD⟩ := q; exact ⟨q0, q1, qP, va_K.moved (u := U) (U := U.calling g mk a9) (Vm.Alike.refl U.vm) qK, qD⟩, va_recv hKm hPc (ci := 10) (q0 := 0) rfl rfl, fun U hU hW => ⟨rfl, by rw [hU], by rw [hU]; exact hPc, va_K.moved hW.alike hKm, hDc.weaken (fun _ _ _ _ => trivial)⟩⟩ rfl rfl hl.1 rfl (lv_room (Nat.le_of_ble_eq_true rfl)) dL_law_685 ⟨by show 60 + 7 * j + 0 + 0 ≤ 600000; omega, by show 19218 + 261 * j + 0 + 0 ≤ 7302250; omega⟩) hS (fun q _ h => hFc q h) hFc (fun r1 u1 t H1 locs ht hvm hw1 hB hz1 hk1 hS => ?_)
  obtain ⟨hP1, hD1⟩ := hB
  rw [ht] at hP1
  obtain ⟨hP, hD⟩ := xj_join hP hD hk1 hFc hP1 hD1
  generalize H1 = H at hP hS ⊢
  clear hP1 hD1 hPc hDc hFc hk1 hz1 ht hvm
  obtain ⟨F1, V1⟩ := u1
  obtain ⟨hwF, hwV, hw1⟩ := hw1
  replace hP : va_P (dC, dI) vwCl (xW h a ev cI cJ cO cE Lc I M J n cap fE sd si sa dl ++ mW h2 a2 k2 F1 V1) H := hP
  replace hD : va_D (lwA s) (xW h a ev cI cJ cO cE Lc I M J n cap fE sd si sa dl ++ mW h2 a2 k2 F1 V1) := hD
  replace hwF : F1 = F := hwF
  replace hwV : V1 = V := hwV
  rw [hwF, hwV] at hP hD
  replace hP : va_P (dC, dI) vwCl (xW h a ev cI cJ cO cE Lc I M J n cap fE sd si sa dl ++ mW h2 a2 k2 F V) H := hP
  replace hD : va_D (lwA s) (xW h a ev cI cJ cO cE Lc I M J n cap fE sd si sa dl ++ mW h2 a2 k2 F V) := hD
  refine lv_pop hx hb dL_law_688 rfl ?_
  refine lv_goto (tgt := 738) hx hb dL_law_689 (by decide) ?_
  refine lv_iinc (v := nI (5 * (j + 1))) (lv' := [(3, .int (nI (5 * (j + 1)))), (2, .ref h2), (1, .ref h), (0, .ref b)]) hx hb dL_law_738 hl (k := 0) rfl (nI_add (5 * j) 5) (by decide) rfl (fun ls hl => ?_)
  refine lv_goto (tgt := 18) hx hb dL_law_741 (by decide) ?_
  refine W.widen (k := 60 + 7 * (j + 1)) (n := 19218 + 261 * (j + 1)) (by omega) (by omega) ?_
  exact K ev n cap fE sd Lc I M J si sa dl F V H locs ls ⟨hI1.mono (by omega), hI2.mono (by omega), hI.2.2.1, hI.2.2.2.step (by omega)⟩ hP hD hS hl
set_option maxHeartbeats 4000000 in
set_option maxRecDepth 100000 in
theorem lc_18 {p : Program} {e : Env} {s : State} {m : MethodId} {below : List Frame} {meth : Method} {c : Code} (l : Launch) {b L : Nat} {xs : Nat → Int32} {dC : Nat → ClassId} {dI : Nat → Nat → Nat} {h : Nat} {a : Nat → Nat} {cI cJ cO cE : ClassId} {h2 : Nat} {a2 : Nat → Nat} {k2 : Nat → ClassId} {z mi : Nat} {j : Nat} (hL : L ≤ 2560) (hj : 5 * j + 5 ≤ L) (C : lwC p s m c b L xs dC dI cI cJ cO cE k2 z mi) {ev : Nat} {n : Nat} {cap : Nat} {fE : Nat → Option Nat} {sd : Nat → Nat → Nat} {Lc : Nat → Int64} {I : Nat → Int32} {M : Nat → Nat → Int64} {J : Nat → Nat → Int32} {si : Nat → Nat → Int32} {sa : Nat → Nat → Nat → Int32} {dl : Nat → Nat} {F : Nat → Nat → Int32} {V : Nat → Int32} {H : Heap} {locs : List Loc} {ls : Array Slot} (hI : LI z (j) ev n cap fE sd dl Lc I M J si sa F V) (hP : va_P (dC, dI) vwCl (xW h a ev cI cJ cO cE Lc I M J n cap fE sd si sa dl ++ mW h2 a2 k2 F V) H) (hD : va_D (lwA s) (xW h a ev cI cJ cO cE Lc I M J n cap fE sd si sa dl ++ mW h2 a2 k2 F V)) (hS : va_S (lwA s) s.heap H locs) (hl : lv_has ls 4 [(3, .int (nI (5 * j))), (2, .ref h2), (1, .ref h), (0, .ref b)]) (K : LK p l e s m below meth c b dC dI h a cI cJ cO cE h2 a2 k2 z (j + 1)) : W p l e room_1 s m #[Value.ref b] below meth c H locs (60 + 7 * j) (19218 + 261 * j) (lw_Z below #[Value.ref b] s) (F0 m 692 ls []) := by
  obtain ⟨hx, hb, hml, hown, hts, hX, hbl, hKx, hKm, hN, hZ, hT, hO, hMi, hDc0⟩ := C
  have hbA : ¬ lwA s b := Nat.not_le.mpr hbl
  have hA : ∀ q : Nat, s.heap.size ≤ q → lwA s q := fun _ h => h
  have hI1 := hI.1
  have hI2 := hI.2.1
  refine lv_aload_n hx hb dL_law_692 rfl (lv_at hl 2 rfl) ?_
  refine lv_aload_n hx hb dL_law_693 rfl (lv_at hl 3 rfl) ?_
  refine lv_iload_n hx hb dL_law_694 rfl (lv_at hl 0 rfl) ?_
  refine lv_iconst (v := 1) hx hb dL_law_695 (by decide) ?_
  refine lv_iadd hx hb dL_law_696 ?_
  refine p1_topr (v := .int (nI (5 * j + 1))) (congrArg Value.int (nI_add (5 * j) 1)) ?_
  refine va_sld hx hb hX hbl hbA hS (nI_in (c := 5 * j + 1) (N := L) (by omega) (by omega)) dL_law_697 ?_
  refine p1_topr (v := .int (xs (5 * j + 1))) (congrArg (fun t9 => Value.int (xs t9)) (nI_clamp (by omega))) ?_
  refine lv_aload_n hx hb dL_law_698 rfl (lv_at hl 3 rfl) ?_
  refine lv_iload_n hx hb dL_law_699 rfl (lv_at hl 0 rfl) ?_
  refine lv_iconst (v := 2) hx hb dL_law_700 (by decide) ?_
  refine lv_iadd hx hb dL_law_701 ?_
  refine p1_topr (v := .int (nI (5 * j + 2))) (congrArg Value.int (nI_add (5 * j) 2)) ?_
  refine va_sld hx hb hX hbl hbA hS (nI_in (c := 5 * j + 2) (N := L) (by omega) (by omega)) dL_law_702 ?_
  refine p1_topr (v := .int (xs (5 * j + 2))) (congrArg (fun t9 => Value.int (xs t9)) (nI_clamp (by omega))) ?_
  replace hP := xq_perm List.perm_append_comm hP
  replace hD := xd_perm List.perm_append_comm hD
  have hPc := xq_right hP
  have hDc := xd_right hD
  have hFc := xj_free hD hS hA
  refine va_calli (va_runV (As := [.int (xs (5 * j + 1)), .int (xs (5 * j + 2))]) (rest := []) ⟨hx, hb, hml, hown, hts⟩ (c_y_change l dC dI h a ev cI cJ cO cE Lc I M J n cap fE sd si sa dl (402000 * j) (xs (5 * j + 1)) (xs (5 * j + 2)) H.size hI1 (by omega)) (cwV 2 hts wc_law_y_change_90 rfl rfl rfl (by decide +kernel) ⟨Nat.le_of_ble_eq_true rfl, Nat.le_of_ble_eq_true rfl⟩) ⟨fun a9 U g9 mk q => by obtain ⟨q0, q1, qP, qK, qD, qN⟩ := q; exact ⟨q0, q1, qP, va_K.moved (u := U) (U := U.calling g9 mk a9) (Vm.Alike.refl U.vm) qK, qD, pw_N.same (u := U) (U := U.calling g9 mk a9) rfl qN⟩, va_recv hKx hPc (ci := 9) (q0 := 0) rfl rfl, fun U hU hW => ⟨rfl, by rw [hU], by rw [hU]; exact hPc, va_K.moved hW.alike hKx, hDc.weaken (fun _ _ _ _ => trivial), pw_N.warm hW hN⟩⟩ rfl rfl hl.1 rfl (lv_room (Nat.le_of_ble_eq_true rfl)) dL_law_703 ⟨by show 60 + 7 * j + 0 ≤ 600000; omega, by show 19218 + 261 * j + 0 ≤ 7302250; omega⟩) hS (fun q _ h => hFc q h) hFc (fun r0 u0 t H1 locs ht hvm hw0 hB hz1 hk1 hS => ?_)
  obtain ⟨hP1, hD1⟩ := hB
  rw [ht] at hP1
  obtain ⟨hP, hD⟩ := xj_join hP hD hk1 hFc hP1 hD1
  generalize H1 = H at hP hS ⊢
  clear hP1 hD1 hPc hDc hFc hk1 hz1 ht hvm
  replace hw0 := hw0
  replace hP : va_P (dC, dI) vwCl (mW h2 a2 k2 F V ++ xW h a ev cI cJ cO cE Lc I M J n cap fE sd si sa dl) H := hP
  replace hD : va_D (lwA s) (mW h2 a2 k2 F V ++ xW h a ev cI cJ cO cE Lc I M J n cap fE sd si sa dl) := hD
  refine lv_pop hx hb dL_law_706 rfl ?_
  refine lv_aload_n hx hb dL_law_707 rfl (lv_at hl 1 rfl) ?_
  refine lv_aload_n hx hb dL_law_708 rfl (lv_at hl 3 rfl) ?_
  refine lv_iload_n hx hb dL_law_709 rfl (lv_at hl 0 rfl) ?_
  refine lv_iconst (v := 1) hx hb dL_law_710 (by decide) ?_
  refine lv_iadd hx hb dL_law_711 ?_
  refine p1_topr (v := .int (nI (5 * j + 1))) (congrArg Value.int (nI_add (5 * j) 1)) ?_
  refine va_sld hx hb hX hbl hbA hS (nI_in (c := 5 * j + 1) (N := L) (by omega) (by omega)) dL_law_712 ?_
  refine p1_topr (v := .int (xs (5 * j + 1))) (congrArg (fun t9 => Value.int (xs t9)) (nI_clamp (by omega))) ?_
  refine lv_aload_n hx hb dL_law_713 rfl (lv_at hl 3 rfl) ?_
  refine lv_iload_n hx hb dL_law_714 rfl (lv_at hl 0 rfl) ?_
  refine lv_iconst (v := 2) hx hb dL_law_715 (by decide) ?_
  refine lv_iadd hx hb dL_law_716 ?_
  refine p1_topr (v := .int (nI (5 * j + 2))) (congrArg Value.int (nI_add (5 * j) 2)) ?_
  refine va_sld hx hb hX hbl hbA hS (nI_in (c := 5 * j + 2) (N := L) (by omega) (by omega)) dL_law_717 ?_
  refine p1_topr (v := .int (xs (5 * j + 2))) (congrArg (fun t9 => Value.int (xs t9)) (nI_clamp (by omega))) ?_
  replace hP := xq_perm List.perm_append_comm hP
  replace hD := xd_perm List.perm_append_comm hD
  have hPc := xq_right hP
  have hDc := xd_right hD
  have hFc := xj_free hD hS hA
  refine va_calli (va_runV (As := [.int (xs (5 * j + 1)), .int (xs (5 * j + 2))]) (rest := []) ⟨hx, hb, hml, hown, hts⟩ (c_w_change l dC dI h2 a2 k2 F V n (402000 * j) (xs (5 * j + 1)) (xs (5 * j + 2)) H.size hI2 (by omega)) (cwV 2 hts wc_law_w_change_93 rfl rfl rfl (by decide +kernel) ⟨Nat.le_of_ble_eq_true rfl, Nat.le_of_ble_eq_true rfl⟩) ⟨fun a9 U g mk q => by obtain ⟨q0, q1, qP, qK, qD⟩ := q; exact ⟨q0, q1, qP, va_K.moved (u := U) (U := U.calling g mk a9) (Vm.Alike.refl U.vm) qK, qD⟩, va_recv hKm hPc (ci := 10) (q0 := 0) rfl rfl, fun U hU hW => ⟨rfl, by rw [hU], by rw [hU]; exact hPc, va_K.moved hW.alike hKm, hDc.weaken (fun _ _ _ _ => trivial)⟩⟩ rfl rfl hl.1 rfl (lv_room (Nat.le_of_ble_eq_true rfl)) dL_law_718 ⟨by show 60 + 7 * j + 0 + 0 ≤ 600000; omega, by show 19218 + 261 * j + 0 + 0 ≤ 7302250; omega⟩) hS (fun q _ h => hFc q h) hFc (fun r1 u1 t H1 locs ht hvm hw1 hB hz1 hk1 hS => ?_)
  obtain ⟨hP1, hD1⟩ := hB
  rw [ht] at hP1
  obtain ⟨hP, hD⟩ := xj_join hP hD hk1 hFc hP1 hD1
  generalize H1 = H at hP hS ⊢
  clear hP1 hD1 hPc hDc hFc hk1 hz1 ht hvm
  obtain ⟨F1, V1⟩ := u1
  obtain ⟨hwF, hwV, hw1⟩ := hw1
  replace hP : va_P (dC, dI) vwCl (xW h a ev cI cJ cO cE Lc I M J n cap fE sd si sa dl ++ mW h2 a2 k2 F1 V1) H := hP
  replace hD : va_D (lwA s) (xW h a ev cI cJ cO cE Lc I M J n cap fE sd si sa dl ++ mW h2 a2 k2 F1 V1) := hD
  replace hwF : F1 = F := hwF
  replace hwV : V1 = V := hwV
  rw [hwF, hwV] at hP hD
  replace hP : va_P (dC, dI) vwCl (xW h a ev cI cJ cO cE Lc I M J n cap fE sd si sa dl ++ mW h2 a2 k2 F V) H := hP
  replace hD : va_D (lwA s) (xW h a ev cI cJ cO cE Lc I M J n cap fE sd si sa dl ++ mW h2 a2 k2 F V) := hD
  refine lv_pop hx hb dL_law_721 rfl ?_
  refine lv_goto (tgt := 738) hx hb dL_law_722 (by decide) ?_
  refine lv_iinc (v := nI (5 * (j + 1))) (lv' := [(3, .int (nI (5 * (j + 1)))), (2, .ref h2), (1, .ref h), (0, .ref b)]) hx hb dL_law_738 hl (k := 0) rfl (nI_add (5 * j) 5) (by decide) rfl (fun ls hl => ?_)
  refine lv_goto (tgt := 18) hx hb dL_law_741 (by decide) ?_
  refine W.widen (k := 60 + 7 * (j + 1)) (n := 19218 + 261 * (j + 1)) (by omega) (by omega) ?_
  exact K ev n cap fE sd Lc I M J si sa dl F V H locs ls ⟨hI1.mono (by omega), hI2.mono (by omega), hI.2.2.1, hI.2.2.2.step (by omega)⟩ hP hD hS hl
set_option maxHeartbeats 4000000 in
set_option maxRecDepth 100000 in
theorem lc_19 {p : Program} {e : Env} {s : State} {m : MethodId} {below : List Frame} {meth : Method} {c : Code} (l : Launch) {b L : Nat} {xs : Nat → Int32} {dC : Nat → ClassId} {dI : Nat → Nat → Nat} {h : Nat} {a : Nat → Nat} {cI cJ cO cE : ClassId} {h2 : Nat} {a2 : Nat → Nat} {k2 : Nat → ClassId} {z mi : Nat} {j : Nat} (hL : L ≤ 2560) (hj : 5 * j + 5 ≤ L) (C : lwC p s m c b L xs dC dI cI cJ cO cE k2 z mi) {ev : Nat} {n : Nat} {cap : Nat} {fE : Nat → Option Nat} {sd : Nat → Nat → Nat} {Lc : Nat → Int64} {I : Nat → Int32} {M : Nat → Nat → Int64} {J : Nat → Nat → Int32} {si : Nat → Nat → Int32} {sa : Nat → Nat → Nat → Int32} {dl : Nat → Nat} {F : Nat → Nat → Int32} {V : Nat → Int32} {H : Heap} {locs : List Loc} {ls : Array Slot} (hI : LI z (j) ev n cap fE sd dl Lc I M J si sa F V) (hP : va_P (dC, dI) vwCl (xW h a ev cI cJ cO cE Lc I M J n cap fE sd si sa dl ++ mW h2 a2 k2 F V) H) (hD : va_D (lwA s) (xW h a ev cI cJ cO cE Lc I M J n cap fE sd si sa dl ++ mW h2 a2 k2 F V)) (hS : va_S (lwA s) s.heap H locs) (hl : lv_has ls 4 [(3, .int (nI (5 * j))), (2, .ref h2), (1, .ref h), (0, .ref b)]) (K : LK p l e s m below meth c b dC dI h a cI cJ cO cE h2 a2 k2 z (j + 1)) : W p l e room_1 s m #[Value.ref b] below meth c H locs (60 + 7 * j) (19218 + 261 * j) (lw_Z below #[Value.ref b] s) (F0 m 725 ls []) := by
  obtain ⟨hx, hb, hml, hown, hts, hX, hbl, hKx, hKm, hN, hZ, hT, hO, hMi, hDc0⟩ := C
  have hbA : ¬ lwA s b := Nat.not_le.mpr hbl
  have hA : ∀ q : Nat, s.heap.size ≤ q → lwA s q := fun _ h => h
  have hI1 := hI.1
  have hI2 := hI.2.1
  refine lv_aload_n hx hb dL_law_725 rfl (lv_at hl 2 rfl) ?_
  replace hP := xq_perm List.perm_append_comm hP
  replace hD := xd_perm List.perm_append_comm hD
  have hPc := xq_right hP
  have hDc := xd_right hD
  have hFc := xj_free hD hS hA
  refine va_calli (va_runV (As := []) (rest := []) ⟨hx, hb, hml, hown, hts⟩ (c_y_check l dC dI h a ev cI cJ cO cE Lc I M J n cap fE sd si sa dl (402000 * j)  H.size hI1 (by omega)) (cwV 0 hts wc_law_y_check_94 rfl rfl rfl (by decide +kernel) ⟨Nat.le_of_ble_eq_true rfl, Nat.le_of_ble_eq_true rfl⟩) ⟨fun a9 U g9 mk q => by obtain ⟨q0, q1, qP, qK, qD, qN⟩ := q; exact ⟨q0, q1, qP, va_K.moved (u := U) (U := U.calling g9 mk a9) (Vm.Alike.refl U.vm) qK, qD, pw_N.same (u := U) (U := U.calling g9 mk a9) rfl qN⟩, va_recv hKx hPc (ci := 9) (q0 := 0) rfl rfl, fun U hU hW => ⟨rfl, by rw [hU], by rw [hU]; exact hPc, va_K.moved hW.alike hKx, hDc.weaken (fun _ _ _ _ => trivial), pw_N.warm hW hN⟩⟩ rfl rfl hl.1 rfl (lv_room (Nat.le_of_ble_eq_true rfl)) dL_law_726 ⟨by show 60 + 7 * j + 0 ≤ 600000; omega, by show 19218 + 261 * j + 0 ≤ 7302250; omega⟩) hS (fun q _ h => hFc q h) hFc (fun r0 u0 t H1 locs ht hvm hw0 hB hz1 hk1 hS => ?_)
  obtain ⟨hP1, hD1⟩ := hB
  rw [ht] at hP1
  obtain ⟨hP, hD⟩ := xj_join hP hD hk1 hFc hP1 hD1
  generalize H1 = H at hP hS ⊢
  clear hP1 hD1 hPc hDc hFc hk1 hz1 ht hvm
  replace hw0 := hw0
  replace hP : va_P (dC, dI) vwCl (mW h2 a2 k2 F V ++ xW h a ev cI cJ cO cE Lc I M J n cap fE sd si sa dl) H := hP
  replace hD : va_D (lwA s) (mW h2 a2 k2 F V ++ xW h a ev cI cJ cO cE Lc I M J n cap fE sd si sa dl) := hD
  refine lv_aload_n hx hb dL_law_729 rfl (lv_at hl 1 rfl) ?_
  replace hP := xq_perm List.perm_append_comm hP
  replace hD := xd_perm List.perm_append_comm hD
  have hPc := xq_right hP
  have hDc := xd_right hD
  have hFc := xj_free hD hS hA
  refine va_calli (va_runV (As := []) (rest := [.int r0]) ⟨hx, hb, hml, hown, hts⟩ (c_w_check l dC dI h2 a2 k2 F V n (402000 * j)  H.size hI2 (by omega)) (cwV 0 hts wc_law_w_check_97 rfl rfl rfl (by decide +kernel) ⟨Nat.le_of_ble_eq_true rfl, Nat.le_of_ble_eq_true rfl⟩) ⟨fun a9 U g mk q => by obtain ⟨q0, q1, qP, qK, qD⟩ := q; exact ⟨q0, q1, qP, va_K.moved (u := U) (U := U.calling g mk a9) (Vm.Alike.refl U.vm) qK, qD⟩, va_recv hKm hPc (ci := 10) (q0 := 0) rfl rfl, fun U hU hW => ⟨rfl, by rw [hU], by rw [hU]; exact hPc, va_K.moved hW.alike hKm, hDc.weaken (fun _ _ _ _ => trivial)⟩⟩ rfl rfl hl.1 rfl (lv_room (Nat.le_of_ble_eq_true rfl)) dL_law_730 ⟨by show 60 + 7 * j + 0 + 0 ≤ 600000; omega, by show 19218 + 261 * j + 0 + 0 ≤ 7302250; omega⟩) hS (fun q _ h => hFc q h) hFc (fun r1 u1 t H1 locs ht hvm hw1 hB hz1 hk1 hS => ?_)
  obtain ⟨hP1, hD1⟩ := hB
  rw [ht] at hP1
  obtain ⟨hP, hD⟩ := xj_join hP hD hk1 hFc hP1 hD1
  generalize H1 = H at hP hS ⊢
  clear hP1 hD1 hPc hDc hFc hk1 hz1 ht hvm
  obtain ⟨F1, V1⟩ := u1
  obtain ⟨hwF, hwV, hw1⟩ := hw1
  replace hP : va_P (dC, dI) vwCl (xW h a ev cI cJ cO cE Lc I M J n cap fE sd si sa dl ++ mW h2 a2 k2 F1 V1) H := hP
  replace hD : va_D (lwA s) (xW h a ev cI cJ cO cE Lc I M J n cap fE sd si sa dl ++ mW h2 a2 k2 F1 V1) := hD
  replace hwF : F1 = F := hwF
  replace hwV : V1 = V := hwV
  rw [hwF, hwV] at hP hD
  replace hP : va_P (dC, dI) vwCl (xW h a ev cI cJ cO cE Lc I M J n cap fE sd si sa dl ++ mW h2 a2 k2 F V) H := hP
  replace hD : va_D (lwA s) (xW h a ev cI cJ cO cE Lc I M J n cap fE sd si sa dl ++ mW h2 a2 k2 F V) := hD
  have hrr : r0 = r1 := st_check hI.2.2.2 hw0 hw1
  refine lv_icmp_eq (tgt := 738) hx hb dL_law_733 (by decide) (fun _ => ?_) (fun c9 => absurd hrr c9)
  refine lv_iinc (v := nI (5 * (j + 1))) (lv' := [(3, .int (nI (5 * (j + 1)))), (2, .ref h2), (1, .ref h), (0, .ref b)]) hx hb dL_law_738 hl (k := 0) rfl (nI_add (5 * j) 5) (by decide) rfl (fun ls hl => ?_)
  refine lv_goto (tgt := 18) hx hb dL_law_741 (by decide) ?_
  refine W.widen (k := 60 + 7 * (j + 1)) (n := 19218 + 261 * (j + 1)) (by omega) (by omega) ?_
  exact K ev n cap fE sd Lc I M J si sa dl F V H locs ls ⟨hI1.mono (by omega), hI2.mono (by omega), hI.2.2.1, hI.2.2.2.step (by omega)⟩ hP hD hS hl

