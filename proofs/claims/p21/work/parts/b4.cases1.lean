set_option maxHeartbeats 4000000 in
set_option maxRecDepth 100000 in
theorem lc_7 {p : Program} {e : Env} {s : State} {m : MethodId} {below : List Frame} {meth : Method} {c : Code} (l : Launch) {b L : Nat} {xs : Nat → Int32} {dC : Nat → ClassId} {dI : Nat → Nat → Nat} {h : Nat} {a : Nat → Nat} {cI cJ cO cE : ClassId} {h2 : Nat} {a2 : Nat → Nat} {k2 : Nat → ClassId} {z mi : Nat} {j : Nat} (hL : L ≤ 2560) (hj : 5 * j + 5 ≤ L) (C : lwC p s m c b L xs dC dI cI cJ cO cE k2 z mi) {ev : Nat} {n : Nat} {cap : Nat} {fE : Nat → Option Nat} {sd : Nat → Nat → Nat} {Lc : Nat → Int64} {I : Nat → Int32} {M : Nat → Nat → Int64} {J : Nat → Nat → Int32} {si : Nat → Nat → Int32} {sa : Nat → Nat → Nat → Int32} {dl : Nat → Nat} {F : Nat → Nat → Int32} {V : Nat → Int32} {H : Heap} {locs : List Loc} {ls : Array Slot} (hI : LI z (j) ev n cap fE sd dl Lc I M J si sa F V) (hP : va_P (dC, dI) vwCl (xW h a ev cI cJ cO cE Lc I M J n cap fE sd si sa dl ++ mW h2 a2 k2 F V) H) (hD : va_D (lwA s) (xW h a ev cI cJ cO cE Lc I M J n cap fE sd si sa dl ++ mW h2 a2 k2 F V)) (hS : va_S (lwA s) s.heap H locs) (hl : lv_has ls 4 [(3, .int (nI (5 * j))), (2, .ref h2), (1, .ref h), (0, .ref b)]) (K : LK p l e s m below meth c b dC dI h a cI cJ cO cE h2 a2 k2 z (j + 1)) : W p l e room_1 s m #[Value.ref b] below meth c H locs (60 + 7 * j) (19218 + 261 * j) (lw_Z below #[Value.ref b] s) (F0 m 409 ls []) := by
  obtain ⟨hx, hb, hml, hown, hts, hX, hbl, hKx, hKm, hN, hZ, hT, hO, hMi, hDc0⟩ := C
  have hbA : ¬ lwA s b := Nat.not_le.mpr hbl
  have hA : ∀ q : Nat, s.heap.size ≤ q → lwA s q := fun _ h => h
  have hI1 := hI.1
  have hI2 := hI.2.1
  refine lv_aload_n hx hb dL_law_409 rfl (lv_at hl 2 rfl) ?_
  refine lv_aload_n hx hb dL_law_410 rfl (lv_at hl 3 rfl) ?_
  refine lv_iload_n hx hb dL_law_411 rfl (lv_at hl 0 rfl) ?_
  refine lv_iconst (v := 1) hx hb dL_law_412 (by decide) ?_
  refine lv_iadd hx hb dL_law_413 ?_
  refine p1_topr (v := .int (nI (5 * j + 1))) (congrArg Value.int (nI_add (5 * j) 1)) ?_
  refine va_sld hx hb hX hbl hbA hS (nI_in (c := 5 * j + 1) (N := L) (by omega) (by omega)) dL_law_414 ?_
  refine p1_topr (v := .int (xs (5 * j + 1))) (congrArg (fun t9 => Value.int (xs t9)) (nI_clamp (by omega))) ?_
  replace hP := xq_perm List.perm_append_comm hP
  replace hD := xd_perm List.perm_append_comm hD
  have hPc := xq_right hP
  have hDc := xd_right hD
  have hFc := xj_free hD hS hA
  refine va_calli (va_runV (As := [.int (xs (5 * j + 1))]) (rest := []) ⟨hx, hb, hml, hown, hts⟩ (c_y_letter l dC dI h a ev cI cJ cO cE Lc I M J n cap fE sd si sa dl (402000 * j) (xs (5 * j + 1)) H.size hI1 (by omega)) (cwV 1 hts wc_law_y_letter_45 rfl rfl rfl (by decide +kernel) ⟨Nat.le_of_ble_eq_true rfl, Nat.le_of_ble_eq_true rfl⟩) ⟨fun a9 U g9 mk q => by obtain ⟨q0, q1, qP, qK, qD, qN⟩ := q; exact ⟨q0, q1, qP, va_K.moved (u := U) (U := U.calling g9 mk a9) (Vm.Alike.refl U.vm) qK, qD, pw_N.same (u := U) (U := U.calling g9 mk a9) rfl qN⟩, va_recv hKx hPc (ci := 9) (q0 := 0) rfl rfl, fun U hU hW => ⟨rfl, by rw [hU], by rw [hU]; exact hPc, va_K.moved hW.alike hKx, hDc.weaken (fun _ _ _ _ => trivial), pw_N.warm hW hN⟩⟩ rfl rfl hl.1 rfl (lv_room (Nat.le_of_ble_eq_true rfl)) dL_law_415 ⟨by show 60 + 7 * j + 0 ≤ 600000; omega, by show 19218 + 261 * j + 0 ≤ 7302250; omega⟩) hS (fun q _ h => hFc q h) hFc (fun r0 u0 t H1 locs ht hvm hw0 hB hz1 hk1 hS => ?_)
  obtain ⟨hP1, hD1⟩ := hB
  rw [ht] at hP1
  obtain ⟨hP, hD⟩ := xj_join hP hD hk1 hFc hP1 hD1
  generalize H1 = H at hP hS ⊢
  clear hP1 hD1 hPc hDc hFc hk1 hz1 ht hvm
  obtain ⟨L1, I1, M1, si1, sa1⟩ := u0
  obtain ⟨hwX, whUL, whUI, whUM, whUsi, whUsa, hw0⟩ := hw0
  replace hP : va_P (dC, dI) vwCl (mW h2 a2 k2 F V ++ xW h a ev cI cJ cO cE L1 I1 M1 J n cap fE sd si1 sa1 dl) H := hP
  replace hD : va_D (lwA s) (mW h2 a2 k2 F V ++ xW h a ev cI cJ cO cE L1 I1 M1 J n cap fE sd si1 sa1 dl) := hD
  replace hI1 : InvX n cap fE sd dl (402000 * j + 80) I1 J si1 := hwX
  refine lv_pop hx hb dL_law_418 rfl ?_
  refine lv_aload_n hx hb dL_law_419 rfl (lv_at hl 1 rfl) ?_
  refine lv_aload_n hx hb dL_law_420 rfl (lv_at hl 3 rfl) ?_
  refine lv_iload_n hx hb dL_law_421 rfl (lv_at hl 0 rfl) ?_
  refine lv_iconst (v := 1) hx hb dL_law_422 (by decide) ?_
  refine lv_iadd hx hb dL_law_423 ?_
  refine p1_topr (v := .int (nI (5 * j + 1))) (congrArg Value.int (nI_add (5 * j) 1)) ?_
  refine va_sld hx hb hX hbl hbA hS (nI_in (c := 5 * j + 1) (N := L) (by omega) (by omega)) dL_law_424 ?_
  refine p1_topr (v := .int (xs (5 * j + 1))) (congrArg (fun t9 => Value.int (xs t9)) (nI_clamp (by omega))) ?_
  replace hP := xq_perm List.perm_append_comm hP
  replace hD := xd_perm List.perm_append_comm hD
  have hPc := xq_right hP
  have hDc := xd_right hD
  have hFc := xj_free hD hS hA
  refine va_calli (va_runV (As := [.int (xs (5 * j + 1))]) (rest := []) ⟨hx, hb, hml, hown, hts⟩ (c_w_letter l dC dI h2 a2 k2 F V n (402000 * j) (xs (5 * j + 1)) H.size hI2 (by omega)) (cwV 1 hts wc_law_w_letter_48 rfl rfl rfl (by decide +kernel) ⟨Nat.le_of_ble_eq_true rfl, Nat.le_of_ble_eq_true rfl⟩) ⟨fun a9 U g mk q => by obtain ⟨q0, q1, qP, qK, qD⟩ := q; exact ⟨q0, q1, qP, va_K.moved (u := U) (U := U.calling g mk a9) (Vm.Alike.refl U.vm) qK, qD⟩, va_recv hKm hPc (ci := 10) (q0 := 0) rfl rfl, fun U hU hW => ⟨rfl, by rw [hU], by rw [hU]; exact hPc, va_K.moved hW.alike hKm, hDc.weaken (fun _ _ _ _ => trivial)⟩⟩ rfl rfl hl.1 rfl (lv_room (Nat.le_of_ble_eq_true rfl)) dL_law_425 ⟨by show 60 + 7 * j + 0 + 0 ≤ 600000; omega, by show 19218 + 261 * j + 0 + 0 ≤ 7302250; omega⟩) hS (fun q _ h => hFc q h) hFc (fun r1 u1 t H1 locs ht hvm hw1 hB hz1 hk1 hS => ?_)
  obtain ⟨hP1, hD1⟩ := hB
  rw [ht] at hP1
  obtain ⟨hP, hD⟩ := xj_join hP hD hk1 hFc hP1 hD1
  generalize H1 = H at hP hS ⊢
  clear hP1 hD1 hPc hDc hFc hk1 hz1 ht hvm
  obtain ⟨F1, V1⟩ := u1
  obtain ⟨hwI, hwU, hwV, hw1⟩ := hw1
  replace hI2 : InvM n (402000 * j + 162) F1 V1 := hwI.1
  replace hwU : ∀ j9 : Nat, j9 ∉ ([7, 8, 9, 11, 12, 17, 18, 25, 26, 27, 28, 29, 30, 31, 32, 42, 43, 44] : List Nat) → F1 j9 = F j9 := hwU
  replace hwV : ∀ j9 : Nat, j9 ∉ ([23, 33, 45] : List Nat) → V1 j9 = V j9 := hwV
  replace hP : va_P (dC, dI) vwCl (xW h a ev cI cJ cO cE L1 I1 M1 J n cap fE sd si1 sa1 dl ++ mW h2 a2 k2 F1 V1) H := hP
  replace hD : va_D (lwA s) (xW h a ev cI cJ cO cE L1 I1 M1 J n cap fE sd si1 sa1 dl ++ mW h2 a2 k2 F1 V1) := hD
  refine lv_pop hx hb dL_law_428 rfl ?_
  refine lv_goto (tgt := 738) hx hb dL_law_429 (by decide) ?_
  refine lv_iinc (v := nI (5 * (j + 1))) (lv' := [(3, .int (nI (5 * (j + 1)))), (2, .ref h2), (1, .ref h), (0, .ref b)]) hx hb dL_law_738 hl (k := 0) rfl (nI_add (5 * j) 5) (by decide) rfl (fun ls hl => ?_)
  refine lv_goto (tgt := 18) hx hb dL_law_741 (by decide) ?_
  refine W.widen (k := 60 + 7 * (j + 1)) (n := 19218 + 261 * (j + 1)) (by omega) (by omega) ?_
  exact K ev n cap fE sd L1 I1 M1 J si1 sa1 dl F1 V1 H locs ls ⟨hI1.mono (by omega), hI2.mono (by omega), hI.2.2.1, (st_letter hI.2.2.2 (by omega) hw0 hw1 (hwU 19 (by decide))).2⟩ hP hD hS hl
set_option maxHeartbeats 4000000 in
set_option maxRecDepth 100000 in
theorem lc_8 {p : Program} {e : Env} {s : State} {m : MethodId} {below : List Frame} {meth : Method} {c : Code} (l : Launch) {b L : Nat} {xs : Nat → Int32} {dC : Nat → ClassId} {dI : Nat → Nat → Nat} {h : Nat} {a : Nat → Nat} {cI cJ cO cE : ClassId} {h2 : Nat} {a2 : Nat → Nat} {k2 : Nat → ClassId} {z mi : Nat} {j : Nat} (hL : L ≤ 2560) (hj : 5 * j + 5 ≤ L) (C : lwC p s m c b L xs dC dI cI cJ cO cE k2 z mi) {ev : Nat} {n : Nat} {cap : Nat} {fE : Nat → Option Nat} {sd : Nat → Nat → Nat} {Lc : Nat → Int64} {I : Nat → Int32} {M : Nat → Nat → Int64} {J : Nat → Nat → Int32} {si : Nat → Nat → Int32} {sa : Nat → Nat → Nat → Int32} {dl : Nat → Nat} {F : Nat → Nat → Int32} {V : Nat → Int32} {H : Heap} {locs : List Loc} {ls : Array Slot} (hI : LI z (j) ev n cap fE sd dl Lc I M J si sa F V) (hP : va_P (dC, dI) vwCl (xW h a ev cI cJ cO cE Lc I M J n cap fE sd si sa dl ++ mW h2 a2 k2 F V) H) (hD : va_D (lwA s) (xW h a ev cI cJ cO cE Lc I M J n cap fE sd si sa dl ++ mW h2 a2 k2 F V)) (hS : va_S (lwA s) s.heap H locs) (hl : lv_has ls 4 [(3, .int (nI (5 * j))), (2, .ref h2), (1, .ref h), (0, .ref b)]) (K : LK p l e s m below meth c b dC dI h a cI cJ cO cE h2 a2 k2 z (j + 1)) : W p l e room_1 s m #[Value.ref b] below meth c H locs (60 + 7 * j) (19218 + 261 * j) (lw_Z below #[Value.ref b] s) (F0 m 432 ls []) := by
  obtain ⟨hx, hb, hml, hown, hts, hX, hbl, hKx, hKm, hN, hZ, hT, hO, hMi, hDc0⟩ := C
  have hbA : ¬ lwA s b := Nat.not_le.mpr hbl
  have hA : ∀ q : Nat, s.heap.size ≤ q → lwA s q := fun _ h => h
  have hI1 := hI.1
  have hI2 := hI.2.1
  refine lv_aload_n hx hb dL_law_432 rfl (lv_at hl 2 rfl) ?_
  refine lv_aload_n hx hb dL_law_433 rfl (lv_at hl 3 rfl) ?_
  refine lv_iload_n hx hb dL_law_434 rfl (lv_at hl 0 rfl) ?_
  refine lv_iconst (v := 1) hx hb dL_law_435 (by decide) ?_
  refine lv_iadd hx hb dL_law_436 ?_
  refine p1_topr (v := .int (nI (5 * j + 1))) (congrArg Value.int (nI_add (5 * j) 1)) ?_
  refine va_sld hx hb hX hbl hbA hS (nI_in (c := 5 * j + 1) (N := L) (by omega) (by omega)) dL_law_437 ?_
  refine p1_topr (v := .int (xs (5 * j + 1))) (congrArg (fun t9 => Value.int (xs t9)) (nI_clamp (by omega))) ?_
  refine lv_aload_n hx hb dL_law_438 rfl (lv_at hl 3 rfl) ?_
  refine lv_iload_n hx hb dL_law_439 rfl (lv_at hl 0 rfl) ?_
  refine lv_iconst (v := 2) hx hb dL_law_440 (by decide) ?_
  refine lv_iadd hx hb dL_law_441 ?_
  refine p1_topr (v := .int (nI (5 * j + 2))) (congrArg Value.int (nI_add (5 * j) 2)) ?_
  refine va_sld hx hb hX hbl hbA hS (nI_in (c := 5 * j + 2) (N := L) (by omega) (by omega)) dL_law_442 ?_
  refine p1_topr (v := .int (xs (5 * j + 2))) (congrArg (fun t9 => Value.int (xs t9)) (nI_clamp (by omega))) ?_
  replace hP := xq_perm List.perm_append_comm hP
  replace hD := xd_perm List.perm_append_comm hD
  have hPc := xq_right hP
  have hDc := xd_right hD
  have hFc := xj_free hD hS hA
  refine va_calli (va_runV (As := [.int (xs (5 * j + 1)), .int (xs (5 * j + 2))]) (rest := []) ⟨hx, hb, hml, hown, hts⟩ (c_y_about l dC dI h a ev cI cJ cO cE Lc I M J n cap fE sd si sa dl (402000 * j) (xs (5 * j + 1)) (xs (5 * j + 2)) H.size hI1 (by omega)) (cwV 2 hts wc_law_y_about_49 rfl rfl rfl (by decide +kernel) ⟨Nat.le_of_ble_eq_true rfl, Nat.le_of_ble_eq_true rfl⟩) ⟨fun a9 U g9 mk q => by obtain ⟨q0, q1, qP, qK, qD, qN⟩ := q; exact ⟨q0, q1, qP, va_K.moved (u := U) (U := U.calling g9 mk a9) (Vm.Alike.refl U.vm) qK, qD, pw_N.same (u := U) (U := U.calling g9 mk a9) rfl qN⟩, va_recv hKx hPc (ci := 9) (q0 := 0) rfl rfl, fun U hU hW => ⟨rfl, by rw [hU], by rw [hU]; exact hPc, va_K.moved hW.alike hKx, hDc.weaken (fun _ _ _ _ => trivial), pw_N.warm hW hN⟩⟩ rfl rfl hl.1 rfl (lv_room (Nat.le_of_ble_eq_true rfl)) dL_law_443 ⟨by show 60 + 7 * j + 0 ≤ 600000; omega, by show 19218 + 261 * j + 0 ≤ 7302250; omega⟩) hS (fun q _ h => hFc q h) hFc (fun r0 u0 t H1 locs ht hvm hw0 hB hz1 hk1 hS => ?_)
  obtain ⟨hP1, hD1⟩ := hB
  rw [ht] at hP1
  obtain ⟨hP, hD⟩ := xj_join hP hD hk1 hFc hP1 hD1
  generalize H1 = H at hP hS ⊢
  clear hP1 hD1 hPc hDc hFc hk1 hz1 ht hvm
  replace hw0 := hw0
  replace hP : va_P (dC, dI) vwCl (mW h2 a2 k2 F V ++ xW h a ev cI cJ cO cE Lc I M J n cap fE sd si sa dl) H := hP
  replace hD : va_D (lwA s) (mW h2 a2 k2 F V ++ xW h a ev cI cJ cO cE Lc I M J n cap fE sd si sa dl) := hD
  refine lv_pop hx hb dL_law_446 rfl ?_
  refine lv_aload_n hx hb dL_law_447 rfl (lv_at hl 1 rfl) ?_
  refine lv_aload_n hx hb dL_law_448 rfl (lv_at hl 3 rfl) ?_
  refine lv_iload_n hx hb dL_law_449 rfl (lv_at hl 0 rfl) ?_
  refine lv_iconst (v := 1) hx hb dL_law_450 (by decide) ?_
  refine lv_iadd hx hb dL_law_451 ?_
  refine p1_topr (v := .int (nI (5 * j + 1))) (congrArg Value.int (nI_add (5 * j) 1)) ?_
  refine va_sld hx hb hX hbl hbA hS (nI_in (c := 5 * j + 1) (N := L) (by omega) (by omega)) dL_law_452 ?_
  refine p1_topr (v := .int (xs (5 * j + 1))) (congrArg (fun t9 => Value.int (xs t9)) (nI_clamp (by omega))) ?_
  refine lv_aload_n hx hb dL_law_453 rfl (lv_at hl 3 rfl) ?_
  refine lv_iload_n hx hb dL_law_454 rfl (lv_at hl 0 rfl) ?_
  refine lv_iconst (v := 2) hx hb dL_law_455 (by decide) ?_
  refine lv_iadd hx hb dL_law_456 ?_
  refine p1_topr (v := .int (nI (5 * j + 2))) (congrArg Value.int (nI_add (5 * j) 2)) ?_
  refine va_sld hx hb hX hbl hbA hS (nI_in (c := 5 * j + 2) (N := L) (by omega) (by omega)) dL_law_457 ?_
  refine p1_topr (v := .int (xs (5 * j + 2))) (congrArg (fun t9 => Value.int (xs t9)) (nI_clamp (by omega))) ?_
  replace hP := xq_perm List.perm_append_comm hP
  replace hD := xd_perm List.perm_append_comm hD
  have hPc := xq_right hP
  have hDc := xd_right hD
  have hFc := xj_free hD hS hA
  refine va_calli (va_runV (As := [.int (xs (5 * j + 1)), .int (xs (5 * j + 2))]) (rest := []) ⟨hx, hb, hml, hown, hts⟩ (c_w_about l dC dI h2 a2 k2 F V n (402000 * j) (xs (5 * j + 1)) (xs (5 * j + 2)) H.size hI2 (by omega)) (cwV 2 hts wc_law_w_about_52 rfl rfl rfl (by decide +kernel) ⟨Nat.le_of_ble_eq_true rfl, Nat.le_of_ble_eq_true rfl⟩) ⟨fun a9 U g mk q => by obtain ⟨q0, q1, qP, qK, qD⟩ := q; exact ⟨q0, q1, qP, va_K.moved (u := U) (U := U.calling g mk a9) (Vm.Alike.refl U.vm) qK, qD⟩, va_recv hKm hPc (ci := 10) (q0 := 0) rfl rfl, fun U hU hW => ⟨rfl, by rw [hU], by rw [hU]; exact hPc, va_K.moved hW.alike hKm, hDc.weaken (fun _ _ _ _ => trivial)⟩⟩ rfl rfl hl.1 rfl (lv_room (Nat.le_of_ble_eq_true rfl)) dL_law_458 ⟨by show 60 + 7 * j + 0 + 0 ≤ 600000; omega, by show 19218 + 261 * j + 0 + 0 ≤ 7302250; omega⟩) hS (fun q _ h => hFc q h) hFc (fun r1 u1 t H1 locs ht hvm hw1 hB hz1 hk1 hS => ?_)
  obtain ⟨hP1, hD1⟩ := hB
  rw [ht] at hP1
  obtain ⟨hP, hD⟩ := xj_join hP hD hk1 hFc hP1 hD1
  generalize H1 = H at hP hS ⊢
  clear hP1 hD1 hPc hDc hFc hk1 hz1 ht hvm
  obtain ⟨F1, V1⟩ := u1
  obtain ⟨hwF, hwV, hw1⟩ := hw1
  replace hP : va_P (dC, dI) vwCl (xW h a ev cI cJ cO cE Lc I M J n cap fE sd si sa dl ++ mW h2 a2 k2 F1 V1) H := hP
  replace hD : va_D (lwA s) (xW h a ev cI cJ cO cE Lc I M J n cap fE sd si sa dl ++ mW h2 a2 k2 F1 V1) := hD
  replace hwF : F1 = F := hwF
  replace hwV : V1 = V := hwV
  rw [hwF, hwV] at hP hD
  replace hP : va_P (dC, dI) vwCl (xW h a ev cI cJ cO cE Lc I M J n cap fE sd si sa dl ++ mW h2 a2 k2 F V) H := hP
  replace hD : va_D (lwA s) (xW h a ev cI cJ cO cE Lc I M J n cap fE sd si sa dl ++ mW h2 a2 k2 F V) := hD
  refine lv_pop hx hb dL_law_461 rfl ?_
  refine lv_goto (tgt := 738) hx hb dL_law_462 (by decide) ?_
  refine lv_iinc (v := nI (5 * (j + 1))) (lv' := [(3, .int (nI (5 * (j + 1)))), (2, .ref h2), (1, .ref h), (0, .ref b)]) hx hb dL_law_738 hl (k := 0) rfl (nI_add (5 * j) 5) (by decide) rfl (fun ls hl => ?_)
  refine lv_goto (tgt := 18) hx hb dL_law_741 (by decide) ?_
  refine W.widen (k := 60 + 7 * (j + 1)) (n := 19218 + 261 * (j + 1)) (by omega) (by omega) ?_
  exact K ev n cap fE sd Lc I M J si sa dl F V H locs ls ⟨hI1.mono (by omega), hI2.mono (by omega), hI.2.2.1, hI.2.2.2.step (by omega)⟩ hP hD hS hl
set_option maxHeartbeats 4000000 in
set_option maxRecDepth 100000 in
theorem lc_9 {p : Program} {e : Env} {s : State} {m : MethodId} {below : List Frame} {meth : Method} {c : Code} (l : Launch) {b L : Nat} {xs : Nat → Int32} {dC : Nat → ClassId} {dI : Nat → Nat → Nat} {h : Nat} {a : Nat → Nat} {cI cJ cO cE : ClassId} {h2 : Nat} {a2 : Nat → Nat} {k2 : Nat → ClassId} {z mi : Nat} {j : Nat} (hL : L ≤ 2560) (hj : 5 * j + 5 ≤ L) (C : lwC p s m c b L xs dC dI cI cJ cO cE k2 z mi) {ev : Nat} {n : Nat} {cap : Nat} {fE : Nat → Option Nat} {sd : Nat → Nat → Nat} {Lc : Nat → Int64} {I : Nat → Int32} {M : Nat → Nat → Int64} {J : Nat → Nat → Int32} {si : Nat → Nat → Int32} {sa : Nat → Nat → Nat → Int32} {dl : Nat → Nat} {F : Nat → Nat → Int32} {V : Nat → Int32} {H : Heap} {locs : List Loc} {ls : Array Slot} (hI : LI z (j) ev n cap fE sd dl Lc I M J si sa F V) (hP : va_P (dC, dI) vwCl (xW h a ev cI cJ cO cE Lc I M J n cap fE sd si sa dl ++ mW h2 a2 k2 F V) H) (hD : va_D (lwA s) (xW h a ev cI cJ cO cE Lc I M J n cap fE sd si sa dl ++ mW h2 a2 k2 F V)) (hS : va_S (lwA s) s.heap H locs) (hl : lv_has ls 4 [(3, .int (nI (5 * j))), (2, .ref h2), (1, .ref h), (0, .ref b)]) (K : LK p l e s m below meth c b dC dI h a cI cJ cO cE h2 a2 k2 z (j + 1)) : W p l e room_1 s m #[Value.ref b] below meth c H locs (60 + 7 * j) (19218 + 261 * j) (lw_Z below #[Value.ref b] s) (F0 m 465 ls []) := by
  obtain ⟨hx, hb, hml, hown, hts, hX, hbl, hKx, hKm, hN, hZ, hT, hO, hMi, hDc0⟩ := C
  have hbA : ¬ lwA s b := Nat.not_le.mpr hbl
  have hA : ∀ q : Nat, s.heap.size ≤ q → lwA s q := fun _ h => h
  have hI1 := hI.1
  have hI2 := hI.2.1
  refine lv_aload_n hx hb dL_law_465 rfl (lv_at hl 2 rfl) ?_
  refine lv_aload_n hx hb dL_law_466 rfl (lv_at hl 3 rfl) ?_
  refine lv_iload_n hx hb dL_law_467 rfl (lv_at hl 0 rfl) ?_
  refine lv_iconst (v := 1) hx hb dL_law_468 (by decide) ?_
  refine lv_iadd hx hb dL_law_469 ?_
  refine p1_topr (v := .int (nI (5 * j + 1))) (congrArg Value.int (nI_add (5 * j) 1)) ?_
  refine va_sld hx hb hX hbl hbA hS (nI_in (c := 5 * j + 1) (N := L) (by omega) (by omega)) dL_law_470 ?_
  refine p1_topr (v := .int (xs (5 * j + 1))) (congrArg (fun t9 => Value.int (xs t9)) (nI_clamp (by omega))) ?_
  replace hP := xq_perm List.perm_append_comm hP
  replace hD := xd_perm List.perm_append_comm hD
  have hPc := xq_right hP
  have hDc := xd_right hD
  have hFc := xj_free hD hS hA
  refine va_calli (va_runV (As := [.int (xs (5 * j + 1))]) (rest := []) ⟨hx, hb, hml, hown, hts⟩ (c_y_in l dC dI h a ev cI cJ cO cE Lc I M J n cap fE sd si sa dl (402000 * j) (xs (5 * j + 1)) H.size hI1 (by omega)) (cwV 1 hts wc_law_y_in_53 rfl rfl rfl (by decide +kernel) ⟨Nat.le_of_ble_eq_true rfl, Nat.le_of_ble_eq_true rfl⟩) ⟨fun a9 U g9 mk q => by obtain ⟨q0, q1, qP, qK, qD, qN⟩ := q; exact ⟨q0, q1, qP, va_K.moved (u := U) (U := U.calling g9 mk a9) (Vm.Alike.refl U.vm) qK, qD, pw_N.same (u := U) (U := U.calling g9 mk a9) rfl qN⟩, va_recv hKx hPc (ci := 9) (q0 := 0) rfl rfl, fun U hU hW => ⟨rfl, by rw [hU], by rw [hU]; exact hPc, va_K.moved hW.alike hKx, hDc.weaken (fun _ _ _ _ => trivial), pw_N.warm hW hN⟩⟩ rfl rfl hl.1 rfl (lv_room (Nat.le_of_ble_eq_true rfl)) dL_law_471 ⟨by show 60 + 7 * j + 0 ≤ 600000; omega, by show 19218 + 261 * j + 0 ≤ 7302250; omega⟩) hS (fun q _ h => hFc q h) hFc (fun r0 u0 t H1 locs ht hvm hw0 hB hz1 hk1 hS => ?_)
  obtain ⟨hP1, hD1⟩ := hB
  rw [ht] at hP1
  obtain ⟨hP, hD⟩ := xj_join hP hD hk1 hFc hP1 hD1
  generalize H1 = H at hP hS ⊢
  clear hP1 hD1 hPc hDc hFc hk1 hz1 ht hvm
  replace hw0 := hw0
  replace hP : va_P (dC, dI) vwCl (mW h2 a2 k2 F V ++ xW h a ev cI cJ cO cE Lc I M J n cap fE sd si sa dl) H := hP
  replace hD : va_D (lwA s) (mW h2 a2 k2 F V ++ xW h a ev cI cJ cO cE Lc I M J n cap fE sd si sa dl) := hD
  refine lv_pop hx hb dL_law_474 rfl ?_
  refine lv_aload_n hx hb dL_law_475 rfl (lv_at hl 1 rfl) ?_
  refine lv_aload_n hx hb dL_law_476 rfl (lv_at hl 3 rfl) ?_
  refine lv_iload_n hx hb dL_law_477 rfl (lv_at hl 0 rfl) ?_
  refine lv_iconst (v := 1) hx hb dL_law_478 (by decide) ?_
  refine lv_iadd hx hb dL_law_479 ?_
  refine p1_topr (v := .int (nI (5 * j + 1))) (congrArg Value.int (nI_add (5 * j) 1)) ?_
  refine va_sld hx hb hX hbl hbA hS (nI_in (c := 5 * j + 1) (N := L) (by omega) (by omega)) dL_law_480 ?_
  refine p1_topr (v := .int (xs (5 * j + 1))) (congrArg (fun t9 => Value.int (xs t9)) (nI_clamp (by omega))) ?_
  replace hP := xq_perm List.perm_append_comm hP
  replace hD := xd_perm List.perm_append_comm hD
  have hPc := xq_right hP
  have hDc := xd_right hD
  have hFc := xj_free hD hS hA
  refine va_calli (va_runV (As := [.int (xs (5 * j + 1))]) (rest := []) ⟨hx, hb, hml, hown, hts⟩ (c_w_in l dC dI h2 a2 k2 F V n (402000 * j) (xs (5 * j + 1)) H.size hI2 (by omega)) (cwV 1 hts wc_law_w_in_56 rfl rfl rfl (by decide +kernel) ⟨Nat.le_of_ble_eq_true rfl, Nat.le_of_ble_eq_true rfl⟩) ⟨fun a9 U g mk q => by obtain ⟨q0, q1, qP, qK, qD⟩ := q; exact ⟨q0, q1, qP, va_K.moved (u := U) (U := U.calling g mk a9) (Vm.Alike.refl U.vm) qK, qD⟩, va_recv hKm hPc (ci := 10) (q0 := 0) rfl rfl, fun U hU hW => ⟨rfl, by rw [hU], by rw [hU]; exact hPc, va_K.moved hW.alike hKm, hDc.weaken (fun _ _ _ _ => trivial)⟩⟩ rfl rfl hl.1 rfl (lv_room (Nat.le_of_ble_eq_true rfl)) dL_law_481 ⟨by show 60 + 7 * j + 0 + 0 ≤ 600000; omega, by show 19218 + 261 * j + 0 + 0 ≤ 7302250; omega⟩) hS (fun q _ h => hFc q h) hFc (fun r1 u1 t H1 locs ht hvm hw1 hB hz1 hk1 hS => ?_)
  obtain ⟨hP1, hD1⟩ := hB
  rw [ht] at hP1
  obtain ⟨hP, hD⟩ := xj_join hP hD hk1 hFc hP1 hD1
  generalize H1 = H at hP hS ⊢
  clear hP1 hD1 hPc hDc hFc hk1 hz1 ht hvm
  obtain ⟨F1, V1⟩ := u1
  obtain ⟨hwF, hwV, hw1⟩ := hw1
  replace hP : va_P (dC, dI) vwCl (xW h a ev cI cJ cO cE Lc I M J n cap fE sd si sa dl ++ mW h2 a2 k2 F1 V1) H := hP
  replace hD : va_D (lwA s) (xW h a ev cI cJ cO cE Lc I M J n cap fE sd si sa dl ++ mW h2 a2 k2 F1 V1) := hD
  replace hwF : F1 = F := hwF
  replace hwV : V1 = V := hwV
  rw [hwF, hwV] at hP hD
  replace hP : va_P (dC, dI) vwCl (xW h a ev cI cJ cO cE Lc I M J n cap fE sd si sa dl ++ mW h2 a2 k2 F V) H := hP
  replace hD : va_D (lwA s) (xW h a ev cI cJ cO cE Lc I M J n cap fE sd si sa dl ++ mW h2 a2 k2 F V) := hD
  refine lv_pop hx hb dL_law_484 rfl ?_
  refine lv_goto (tgt := 738) hx hb dL_law_485 (by decide) ?_
  refine lv_iinc (v := nI (5 * (j + 1))) (lv' := [(3, .int (nI (5 * (j + 1)))), (2, .ref h2), (1, .ref h), (0, .ref b)]) hx hb dL_law_738 hl (k := 0) rfl (nI_add (5 * j) 5) (by decide) rfl (fun ls hl => ?_)
  refine lv_goto (tgt := 18) hx hb dL_law_741 (by decide) ?_
  refine W.widen (k := 60 + 7 * (j + 1)) (n := 19218 + 261 * (j + 1)) (by omega) (by omega) ?_
  exact K ev n cap fE sd Lc I M J si sa dl F V H locs ls ⟨hI1.mono (by omega), hI2.mono (by omega), hI.2.2.1, hI.2.2.2.step (by omega)⟩ hP hD hS hl
set_option maxHeartbeats 4000000 in
set_option maxRecDepth 100000 in
theorem lc_10 {p : Program} {e : Env} {s : State} {m : MethodId} {below : List Frame} {meth : Method} {c : Code} (l : Launch) {b L : Nat} {xs : Nat → Int32} {dC : Nat → ClassId} {dI : Nat → Nat → Nat} {h : Nat} {a : Nat → Nat} {cI cJ cO cE : ClassId} {h2 : Nat} {a2 : Nat → Nat} {k2 : Nat → ClassId} {z mi : Nat} {j : Nat} (hL : L ≤ 2560) (hj : 5 * j + 5 ≤ L) (C : lwC p s m c b L xs dC dI cI cJ cO cE k2 z mi) {ev : Nat} {n : Nat} {cap : Nat} {fE : Nat → Option Nat} {sd : Nat → Nat → Nat} {Lc : Nat → Int64} {I : Nat → Int32} {M : Nat → Nat → Int64} {J : Nat → Nat → Int32} {si : Nat → Nat → Int32} {sa : Nat → Nat → Nat → Int32} {dl : Nat → Nat} {F : Nat → Nat → Int32} {V : Nat → Int32} {H : Heap} {locs : List Loc} {ls : Array Slot} (hI : LI z (j) ev n cap fE sd dl Lc I M J si sa F V) (hP : va_P (dC, dI) vwCl (xW h a ev cI cJ cO cE Lc I M J n cap fE sd si sa dl ++ mW h2 a2 k2 F V) H) (hD : va_D (lwA s) (xW h a ev cI cJ cO cE Lc I M J n cap fE sd si sa dl ++ mW h2 a2 k2 F V)) (hS : va_S (lwA s) s.heap H locs) (hl : lv_has ls 4 [(3, .int (nI (5 * j))), (2, .ref h2), (1, .ref h), (0, .ref b)]) (K : LK p l e s m below meth c b dC dI h a cI cJ cO cE h2 a2 k2 z (j + 1)) : W p l e room_1 s m #[Value.ref b] below meth c H locs (60 + 7 * j) (19218 + 261 * j) (lw_Z below #[Value.ref b] s) (F0 m 488 ls []) := by
  obtain ⟨hx, hb, hml, hown, hts, hX, hbl, hKx, hKm, hN, hZ, hT, hO, hMi, hDc0⟩ := C
  have hbA : ¬ lwA s b := Nat.not_le.mpr hbl
  have hA : ∀ q : Nat, s.heap.size ≤ q → lwA s q := fun _ h => h
  have hI1 := hI.1
  have hI2 := hI.2.1
  refine lv_aload_n hx hb dL_law_488 rfl (lv_at hl 2 rfl) ?_
  refine lv_aload_n hx hb dL_law_489 rfl (lv_at hl 3 rfl) ?_
  refine lv_iload_n hx hb dL_law_490 rfl (lv_at hl 0 rfl) ?_
  refine lv_iconst (v := 1) hx hb dL_law_491 (by decide) ?_
  refine lv_iadd hx hb dL_law_492 ?_
  refine p1_topr (v := .int (nI (5 * j + 1))) (congrArg Value.int (nI_add (5 * j) 1)) ?_
  refine va_sld hx hb hX hbl hbA hS (nI_in (c := 5 * j + 1) (N := L) (by omega) (by omega)) dL_law_493 ?_
  refine p1_topr (v := .int (xs (5 * j + 1))) (congrArg (fun t9 => Value.int (xs t9)) (nI_clamp (by omega))) ?_
  replace hP := xq_perm List.perm_append_comm hP
  replace hD := xd_perm List.perm_append_comm hD
  have hPc := xq_right hP
  have hDc := xd_right hD
  have hFc := xj_free hD hS hA
  refine va_calli (va_runV (As := [.int (xs (5 * j + 1))]) (rest := []) ⟨hx, hb, hml, hown, hts⟩ (c_y_count l dC dI h a ev cI cJ cO cE Lc I M J n cap fE sd si sa dl (402000 * j) (xs (5 * j + 1)) H.size hI1 (by omega)) (cwV 1 hts wc_law_y_count_57 rfl rfl rfl (by decide +kernel) ⟨Nat.le_of_ble_eq_true rfl, Nat.le_of_ble_eq_true rfl⟩) ⟨fun a9 U g9 mk q => by obtain ⟨q0, q1, qP, qK, qD, qN⟩ := q; exact ⟨q0, q1, qP, va_K.moved (u := U) (U := U.calling g9 mk a9) (Vm.Alike.refl U.vm) qK, qD, pw_N.same (u := U) (U := U.calling g9 mk a9) rfl qN⟩, va_recv hKx hPc (ci := 9) (q0 := 0) rfl rfl, fun U hU hW => ⟨rfl, by rw [hU], by rw [hU]; exact hPc, va_K.moved hW.alike hKx, hDc.weaken (fun _ _ _ _ => trivial), pw_N.warm hW hN⟩⟩ rfl rfl hl.1 rfl (lv_room (Nat.le_of_ble_eq_true rfl)) dL_law_494 ⟨by show 60 + 7 * j + 0 ≤ 600000; omega, by show 19218 + 261 * j + 0 ≤ 7302250; omega⟩) hS (fun q _ h => hFc q h) hFc (fun r0 u0 t H1 locs ht hvm hw0 hB hz1 hk1 hS => ?_)
  obtain ⟨hP1, hD1⟩ := hB
  rw [ht] at hP1
  obtain ⟨hP, hD⟩ := xj_join hP hD hk1 hFc hP1 hD1
  generalize H1 = H at hP hS ⊢
  clear hP1 hD1 hPc hDc hFc hk1 hz1 ht hvm
  replace hw0 := hw0
  replace hP : va_P (dC, dI) vwCl (mW h2 a2 k2 F V ++ xW h a ev cI cJ cO cE Lc I M J n cap fE sd si sa dl) H := hP
  replace hD : va_D (lwA s) (mW h2 a2 k2 F V ++ xW h a ev cI cJ cO cE Lc I M J n cap fE sd si sa dl) := hD
  refine lv_pop hx hb dL_law_497 rfl ?_
  refine lv_aload_n hx hb dL_law_498 rfl (lv_at hl 1 rfl) ?_
  refine lv_aload_n hx hb dL_law_499 rfl (lv_at hl 3 rfl) ?_
  refine lv_iload_n hx hb dL_law_500 rfl (lv_at hl 0 rfl) ?_
  refine lv_iconst (v := 1) hx hb dL_law_501 (by decide) ?_
  refine lv_iadd hx hb dL_law_502 ?_
  refine p1_topr (v := .int (nI (5 * j + 1))) (congrArg Value.int (nI_add (5 * j) 1)) ?_
  refine va_sld hx hb hX hbl hbA hS (nI_in (c := 5 * j + 1) (N := L) (by omega) (by omega)) dL_law_503 ?_
  refine p1_topr (v := .int (xs (5 * j + 1))) (congrArg (fun t9 => Value.int (xs t9)) (nI_clamp (by omega))) ?_
  replace hP := xq_perm List.perm_append_comm hP
  replace hD := xd_perm List.perm_append_comm hD
  have hPc := xq_right hP
  have hDc := xd_right hD
  have hFc := xj_free hD hS hA
  refine va_calli (va_runV (As := [.int (xs (5 * j + 1))]) (rest := []) ⟨hx, hb, hml, hown, hts⟩ (c_w_count l dC dI h2 a2 k2 F V n (402000 * j) (xs (5 * j + 1)) H.size hI2 (by omega)) (cwV 1 hts wc_law_w_count_60 rfl rfl rfl (by decide +kernel) ⟨Nat.le_of_ble_eq_true rfl, Nat.le_of_ble_eq_true rfl⟩) ⟨fun a9 U g mk q => by obtain ⟨q0, q1, qP, qK, qD⟩ := q; exact ⟨q0, q1, qP, va_K.moved (u := U) (U := U.calling g mk a9) (Vm.Alike.refl U.vm) qK, qD⟩, va_recv hKm hPc (ci := 10) (q0 := 0) rfl rfl, fun U hU hW => ⟨rfl, by rw [hU], by rw [hU]; exact hPc, va_K.moved hW.alike hKm, hDc.weaken (fun _ _ _ _ => trivial)⟩⟩ rfl rfl hl.1 rfl (lv_room (Nat.le_of_ble_eq_true rfl)) dL_law_504 ⟨by show 60 + 7 * j + 0 + 0 ≤ 600000; omega, by show 19218 + 261 * j + 0 + 0 ≤ 7302250; omega⟩) hS (fun q _ h => hFc q h) hFc (fun r1 u1 t H1 locs ht hvm hw1 hB hz1 hk1 hS => ?_)
  obtain ⟨hP1, hD1⟩ := hB
  rw [ht] at hP1
  obtain ⟨hP, hD⟩ := xj_join hP hD hk1 hFc hP1 hD1
  generalize H1 = H at hP hS ⊢
  clear hP1 hD1 hPc hDc hFc hk1 hz1 ht hvm
  obtain ⟨F1, V1⟩ := u1
  obtain ⟨hwF, hwV, hw1⟩ := hw1
  replace hP : va_P (dC, dI) vwCl (xW h a ev cI cJ cO cE Lc I M J n cap fE sd si sa dl ++ mW h2 a2 k2 F1 V1) H := hP
  replace hD : va_D (lwA s) (xW h a ev cI cJ cO cE Lc I M J n cap fE sd si sa dl ++ mW h2 a2 k2 F1 V1) := hD
  replace hwF : F1 = F := hwF
  replace hwV : V1 = V := hwV
  rw [hwF, hwV] at hP hD
  replace hP : va_P (dC, dI) vwCl (xW h a ev cI cJ cO cE Lc I M J n cap fE sd si sa dl ++ mW h2 a2 k2 F V) H := hP
  replace hD : va_D (lwA s) (xW h a ev cI cJ cO cE Lc I M J n cap fE sd si sa dl ++ mW h2 a2 k2 F V) := hD
  refine lv_pop hx hb dL_law_507 rfl ?_
  refine lv_goto (tgt := 738) hx hb dL_law_508 (by decide) ?_
  refine lv_iinc (v := nI (5 * (j + 1))) (lv' := [(3, .int (nI (5 * (j + 1)))), (2, .ref h2), (1, .ref h), (0, .ref b)]) hx hb dL_law_738 hl (k := 0) rfl (nI_add (5 * j) 5) (by decide) rfl (fun ls hl => ?_)
  refine lv_goto (tgt := 18) hx hb dL_law_741 (by decide) ?_
  refine W.widen (k := 60 + 7 * (j + 1)) (n := 19218 + 261 * (j + 1)) (by omega) (by omega) ?_
  exact K ev n cap fE sd Lc I M J si sa dl F V H locs ls ⟨hI1.mono (by omega), hI2.mono (by omega), hI.2.2.1, hI.2.2.2.step (by omega)⟩ hP hD hS hl
set_option maxHeartbeats 4000000 in
set_option maxRecDepth 100000 in
theorem lc_11 {p : Program} {e : Env} {s : State} {m : MethodId} {below : List Frame} {meth : Method} {c : Code} (l : Launch) {b L : Nat} {xs : Nat → Int32} {dC : Nat → ClassId} {dI : Nat → Nat → Nat} {h : Nat} {a : Nat → Nat} {cI cJ cO cE : ClassId} {h2 : Nat} {a2 : Nat → Nat} {k2 : Nat → ClassId} {z mi : Nat} {j : Nat} (hL : L ≤ 2560) (hj : 5 * j + 5 ≤ L) (C : lwC p s m c b L xs dC dI cI cJ cO cE k2 z mi) {ev : Nat} {n : Nat} {cap : Nat} {fE : Nat → Option Nat} {sd : Nat → Nat → Nat} {Lc : Nat → Int64} {I : Nat → Int32} {M : Nat → Nat → Int64} {J : Nat → Nat → Int32} {si : Nat → Nat → Int32} {sa : Nat → Nat → Nat → Int32} {dl : Nat → Nat} {F : Nat → Nat → Int32} {V : Nat → Int32} {H : Heap} {locs : List Loc} {ls : Array Slot} (hI : LI z (j) ev n cap fE sd dl Lc I M J si sa F V) (hP : va_P (dC, dI) vwCl (xW h a ev cI cJ cO cE Lc I M J n cap fE sd si sa dl ++ mW h2 a2 k2 F V) H) (hD : va_D (lwA s) (xW h a ev cI cJ cO cE Lc I M J n cap fE sd si sa dl ++ mW h2 a2 k2 F V)) (hS : va_S (lwA s) s.heap H locs) (hl : lv_has ls 4 [(3, .int (nI (5 * j))), (2, .ref h2), (1, .ref h), (0, .ref b)]) (K : LK p l e s m below meth c b dC dI h a cI cJ cO cE h2 a2 k2 z (j + 1)) : W p l e room_1 s m #[Value.ref b] below meth c H locs (60 + 7 * j) (19218 + 261 * j) (lw_Z below #[Value.ref b] s) (F0 m 511 ls []) := by
  obtain ⟨hx, hb, hml, hown, hts, hX, hbl, hKx, hKm, hN, hZ, hT, hO, hMi, hDc0⟩ := C
  have hbA : ¬ lwA s b := Nat.not_le.mpr hbl
  have hA : ∀ q : Nat, s.heap.size ≤ q → lwA s q := fun _ h => h
  have hI1 := hI.1
  have hI2 := hI.2.1
  refine lv_aload_n hx hb dL_law_511 rfl (lv_at hl 2 rfl) ?_
  refine lv_aload_n hx hb dL_law_512 rfl (lv_at hl 3 rfl) ?_
  refine lv_iload_n hx hb dL_law_513 rfl (lv_at hl 0 rfl) ?_
  refine lv_iconst (v := 1) hx hb dL_law_514 (by decide) ?_
  refine lv_iadd hx hb dL_law_515 ?_
  refine p1_topr (v := .int (nI (5 * j + 1))) (congrArg Value.int (nI_add (5 * j) 1)) ?_
  refine va_sld hx hb hX hbl hbA hS (nI_in (c := 5 * j + 1) (N := L) (by omega) (by omega)) dL_law_516 ?_
  refine p1_topr (v := .int (xs (5 * j + 1))) (congrArg (fun t9 => Value.int (xs t9)) (nI_clamp (by omega))) ?_
  refine lv_aload_n hx hb dL_law_517 rfl (lv_at hl 3 rfl) ?_
  refine lv_iload_n hx hb dL_law_518 rfl (lv_at hl 0 rfl) ?_
  refine lv_iconst (v := 2) hx hb dL_law_519 (by decide) ?_
  refine lv_iadd hx hb dL_law_520 ?_
  refine p1_topr (v := .int (nI (5 * j + 2))) (congrArg Value.int (nI_add (5 * j) 2)) ?_
  refine va_sld hx hb hX hbl hbA hS (nI_in (c := 5 * j + 2) (N := L) (by omega) (by omega)) dL_law_521 ?_
  refine p1_topr (v := .int (xs (5 * j + 2))) (congrArg (fun t9 => Value.int (xs t9)) (nI_clamp (by omega))) ?_
  refine lv_aload_n hx hb dL_law_522 rfl (lv_at hl 3 rfl) ?_
  refine lv_iload_n hx hb dL_law_523 rfl (lv_at hl 0 rfl) ?_
  refine lv_iconst (v := 3) hx hb dL_law_524 (by decide) ?_
  refine lv_iadd hx hb dL_law_525 ?_
  refine p1_topr (v := .int (nI (5 * j + 3))) (congrArg Value.int (nI_add (5 * j) 3)) ?_
  refine va_sld hx hb hX hbl hbA hS (nI_in (c := 5 * j + 3) (N := L) (by omega) (by omega)) dL_law_526 ?_
  refine p1_topr (v := .int (xs (5 * j + 3))) (congrArg (fun t9 => Value.int (xs t9)) (nI_clamp (by omega))) ?_
  replace hP := xq_perm List.perm_append_comm hP
  replace hD := xd_perm List.perm_append_comm hD
  have hPc := xq_right hP
  have hDc := xd_right hD
  have hFc := xj_free hD hS hA
  refine va_calli (va_runV (As := [.int (xs (5 * j + 1)), .int (xs (5 * j + 2)), .int (xs (5 * j + 3))]) (rest := []) ⟨hx, hb, hml, hown, hts⟩ (c_y_related l dC dI h a ev cI cJ cO cE Lc I M J n cap fE sd si sa dl (402000 * j) (xs (5 * j + 1)) (xs (5 * j + 2)) (xs (5 * j + 3)) H.size hI1 (by omega)) (cwV 3 hts wc_law_y_related_61 rfl rfl rfl (by decide +kernel) ⟨Nat.le_of_ble_eq_true rfl, Nat.le_of_ble_eq_true rfl⟩) ⟨fun a9 U g9 mk q => by obtain ⟨q0, q1, qP, qK, qD, qN⟩ := q; exact ⟨q0, q1, qP, va_K.moved (u := U) (U := U.calling g9 mk a9) (Vm.Alike.refl U.vm) qK, qD, pw_N.same (u := U) (U := U.calling g9 mk a9) rfl qN⟩, va_recv hKx hPc (ci := 9) (q0 := 0) rfl rfl, fun U hU hW => ⟨rfl, by rw [hU], by rw [hU]; exact hPc, va_K.moved hW.alike hKx, hDc.weaken (fun _ _ _ _ => trivial), pw_N.warm hW hN⟩⟩ rfl rfl hl.1 rfl (lv_room (Nat.le_of_ble_eq_true rfl)) dL_law_527 ⟨by show 60 + 7 * j + 0 ≤ 600000; omega, by show 19218 + 261 * j + 0 ≤ 7302250; omega⟩) hS (fun q _ h => hFc q h) hFc (fun r0 u0 t H1 locs ht hvm hw0 hB hz1 hk1 hS => ?_)
  obtain ⟨hP1, hD1⟩ := hB
  rw [ht] at hP1
  obtain ⟨hP, hD⟩ := xj_join hP hD hk1 hFc hP1 hD1
  generalize H1 = H at hP hS ⊢
  clear hP1 hD1 hPc hDc hFc hk1 hz1 ht hvm
  replace hw0 := hw0
  replace hP : va_P (dC, dI) vwCl (mW h2 a2 k2 F V ++ xW h a ev cI cJ cO cE Lc I M J n cap fE sd si sa dl) H := hP
  replace hD : va_D (lwA s) (mW h2 a2 k2 F V ++ xW h a ev cI cJ cO cE Lc I M J n cap fE sd si sa dl) := hD
  refine lv_pop hx hb dL_law_530 rfl ?_
  refine lv_aload_n hx hb dL_law_531 rfl (lv_at hl 1 rfl) ?_
  refine lv_aload_n hx hb dL_law_532 rfl (lv_at hl 3 rfl) ?_
  refine lv_iload_n hx hb dL_law_533 rfl (lv_at hl 0 rfl) ?_
  refine lv_iconst (v := 1) hx hb dL_law_534 (by decide) ?_
  refine lv_iadd hx hb dL_law_535 ?_
  refine p1_topr (v := .int (nI (5 * j + 1))) (congrArg Value.int (nI_add (5 * j) 1)) ?_
  refine va_sld hx hb hX hbl hbA hS (nI_in (c := 5 * j + 1) (N := L) (by omega) (by omega)) dL_law_536 ?_
  refine p1_topr (v := .int (xs (5 * j + 1))) (congrArg (fun t9 => Value.int (xs t9)) (nI_clamp (by omega))) ?_
  refine lv_aload_n hx hb dL_law_537 rfl (lv_at hl 3 rfl) ?_
  refine lv_iload_n hx hb dL_law_538 rfl (lv_at hl 0 rfl) ?_
  refine lv_iconst (v := 2) hx hb dL_law_539 (by decide) ?_
  refine lv_iadd hx hb dL_law_540 ?_
  refine p1_topr (v := .int (nI (5 * j + 2))) (congrArg Value.int (nI_add (5 * j) 2)) ?_
  refine va_sld hx hb hX hbl hbA hS (nI_in (c := 5 * j + 2) (N := L) (by omega) (by omega)) dL_law_541 ?_
  refine p1_topr (v := .int (xs (5 * j + 2))) (congrArg (fun t9 => Value.int (xs t9)) (nI_clamp (by omega))) ?_
  refine lv_aload_n hx hb dL_law_542 rfl (lv_at hl 3 rfl) ?_
  refine lv_iload_n hx hb dL_law_543 rfl (lv_at hl 0 rfl) ?_
  refine lv_iconst (v := 3) hx hb dL_law_544 (by decide) ?_
  refine lv_iadd hx hb dL_law_545 ?_
  refine p1_topr (v := .int (nI (5 * j + 3))) (congrArg Value.int (nI_add (5 * j) 3)) ?_
  refine va_sld hx hb hX hbl hbA hS (nI_in (c := 5 * j + 3) (N := L) (by omega) (by omega)) dL_law_546 ?_
  refine p1_topr (v := .int (xs (5 * j + 3))) (congrArg (fun t9 => Value.int (xs t9)) (nI_clamp (by omega))) ?_
  replace hP := xq_perm List.perm_append_comm hP
  replace hD := xd_perm List.perm_append_comm hD
  have hPc := xq_right hP
  have hDc := xd_right hD
  have hFc := xj_free hD hS hA
  refine va_calli (va_runV (As := [.int (xs (5 * j + 1)), .int (xs (5 * j + 2)), .int (xs (5 * j + 3))]) (rest := []) ⟨hx, hb, hml, hown, hts⟩ (c_w_related l dC dI h2 a2 k2 F V n (402000 * j) (xs (5 * j + 1)) (xs (5 * j + 2)) (xs (5 * j + 3)) H.size hI2 (by omega)) (cwV 3 hts wc_law_w_related_64 rfl rfl rfl (by decide +kernel) ⟨Nat.le_of_ble_eq_true rfl, Nat.le_of_ble_eq_true rfl⟩) ⟨fun a9 U g mk q => by obtain ⟨q0, q1, qP, qK, qD⟩ := q; exact ⟨q0, q1, qP, va_K.moved (u := U) (U := U.calling g mk a9) (Vm.Alike.refl U.vm) qK, qD⟩, va_recv hKm hPc (ci := 10) (q0 := 0) rfl rfl, fun U hU hW => ⟨rfl, by rw [hU], by rw [hU]; exact hPc, va_K.moved hW.alike hKm, hDc.weaken (fun _ _ _ _ => trivial)⟩⟩ rfl rfl hl.1 rfl (lv_room (Nat.le_of_ble_eq_true rfl)) dL_law_547 ⟨by show 60 + 7 * j + 0 + 0 ≤ 600000; omega, by show 19218 + 261 * j + 0 + 0 ≤ 7302250; omega⟩) hS (fun q _ h => hFc q h) hFc (fun r1 u1 t H1 locs ht hvm hw1 hB hz1 hk1 hS => ?_)
  obtain ⟨hP1, hD1⟩ := hB
  rw [ht] at hP1
  obtain ⟨hP, hD⟩ := xj_join hP hD hk1 hFc hP1 hD1
  generalize H1 = H at hP hS ⊢
  clear hP1 hD1 hPc hDc hFc hk1 hz1 ht hvm
  obtain ⟨F1, V1⟩ := u1
  obtain ⟨hwF, hwV, hw1⟩ := hw1
  replace hP : va_P (dC, dI) vwCl (xW h a ev cI cJ cO cE Lc I M J n cap fE sd si sa dl ++ mW h2 a2 k2 F1 V1) H := hP
  replace hD : va_D (lwA s) (xW h a ev cI cJ cO cE Lc I M J n cap fE sd si sa dl ++ mW h2 a2 k2 F1 V1) := hD
  replace hwF : F1 = F := hwF
  replace hwV : V1 = V := hwV
  rw [hwF, hwV] at hP hD
  replace hP : va_P (dC, dI) vwCl (xW h a ev cI cJ cO cE Lc I M J n cap fE sd si sa dl ++ mW h2 a2 k2 F V) H := hP
  replace hD : va_D (lwA s) (xW h a ev cI cJ cO cE Lc I M J n cap fE sd si sa dl ++ mW h2 a2 k2 F V) := hD
  refine lv_pop hx hb dL_law_550 rfl ?_
  refine lv_goto (tgt := 738) hx hb dL_law_551 (by decide) ?_
  refine lv_iinc (v := nI (5 * (j + 1))) (lv' := [(3, .int (nI (5 * (j + 1)))), (2, .ref h2), (1, .ref h), (0, .ref b)]) hx hb dL_law_738 hl (k := 0) rfl (nI_add (5 * j) 5) (by decide) rfl (fun ls hl => ?_)
  refine lv_goto (tgt := 18) hx hb dL_law_741 (by decide) ?_
  refine W.widen (k := 60 + 7 * (j + 1)) (n := 19218 + 261 * (j + 1)) (by omega) (by omega) ?_
  exact K ev n cap fE sd Lc I M J si sa dl F V H locs ls ⟨hI1.mono (by omega), hI2.mono (by omega), hI.2.2.1, hI.2.2.2.step (by omega)⟩ hP hD hS hl
set_option maxHeartbeats 4000000 in
set_option maxRecDepth 100000 in
theorem lc_12 {p : Program} {e : Env} {s : State} {m : MethodId} {below : List Frame} {meth : Method} {c : Code} (l : Launch) {b L : Nat} {xs : Nat → Int32} {dC : Nat → ClassId} {dI : Nat → Nat → Nat} {h : Nat} {a : Nat → Nat} {cI cJ cO cE : ClassId} {h2 : Nat} {a2 : Nat → Nat} {k2 : Nat → ClassId} {z mi : Nat} {j : Nat} (hL : L ≤ 2560) (hj : 5 * j + 5 ≤ L) (C : lwC p s m c b L xs dC dI cI cJ cO cE k2 z mi) {ev : Nat} {n : Nat} {cap : Nat} {fE : Nat → Option Nat} {sd : Nat → Nat → Nat} {Lc : Nat → Int64} {I : Nat → Int32} {M : Nat → Nat → Int64} {J : Nat → Nat → Int32} {si : Nat → Nat → Int32} {sa : Nat → Nat → Nat → Int32} {dl : Nat → Nat} {F : Nat → Nat → Int32} {V : Nat → Int32} {H : Heap} {locs : List Loc} {ls : Array Slot} (hI : LI z (j) ev n cap fE sd dl Lc I M J si sa F V) (hP : va_P (dC, dI) vwCl (xW h a ev cI cJ cO cE Lc I M J n cap fE sd si sa dl ++ mW h2 a2 k2 F V) H) (hD : va_D (lwA s) (xW h a ev cI cJ cO cE Lc I M J n cap fE sd si sa dl ++ mW h2 a2 k2 F V)) (hS : va_S (lwA s) s.heap H locs) (hl : lv_has ls 4 [(3, .int (nI (5 * j))), (2, .ref h2), (1, .ref h), (0, .ref b)]) (K : LK p l e s m below meth c b dC dI h a cI cJ cO cE h2 a2 k2 z (j + 1)) : W p l e room_1 s m #[Value.ref b] below meth c H locs (60 + 7 * j) (19218 + 261 * j) (lw_Z below #[Value.ref b] s) (F0 m 554 ls []) := by
  obtain ⟨hx, hb, hml, hown, hts, hX, hbl, hKx, hKm, hN, hZ, hT, hO, hMi, hDc0⟩ := C
  have hbA : ¬ lwA s b := Nat.not_le.mpr hbl
  have hA : ∀ q : Nat, s.heap.size ≤ q → lwA s q := fun _ h => h
  have hI1 := hI.1
  have hI2 := hI.2.1
  refine lv_aload_n hx hb dL_law_554 rfl (lv_at hl 2 rfl) ?_
  refine lv_aload_n hx hb dL_law_555 rfl (lv_at hl 3 rfl) ?_
  refine lv_iload_n hx hb dL_law_556 rfl (lv_at hl 0 rfl) ?_
  refine lv_iconst (v := 1) hx hb dL_law_557 (by decide) ?_
  refine lv_iadd hx hb dL_law_558 ?_
  refine p1_topr (v := .int (nI (5 * j + 1))) (congrArg Value.int (nI_add (5 * j) 1)) ?_
  refine va_sld hx hb hX hbl hbA hS (nI_in (c := 5 * j + 1) (N := L) (by omega) (by omega)) dL_law_559 ?_
  refine p1_topr (v := .int (xs (5 * j + 1))) (congrArg (fun t9 => Value.int (xs t9)) (nI_clamp (by omega))) ?_
  refine lv_aload_n hx hb dL_law_560 rfl (lv_at hl 3 rfl) ?_
  refine lv_iload_n hx hb dL_law_561 rfl (lv_at hl 0 rfl) ?_
  refine lv_iconst (v := 2) hx hb dL_law_562 (by decide) ?_
  refine lv_iadd hx hb dL_law_563 ?_
  refine p1_topr (v := .int (nI (5 * j + 2))) (congrArg Value.int (nI_add (5 * j) 2)) ?_
  refine va_sld hx hb hX hbl hbA hS (nI_in (c := 5 * j + 2) (N := L) (by omega) (by omega)) dL_law_564 ?_
  refine p1_topr (v := .int (xs (5 * j + 2))) (congrArg (fun t9 => Value.int (xs t9)) (nI_clamp (by omega))) ?_
  replace hP := xq_perm List.perm_append_comm hP
  replace hD := xd_perm List.perm_append_comm hD
  have hPc := xq_right hP
  have hDc := xd_right hD
  have hFc := xj_free hD hS hA
  refine va_calli (va_runV (As := [.int (xs (5 * j + 1)), .int (xs (5 * j + 2))]) (rest := []) ⟨hx, hb, hml, hown, hts⟩ (c_y_waits l dC dI h a ev cI cJ cO cE Lc I M J n cap fE sd si sa dl (402000 * j) (xs (5 * j + 1)) (xs (5 * j + 2)) H.size hI1 (by omega)) (cwV 2 hts wc_law_y_waits_65 rfl rfl rfl (by decide +kernel) ⟨Nat.le_of_ble_eq_true rfl, Nat.le_of_ble_eq_true rfl⟩) ⟨fun a9 U g9 mk q => by obtain ⟨q0, q1, qP, qK, qD, qN⟩ := q; exact ⟨q0, q1, qP, va_K.moved (u := U) (U := U.calling g9 mk a9) (Vm.Alike.refl U.vm) qK, qD, pw_N.same (u := U) (U := U.calling g9 mk a9) rfl qN⟩, va_recv hKx hPc (ci := 9) (q0 := 0) rfl rfl, fun U hU hW => ⟨rfl, by rw [hU], by rw [hU]; exact hPc, va_K.moved hW.alike hKx, hDc.weaken (fun _ _ _ _ => trivial), pw_N.warm hW hN⟩⟩ rfl rfl hl.1 rfl (lv_room (Nat.le_of_ble_eq_true rfl)) dL_law_565 ⟨by show 60 + 7 * j + 0 ≤ 600000; omega, by show 19218 + 261 * j + 0 ≤ 7302250; omega⟩) hS (fun q _ h => hFc q h) hFc (fun r0 u0 t H1 locs ht hvm hw0 hB hz1 hk1 hS => ?_)
  obtain ⟨hP1, hD1⟩ := hB
  rw [ht] at hP1
  obtain ⟨hP, hD⟩ := xj_join hP hD hk1 hFc hP1 hD1
  generalize H1 = H at hP hS ⊢
  clear hP1 hD1 hPc hDc hFc hk1 hz1 ht hvm
  replace hw0 := hw0
  replace hP : va_P (dC, dI) vwCl (mW h2 a2 k2 F V ++ xW h a ev cI cJ cO cE Lc I M J n cap fE sd si sa dl) H := hP
  replace hD : va_D (lwA s) (mW h2 a2 k2 F V ++ xW h a ev cI cJ cO cE Lc I M J n cap fE sd si sa dl) := hD
  refine lv_pop hx hb dL_law_568 rfl ?_
  refine lv_aload_n hx hb dL_law_569 rfl (lv_at hl 1 rfl) ?_
  refine lv_aload_n hx hb dL_law_570 rfl (lv_at hl 3 rfl) ?_
  refine lv_iload_n hx hb dL_law_571 rfl (lv_at hl 0 rfl) ?_
  refine lv_iconst (v := 1) hx hb dL_law_572 (by decide) ?_
  refine lv_iadd hx hb dL_law_573 ?_
  refine p1_topr (v := .int (nI (5 * j + 1))) (congrArg Value.int (nI_add (5 * j) 1)) ?_
  refine va_sld hx hb hX hbl hbA hS (nI_in (c := 5 * j + 1) (N := L) (by omega) (by omega)) dL_law_574 ?_
  refine p1_topr (v := .int (xs (5 * j + 1))) (congrArg (fun t9 => Value.int (xs t9)) (nI_clamp (by omega))) ?_
  refine lv_aload_n hx hb dL_law_575 rfl (lv_at hl 3 rfl) ?_
  refine lv_iload_n hx hb dL_law_576 rfl (lv_at hl 0 rfl) ?_
  refine lv_iconst (v := 2) hx hb dL_law_577 (by decide) ?_
  refine lv_iadd hx hb dL_law_578 ?_
  refine p1_topr (v := .int (nI (5 * j + 2))) (congrArg Value.int (nI_add (5 * j) 2)) ?_
  refine va_sld hx hb hX hbl hbA hS (nI_in (c := 5 * j + 2) (N := L) (by omega) (by omega)) dL_law_579 ?_
  refine p1_topr (v := .int (xs (5 * j + 2))) (congrArg (fun t9 => Value.int (xs t9)) (nI_clamp (by omega))) ?_
  replace hP := xq_perm List.perm_append_comm hP
  replace hD := xd_perm List.perm_append_comm hD
  have hPc := xq_right hP
  have hDc := xd_right hD
  have hFc := xj_free hD hS hA
  refine va_calli (va_runV (As := [.int (xs (5 * j + 1)), .int (xs (5 * j + 2))]) (rest := []) ⟨hx, hb, hml, hown, hts⟩ (c_w_waits l dC dI h2 a2 k2 F V n (402000 * j) (xs (5 * j + 1)) (xs (5 * j + 2)) H.size hI2 (by omega)) (cwV 2 hts wc_law_w_waits_68 rfl rfl rfl (by decide +kernel) ⟨Nat.le_of_ble_eq_true rfl, Nat.le_of_ble_eq_true rfl⟩) ⟨fun a9 U g mk q => by obtain ⟨q0, q1, qP, qK, qD⟩ := q; exact ⟨q0, q1, qP, va_K.moved (u := U) (U := U.calling g mk a9) (Vm.Alike.refl U.vm) qK, qD⟩, va_recv hKm hPc (ci := 10) (q0 := 0) rfl rfl, fun U hU hW => ⟨rfl, by rw [hU], by rw [hU]; exact hPc, va_K.moved hW.alike hKm, hDc.weaken (fun _ _ _ _ => trivial)⟩⟩ rfl rfl hl.1 rfl (lv_room (Nat.le_of_ble_eq_true rfl)) dL_law_580 ⟨by show 60 + 7 * j + 0 + 0 ≤ 600000; omega, by show 19218 + 261 * j + 0 + 0 ≤ 7302250; omega⟩) hS (fun q _ h => hFc q h) hFc (fun r1 u1 t H1 locs ht hvm hw1 hB hz1 hk1 hS => ?_)
  obtain ⟨hP1, hD1⟩ := hB
  rw [ht] at hP1
  obtain ⟨hP, hD⟩ := xj_join hP hD hk1 hFc hP1 hD1
  generalize H1 = H at hP hS ⊢
  clear hP1 hD1 hPc hDc hFc hk1 hz1 ht hvm
  obtain ⟨F1, V1⟩ := u1
  obtain ⟨hwF, hwV, hw1⟩ := hw1
  replace hP : va_P (dC, dI) vwCl (xW h a ev cI cJ cO cE Lc I M J n cap fE sd si sa dl ++ mW h2 a2 k2 F1 V1) H := hP
  replace hD : va_D (lwA s) (xW h a ev cI cJ cO cE Lc I M J n cap fE sd si sa dl ++ mW h2 a2 k2 F1 V1) := hD
  replace hwF : F1 = F := hwF
  replace hwV : V1 = V := hwV
  rw [hwF, hwV] at hP hD
  replace hP : va_P (dC, dI) vwCl (xW h a ev cI cJ cO cE Lc I M J n cap fE sd si sa dl ++ mW h2 a2 k2 F V) H := hP
  replace hD : va_D (lwA s) (xW h a ev cI cJ cO cE Lc I M J n cap fE sd si sa dl ++ mW h2 a2 k2 F V) := hD
  refine lv_pop hx hb dL_law_583 rfl ?_
  refine lv_goto (tgt := 738) hx hb dL_law_584 (by decide) ?_
  refine lv_iinc (v := nI (5 * (j + 1))) (lv' := [(3, .int (nI (5 * (j + 1)))), (2, .ref h2), (1, .ref h), (0, .ref b)]) hx hb dL_law_738 hl (k := 0) rfl (nI_add (5 * j) 5) (by decide) rfl (fun ls hl => ?_)
  refine lv_goto (tgt := 18) hx hb dL_law_741 (by decide) ?_
  refine W.widen (k := 60 + 7 * (j + 1)) (n := 19218 + 261 * (j + 1)) (by omega) (by omega) ?_
  exact K ev n cap fE sd Lc I M J si sa dl F V H locs ls ⟨hI1.mono (by omega), hI2.mono (by omega), hI.2.2.1, hI.2.2.2.step (by omega)⟩ hP hD hS hl
set_option maxHeartbeats 4000000 in
set_option maxRecDepth 100000 in
theorem lc_13 {p : Program} {e : Env} {s : State} {m : MethodId} {below : List Frame} {meth : Method} {c : Code} (l : Launch) {b L : Nat} {xs : Nat → Int32} {dC : Nat → ClassId} {dI : Nat → Nat → Nat} {h : Nat} {a : Nat → Nat} {cI cJ cO cE : ClassId} {h2 : Nat} {a2 : Nat → Nat} {k2 : Nat → ClassId} {z mi : Nat} {j : Nat} (hL : L ≤ 2560) (hj : 5 * j + 5 ≤ L) (C : lwC p s m c b L xs dC dI cI cJ cO cE k2 z mi) {ev : Nat} {n : Nat} {cap : Nat} {fE : Nat → Option Nat} {sd : Nat → Nat → Nat} {Lc : Nat → Int64} {I : Nat → Int32} {M : Nat → Nat → Int64} {J : Nat → Nat → Int32} {si : Nat → Nat → Int32} {sa : Nat → Nat → Nat → Int32} {dl : Nat → Nat} {F : Nat → Nat → Int32} {V : Nat → Int32} {H : Heap} {locs : List Loc} {ls : Array Slot} (hI : LI z (j) ev n cap fE sd dl Lc I M J si sa F V) (hP : va_P (dC, dI) vwCl (xW h a ev cI cJ cO cE Lc I M J n cap fE sd si sa dl ++ mW h2 a2 k2 F V) H) (hD : va_D (lwA s) (xW h a ev cI cJ cO cE Lc I M J n cap fE sd si sa dl ++ mW h2 a2 k2 F V)) (hS : va_S (lwA s) s.heap H locs) (hl : lv_has ls 4 [(3, .int (nI (5 * j))), (2, .ref h2), (1, .ref h), (0, .ref b)]) (K : LK p l e s m below meth c b dC dI h a cI cJ cO cE h2 a2 k2 z (j + 1)) : W p l e room_1 s m #[Value.ref b] below meth c H locs (60 + 7 * j) (19218 + 261 * j) (lw_Z below #[Value.ref b] s) (F0 m 587 ls []) := by
  obtain ⟨hx, hb, hml, hown, hts, hX, hbl, hKx, hKm, hN, hZ, hT, hO, hMi, hDc0⟩ := C
  have hbA : ¬ lwA s b := Nat.not_le.mpr hbl
  have hA : ∀ q : Nat, s.heap.size ≤ q → lwA s q := fun _ h => h
  have hI1 := hI.1
  have hI2 := hI.2.1
  refine lv_aload_n hx hb dL_law_587 rfl (lv_at hl 2 rfl) ?_
  refine lv_aload_n hx hb dL_law_588 rfl (lv_at hl 3 rfl) ?_
  refine lv_iload_n hx hb dL_law_589 rfl (lv_at hl 0 rfl) ?_
  refine lv_iconst (v := 1) hx hb dL_law_590 (by decide) ?_
  refine lv_iadd hx hb dL_law_591 ?_
  refine p1_topr (v := .int (nI (5 * j + 1))) (congrArg Value.int (nI_add (5 * j) 1)) ?_
  refine va_sld hx hb hX hbl hbA hS (nI_in (c := 5 * j + 1) (N := L) (by omega) (by omega)) dL_law_592 ?_
  refine p1_topr (v := .int (xs (5 * j + 1))) (congrArg (fun t9 => Value.int (xs t9)) (nI_clamp (by omega))) ?_
  refine lv_aload_n hx hb dL_law_593 rfl (lv_at hl 3 rfl) ?_
  refine lv_iload_n hx hb dL_law_594 rfl (lv_at hl 0 rfl) ?_
  refine lv_iconst (v := 2) hx hb dL_law_595 (by decide) ?_
  refine lv_iadd hx hb dL_law_596 ?_
  refine p1_topr (v := .int (nI (5 * j + 2))) (congrArg Value.int (nI_add (5 * j) 2)) ?_
  refine va_sld hx hb hX hbl hbA hS (nI_in (c := 5 * j + 2) (N := L) (by omega) (by omega)) dL_law_597 ?_
  refine p1_topr (v := .int (xs (5 * j + 2))) (congrArg (fun t9 => Value.int (xs t9)) (nI_clamp (by omega))) ?_
  replace hP := xq_perm List.perm_append_comm hP
  replace hD := xd_perm List.perm_append_comm hD
  have hPc := xq_right hP
  have hDc := xd_right hD
  have hFc := xj_free hD hS hA
  refine va_calli (va_runV (As := [.int (xs (5 * j + 1)), .int (xs (5 * j + 2))]) (rest := []) ⟨hx, hb, hml, hown, hts⟩ (c_y_plan l dC dI h a ev cI cJ cO cE Lc I M J n cap fE sd si sa dl (402000 * j) (xs (5 * j + 1)) (xs (5 * j + 2)) H.size hI1 (by omega)) (cwV 2 hts wc_law_y_plan_69 rfl rfl rfl (by decide +kernel) ⟨Nat.le_of_ble_eq_true rfl, Nat.le_of_ble_eq_true rfl⟩) ⟨fun a9 U g9 mk q => by obtain ⟨q0, q1, qP, qK, qD, qN⟩ := q; exact ⟨q0, q1, qP, va_K.moved (u := U) (U := U.calling g9 mk a9) (Vm.Alike.refl U.vm) qK, qD, pw_N.same (u := U) (U := U.calling g9 mk a9) rfl qN⟩, va_recv hKx hPc (ci := 9) (q0 := 0) rfl rfl, fun U hU hW => ⟨rfl, by rw [hU], by rw [hU]; exact hPc, va_K.moved hW.alike hKx, hDc.weaken (fun _ _ _ _ => trivial), pw_N.warm hW hN⟩⟩ rfl rfl hl.1 rfl (lv_room (Nat.le_of_ble_eq_true rfl)) dL_law_598 ⟨by show 60 + 7 * j + 0 ≤ 600000; omega, by show 19218 + 261 * j + 0 ≤ 7302250; omega⟩) hS (fun q _ h => hFc q h) hFc (fun r0 u0 t H1 locs ht hvm hw0 hB hz1 hk1 hS => ?_)
  obtain ⟨hP1, hD1⟩ := hB
  rw [ht] at hP1
  obtain ⟨hP, hD⟩ := xj_join hP hD hk1 hFc hP1 hD1
  generalize H1 = H at hP hS ⊢
  clear hP1 hD1 hPc hDc hFc hk1 hz1 ht hvm
  obtain ⟨L1, I1, J1⟩ := u0
  obtain ⟨hwX, whUL, whUI, whUJ, hw0⟩ := hw0
  replace hP : va_P (dC, dI) vwCl (mW h2 a2 k2 F V ++ xW h a ev cI cJ cO cE L1 I1 M J1 n cap fE sd si sa dl) H := hP
  replace hD : va_D (lwA s) (mW h2 a2 k2 F V ++ xW h a ev cI cJ cO cE L1 I1 M J1 n cap fE sd si sa dl) := hD
  replace hI1 : InvX n cap fE sd dl (402000 * j + 0) I1 J1 si := hwX
  refine lv_pop hx hb dL_law_601 rfl ?_
  refine lv_aload_n hx hb dL_law_602 rfl (lv_at hl 1 rfl) ?_
  refine lv_aload_n hx hb dL_law_603 rfl (lv_at hl 3 rfl) ?_
  refine lv_iload_n hx hb dL_law_604 rfl (lv_at hl 0 rfl) ?_
  refine lv_iconst (v := 1) hx hb dL_law_605 (by decide) ?_
  refine lv_iadd hx hb dL_law_606 ?_
  refine p1_topr (v := .int (nI (5 * j + 1))) (congrArg Value.int (nI_add (5 * j) 1)) ?_
  refine va_sld hx hb hX hbl hbA hS (nI_in (c := 5 * j + 1) (N := L) (by omega) (by omega)) dL_law_607 ?_
  refine p1_topr (v := .int (xs (5 * j + 1))) (congrArg (fun t9 => Value.int (xs t9)) (nI_clamp (by omega))) ?_
  refine lv_aload_n hx hb dL_law_608 rfl (lv_at hl 3 rfl) ?_
  refine lv_iload_n hx hb dL_law_609 rfl (lv_at hl 0 rfl) ?_
  refine lv_iconst (v := 2) hx hb dL_law_610 (by decide) ?_
  refine lv_iadd hx hb dL_law_611 ?_
  refine p1_topr (v := .int (nI (5 * j + 2))) (congrArg Value.int (nI_add (5 * j) 2)) ?_
  refine va_sld hx hb hX hbl hbA hS (nI_in (c := 5 * j + 2) (N := L) (by omega) (by omega)) dL_law_612 ?_
  refine p1_topr (v := .int (xs (5 * j + 2))) (congrArg (fun t9 => Value.int (xs t9)) (nI_clamp (by omega))) ?_
  replace hP := xq_perm List.perm_append_comm hP
  replace hD := xd_perm List.perm_append_comm hD
  have hPc := xq_right hP
  have hDc := xd_right hD
  have hFc := xj_free hD hS hA
  refine va_calli (va_runV (As := [.int (xs (5 * j + 1)), .int (xs (5 * j + 2))]) (rest := []) ⟨hx, hb, hml, hown, hts⟩ (c_w_plan l dC dI h2 a2 k2 F V n (402000 * j) (xs (5 * j + 1)) (xs (5 * j + 2)) H.size hI2 (by omega)) (cwV 2 hts wc_law_w_plan_72 rfl rfl rfl (by decide +kernel) ⟨Nat.le_of_ble_eq_true rfl, Nat.le_of_ble_eq_true rfl⟩) ⟨fun a9 U g mk q => by obtain ⟨q0, q1, qP, qK, qD⟩ := q; exact ⟨q0, q1, qP, va_K.moved (u := U) (U := U.calling g mk a9) (Vm.Alike.refl U.vm) qK, qD⟩, va_recv hKm hPc (ci := 10) (q0 := 0) rfl rfl, fun U hU hW => ⟨rfl, by rw [hU], by rw [hU]; exact hPc, va_K.moved hW.alike hKm, hDc.weaken (fun _ _ _ _ => trivial)⟩⟩ rfl rfl hl.1 rfl (lv_room (Nat.le_of_ble_eq_true rfl)) dL_law_613 ⟨by show 60 + 7 * j + 0 + 0 ≤ 600000; omega, by show 19218 + 261 * j + 0 + 0 ≤ 7302250; omega⟩) hS (fun q _ h => hFc q h) hFc (fun r1 u1 t H1 locs ht hvm hw1 hB hz1 hk1 hS => ?_)
  obtain ⟨hP1, hD1⟩ := hB
  rw [ht] at hP1
  obtain ⟨hP, hD⟩ := xj_join hP hD hk1 hFc hP1 hD1
  generalize H1 = H at hP hS ⊢
  clear hP1 hD1 hPc hDc hFc hk1 hz1 ht hvm
  obtain ⟨F1, V1⟩ := u1
  obtain ⟨hwI, hwU, hwV, hw1⟩ := hw1
  replace hI2 : InvM n (402000 * j + 0) F1 V1 := hwI.1
  replace hwU : ∀ j9 : Nat, j9 ∉ ([27, 28, 29, 30, 31, 32, 34, 35, 36, 37, 40, 41] : List Nat) → F1 j9 = F j9 := hwU
  replace hwV : ∀ j9 : Nat, j9 ∉ ([33, 38, 39] : List Nat) → V1 j9 = V j9 := hwV
  replace hP : va_P (dC, dI) vwCl (xW h a ev cI cJ cO cE L1 I1 M J1 n cap fE sd si sa dl ++ mW h2 a2 k2 F1 V1) H := hP
  replace hD : va_D (lwA s) (xW h a ev cI cJ cO cE L1 I1 M J1 n cap fE sd si sa dl ++ mW h2 a2 k2 F1 V1) := hD
  refine lv_pop hx hb dL_law_616 rfl ?_
  refine lv_goto (tgt := 738) hx hb dL_law_617 (by decide) ?_
  refine lv_iinc (v := nI (5 * (j + 1))) (lv' := [(3, .int (nI (5 * (j + 1)))), (2, .ref h2), (1, .ref h), (0, .ref b)]) hx hb dL_law_738 hl (k := 0) rfl (nI_add (5 * j) 5) (by decide) rfl (fun ls hl => ?_)
  refine lv_goto (tgt := 18) hx hb dL_law_741 (by decide) ?_
  refine W.widen (k := 60 + 7 * (j + 1)) (n := 19218 + 261 * (j + 1)) (by omega) (by omega) ?_
  exact K ev n cap fE sd L1 I1 M J1 si sa dl F1 V1 H locs ls ⟨hI1.mono (by omega), hI2.mono (by omega), hI.2.2.1, (st_plan hI.2.2.2 (by omega) hw0 hw1 (hwU 19 (by decide))).2⟩ hP hD hS hl

