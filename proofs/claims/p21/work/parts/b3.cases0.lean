set_option maxHeartbeats 4000000 in
set_option maxRecDepth 100000 in
theorem lc_0 {p : Program} {e : Env} {s : State} {m : MethodId} {below : List Frame} {meth : Method} {c : Code} (l : Launch) {b L : Nat} {xs : Nat → Int32} {dC : Nat → ClassId} {dI : Nat → Nat → Nat} {h : Nat} {a : Nat → Nat} {cI cJ cO cE : ClassId} {h2 : Nat} {a2 : Nat → Nat} {k2 : Nat → ClassId} {z mi : Nat} {j : Nat} (hL : L ≤ 2560) (hj : 5 * j + 5 ≤ L) (C : lwC p s m c b L xs dC dI cI cJ cO cE k2 z mi) {ev : Nat} {n : Nat} {cap : Nat} {fE : Nat → Option Nat} {sd : Nat → Nat → Nat} {Lc : Nat → Int64} {I : Nat → Int32} {M : Nat → Nat → Int64} {J : Nat → Nat → Int32} {si : Nat → Nat → Int32} {sa : Nat → Nat → Nat → Int32} {dl : Nat → Nat} {F : Nat → Nat → Int32} {V : Nat → Int32} {H : Heap} {locs : List Loc} {ls : Array Slot} (hI : LI z (j) ev n cap fE sd dl Lc I M J si sa F V) (hP : va_P (dC, dI) vwCl (xW h a ev cI cJ cO cE Lc I M J n cap fE sd si sa dl ++ mW h2 a2 k2 F V) H) (hD : va_D (lwA s) (xW h a ev cI cJ cO cE Lc I M J n cap fE sd si sa dl ++ mW h2 a2 k2 F V)) (hS : va_S (lwA s) s.heap H locs) (hl : lv_has ls 4 [(3, .int (nI (5 * j))), (2, .ref h2), (1, .ref h), (0, .ref b)]) (K : LK p l e s m below meth c b dC dI h a cI cJ cO cE h2 a2 k2 z (j + 1)) : W p l e room_1 s m #[Value.ref b] below meth c H locs (60 + 7 * j) (19218 + 261 * j) (lw_Z below #[Value.ref b] s) (F0 m 128 ls []) := by
  obtain ⟨hx, hb, hml, hown, hts, hX, hbl, hKx, hKm, hN, hZ, hT, hO, hMi, hDc0⟩ := C
  have hbA : ¬ lwA s b := Nat.not_le.mpr hbl
  have hA : ∀ q : Nat, s.heap.size ≤ q → lwA s q := fun _ h => h
  have hI1 := hI.1
  have hI2 := hI.2.1
  refine lv_aload_n hx hb dL_law_128 rfl (lv_at hl 2 rfl) ?_
  refine lv_aload_n hx hb dL_law_129 rfl (lv_at hl 3 rfl) ?_
  refine lv_iload_n hx hb dL_law_130 rfl (lv_at hl 0 rfl) ?_
  refine lv_iconst (v := 1) hx hb dL_law_131 (by decide) ?_
  refine lv_iadd hx hb dL_law_132 ?_
  refine p1_topr (v := .int (nI (5 * j + 1))) (congrArg Value.int (nI_add (5 * j) 1)) ?_
  refine va_sld hx hb hX hbl hbA hS (nI_in (c := 5 * j + 1) (N := L) (by omega) (by omega)) dL_law_133 ?_
  refine p1_topr (v := .int (xs (5 * j + 1))) (congrArg (fun t9 => Value.int (xs t9)) (nI_clamp (by omega))) ?_
  refine lv_aload_n hx hb dL_law_134 rfl (lv_at hl 3 rfl) ?_
  refine lv_iload_n hx hb dL_law_135 rfl (lv_at hl 0 rfl) ?_
  refine lv_iconst (v := 2) hx hb dL_law_136 (by decide) ?_
  refine lv_iadd hx hb dL_law_137 ?_
  refine p1_topr (v := .int (nI (5 * j + 2))) (congrArg Value.int (nI_add (5 * j) 2)) ?_
  refine va_sld hx hb hX hbl hbA hS (nI_in (c := 5 * j + 2) (N := L) (by omega) (by omega)) dL_law_138 ?_
  refine p1_topr (v := .int (xs (5 * j + 2))) (congrArg (fun t9 => Value.int (xs t9)) (nI_clamp (by omega))) ?_
  refine lv_aload_n hx hb dL_law_139 rfl (lv_at hl 3 rfl) ?_
  refine lv_iload_n hx hb dL_law_140 rfl (lv_at hl 0 rfl) ?_
  refine lv_iconst (v := 3) hx hb dL_law_141 (by decide) ?_
  refine lv_iadd hx hb dL_law_142 ?_
  refine p1_topr (v := .int (nI (5 * j + 3))) (congrArg Value.int (nI_add (5 * j) 3)) ?_
  refine va_sld hx hb hX hbl hbA hS (nI_in (c := 5 * j + 3) (N := L) (by omega) (by omega)) dL_law_143 ?_
  refine p1_topr (v := .int (xs (5 * j + 3))) (congrArg (fun t9 => Value.int (xs t9)) (nI_clamp (by omega))) ?_
  replace hP := xq_perm List.perm_append_comm hP
  replace hD := xd_perm List.perm_append_comm hD
  have hPc := xq_right hP
  have hDc := xd_right hD
  have hFc := xj_free hD hS hA
  refine va_calli (va_runV (As := [.int (xs (5 * j + 1)), .int (xs (5 * j + 2)), .int (xs (5 * j + 3))]) (rest := []) ⟨hx, hb, hml, hown, hts⟩ (c_y_make l dC dI h a ev cI cJ cO cE Lc I M J n cap fE sd si sa dl (402000 * j) z mi (xs (5 * j + 1)) (xs (5 * j + 2)) (xs (5 * j + 3)) H.size hI1 (by omega) hI.2.2.1) (cwV 3 hts wc_law_y_make_13 rfl rfl rfl (by decide +kernel) ⟨Nat.le_of_ble_eq_true rfl, Nat.le_of_ble_eq_true rfl⟩) ⟨fun a9 U g9 mk q => by obtain ⟨q0, q1, qP, qK, qD, qN, qZ, qT, qO, qM, qC⟩ := q; exact ⟨q0, q1, qP, va_K.moved (u := U) (U := U.calling g9 mk a9) (Vm.Alike.refl U.vm) qK, qD, pw_N.same (u := U) (U := U.calling g9 mk a9) rfl qN, va_Z.moved (u := U) (U := U.calling g9 mk a9) (Vm.Alike.refl U.vm) qZ, va_T.moved (u := U) (U := U.calling g9 mk a9) (Vm.Alike.refl U.vm) qT, va_AO.moved (u := U) (U := U.calling g9 mk a9) (Vm.Alike.refl U.vm) qO, va_Mi.moved (u := U) (U := U.calling g9 mk a9) (Vm.Alike.refl U.vm) qM, va_Dc.moved (u := U) (U := U.calling g9 mk a9) (Vm.Alike.refl U.vm) qC⟩, va_recv hKx hPc (ci := 9) (q0 := 0) rfl rfl, fun U hU hW => ⟨rfl, by rw [hU], by rw [hU]; exact hPc, va_K.moved hW.alike hKx, hDc.weaken (fun _ _ _ _ => trivial), pw_N.warm hW hN, by rw [hU]; exact va_Z.moved hW.alike ((hZ.kept (fun a9 h1 h2 => hS.2.1 a9 h1 h2)).narrow hFc), by rw [hU]; exact va_T.moved hW.alike ((hT.kept (fun a9 h1 h2 => hS.2.1 a9 h1 h2)).narrow hFc), va_AO.moved hW.alike hO, va_Mi.moved hW.alike hMi, va_Dc.moved hW.alike hDc0⟩⟩ rfl rfl hl.1 rfl (lv_room (Nat.le_of_ble_eq_true rfl)) dL_law_144 ⟨by show 60 + 7 * j + 7 ≤ 600000; omega, by show 19218 + 261 * j + 261 ≤ 7302250; omega⟩) hS (fun q _ h => hFc q h) hFc (fun r0 u0 t H1 locs ht hvm hw0 hB hz1 hk1 hS => ?_)
  obtain ⟨hP1, hD1⟩ := hB
  rw [ht] at hP1
  obtain ⟨hP, hD⟩ := xj_join hP hD hk1 hFc hP1 hD1
  generalize H1 = H at hP hS ⊢
  clear hP1 hD1 hPc hDc hFc hk1 hz1 ht hvm
  refine lv_pop hx hb dL_law_147 rfl ?_
  refine lv_aload_n hx hb dL_law_148 rfl (lv_at hl 1 rfl) ?_
  refine lv_aload_n hx hb dL_law_149 rfl (lv_at hl 3 rfl) ?_
  refine lv_iload_n hx hb dL_law_150 rfl (lv_at hl 0 rfl) ?_
  refine lv_iconst (v := 1) hx hb dL_law_151 (by decide) ?_
  refine lv_iadd hx hb dL_law_152 ?_
  refine p1_topr (v := .int (nI (5 * j + 1))) (congrArg Value.int (nI_add (5 * j) 1)) ?_
  refine va_sld hx hb hX hbl hbA hS (nI_in (c := 5 * j + 1) (N := L) (by omega) (by omega)) dL_law_153 ?_
  refine p1_topr (v := .int (xs (5 * j + 1))) (congrArg (fun t9 => Value.int (xs t9)) (nI_clamp (by omega))) ?_
  refine lv_aload_n hx hb dL_law_154 rfl (lv_at hl 3 rfl) ?_
  refine lv_iload_n hx hb dL_law_155 rfl (lv_at hl 0 rfl) ?_
  refine lv_iconst (v := 2) hx hb dL_law_156 (by decide) ?_
  refine lv_iadd hx hb dL_law_157 ?_
  refine p1_topr (v := .int (nI (5 * j + 2))) (congrArg Value.int (nI_add (5 * j) 2)) ?_
  refine va_sld hx hb hX hbl hbA hS (nI_in (c := 5 * j + 2) (N := L) (by omega) (by omega)) dL_law_158 ?_
  refine p1_topr (v := .int (xs (5 * j + 2))) (congrArg (fun t9 => Value.int (xs t9)) (nI_clamp (by omega))) ?_
  refine lv_aload_n hx hb dL_law_159 rfl (lv_at hl 3 rfl) ?_
  refine lv_iload_n hx hb dL_law_160 rfl (lv_at hl 0 rfl) ?_
  refine lv_iconst (v := 3) hx hb dL_law_161 (by decide) ?_
  refine lv_iadd hx hb dL_law_162 ?_
  refine p1_topr (v := .int (nI (5 * j + 3))) (congrArg Value.int (nI_add (5 * j) 3)) ?_
  refine va_sld hx hb hX hbl hbA hS (nI_in (c := 5 * j + 3) (N := L) (by omega) (by omega)) dL_law_163 ?_
  refine p1_topr (v := .int (xs (5 * j + 3))) (congrArg (fun t9 => Value.int (xs t9)) (nI_clamp (by omega))) ?_
  replace hP := xq_perm List.perm_append_comm hP
  replace hD := xd_perm List.perm_append_comm hD
  have hPc := xq_right hP
  have hDc := xd_right hD
  have hFc := xj_free hD hS hA
  refine va_calli (va_runV (As := [.int (xs (5 * j + 1)), .int (xs (5 * j + 2)), .int (xs (5 * j + 3))]) (rest := []) ⟨hx, hb, hml, hown, hts⟩ (c_w_make l dC dI h2 a2 k2 F V n (402000 * j) (xs (5 * j + 1)) (xs (5 * j + 2)) (xs (5 * j + 3)) H.size hI2 (by omega)) (cwV 3 hts wc_law_w_make_17 rfl rfl rfl (by decide +kernel) ⟨Nat.le_of_ble_eq_true rfl, Nat.le_of_ble_eq_true rfl⟩) ⟨fun a9 U g mk q => by obtain ⟨q0, q1, qP, qK, qD⟩ := q; exact ⟨q0, q1, qP, va_K.moved (u := U) (U := U.calling g mk a9) (Vm.Alike.refl U.vm) qK, qD⟩, va_recv hKm hPc (ci := 10) (q0 := 0) rfl rfl, fun U hU hW => ⟨rfl, by rw [hU], by rw [hU]; exact hPc, va_K.moved hW.alike hKm, hDc.weaken (fun _ _ _ _ => trivial)⟩⟩ rfl rfl hl.1 rfl (lv_room (Nat.le_of_ble_eq_true rfl)) dL_law_164 ⟨by show 60 + 7 * j + 7 + 0 ≤ 600000; omega, by show 19218 + 261 * j + 261 + 0 ≤ 7302250; omega⟩) hS (fun q _ h => hFc q h) hFc (fun r1 u1 t H1 locs ht hvm hw1 hB hz1 hk1 hS => ?_)
  obtain ⟨hP1, hD1⟩ := hB
  rw [ht] at hP1
  obtain ⟨hP, hD⟩ := xj_join hP hD hk1 hFc hP1 hD1
  generalize H1 = H at hP hS ⊢
  clear hP1 hD1 hPc hDc hFc hk1 hz1 ht hvm
  refine lv_pop hx hb dL_law_167 rfl ?_
  refine lv_goto (tgt := 738) hx hb dL_law_168 (by decide) ?_
  refine lv_iinc (v := nI (5 * (j + 1))) (lv' := [(3, .int (nI (5 * (j + 1)))), (2, .ref h2), (1, .ref h), (0, .ref b)]) hx hb dL_law_738 hl (k := 0) rfl (nI_add (5 * j) 5) (by decide) rfl (fun ls hl => ?_)
  refine lv_goto (tgt := 18) hx hb dL_law_741 (by decide) ?_
  obtain ⟨n1, e1, cap1, fE1, sd1, I1, M1, si1, sa1, dl1⟩ := u0
  obtain ⟨F1, V1⟩ := u1
  replace hP : va_P (dC, dI) vwCl (xW h a e1 cI cJ cO cE Lc I1 M1 J n1 cap1 fE1 sd1 si1 sa1 dl1 ++ mW h2 a2 k2 F1 V1) H := hP
  replace hD : va_D (lwA s) (xW h a e1 cI cJ cO cE Lc I1 M1 J n1 cap1 fE1 sd1 si1 sa1 dl1 ++ mW h2 a2 k2 F1 V1) := hD
  refine W.widen (k := 60 + 7 * (j + 1)) (n := 19218 + 261 * (j + 1)) (by omega) (by omega) ?_
  rcases hw0 with ⟨hm, h40, er, hn1, hX1, hf1, hf2, hf3, hf4, hf5⟩ | ⟨hm, er, hu⟩
  · rcases hw1 with ⟨⟨hm2, h42, er2, hM1, hU1, hV1, hF0⟩ | ⟨hm2, er2, hu1, hu2⟩, hw1⟩
    · replace hn1 : n1 = n + 1 := hn1
      subst hn1
      exact K e1 (n + 1) cap1 fE1 sd1 Lc I1 M1 J si1 sa1 dl1 F1 V1 H locs ls ⟨hX1.mono (by omega), hM1.mono (by omega), fun q => absurd q (by omega), st_make hI.2.2.2 (by omega) h40 hm hw1 hf1 hf5 hf2 hf3 hf4⟩ hP hD hS hl
    · exact absurd hm2 (by rintro (q | q); exact q hm; omega)
  · rcases hw1 with ⟨⟨hm2, h42, er2, hM1, hU1, hV1, hF0⟩ | ⟨hm2, er2, hu1, hu2⟩, _⟩
    · exact absurd hm (by rintro (q | q); exact q hm2; omega)
    · replace hu1 : F1 = F := hu1
      replace hu2 : V1 = V := hu2
      simp only [Prod.mk.injEq] at hu
      obtain ⟨y0, y1, y2, y3, y4, y5, y6, y7, y8, y9⟩ := hu
      rw [y0, y1, y2, y3, y4, y5, y6, y7, y8, y9, hu1, hu2] at hP hD
      exact K ev n cap fE sd Lc I M J si sa dl F V H locs ls ⟨hI.1.mono (by omega), hI.2.1.mono (by omega), hI.2.2.1, hI.2.2.2.step (by omega)⟩ hP hD hS hl
set_option maxHeartbeats 4000000 in
set_option maxRecDepth 100000 in
theorem lc_1 {p : Program} {e : Env} {s : State} {m : MethodId} {below : List Frame} {meth : Method} {c : Code} (l : Launch) {b L : Nat} {xs : Nat → Int32} {dC : Nat → ClassId} {dI : Nat → Nat → Nat} {h : Nat} {a : Nat → Nat} {cI cJ cO cE : ClassId} {h2 : Nat} {a2 : Nat → Nat} {k2 : Nat → ClassId} {z mi : Nat} {j : Nat} (hL : L ≤ 2560) (hj : 5 * j + 5 ≤ L) (C : lwC p s m c b L xs dC dI cI cJ cO cE k2 z mi) {ev : Nat} {n : Nat} {cap : Nat} {fE : Nat → Option Nat} {sd : Nat → Nat → Nat} {Lc : Nat → Int64} {I : Nat → Int32} {M : Nat → Nat → Int64} {J : Nat → Nat → Int32} {si : Nat → Nat → Int32} {sa : Nat → Nat → Nat → Int32} {dl : Nat → Nat} {F : Nat → Nat → Int32} {V : Nat → Int32} {H : Heap} {locs : List Loc} {ls : Array Slot} (hI : LI z (j) ev n cap fE sd dl Lc I M J si sa F V) (hP : va_P (dC, dI) vwCl (xW h a ev cI cJ cO cE Lc I M J n cap fE sd si sa dl ++ mW h2 a2 k2 F V) H) (hD : va_D (lwA s) (xW h a ev cI cJ cO cE Lc I M J n cap fE sd si sa dl ++ mW h2 a2 k2 F V)) (hS : va_S (lwA s) s.heap H locs) (hl : lv_has ls 4 [(3, .int (nI (5 * j))), (2, .ref h2), (1, .ref h), (0, .ref b)]) (K : LK p l e s m below meth c b dC dI h a cI cJ cO cE h2 a2 k2 z (j + 1)) : W p l e room_1 s m #[Value.ref b] below meth c H locs (60 + 7 * j) (19218 + 261 * j) (lw_Z below #[Value.ref b] s) (F0 m 171 ls []) := by
  obtain ⟨hx, hb, hml, hown, hts, hX, hbl, hKx, hKm, hN, hZ, hT, hO, hMi, hDc0⟩ := C
  have hbA : ¬ lwA s b := Nat.not_le.mpr hbl
  have hA : ∀ q : Nat, s.heap.size ≤ q → lwA s q := fun _ h => h
  have hI1 := hI.1
  have hI2 := hI.2.1
  refine lv_aload_n hx hb dL_law_171 rfl (lv_at hl 2 rfl) ?_
  refine lv_aload_n hx hb dL_law_172 rfl (lv_at hl 3 rfl) ?_
  refine lv_iload_n hx hb dL_law_173 rfl (lv_at hl 0 rfl) ?_
  refine lv_iconst (v := 1) hx hb dL_law_174 (by decide) ?_
  refine lv_iadd hx hb dL_law_175 ?_
  refine p1_topr (v := .int (nI (5 * j + 1))) (congrArg Value.int (nI_add (5 * j) 1)) ?_
  refine va_sld hx hb hX hbl hbA hS (nI_in (c := 5 * j + 1) (N := L) (by omega) (by omega)) dL_law_176 ?_
  refine p1_topr (v := .int (xs (5 * j + 1))) (congrArg (fun t9 => Value.int (xs t9)) (nI_clamp (by omega))) ?_
  refine lv_aload_n hx hb dL_law_177 rfl (lv_at hl 3 rfl) ?_
  refine lv_iload_n hx hb dL_law_178 rfl (lv_at hl 0 rfl) ?_
  refine lv_iconst (v := 2) hx hb dL_law_179 (by decide) ?_
  refine lv_iadd hx hb dL_law_180 ?_
  refine p1_topr (v := .int (nI (5 * j + 2))) (congrArg Value.int (nI_add (5 * j) 2)) ?_
  refine va_sld hx hb hX hbl hbA hS (nI_in (c := 5 * j + 2) (N := L) (by omega) (by omega)) dL_law_181 ?_
  refine p1_topr (v := .int (xs (5 * j + 2))) (congrArg (fun t9 => Value.int (xs t9)) (nI_clamp (by omega))) ?_
  refine lv_aload_n hx hb dL_law_182 rfl (lv_at hl 3 rfl) ?_
  refine lv_iload_n hx hb dL_law_183 rfl (lv_at hl 0 rfl) ?_
  refine lv_iconst (v := 3) hx hb dL_law_184 (by decide) ?_
  refine lv_iadd hx hb dL_law_185 ?_
  refine p1_topr (v := .int (nI (5 * j + 3))) (congrArg Value.int (nI_add (5 * j) 3)) ?_
  refine va_sld hx hb hX hbl hbA hS (nI_in (c := 5 * j + 3) (N := L) (by omega) (by omega)) dL_law_186 ?_
  refine p1_topr (v := .int (xs (5 * j + 3))) (congrArg (fun t9 => Value.int (xs t9)) (nI_clamp (by omega))) ?_
  replace hP := xq_perm List.perm_append_comm hP
  replace hD := xd_perm List.perm_append_comm hD
  have hPc := xq_right hP
  have hDc := xd_right hD
  have hFc := xj_free hD hS hA
  refine va_calli (va_runV (As := [.int (xs (5 * j + 1)), .int (xs (5 * j + 2)), .int (xs (5 * j + 3))]) (rest := []) ⟨hx, hb, hml, hown, hts⟩ (c_y_life l dC dI h a ev cI cJ cO cE Lc I M J n cap fE sd si sa dl (402000 * j) (xs (5 * j + 1)) (xs (5 * j + 2)) (xs (5 * j + 3)) H.size hI1 (by omega)) (cwV 3 hts wc_law_y_life_18 rfl rfl rfl (by decide +kernel) ⟨Nat.le_of_ble_eq_true rfl, Nat.le_of_ble_eq_true rfl⟩) ⟨fun a9 U g9 mk q => by obtain ⟨q0, q1, qP, qK, qD, qN⟩ := q; exact ⟨q0, q1, qP, va_K.moved (u := U) (U := U.calling g9 mk a9) (Vm.Alike.refl U.vm) qK, qD, pw_N.same (u := U) (U := U.calling g9 mk a9) rfl qN⟩, va_recv hKx hPc (ci := 9) (q0 := 0) rfl rfl, fun U hU hW => ⟨rfl, by rw [hU], by rw [hU]; exact hPc, va_K.moved hW.alike hKx, hDc.weaken (fun _ _ _ _ => trivial), pw_N.warm hW hN⟩⟩ rfl rfl hl.1 rfl (lv_room (Nat.le_of_ble_eq_true rfl)) dL_law_187 ⟨by show 60 + 7 * j + 0 ≤ 600000; omega, by show 19218 + 261 * j + 0 ≤ 7302250; omega⟩) hS (fun q _ h => hFc q h) hFc (fun r0 u0 t H1 locs ht hvm hw0 hB hz1 hk1 hS => ?_)
  obtain ⟨hP1, hD1⟩ := hB
  rw [ht] at hP1
  obtain ⟨hP, hD⟩ := xj_join hP hD hk1 hFc hP1 hD1
  generalize H1 = H at hP hS ⊢
  clear hP1 hD1 hPc hDc hFc hk1 hz1 ht hvm
  obtain ⟨sa1, rfl⟩ : ∃ z9, z9 = u0 := ⟨_, rfl⟩
  obtain ⟨hwX, whUsa, hw0⟩ := hw0
  replace hP : va_P (dC, dI) vwCl (mW h2 a2 k2 F V ++ xW h a ev cI cJ cO cE Lc I M J n cap fE sd si sa1 dl) H := hP
  replace hD : va_D (lwA s) (mW h2 a2 k2 F V ++ xW h a ev cI cJ cO cE Lc I M J n cap fE sd si sa1 dl) := hD
  replace hI1 : InvX n cap fE sd dl (402000 * j + 0) I J si := hwX
  refine lv_pop hx hb dL_law_190 rfl ?_
  refine lv_aload_n hx hb dL_law_191 rfl (lv_at hl 1 rfl) ?_
  refine lv_aload_n hx hb dL_law_192 rfl (lv_at hl 3 rfl) ?_
  refine lv_iload_n hx hb dL_law_193 rfl (lv_at hl 0 rfl) ?_
  refine lv_iconst (v := 1) hx hb dL_law_194 (by decide) ?_
  refine lv_iadd hx hb dL_law_195 ?_
  refine p1_topr (v := .int (nI (5 * j + 1))) (congrArg Value.int (nI_add (5 * j) 1)) ?_
  refine va_sld hx hb hX hbl hbA hS (nI_in (c := 5 * j + 1) (N := L) (by omega) (by omega)) dL_law_196 ?_
  refine p1_topr (v := .int (xs (5 * j + 1))) (congrArg (fun t9 => Value.int (xs t9)) (nI_clamp (by omega))) ?_
  refine lv_aload_n hx hb dL_law_197 rfl (lv_at hl 3 rfl) ?_
  refine lv_iload_n hx hb dL_law_198 rfl (lv_at hl 0 rfl) ?_
  refine lv_iconst (v := 2) hx hb dL_law_199 (by decide) ?_
  refine lv_iadd hx hb dL_law_200 ?_
  refine p1_topr (v := .int (nI (5 * j + 2))) (congrArg Value.int (nI_add (5 * j) 2)) ?_
  refine va_sld hx hb hX hbl hbA hS (nI_in (c := 5 * j + 2) (N := L) (by omega) (by omega)) dL_law_201 ?_
  refine p1_topr (v := .int (xs (5 * j + 2))) (congrArg (fun t9 => Value.int (xs t9)) (nI_clamp (by omega))) ?_
  refine lv_aload_n hx hb dL_law_202 rfl (lv_at hl 3 rfl) ?_
  refine lv_iload_n hx hb dL_law_203 rfl (lv_at hl 0 rfl) ?_
  refine lv_iconst (v := 3) hx hb dL_law_204 (by decide) ?_
  refine lv_iadd hx hb dL_law_205 ?_
  refine p1_topr (v := .int (nI (5 * j + 3))) (congrArg Value.int (nI_add (5 * j) 3)) ?_
  refine va_sld hx hb hX hbl hbA hS (nI_in (c := 5 * j + 3) (N := L) (by omega) (by omega)) dL_law_206 ?_
  refine p1_topr (v := .int (xs (5 * j + 3))) (congrArg (fun t9 => Value.int (xs t9)) (nI_clamp (by omega))) ?_
  replace hP := xq_perm List.perm_append_comm hP
  replace hD := xd_perm List.perm_append_comm hD
  have hPc := xq_right hP
  have hDc := xd_right hD
  have hFc := xj_free hD hS hA
  refine va_calli (va_runV (As := [.int (xs (5 * j + 1)), .int (xs (5 * j + 2)), .int (xs (5 * j + 3))]) (rest := []) ⟨hx, hb, hml, hown, hts⟩ (c_w_life l dC dI h2 a2 k2 F V n (402000 * j) (xs (5 * j + 1)) (xs (5 * j + 2)) (xs (5 * j + 3)) H.size hI2 (by omega)) (cwV 3 hts wc_law_w_life_21 rfl rfl rfl (by decide +kernel) ⟨Nat.le_of_ble_eq_true rfl, Nat.le_of_ble_eq_true rfl⟩) ⟨fun a9 U g mk q => by obtain ⟨q0, q1, qP, qK, qD⟩ := q; exact ⟨q0, q1, qP, va_K.moved (u := U) (U := U.calling g mk a9) (Vm.Alike.refl U.vm) qK, qD⟩, va_recv hKm hPc (ci := 10) (q0 := 0) rfl rfl, fun U hU hW => ⟨rfl, by rw [hU], by rw [hU]; exact hPc, va_K.moved hW.alike hKm, hDc.weaken (fun _ _ _ _ => trivial)⟩⟩ rfl rfl hl.1 rfl (lv_room (Nat.le_of_ble_eq_true rfl)) dL_law_207 ⟨by show 60 + 7 * j + 0 + 0 ≤ 600000; omega, by show 19218 + 261 * j + 0 + 0 ≤ 7302250; omega⟩) hS (fun q _ h => hFc q h) hFc (fun r1 u1 t H1 locs ht hvm hw1 hB hz1 hk1 hS => ?_)
  obtain ⟨hP1, hD1⟩ := hB
  rw [ht] at hP1
  obtain ⟨hP, hD⟩ := xj_join hP hD hk1 hFc hP1 hD1
  generalize H1 = H at hP hS ⊢
  clear hP1 hD1 hPc hDc hFc hk1 hz1 ht hvm
  obtain ⟨F1, V1⟩ := u1
  obtain ⟨hwI, hwU, hwV, hw1⟩ := hw1
  replace hI2 : InvM n (402000 * j + 0) F1 V1 := hwI.1
  replace hwU : ∀ j9 : Nat, j9 ∉ ([3] : List Nat) → F1 j9 = F j9 := hwU
  replace hwV : ∀ j9 : Nat, j9 ∉ ([] : List Nat) → V1 j9 = V j9 := hwV
  replace hP : va_P (dC, dI) vwCl (xW h a ev cI cJ cO cE Lc I M J n cap fE sd si sa1 dl ++ mW h2 a2 k2 F1 V1) H := hP
  replace hD : va_D (lwA s) (xW h a ev cI cJ cO cE Lc I M J n cap fE sd si sa1 dl ++ mW h2 a2 k2 F1 V1) := hD
  refine lv_pop hx hb dL_law_210 rfl ?_
  refine lv_goto (tgt := 738) hx hb dL_law_211 (by decide) ?_
  refine lv_iinc (v := nI (5 * (j + 1))) (lv' := [(3, .int (nI (5 * (j + 1)))), (2, .ref h2), (1, .ref h), (0, .ref b)]) hx hb dL_law_738 hl (k := 0) rfl (nI_add (5 * j) 5) (by decide) rfl (fun ls hl => ?_)
  refine lv_goto (tgt := 18) hx hb dL_law_741 (by decide) ?_
  refine W.widen (k := 60 + 7 * (j + 1)) (n := 19218 + 261 * (j + 1)) (by omega) (by omega) ?_
  exact K ev n cap fE sd Lc I M J si sa1 dl F1 V1 H locs ls ⟨hI1.mono (by omega), hI2.mono (by omega), hI.2.2.1, (st_life hI.2.2.2 (by omega) hw0 hw1 (hwU 19 (by decide))).2⟩ hP hD hS hl
set_option maxHeartbeats 4000000 in
set_option maxRecDepth 100000 in
theorem lc_2 {p : Program} {e : Env} {s : State} {m : MethodId} {below : List Frame} {meth : Method} {c : Code} (l : Launch) {b L : Nat} {xs : Nat → Int32} {dC : Nat → ClassId} {dI : Nat → Nat → Nat} {h : Nat} {a : Nat → Nat} {cI cJ cO cE : ClassId} {h2 : Nat} {a2 : Nat → Nat} {k2 : Nat → ClassId} {z mi : Nat} {j : Nat} (hL : L ≤ 2560) (hj : 5 * j + 5 ≤ L) (C : lwC p s m c b L xs dC dI cI cJ cO cE k2 z mi) {ev : Nat} {n : Nat} {cap : Nat} {fE : Nat → Option Nat} {sd : Nat → Nat → Nat} {Lc : Nat → Int64} {I : Nat → Int32} {M : Nat → Nat → Int64} {J : Nat → Nat → Int32} {si : Nat → Nat → Int32} {sa : Nat → Nat → Nat → Int32} {dl : Nat → Nat} {F : Nat → Nat → Int32} {V : Nat → Int32} {H : Heap} {locs : List Loc} {ls : Array Slot} (hI : LI z (j) ev n cap fE sd dl Lc I M J si sa F V) (hP : va_P (dC, dI) vwCl (xW h a ev cI cJ cO cE Lc I M J n cap fE sd si sa dl ++ mW h2 a2 k2 F V) H) (hD : va_D (lwA s) (xW h a ev cI cJ cO cE Lc I M J n cap fE sd si sa dl ++ mW h2 a2 k2 F V)) (hS : va_S (lwA s) s.heap H locs) (hl : lv_has ls 4 [(3, .int (nI (5 * j))), (2, .ref h2), (1, .ref h), (0, .ref b)]) (K : LK p l e s m below meth c b dC dI h a cI cJ cO cE h2 a2 k2 z (j + 1)) : W p l e room_1 s m #[Value.ref b] below meth c H locs (60 + 7 * j) (19218 + 261 * j) (lw_Z below #[Value.ref b] s) (F0 m 214 ls []) := by
  obtain ⟨hx, hb, hml, hown, hts, hX, hbl, hKx, hKm, hN, hZ, hT, hO, hMi, hDc0⟩ := C
  have hbA : ¬ lwA s b := Nat.not_le.mpr hbl
  have hA : ∀ q : Nat, s.heap.size ≤ q → lwA s q := fun _ h => h
  have hI1 := hI.1
  have hI2 := hI.2.1
  refine lv_aload_n hx hb dL_law_214 rfl (lv_at hl 2 rfl) ?_
  refine lv_aload_n hx hb dL_law_215 rfl (lv_at hl 3 rfl) ?_
  refine lv_iload_n hx hb dL_law_216 rfl (lv_at hl 0 rfl) ?_
  refine lv_iconst (v := 1) hx hb dL_law_217 (by decide) ?_
  refine lv_iadd hx hb dL_law_218 ?_
  refine p1_topr (v := .int (nI (5 * j + 1))) (congrArg Value.int (nI_add (5 * j) 1)) ?_
  refine va_sld hx hb hX hbl hbA hS (nI_in (c := 5 * j + 1) (N := L) (by omega) (by omega)) dL_law_219 ?_
  refine p1_topr (v := .int (xs (5 * j + 1))) (congrArg (fun t9 => Value.int (xs t9)) (nI_clamp (by omega))) ?_
  refine lv_aload_n hx hb dL_law_220 rfl (lv_at hl 3 rfl) ?_
  refine lv_iload_n hx hb dL_law_221 rfl (lv_at hl 0 rfl) ?_
  refine lv_iconst (v := 2) hx hb dL_law_222 (by decide) ?_
  refine lv_iadd hx hb dL_law_223 ?_
  refine p1_topr (v := .int (nI (5 * j + 2))) (congrArg Value.int (nI_add (5 * j) 2)) ?_
  refine va_sld hx hb hX hbl hbA hS (nI_in (c := 5 * j + 2) (N := L) (by omega) (by omega)) dL_law_224 ?_
  refine p1_topr (v := .int (xs (5 * j + 2))) (congrArg (fun t9 => Value.int (xs t9)) (nI_clamp (by omega))) ?_
  refine lv_aload_n hx hb dL_law_225 rfl (lv_at hl 3 rfl) ?_
  refine lv_iload_n hx hb dL_law_226 rfl (lv_at hl 0 rfl) ?_
  refine lv_iconst (v := 3) hx hb dL_law_227 (by decide) ?_
  refine lv_iadd hx hb dL_law_228 ?_
  refine p1_topr (v := .int (nI (5 * j + 3))) (congrArg Value.int (nI_add (5 * j) 3)) ?_
  refine va_sld hx hb hX hbl hbA hS (nI_in (c := 5 * j + 3) (N := L) (by omega) (by omega)) dL_law_229 ?_
  refine p1_topr (v := .int (xs (5 * j + 3))) (congrArg (fun t9 => Value.int (xs t9)) (nI_clamp (by omega))) ?_
  refine lv_aload_n hx hb dL_law_230 rfl (lv_at hl 3 rfl) ?_
  refine lv_iload_n hx hb dL_law_231 rfl (lv_at hl 0 rfl) ?_
  refine lv_iconst (v := 4) hx hb dL_law_232 (by decide) ?_
  refine lv_iadd hx hb dL_law_233 ?_
  refine p1_topr (v := .int (nI (5 * j + 4))) (congrArg Value.int (nI_add (5 * j) 4)) ?_
  refine va_sld hx hb hX hbl hbA hS (nI_in (c := 5 * j + 4) (N := L) (by omega) (by omega)) dL_law_234 ?_
  refine p1_topr (v := .int (xs (5 * j + 4))) (congrArg (fun t9 => Value.int (xs t9)) (nI_clamp (by omega))) ?_
  replace hP := xq_perm List.perm_append_comm hP
  replace hD := xd_perm List.perm_append_comm hD
  have hPc := xq_right hP
  have hDc := xd_right hD
  have hFc := xj_free hD hS hA
  refine va_calli (va_runV (As := [.int (xs (5 * j + 1)), .int (xs (5 * j + 2)), .int (xs (5 * j + 3)), .int (xs (5 * j + 4))]) (rest := []) ⟨hx, hb, hml, hown, hts⟩ (c_y_again l dC dI h a ev cI cJ cO cE Lc I M J n cap fE sd si sa dl (402000 * j) (xs (5 * j + 1)) (xs (5 * j + 2)) (xs (5 * j + 3)) (xs (5 * j + 4)) H.size hI1 (by omega)) (cwV 4 hts wc_law_y_again_22 rfl rfl rfl (by decide +kernel) ⟨Nat.le_of_ble_eq_true rfl, Nat.le_of_ble_eq_true rfl⟩) ⟨fun a9 U g9 mk q => by obtain ⟨q0, q1, qP, qK, qD, qN⟩ := q; exact ⟨q0, q1, qP, va_K.moved (u := U) (U := U.calling g9 mk a9) (Vm.Alike.refl U.vm) qK, qD, pw_N.same (u := U) (U := U.calling g9 mk a9) rfl qN⟩, va_recv hKx hPc (ci := 9) (q0 := 0) rfl rfl, fun U hU hW => ⟨rfl, by rw [hU], by rw [hU]; exact hPc, va_K.moved hW.alike hKx, hDc.weaken (fun _ _ _ _ => trivial), pw_N.warm hW hN⟩⟩ rfl rfl hl.1 rfl (lv_room (Nat.le_of_ble_eq_true rfl)) dL_law_235 ⟨by show 60 + 7 * j + 0 ≤ 600000; omega, by show 19218 + 261 * j + 0 ≤ 7302250; omega⟩) hS (fun q _ h => hFc q h) hFc (fun r0 u0 t H1 locs ht hvm hw0 hB hz1 hk1 hS => ?_)
  obtain ⟨hP1, hD1⟩ := hB
  rw [ht] at hP1
  obtain ⟨hP, hD⟩ := xj_join hP hD hk1 hFc hP1 hD1
  generalize H1 = H at hP hS ⊢
  clear hP1 hD1 hPc hDc hFc hk1 hz1 ht hvm
  obtain ⟨si1, rfl⟩ : ∃ z9, z9 = u0 := ⟨_, rfl⟩
  obtain ⟨hwX, whUsi, hw0⟩ := hw0
  replace hP : va_P (dC, dI) vwCl (mW h2 a2 k2 F V ++ xW h a ev cI cJ cO cE Lc I M J n cap fE sd si1 sa dl) H := hP
  replace hD : va_D (lwA s) (mW h2 a2 k2 F V ++ xW h a ev cI cJ cO cE Lc I M J n cap fE sd si1 sa dl) := hD
  replace hI1 : InvX n cap fE sd dl (402000 * j + 0) I J si1 := hwX
  refine lv_pop hx hb dL_law_238 rfl ?_
  refine lv_aload_n hx hb dL_law_239 rfl (lv_at hl 1 rfl) ?_
  refine lv_aload_n hx hb dL_law_240 rfl (lv_at hl 3 rfl) ?_
  refine lv_iload_n hx hb dL_law_241 rfl (lv_at hl 0 rfl) ?_
  refine lv_iconst (v := 1) hx hb dL_law_242 (by decide) ?_
  refine lv_iadd hx hb dL_law_243 ?_
  refine p1_topr (v := .int (nI (5 * j + 1))) (congrArg Value.int (nI_add (5 * j) 1)) ?_
  refine va_sld hx hb hX hbl hbA hS (nI_in (c := 5 * j + 1) (N := L) (by omega) (by omega)) dL_law_244 ?_
  refine p1_topr (v := .int (xs (5 * j + 1))) (congrArg (fun t9 => Value.int (xs t9)) (nI_clamp (by omega))) ?_
  refine lv_aload_n hx hb dL_law_245 rfl (lv_at hl 3 rfl) ?_
  refine lv_iload_n hx hb dL_law_246 rfl (lv_at hl 0 rfl) ?_
  refine lv_iconst (v := 2) hx hb dL_law_247 (by decide) ?_
  refine lv_iadd hx hb dL_law_248 ?_
  refine p1_topr (v := .int (nI (5 * j + 2))) (congrArg Value.int (nI_add (5 * j) 2)) ?_
  refine va_sld hx hb hX hbl hbA hS (nI_in (c := 5 * j + 2) (N := L) (by omega) (by omega)) dL_law_249 ?_
  refine p1_topr (v := .int (xs (5 * j + 2))) (congrArg (fun t9 => Value.int (xs t9)) (nI_clamp (by omega))) ?_
  refine lv_aload_n hx hb dL_law_250 rfl (lv_at hl 3 rfl) ?_
  refine lv_iload_n hx hb dL_law_251 rfl (lv_at hl 0 rfl) ?_
  refine lv_iconst (v := 3) hx hb dL_law_252 (by decide) ?_
  refine lv_iadd hx hb dL_law_253 ?_
  refine p1_topr (v := .int (nI (5 * j + 3))) (congrArg Value.int (nI_add (5 * j) 3)) ?_
  refine va_sld hx hb hX hbl hbA hS (nI_in (c := 5 * j + 3) (N := L) (by omega) (by omega)) dL_law_254 ?_
  refine p1_topr (v := .int (xs (5 * j + 3))) (congrArg (fun t9 => Value.int (xs t9)) (nI_clamp (by omega))) ?_
  refine lv_aload_n hx hb dL_law_255 rfl (lv_at hl 3 rfl) ?_
  refine lv_iload_n hx hb dL_law_256 rfl (lv_at hl 0 rfl) ?_
  refine lv_iconst (v := 4) hx hb dL_law_257 (by decide) ?_
  refine lv_iadd hx hb dL_law_258 ?_
  refine p1_topr (v := .int (nI (5 * j + 4))) (congrArg Value.int (nI_add (5 * j) 4)) ?_
  refine va_sld hx hb hX hbl hbA hS (nI_in (c := 5 * j + 4) (N := L) (by omega) (by omega)) dL_law_259 ?_
  refine p1_topr (v := .int (xs (5 * j + 4))) (congrArg (fun t9 => Value.int (xs t9)) (nI_clamp (by omega))) ?_
  replace hP := xq_perm List.perm_append_comm hP
  replace hD := xd_perm List.perm_append_comm hD
  have hPc := xq_right hP
  have hDc := xd_right hD
  have hFc := xj_free hD hS hA
  refine va_calli (va_runV (As := [.int (xs (5 * j + 1)), .int (xs (5 * j + 2)), .int (xs (5 * j + 3)), .int (xs (5 * j + 4))]) (rest := []) ⟨hx, hb, hml, hown, hts⟩ (c_w_again l dC dI h2 a2 k2 F V n (402000 * j) (xs (5 * j + 1)) (xs (5 * j + 2)) (xs (5 * j + 3)) (xs (5 * j + 4)) H.size hI2 (by omega)) (cwV 4 hts wc_law_w_again_26 rfl rfl rfl (by decide +kernel) ⟨Nat.le_of_ble_eq_true rfl, Nat.le_of_ble_eq_true rfl⟩) ⟨fun a9 U g mk q => by obtain ⟨q0, q1, qP, qK, qD⟩ := q; exact ⟨q0, q1, qP, va_K.moved (u := U) (U := U.calling g mk a9) (Vm.Alike.refl U.vm) qK, qD⟩, va_recv hKm hPc (ci := 10) (q0 := 0) rfl rfl, fun U hU hW => ⟨rfl, by rw [hU], by rw [hU]; exact hPc, va_K.moved hW.alike hKm, hDc.weaken (fun _ _ _ _ => trivial)⟩⟩ rfl rfl hl.1 rfl (lv_room (Nat.le_of_ble_eq_true rfl)) dL_law_260 ⟨by show 60 + 7 * j + 0 + 0 ≤ 600000; omega, by show 19218 + 261 * j + 0 + 0 ≤ 7302250; omega⟩) hS (fun q _ h => hFc q h) hFc (fun r1 u1 t H1 locs ht hvm hw1 hB hz1 hk1 hS => ?_)
  obtain ⟨hP1, hD1⟩ := hB
  rw [ht] at hP1
  obtain ⟨hP, hD⟩ := xj_join hP hD hk1 hFc hP1 hD1
  generalize H1 = H at hP hS ⊢
  clear hP1 hD1 hPc hDc hFc hk1 hz1 ht hvm
  obtain ⟨F1, V1⟩ := u1
  obtain ⟨hwI, hwU, hwV, hw1⟩ := hw1
  replace hI2 : InvM n (402000 * j + 0) F1 V1 := hwI.1
  replace hwU : ∀ j9 : Nat, j9 ∉ ([4, 5, 6] : List Nat) → F1 j9 = F j9 := hwU
  replace hwV : ∀ j9 : Nat, j9 ∉ ([] : List Nat) → V1 j9 = V j9 := hwV
  replace hP : va_P (dC, dI) vwCl (xW h a ev cI cJ cO cE Lc I M J n cap fE sd si1 sa dl ++ mW h2 a2 k2 F1 V1) H := hP
  replace hD : va_D (lwA s) (xW h a ev cI cJ cO cE Lc I M J n cap fE sd si1 sa dl ++ mW h2 a2 k2 F1 V1) := hD
  refine lv_pop hx hb dL_law_263 rfl ?_
  refine lv_goto (tgt := 738) hx hb dL_law_264 (by decide) ?_
  refine lv_iinc (v := nI (5 * (j + 1))) (lv' := [(3, .int (nI (5 * (j + 1)))), (2, .ref h2), (1, .ref h), (0, .ref b)]) hx hb dL_law_738 hl (k := 0) rfl (nI_add (5 * j) 5) (by decide) rfl (fun ls hl => ?_)
  refine lv_goto (tgt := 18) hx hb dL_law_741 (by decide) ?_
  refine W.widen (k := 60 + 7 * (j + 1)) (n := 19218 + 261 * (j + 1)) (by omega) (by omega) ?_
  exact K ev n cap fE sd Lc I M J si1 sa dl F1 V1 H locs ls ⟨hI1.mono (by omega), hI2.mono (by omega), hI.2.2.1, (st_again hI.2.2.2 (by omega) hw0 hw1 (hwU 19 (by decide))).2⟩ hP hD hS hl
set_option maxHeartbeats 4000000 in
set_option maxRecDepth 100000 in
theorem lc_3 {p : Program} {e : Env} {s : State} {m : MethodId} {below : List Frame} {meth : Method} {c : Code} (l : Launch) {b L : Nat} {xs : Nat → Int32} {dC : Nat → ClassId} {dI : Nat → Nat → Nat} {h : Nat} {a : Nat → Nat} {cI cJ cO cE : ClassId} {h2 : Nat} {a2 : Nat → Nat} {k2 : Nat → ClassId} {z mi : Nat} {j : Nat} (hL : L ≤ 2560) (hj : 5 * j + 5 ≤ L) (C : lwC p s m c b L xs dC dI cI cJ cO cE k2 z mi) {ev : Nat} {n : Nat} {cap : Nat} {fE : Nat → Option Nat} {sd : Nat → Nat → Nat} {Lc : Nat → Int64} {I : Nat → Int32} {M : Nat → Nat → Int64} {J : Nat → Nat → Int32} {si : Nat → Nat → Int32} {sa : Nat → Nat → Nat → Int32} {dl : Nat → Nat} {F : Nat → Nat → Int32} {V : Nat → Int32} {H : Heap} {locs : List Loc} {ls : Array Slot} (hI : LI z (j) ev n cap fE sd dl Lc I M J si sa F V) (hP : va_P (dC, dI) vwCl (xW h a ev cI cJ cO cE Lc I M J n cap fE sd si sa dl ++ mW h2 a2 k2 F V) H) (hD : va_D (lwA s) (xW h a ev cI cJ cO cE Lc I M J n cap fE sd si sa dl ++ mW h2 a2 k2 F V)) (hS : va_S (lwA s) s.heap H locs) (hl : lv_has ls 4 [(3, .int (nI (5 * j))), (2, .ref h2), (1, .ref h), (0, .ref b)]) (K : LK p l e s m below meth c b dC dI h a cI cJ cO cE h2 a2 k2 z (j + 1)) : W p l e room_1 s m #[Value.ref b] below meth c H locs (60 + 7 * j) (19218 + 261 * j) (lw_Z below #[Value.ref b] s) (F0 m 267 ls []) := by
  obtain ⟨hx, hb, hml, hown, hts, hX, hbl, hKx, hKm, hN, hZ, hT, hO, hMi, hDc0⟩ := C
  have hbA : ¬ lwA s b := Nat.not_le.mpr hbl
  have hA : ∀ q : Nat, s.heap.size ≤ q → lwA s q := fun _ h => h
  have hI1 := hI.1
  have hI2 := hI.2.1
  refine lv_aload_n hx hb dL_law_267 rfl (lv_at hl 2 rfl) ?_
  refine lv_aload_n hx hb dL_law_268 rfl (lv_at hl 3 rfl) ?_
  refine lv_iload_n hx hb dL_law_269 rfl (lv_at hl 0 rfl) ?_
  refine lv_iconst (v := 1) hx hb dL_law_270 (by decide) ?_
  refine lv_iadd hx hb dL_law_271 ?_
  refine p1_topr (v := .int (nI (5 * j + 1))) (congrArg Value.int (nI_add (5 * j) 1)) ?_
  refine va_sld hx hb hX hbl hbA hS (nI_in (c := 5 * j + 1) (N := L) (by omega) (by omega)) dL_law_272 ?_
  refine p1_topr (v := .int (xs (5 * j + 1))) (congrArg (fun t9 => Value.int (xs t9)) (nI_clamp (by omega))) ?_
  refine lv_aload_n hx hb dL_law_273 rfl (lv_at hl 3 rfl) ?_
  refine lv_iload_n hx hb dL_law_274 rfl (lv_at hl 0 rfl) ?_
  refine lv_iconst (v := 2) hx hb dL_law_275 (by decide) ?_
  refine lv_iadd hx hb dL_law_276 ?_
  refine p1_topr (v := .int (nI (5 * j + 2))) (congrArg Value.int (nI_add (5 * j) 2)) ?_
  refine va_sld hx hb hX hbl hbA hS (nI_in (c := 5 * j + 2) (N := L) (by omega) (by omega)) dL_law_277 ?_
  refine p1_topr (v := .int (xs (5 * j + 2))) (congrArg (fun t9 => Value.int (xs t9)) (nI_clamp (by omega))) ?_
  refine lv_aload_n hx hb dL_law_278 rfl (lv_at hl 3 rfl) ?_
  refine lv_iload_n hx hb dL_law_279 rfl (lv_at hl 0 rfl) ?_
  refine lv_iconst (v := 3) hx hb dL_law_280 (by decide) ?_
  refine lv_iadd hx hb dL_law_281 ?_
  refine p1_topr (v := .int (nI (5 * j + 3))) (congrArg Value.int (nI_add (5 * j) 3)) ?_
  refine va_sld hx hb hX hbl hbA hS (nI_in (c := 5 * j + 3) (N := L) (by omega) (by omega)) dL_law_282 ?_
  refine p1_topr (v := .int (xs (5 * j + 3))) (congrArg (fun t9 => Value.int (xs t9)) (nI_clamp (by omega))) ?_
  replace hP := xq_perm List.perm_append_comm hP
  replace hD := xd_perm List.perm_append_comm hD
  have hPc := xq_right hP
  have hDc := xd_right hD
  have hFc := xj_free hD hS hA
  refine va_calli (va_runV (As := [.int (xs (5 * j + 1)), .int (xs (5 * j + 2)), .int (xs (5 * j + 3))]) (rest := []) ⟨hx, hb, hml, hown, hts⟩ (c_y_relation l dC dI h a ev cI cJ cO cE Lc I M J n cap fE sd si sa dl (402000 * j) (xs (5 * j + 1)) (xs (5 * j + 2)) (xs (5 * j + 3)) H.size hI1 (by omega)) (cwV 3 hts wc_law_y_relation_27 rfl rfl rfl (by decide +kernel) ⟨Nat.le_of_ble_eq_true rfl, Nat.le_of_ble_eq_true rfl⟩) ⟨fun a9 U g9 mk q => by obtain ⟨q0, q1, qP, qK, qD, qN⟩ := q; exact ⟨q0, q1, qP, va_K.moved (u := U) (U := U.calling g9 mk a9) (Vm.Alike.refl U.vm) qK, qD, pw_N.same (u := U) (U := U.calling g9 mk a9) rfl qN⟩, va_recv hKx hPc (ci := 9) (q0 := 0) rfl rfl, fun U hU hW => ⟨rfl, by rw [hU], by rw [hU]; exact hPc, va_K.moved hW.alike hKx, hDc.weaken (fun _ _ _ _ => trivial), pw_N.warm hW hN⟩⟩ rfl rfl hl.1 rfl (lv_room (Nat.le_of_ble_eq_true rfl)) dL_law_283 ⟨by show 60 + 7 * j + 0 ≤ 600000; omega, by show 19218 + 261 * j + 0 ≤ 7302250; omega⟩) hS (fun q _ h => hFc q h) hFc (fun r0 u0 t H1 locs ht hvm hw0 hB hz1 hk1 hS => ?_)
  obtain ⟨hP1, hD1⟩ := hB
  rw [ht] at hP1
  obtain ⟨hP, hD⟩ := xj_join hP hD hk1 hFc hP1 hD1
  generalize H1 = H at hP hS ⊢
  clear hP1 hD1 hPc hDc hFc hk1 hz1 ht hvm
  obtain ⟨I1, M1⟩ := u0
  obtain ⟨hwX, whUI, whUM, hw0⟩ := hw0
  replace hP : va_P (dC, dI) vwCl (mW h2 a2 k2 F V ++ xW h a ev cI cJ cO cE Lc I1 M1 J n cap fE sd si sa dl) H := hP
  replace hD : va_D (lwA s) (mW h2 a2 k2 F V ++ xW h a ev cI cJ cO cE Lc I1 M1 J n cap fE sd si sa dl) := hD
  replace hI1 : InvX n cap fE sd dl (402000 * j + 0) I1 J si := hwX
  refine lv_pop hx hb dL_law_286 rfl ?_
  refine lv_aload_n hx hb dL_law_287 rfl (lv_at hl 1 rfl) ?_
  refine lv_aload_n hx hb dL_law_288 rfl (lv_at hl 3 rfl) ?_
  refine lv_iload_n hx hb dL_law_289 rfl (lv_at hl 0 rfl) ?_
  refine lv_iconst (v := 1) hx hb dL_law_290 (by decide) ?_
  refine lv_iadd hx hb dL_law_291 ?_
  refine p1_topr (v := .int (nI (5 * j + 1))) (congrArg Value.int (nI_add (5 * j) 1)) ?_
  refine va_sld hx hb hX hbl hbA hS (nI_in (c := 5 * j + 1) (N := L) (by omega) (by omega)) dL_law_292 ?_
  refine p1_topr (v := .int (xs (5 * j + 1))) (congrArg (fun t9 => Value.int (xs t9)) (nI_clamp (by omega))) ?_
  refine lv_aload_n hx hb dL_law_293 rfl (lv_at hl 3 rfl) ?_
  refine lv_iload_n hx hb dL_law_294 rfl (lv_at hl 0 rfl) ?_
  refine lv_iconst (v := 2) hx hb dL_law_295 (by decide) ?_
  refine lv_iadd hx hb dL_law_296 ?_
  refine p1_topr (v := .int (nI (5 * j + 2))) (congrArg Value.int (nI_add (5 * j) 2)) ?_
  refine va_sld hx hb hX hbl hbA hS (nI_in (c := 5 * j + 2) (N := L) (by omega) (by omega)) dL_law_297 ?_
  refine p1_topr (v := .int (xs (5 * j + 2))) (congrArg (fun t9 => Value.int (xs t9)) (nI_clamp (by omega))) ?_
  refine lv_aload_n hx hb dL_law_298 rfl (lv_at hl 3 rfl) ?_
  refine lv_iload_n hx hb dL_law_299 rfl (lv_at hl 0 rfl) ?_
  refine lv_iconst (v := 3) hx hb dL_law_300 (by decide) ?_
  refine lv_iadd hx hb dL_law_301 ?_
  refine p1_topr (v := .int (nI (5 * j + 3))) (congrArg Value.int (nI_add (5 * j) 3)) ?_
  refine va_sld hx hb hX hbl hbA hS (nI_in (c := 5 * j + 3) (N := L) (by omega) (by omega)) dL_law_302 ?_
  refine p1_topr (v := .int (xs (5 * j + 3))) (congrArg (fun t9 => Value.int (xs t9)) (nI_clamp (by omega))) ?_
  replace hP := xq_perm List.perm_append_comm hP
  replace hD := xd_perm List.perm_append_comm hD
  have hPc := xq_right hP
  have hDc := xd_right hD
  have hFc := xj_free hD hS hA
  refine va_calli (va_runV (As := [.int (xs (5 * j + 1)), .int (xs (5 * j + 2)), .int (xs (5 * j + 3))]) (rest := []) ⟨hx, hb, hml, hown, hts⟩ (c_w_relation l dC dI h2 a2 k2 F V n (402000 * j) (xs (5 * j + 1)) (xs (5 * j + 2)) (xs (5 * j + 3)) H.size hI2 (by omega)) (cwV 3 hts wc_law_w_relation_30 rfl rfl rfl (by decide +kernel) ⟨Nat.le_of_ble_eq_true rfl, Nat.le_of_ble_eq_true rfl⟩) ⟨fun a9 U g mk q => by obtain ⟨q0, q1, qP, qK, qD⟩ := q; exact ⟨q0, q1, qP, va_K.moved (u := U) (U := U.calling g mk a9) (Vm.Alike.refl U.vm) qK, qD⟩, va_recv hKm hPc (ci := 10) (q0 := 0) rfl rfl, fun U hU hW => ⟨rfl, by rw [hU], by rw [hU]; exact hPc, va_K.moved hW.alike hKm, hDc.weaken (fun _ _ _ _ => trivial)⟩⟩ rfl rfl hl.1 rfl (lv_room (Nat.le_of_ble_eq_true rfl)) dL_law_303 ⟨by show 60 + 7 * j + 0 + 0 ≤ 600000; omega, by show 19218 + 261 * j + 0 + 0 ≤ 7302250; omega⟩) hS (fun q _ h => hFc q h) hFc (fun r1 u1 t H1 locs ht hvm hw1 hB hz1 hk1 hS => ?_)
  obtain ⟨hP1, hD1⟩ := hB
  rw [ht] at hP1
  obtain ⟨hP, hD⟩ := xj_join hP hD hk1 hFc hP1 hD1
  generalize H1 = H at hP hS ⊢
  clear hP1 hD1 hPc hDc hFc hk1 hz1 ht hvm
  obtain ⟨F1, V1⟩ := u1
  obtain ⟨hwI, hwU, hwV, hw1⟩ := hw1
  replace hI2 : InvM n (402000 * j + 0) F1 V1 := hwI.1
  replace hwU : ∀ j9 : Nat, j9 ∉ ([19] : List Nat) → F1 j9 = F j9 := hwU
  replace hwV : ∀ j9 : Nat, j9 ∉ ([20] : List Nat) → V1 j9 = V j9 := hwV
  replace hP : va_P (dC, dI) vwCl (xW h a ev cI cJ cO cE Lc I1 M1 J n cap fE sd si sa dl ++ mW h2 a2 k2 F1 V1) H := hP
  replace hD : va_D (lwA s) (xW h a ev cI cJ cO cE Lc I1 M1 J n cap fE sd si sa dl ++ mW h2 a2 k2 F1 V1) := hD
  refine lv_pop hx hb dL_law_306 rfl ?_
  refine lv_goto (tgt := 738) hx hb dL_law_307 (by decide) ?_
  refine lv_iinc (v := nI (5 * (j + 1))) (lv' := [(3, .int (nI (5 * (j + 1)))), (2, .ref h2), (1, .ref h), (0, .ref b)]) hx hb dL_law_738 hl (k := 0) rfl (nI_add (5 * j) 5) (by decide) rfl (fun ls hl => ?_)
  refine lv_goto (tgt := 18) hx hb dL_law_741 (by decide) ?_
  refine W.widen (k := 60 + 7 * (j + 1)) (n := 19218 + 261 * (j + 1)) (by omega) (by omega) ?_
  exact K ev n cap fE sd Lc I1 M1 J si sa dl F1 V1 H locs ls ⟨hI1.mono (by omega), hI2.mono (by omega), hI.2.2.1, (st_relation hI.2.2.2 (by omega) hw0 hw1).2⟩ hP hD hS hl
set_option maxHeartbeats 4000000 in
set_option maxRecDepth 100000 in
theorem lc_4 {p : Program} {e : Env} {s : State} {m : MethodId} {below : List Frame} {meth : Method} {c : Code} (l : Launch) {b L : Nat} {xs : Nat → Int32} {dC : Nat → ClassId} {dI : Nat → Nat → Nat} {h : Nat} {a : Nat → Nat} {cI cJ cO cE : ClassId} {h2 : Nat} {a2 : Nat → Nat} {k2 : Nat → ClassId} {z mi : Nat} {j : Nat} (hL : L ≤ 2560) (hj : 5 * j + 5 ≤ L) (C : lwC p s m c b L xs dC dI cI cJ cO cE k2 z mi) {ev : Nat} {n : Nat} {cap : Nat} {fE : Nat → Option Nat} {sd : Nat → Nat → Nat} {Lc : Nat → Int64} {I : Nat → Int32} {M : Nat → Nat → Int64} {J : Nat → Nat → Int32} {si : Nat → Nat → Int32} {sa : Nat → Nat → Nat → Int32} {dl : Nat → Nat} {F : Nat → Nat → Int32} {V : Nat → Int32} {H : Heap} {locs : List Loc} {ls : Array Slot} (hI : LI z (j) ev n cap fE sd dl Lc I M J si sa F V) (hP : va_P (dC, dI) vwCl (xW h a ev cI cJ cO cE Lc I M J n cap fE sd si sa dl ++ mW h2 a2 k2 F V) H) (hD : va_D (lwA s) (xW h a ev cI cJ cO cE Lc I M J n cap fE sd si sa dl ++ mW h2 a2 k2 F V)) (hS : va_S (lwA s) s.heap H locs) (hl : lv_has ls 4 [(3, .int (nI (5 * j))), (2, .ref h2), (1, .ref h), (0, .ref b)]) (K : LK p l e s m below meth c b dC dI h a cI cJ cO cE h2 a2 k2 z (j + 1)) : W p l e room_1 s m #[Value.ref b] below meth c H locs (60 + 7 * j) (19218 + 261 * j) (lw_Z below #[Value.ref b] s) (F0 m 310 ls []) := by
  obtain ⟨hx, hb, hml, hown, hts, hX, hbl, hKx, hKm, hN, hZ, hT, hO, hMi, hDc0⟩ := C
  have hbA : ¬ lwA s b := Nat.not_le.mpr hbl
  have hA : ∀ q : Nat, s.heap.size ≤ q → lwA s q := fun _ h => h
  have hI1 := hI.1
  have hI2 := hI.2.1
  refine lv_aload_n hx hb dL_law_310 rfl (lv_at hl 2 rfl) ?_
  refine lv_aload_n hx hb dL_law_311 rfl (lv_at hl 3 rfl) ?_
  refine lv_iload_n hx hb dL_law_312 rfl (lv_at hl 0 rfl) ?_
  refine lv_iconst (v := 1) hx hb dL_law_313 (by decide) ?_
  refine lv_iadd hx hb dL_law_314 ?_
  refine p1_topr (v := .int (nI (5 * j + 1))) (congrArg Value.int (nI_add (5 * j) 1)) ?_
  refine va_sld hx hb hX hbl hbA hS (nI_in (c := 5 * j + 1) (N := L) (by omega) (by omega)) dL_law_315 ?_
  refine p1_topr (v := .int (xs (5 * j + 1))) (congrArg (fun t9 => Value.int (xs t9)) (nI_clamp (by omega))) ?_
  refine lv_aload_n hx hb dL_law_316 rfl (lv_at hl 3 rfl) ?_
  refine lv_iload_n hx hb dL_law_317 rfl (lv_at hl 0 rfl) ?_
  refine lv_iconst (v := 2) hx hb dL_law_318 (by decide) ?_
  refine lv_iadd hx hb dL_law_319 ?_
  refine p1_topr (v := .int (nI (5 * j + 2))) (congrArg Value.int (nI_add (5 * j) 2)) ?_
  refine va_sld hx hb hX hbl hbA hS (nI_in (c := 5 * j + 2) (N := L) (by omega) (by omega)) dL_law_320 ?_
  refine p1_topr (v := .int (xs (5 * j + 2))) (congrArg (fun t9 => Value.int (xs t9)) (nI_clamp (by omega))) ?_
  refine lv_aload_n hx hb dL_law_321 rfl (lv_at hl 3 rfl) ?_
  refine lv_iload_n hx hb dL_law_322 rfl (lv_at hl 0 rfl) ?_
  refine lv_iconst (v := 3) hx hb dL_law_323 (by decide) ?_
  refine lv_iadd hx hb dL_law_324 ?_
  refine p1_topr (v := .int (nI (5 * j + 3))) (congrArg Value.int (nI_add (5 * j) 3)) ?_
  refine va_sld hx hb hX hbl hbA hS (nI_in (c := 5 * j + 3) (N := L) (by omega) (by omega)) dL_law_325 ?_
  refine p1_topr (v := .int (xs (5 * j + 3))) (congrArg (fun t9 => Value.int (xs t9)) (nI_clamp (by omega))) ?_
  replace hP := xq_perm List.perm_append_comm hP
  replace hD := xd_perm List.perm_append_comm hD
  have hPc := xq_right hP
  have hDc := xd_right hD
  have hFc := xj_free hD hS hA
  refine va_calli (va_runV (As := [.int (xs (5 * j + 1)), .int (xs (5 * j + 2)), .int (xs (5 * j + 3))]) (rest := []) ⟨hx, hb, hml, hown, hts⟩ (c_y_undo l dC dI h a ev cI cJ cO cE Lc I M J n cap fE sd si sa dl (402000 * j) (xs (5 * j + 1)) (xs (5 * j + 2)) (xs (5 * j + 3)) H.size hI1 (by omega)) (cwV 3 hts wc_law_y_undo_31 rfl rfl rfl (by decide +kernel) ⟨Nat.le_of_ble_eq_true rfl, Nat.le_of_ble_eq_true rfl⟩) ⟨fun a9 U g9 mk q => by obtain ⟨q0, q1, qP, qK, qD, qN⟩ := q; exact ⟨q0, q1, qP, va_K.moved (u := U) (U := U.calling g9 mk a9) (Vm.Alike.refl U.vm) qK, qD, pw_N.same (u := U) (U := U.calling g9 mk a9) rfl qN⟩, va_recv hKx hPc (ci := 9) (q0 := 0) rfl rfl, fun U hU hW => ⟨rfl, by rw [hU], by rw [hU]; exact hPc, va_K.moved hW.alike hKx, hDc.weaken (fun _ _ _ _ => trivial), pw_N.warm hW hN⟩⟩ rfl rfl hl.1 rfl (lv_room (Nat.le_of_ble_eq_true rfl)) dL_law_326 ⟨by show 60 + 7 * j + 0 ≤ 600000; omega, by show 19218 + 261 * j + 0 ≤ 7302250; omega⟩) hS (fun q _ h => hFc q h) hFc (fun r0 u0 t H1 locs ht hvm hw0 hB hz1 hk1 hS => ?_)
  obtain ⟨hP1, hD1⟩ := hB
  rw [ht] at hP1
  obtain ⟨hP, hD⟩ := xj_join hP hD hk1 hFc hP1 hD1
  generalize H1 = H at hP hS ⊢
  clear hP1 hD1 hPc hDc hFc hk1 hz1 ht hvm
  obtain ⟨I1, M1⟩ := u0
  obtain ⟨hwX, whUI, whUM, hw0⟩ := hw0
  replace hP : va_P (dC, dI) vwCl (mW h2 a2 k2 F V ++ xW h a ev cI cJ cO cE Lc I1 M1 J n cap fE sd si sa dl) H := hP
  replace hD : va_D (lwA s) (mW h2 a2 k2 F V ++ xW h a ev cI cJ cO cE Lc I1 M1 J n cap fE sd si sa dl) := hD
  replace hI1 : InvX n cap fE sd dl (402000 * j + 0) I1 J si := hwX
  refine lv_pop hx hb dL_law_329 rfl ?_
  refine lv_aload_n hx hb dL_law_330 rfl (lv_at hl 1 rfl) ?_
  refine lv_aload_n hx hb dL_law_331 rfl (lv_at hl 3 rfl) ?_
  refine lv_iload_n hx hb dL_law_332 rfl (lv_at hl 0 rfl) ?_
  refine lv_iconst (v := 1) hx hb dL_law_333 (by decide) ?_
  refine lv_iadd hx hb dL_law_334 ?_
  refine p1_topr (v := .int (nI (5 * j + 1))) (congrArg Value.int (nI_add (5 * j) 1)) ?_
  refine va_sld hx hb hX hbl hbA hS (nI_in (c := 5 * j + 1) (N := L) (by omega) (by omega)) dL_law_335 ?_
  refine p1_topr (v := .int (xs (5 * j + 1))) (congrArg (fun t9 => Value.int (xs t9)) (nI_clamp (by omega))) ?_
  refine lv_aload_n hx hb dL_law_336 rfl (lv_at hl 3 rfl) ?_
  refine lv_iload_n hx hb dL_law_337 rfl (lv_at hl 0 rfl) ?_
  refine lv_iconst (v := 2) hx hb dL_law_338 (by decide) ?_
  refine lv_iadd hx hb dL_law_339 ?_
  refine p1_topr (v := .int (nI (5 * j + 2))) (congrArg Value.int (nI_add (5 * j) 2)) ?_
  refine va_sld hx hb hX hbl hbA hS (nI_in (c := 5 * j + 2) (N := L) (by omega) (by omega)) dL_law_340 ?_
  refine p1_topr (v := .int (xs (5 * j + 2))) (congrArg (fun t9 => Value.int (xs t9)) (nI_clamp (by omega))) ?_
  refine lv_aload_n hx hb dL_law_341 rfl (lv_at hl 3 rfl) ?_
  refine lv_iload_n hx hb dL_law_342 rfl (lv_at hl 0 rfl) ?_
  refine lv_iconst (v := 3) hx hb dL_law_343 (by decide) ?_
  refine lv_iadd hx hb dL_law_344 ?_
  refine p1_topr (v := .int (nI (5 * j + 3))) (congrArg Value.int (nI_add (5 * j) 3)) ?_
  refine va_sld hx hb hX hbl hbA hS (nI_in (c := 5 * j + 3) (N := L) (by omega) (by omega)) dL_law_345 ?_
  refine p1_topr (v := .int (xs (5 * j + 3))) (congrArg (fun t9 => Value.int (xs t9)) (nI_clamp (by omega))) ?_
  replace hP := xq_perm List.perm_append_comm hP
  replace hD := xd_perm List.perm_append_comm hD
  have hPc := xq_right hP
  have hDc := xd_right hD
  have hFc := xj_free hD hS hA
  refine va_calli (va_runV (As := [.int (xs (5 * j + 1)), .int (xs (5 * j + 2)), .int (xs (5 * j + 3))]) (rest := []) ⟨hx, hb, hml, hown, hts⟩ (c_w_undo l dC dI h2 a2 k2 F V n (402000 * j) (xs (5 * j + 1)) (xs (5 * j + 2)) (xs (5 * j + 3)) H.size hI2 (by omega)) (cwV 3 hts wc_law_w_undo_34 rfl rfl rfl (by decide +kernel) ⟨Nat.le_of_ble_eq_true rfl, Nat.le_of_ble_eq_true rfl⟩) ⟨fun a9 U g mk q => by obtain ⟨q0, q1, qP, qK, qD⟩ := q; exact ⟨q0, q1, qP, va_K.moved (u := U) (U := U.calling g mk a9) (Vm.Alike.refl U.vm) qK, qD⟩, va_recv hKm hPc (ci := 10) (q0 := 0) rfl rfl, fun U hU hW => ⟨rfl, by rw [hU], by rw [hU]; exact hPc, va_K.moved hW.alike hKm, hDc.weaken (fun _ _ _ _ => trivial)⟩⟩ rfl rfl hl.1 rfl (lv_room (Nat.le_of_ble_eq_true rfl)) dL_law_346 ⟨by show 60 + 7 * j + 0 + 0 ≤ 600000; omega, by show 19218 + 261 * j + 0 + 0 ≤ 7302250; omega⟩) hS (fun q _ h => hFc q h) hFc (fun r1 u1 t H1 locs ht hvm hw1 hB hz1 hk1 hS => ?_)
  obtain ⟨hP1, hD1⟩ := hB
  rw [ht] at hP1
  obtain ⟨hP, hD⟩ := xj_join hP hD hk1 hFc hP1 hD1
  generalize H1 = H at hP hS ⊢
  clear hP1 hD1 hPc hDc hFc hk1 hz1 ht hvm
  obtain ⟨F1, V1⟩ := u1
  obtain ⟨hwI, hwU, hwV, hw1⟩ := hw1
  replace hI2 : InvM n (402000 * j + 0) F1 V1 := hwI.1
  replace hwU : ∀ j9 : Nat, j9 ∉ ([19] : List Nat) → F1 j9 = F j9 := hwU
  replace hwV : ∀ j9 : Nat, j9 ∉ ([20] : List Nat) → V1 j9 = V j9 := hwV
  replace hP : va_P (dC, dI) vwCl (xW h a ev cI cJ cO cE Lc I1 M1 J n cap fE sd si sa dl ++ mW h2 a2 k2 F1 V1) H := hP
  replace hD : va_D (lwA s) (xW h a ev cI cJ cO cE Lc I1 M1 J n cap fE sd si sa dl ++ mW h2 a2 k2 F1 V1) := hD
  refine lv_pop hx hb dL_law_349 rfl ?_
  refine lv_goto (tgt := 738) hx hb dL_law_350 (by decide) ?_
  refine lv_iinc (v := nI (5 * (j + 1))) (lv' := [(3, .int (nI (5 * (j + 1)))), (2, .ref h2), (1, .ref h), (0, .ref b)]) hx hb dL_law_738 hl (k := 0) rfl (nI_add (5 * j) 5) (by decide) rfl (fun ls hl => ?_)
  refine lv_goto (tgt := 18) hx hb dL_law_741 (by decide) ?_
  refine W.widen (k := 60 + 7 * (j + 1)) (n := 19218 + 261 * (j + 1)) (by omega) (by omega) ?_
  exact K ev n cap fE sd Lc I1 M1 J si sa dl F1 V1 H locs ls ⟨hI1.mono (by omega), hI2.mono (by omega), hI.2.2.1, (st_undo hI.2.2.2 (by omega) hw0 hw1).2⟩ hP hD hS hl
set_option maxHeartbeats 4000000 in
set_option maxRecDepth 100000 in
theorem lc_5 {p : Program} {e : Env} {s : State} {m : MethodId} {below : List Frame} {meth : Method} {c : Code} (l : Launch) {b L : Nat} {xs : Nat → Int32} {dC : Nat → ClassId} {dI : Nat → Nat → Nat} {h : Nat} {a : Nat → Nat} {cI cJ cO cE : ClassId} {h2 : Nat} {a2 : Nat → Nat} {k2 : Nat → ClassId} {z mi : Nat} {j : Nat} (hL : L ≤ 2560) (hj : 5 * j + 5 ≤ L) (C : lwC p s m c b L xs dC dI cI cJ cO cE k2 z mi) {ev : Nat} {n : Nat} {cap : Nat} {fE : Nat → Option Nat} {sd : Nat → Nat → Nat} {Lc : Nat → Int64} {I : Nat → Int32} {M : Nat → Nat → Int64} {J : Nat → Nat → Int32} {si : Nat → Nat → Int32} {sa : Nat → Nat → Nat → Int32} {dl : Nat → Nat} {F : Nat → Nat → Int32} {V : Nat → Int32} {H : Heap} {locs : List Loc} {ls : Array Slot} (hI : LI z (j) ev n cap fE sd dl Lc I M J si sa F V) (hP : va_P (dC, dI) vwCl (xW h a ev cI cJ cO cE Lc I M J n cap fE sd si sa dl ++ mW h2 a2 k2 F V) H) (hD : va_D (lwA s) (xW h a ev cI cJ cO cE Lc I M J n cap fE sd si sa dl ++ mW h2 a2 k2 F V)) (hS : va_S (lwA s) s.heap H locs) (hl : lv_has ls 4 [(3, .int (nI (5 * j))), (2, .ref h2), (1, .ref h), (0, .ref b)]) (K : LK p l e s m below meth c b dC dI h a cI cJ cO cE h2 a2 k2 z (j + 1)) : W p l e room_1 s m #[Value.ref b] below meth c H locs (60 + 7 * j) (19218 + 261 * j) (lw_Z below #[Value.ref b] s) (F0 m 353 ls []) := by
  obtain ⟨hx, hb, hml, hown, hts, hX, hbl, hKx, hKm, hN, hZ, hT, hO, hMi, hDc0⟩ := C
  have hbA : ¬ lwA s b := Nat.not_le.mpr hbl
  have hA : ∀ q : Nat, s.heap.size ≤ q → lwA s q := fun _ h => h
  have hI1 := hI.1
  have hI2 := hI.2.1
  refine lv_aload_n hx hb dL_law_353 rfl (lv_at hl 2 rfl) ?_
  refine lv_aload_n hx hb dL_law_354 rfl (lv_at hl 3 rfl) ?_
  refine lv_iload_n hx hb dL_law_355 rfl (lv_at hl 0 rfl) ?_
  refine lv_iconst (v := 1) hx hb dL_law_356 (by decide) ?_
  refine lv_iadd hx hb dL_law_357 ?_
  refine p1_topr (v := .int (nI (5 * j + 1))) (congrArg Value.int (nI_add (5 * j) 1)) ?_
  refine va_sld hx hb hX hbl hbA hS (nI_in (c := 5 * j + 1) (N := L) (by omega) (by omega)) dL_law_358 ?_
  refine p1_topr (v := .int (xs (5 * j + 1))) (congrArg (fun t9 => Value.int (xs t9)) (nI_clamp (by omega))) ?_
  refine lv_aload_n hx hb dL_law_359 rfl (lv_at hl 3 rfl) ?_
  refine lv_iload_n hx hb dL_law_360 rfl (lv_at hl 0 rfl) ?_
  refine lv_iconst (v := 2) hx hb dL_law_361 (by decide) ?_
  refine lv_iadd hx hb dL_law_362 ?_
  refine p1_topr (v := .int (nI (5 * j + 2))) (congrArg Value.int (nI_add (5 * j) 2)) ?_
  refine va_sld hx hb hX hbl hbA hS (nI_in (c := 5 * j + 2) (N := L) (by omega) (by omega)) dL_law_363 ?_
  refine p1_topr (v := .int (xs (5 * j + 2))) (congrArg (fun t9 => Value.int (xs t9)) (nI_clamp (by omega))) ?_
  replace hP := xq_perm List.perm_append_comm hP
  replace hD := xd_perm List.perm_append_comm hD
  have hPc := xq_right hP
  have hDc := xd_right hD
  have hFc := xj_free hD hS hA
  refine va_calli (va_runV (As := [.int (xs (5 * j + 1)), .int (xs (5 * j + 2))]) (rest := []) ⟨hx, hb, hml, hown, hts⟩ (c_y_order l dC dI h a ev cI cJ cO cE Lc I M J n cap fE sd si sa dl (402000 * j) (xs (5 * j + 1)) (xs (5 * j + 2)) H.size hI1 (by omega)) (cwV 2 hts wc_law_y_order_35 rfl rfl rfl (by decide +kernel) ⟨Nat.le_of_ble_eq_true rfl, Nat.le_of_ble_eq_true rfl⟩) ⟨fun a9 U g9 mk q => by obtain ⟨q0, q1, qP, qK, qD, qN⟩ := q; exact ⟨q0, q1, qP, va_K.moved (u := U) (U := U.calling g9 mk a9) (Vm.Alike.refl U.vm) qK, qD, pw_N.same (u := U) (U := U.calling g9 mk a9) rfl qN⟩, va_recv hKx hPc (ci := 9) (q0 := 0) rfl rfl, fun U hU hW => ⟨rfl, by rw [hU], by rw [hU]; exact hPc, va_K.moved hW.alike hKx, hDc.weaken (fun _ _ _ _ => trivial), pw_N.warm hW hN⟩⟩ rfl rfl hl.1 rfl (lv_room (Nat.le_of_ble_eq_true rfl)) dL_law_364 ⟨by show 60 + 7 * j + 0 ≤ 600000; omega, by show 19218 + 261 * j + 0 ≤ 7302250; omega⟩) hS (fun q _ h => hFc q h) hFc (fun r0 u0 t H1 locs ht hvm hw0 hB hz1 hk1 hS => ?_)
  obtain ⟨hP1, hD1⟩ := hB
  rw [ht] at hP1
  obtain ⟨hP, hD⟩ := xj_join hP hD hk1 hFc hP1 hD1
  generalize H1 = H at hP hS ⊢
  clear hP1 hD1 hPc hDc hFc hk1 hz1 ht hvm
  obtain ⟨L1, I1, M1, si1, sa1⟩ := u0
  obtain ⟨hwX, whUL, whUI, whUM, whUsi, whUsa, hw0⟩ := hw0
  replace hP : va_P (dC, dI) vwCl (mW h2 a2 k2 F V ++ xW h a ev cI cJ cO cE L1 I1 M1 J n cap fE sd si1 sa1 dl) H := hP
  replace hD : va_D (lwA s) (mW h2 a2 k2 F V ++ xW h a ev cI cJ cO cE L1 I1 M1 J n cap fE sd si1 sa1 dl) := hD
  replace hI1 : InvX n cap fE sd dl (402000 * j + 80) I1 J si1 := hwX
  refine lv_pop hx hb dL_law_367 rfl ?_
  refine lv_aload_n hx hb dL_law_368 rfl (lv_at hl 1 rfl) ?_
  refine lv_aload_n hx hb dL_law_369 rfl (lv_at hl 3 rfl) ?_
  refine lv_iload_n hx hb dL_law_370 rfl (lv_at hl 0 rfl) ?_
  refine lv_iconst (v := 1) hx hb dL_law_371 (by decide) ?_
  refine lv_iadd hx hb dL_law_372 ?_
  refine p1_topr (v := .int (nI (5 * j + 1))) (congrArg Value.int (nI_add (5 * j) 1)) ?_
  refine va_sld hx hb hX hbl hbA hS (nI_in (c := 5 * j + 1) (N := L) (by omega) (by omega)) dL_law_373 ?_
  refine p1_topr (v := .int (xs (5 * j + 1))) (congrArg (fun t9 => Value.int (xs t9)) (nI_clamp (by omega))) ?_
  refine lv_aload_n hx hb dL_law_374 rfl (lv_at hl 3 rfl) ?_
  refine lv_iload_n hx hb dL_law_375 rfl (lv_at hl 0 rfl) ?_
  refine lv_iconst (v := 2) hx hb dL_law_376 (by decide) ?_
  refine lv_iadd hx hb dL_law_377 ?_
  refine p1_topr (v := .int (nI (5 * j + 2))) (congrArg Value.int (nI_add (5 * j) 2)) ?_
  refine va_sld hx hb hX hbl hbA hS (nI_in (c := 5 * j + 2) (N := L) (by omega) (by omega)) dL_law_378 ?_
  refine p1_topr (v := .int (xs (5 * j + 2))) (congrArg (fun t9 => Value.int (xs t9)) (nI_clamp (by omega))) ?_
  replace hP := xq_perm List.perm_append_comm hP
  replace hD := xd_perm List.perm_append_comm hD
  have hPc := xq_right hP
  have hDc := xd_right hD
  have hFc := xj_free hD hS hA
  refine va_calli (va_runV (As := [.int (xs (5 * j + 1)), .int (xs (5 * j + 2))]) (rest := []) ⟨hx, hb, hml, hown, hts⟩ (c_w_order l dC dI h2 a2 k2 F V n (402000 * j) (xs (5 * j + 1)) (xs (5 * j + 2)) H.size hI2 (by omega)) (cwV 2 hts wc_law_w_order_39 rfl rfl rfl (by decide +kernel) ⟨Nat.le_of_ble_eq_true rfl, Nat.le_of_ble_eq_true rfl⟩) ⟨fun a9 U g mk q => by obtain ⟨q0, q1, qP, qK, qD⟩ := q; exact ⟨q0, q1, qP, va_K.moved (u := U) (U := U.calling g mk a9) (Vm.Alike.refl U.vm) qK, qD⟩, va_recv hKm hPc (ci := 10) (q0 := 0) rfl rfl, fun U hU hW => ⟨rfl, by rw [hU], by rw [hU]; exact hPc, va_K.moved hW.alike hKm, hDc.weaken (fun _ _ _ _ => trivial)⟩⟩ rfl rfl hl.1 rfl (lv_room (Nat.le_of_ble_eq_true rfl)) dL_law_379 ⟨by show 60 + 7 * j + 0 + 0 ≤ 600000; omega, by show 19218 + 261 * j + 0 + 0 ≤ 7302250; omega⟩) hS (fun q _ h => hFc q h) hFc (fun r1 u1 t H1 locs ht hvm hw1 hB hz1 hk1 hS => ?_)
  obtain ⟨hP1, hD1⟩ := hB
  rw [ht] at hP1
  obtain ⟨hP, hD⟩ := xj_join hP hD hk1 hFc hP1 hD1
  generalize H1 = H at hP hS ⊢
  clear hP1 hD1 hPc hDc hFc hk1 hz1 ht hvm
  obtain ⟨F1, V1⟩ := u1
  obtain ⟨hwI, hwU, hwV, hw1⟩ := hw1
  replace hI2 : InvM n (402000 * j + 162) F1 V1 := hwI.1
  replace hwU : ∀ j9 : Nat, j9 ∉ ([7, 8, 9, 11, 12, 25, 26, 27, 28, 29, 30, 31, 32, 42, 43, 44] : List Nat) → F1 j9 = F j9 := hwU
  replace hwV : ∀ j9 : Nat, j9 ∉ ([33, 45] : List Nat) → V1 j9 = V j9 := hwV
  replace hP : va_P (dC, dI) vwCl (xW h a ev cI cJ cO cE L1 I1 M1 J n cap fE sd si1 sa1 dl ++ mW h2 a2 k2 F1 V1) H := hP
  replace hD : va_D (lwA s) (xW h a ev cI cJ cO cE L1 I1 M1 J n cap fE sd si1 sa1 dl ++ mW h2 a2 k2 F1 V1) := hD
  refine lv_pop hx hb dL_law_382 rfl ?_
  refine lv_goto (tgt := 738) hx hb dL_law_383 (by decide) ?_
  refine lv_iinc (v := nI (5 * (j + 1))) (lv' := [(3, .int (nI (5 * (j + 1)))), (2, .ref h2), (1, .ref h), (0, .ref b)]) hx hb dL_law_738 hl (k := 0) rfl (nI_add (5 * j) 5) (by decide) rfl (fun ls hl => ?_)
  refine lv_goto (tgt := 18) hx hb dL_law_741 (by decide) ?_
  refine W.widen (k := 60 + 7 * (j + 1)) (n := 19218 + 261 * (j + 1)) (by omega) (by omega) ?_
  exact K ev n cap fE sd L1 I1 M1 J si1 sa1 dl F1 V1 H locs ls ⟨hI1.mono (by omega), hI2.mono (by omega), hI.2.2.1, (st_order hI.2.2.2 (by omega) hw0 hw1 (hwU 19 (by decide))).2⟩ hP hD hS hl
set_option maxHeartbeats 4000000 in
set_option maxRecDepth 100000 in
theorem lc_6 {p : Program} {e : Env} {s : State} {m : MethodId} {below : List Frame} {meth : Method} {c : Code} (l : Launch) {b L : Nat} {xs : Nat → Int32} {dC : Nat → ClassId} {dI : Nat → Nat → Nat} {h : Nat} {a : Nat → Nat} {cI cJ cO cE : ClassId} {h2 : Nat} {a2 : Nat → Nat} {k2 : Nat → ClassId} {z mi : Nat} {j : Nat} (hL : L ≤ 2560) (hj : 5 * j + 5 ≤ L) (C : lwC p s m c b L xs dC dI cI cJ cO cE k2 z mi) {ev : Nat} {n : Nat} {cap : Nat} {fE : Nat → Option Nat} {sd : Nat → Nat → Nat} {Lc : Nat → Int64} {I : Nat → Int32} {M : Nat → Nat → Int64} {J : Nat → Nat → Int32} {si : Nat → Nat → Int32} {sa : Nat → Nat → Nat → Int32} {dl : Nat → Nat} {F : Nat → Nat → Int32} {V : Nat → Int32} {H : Heap} {locs : List Loc} {ls : Array Slot} (hI : LI z (j) ev n cap fE sd dl Lc I M J si sa F V) (hP : va_P (dC, dI) vwCl (xW h a ev cI cJ cO cE Lc I M J n cap fE sd si sa dl ++ mW h2 a2 k2 F V) H) (hD : va_D (lwA s) (xW h a ev cI cJ cO cE Lc I M J n cap fE sd si sa dl ++ mW h2 a2 k2 F V)) (hS : va_S (lwA s) s.heap H locs) (hl : lv_has ls 4 [(3, .int (nI (5 * j))), (2, .ref h2), (1, .ref h), (0, .ref b)]) (K : LK p l e s m below meth c b dC dI h a cI cJ cO cE h2 a2 k2 z (j + 1)) : W p l e room_1 s m #[Value.ref b] below meth c H locs (60 + 7 * j) (19218 + 261 * j) (lw_Z below #[Value.ref b] s) (F0 m 386 ls []) := by
  obtain ⟨hx, hb, hml, hown, hts, hX, hbl, hKx, hKm, hN, hZ, hT, hO, hMi, hDc0⟩ := C
  have hbA : ¬ lwA s b := Nat.not_le.mpr hbl
  have hA : ∀ q : Nat, s.heap.size ≤ q → lwA s q := fun _ h => h
  have hI1 := hI.1
  have hI2 := hI.2.1
  refine lv_aload_n hx hb dL_law_386 rfl (lv_at hl 2 rfl) ?_
  refine lv_aload_n hx hb dL_law_387 rfl (lv_at hl 3 rfl) ?_
  refine lv_iload_n hx hb dL_law_388 rfl (lv_at hl 0 rfl) ?_
  refine lv_iconst (v := 1) hx hb dL_law_389 (by decide) ?_
  refine lv_iadd hx hb dL_law_390 ?_
  refine p1_topr (v := .int (nI (5 * j + 1))) (congrArg Value.int (nI_add (5 * j) 1)) ?_
  refine va_sld hx hb hX hbl hbA hS (nI_in (c := 5 * j + 1) (N := L) (by omega) (by omega)) dL_law_391 ?_
  refine p1_topr (v := .int (xs (5 * j + 1))) (congrArg (fun t9 => Value.int (xs t9)) (nI_clamp (by omega))) ?_
  replace hP := xq_perm List.perm_append_comm hP
  replace hD := xd_perm List.perm_append_comm hD
  have hPc := xq_right hP
  have hDc := xd_right hD
  have hFc := xj_free hD hS hA
  refine va_calli (va_runV (As := [.int (xs (5 * j + 1))]) (rest := []) ⟨hx, hb, hml, hown, hts⟩ (c_y_tick l dC dI h a ev cI cJ cO cE Lc I M J n cap fE sd si sa dl (402000 * j) (xs (5 * j + 1)) H.size hI1 (by omega)) (cwV 1 hts wc_law_y_tick_40 rfl rfl rfl (by decide +kernel) ⟨Nat.le_of_ble_eq_true rfl, Nat.le_of_ble_eq_true rfl⟩) ⟨fun a9 U g9 mk q => by obtain ⟨q0, q1, qP, qK, qD, qN⟩ := q; exact ⟨q0, q1, qP, va_K.moved (u := U) (U := U.calling g9 mk a9) (Vm.Alike.refl U.vm) qK, qD, pw_N.same (u := U) (U := U.calling g9 mk a9) rfl qN⟩, va_recv hKx hPc (ci := 9) (q0 := 0) rfl rfl, fun U hU hW => ⟨rfl, by rw [hU], by rw [hU]; exact hPc, va_K.moved hW.alike hKx, hDc.weaken (fun _ _ _ _ => trivial), pw_N.warm hW hN⟩⟩ rfl rfl hl.1 rfl (lv_room (Nat.le_of_ble_eq_true rfl)) dL_law_392 ⟨by show 60 + 7 * j + 0 ≤ 600000; omega, by show 19218 + 261 * j + 0 ≤ 7302250; omega⟩) hS (fun q _ h => hFc q h) hFc (fun r0 u0 t H1 locs ht hvm hw0 hB hz1 hk1 hS => ?_)
  obtain ⟨hP1, hD1⟩ := hB
  rw [ht] at hP1
  obtain ⟨hP, hD⟩ := xj_join hP hD hk1 hFc hP1 hD1
  generalize H1 = H at hP hS ⊢
  clear hP1 hD1 hPc hDc hFc hk1 hz1 ht hvm
  obtain ⟨L1, I1, M1, si1, sa1⟩ := u0
  obtain ⟨hwX, whUL, whUI, whUM, whUsi, whUsa, hw0⟩ := hw0
  replace hP : va_P (dC, dI) vwCl (mW h2 a2 k2 F V ++ xW h a ev cI cJ cO cE L1 I1 M1 J n cap fE sd si1 sa1 dl) H := hP
  replace hD : va_D (lwA s) (mW h2 a2 k2 F V ++ xW h a ev cI cJ cO cE L1 I1 M1 J n cap fE sd si1 sa1 dl) := hD
  replace hI1 : InvX n cap fE sd dl (402000 * j + 120000) I1 J si1 := hwX
  refine lv_pop hx hb dL_law_395 rfl ?_
  refine lv_aload_n hx hb dL_law_396 rfl (lv_at hl 1 rfl) ?_
  refine lv_aload_n hx hb dL_law_397 rfl (lv_at hl 3 rfl) ?_
  refine lv_iload_n hx hb dL_law_398 rfl (lv_at hl 0 rfl) ?_
  refine lv_iconst (v := 1) hx hb dL_law_399 (by decide) ?_
  refine lv_iadd hx hb dL_law_400 ?_
  refine p1_topr (v := .int (nI (5 * j + 1))) (congrArg Value.int (nI_add (5 * j) 1)) ?_
  refine va_sld hx hb hX hbl hbA hS (nI_in (c := 5 * j + 1) (N := L) (by omega) (by omega)) dL_law_401 ?_
  refine p1_topr (v := .int (xs (5 * j + 1))) (congrArg (fun t9 => Value.int (xs t9)) (nI_clamp (by omega))) ?_
  replace hP := xq_perm List.perm_append_comm hP
  replace hD := xd_perm List.perm_append_comm hD
  have hPc := xq_right hP
  have hDc := xd_right hD
  have hFc := xj_free hD hS hA
  refine va_calli (va_runV (As := [.int (xs (5 * j + 1))]) (rest := []) ⟨hx, hb, hml, hown, hts⟩ (c_w_tick l dC dI h2 a2 k2 F V n (402000 * j) (xs (5 * j + 1)) H.size hI2 (by omega)) (cwV 1 hts wc_law_w_tick_44 rfl rfl rfl (by decide +kernel) ⟨Nat.le_of_ble_eq_true rfl, Nat.le_of_ble_eq_true rfl⟩) ⟨fun a9 U g mk q => by obtain ⟨q0, q1, qP, qK, qD⟩ := q; exact ⟨q0, q1, qP, va_K.moved (u := U) (U := U.calling g mk a9) (Vm.Alike.refl U.vm) qK, qD⟩, va_recv hKm hPc (ci := 10) (q0 := 0) rfl rfl, fun U hU hW => ⟨rfl, by rw [hU], by rw [hU]; exact hPc, va_K.moved hW.alike hKm, hDc.weaken (fun _ _ _ _ => trivial)⟩⟩ rfl rfl hl.1 rfl (lv_room (Nat.le_of_ble_eq_true rfl)) dL_law_402 ⟨by show 60 + 7 * j + 0 + 0 ≤ 600000; omega, by show 19218 + 261 * j + 0 + 0 ≤ 7302250; omega⟩) hS (fun q _ h => hFc q h) hFc (fun r1 u1 t H1 locs ht hvm hw1 hB hz1 hk1 hS => ?_)
  obtain ⟨hP1, hD1⟩ := hB
  rw [ht] at hP1
  obtain ⟨hP, hD⟩ := xj_join hP hD hk1 hFc hP1 hD1
  generalize H1 = H at hP hS ⊢
  clear hP1 hD1 hPc hDc hFc hk1 hz1 ht hvm
  obtain ⟨F1, V1⟩ := u1
  obtain ⟨hwI, hwU, hwV, hw1⟩ := hw1
  replace hI2 : InvM n (402000 * j + 402000) F1 V1 := hwI.1
  replace hwU : ∀ j9 : Nat, j9 ∉ ([7, 8, 9, 10, 11, 12, 13, 14, 15, 16, 17, 18, 25, 26, 42, 43, 44] : List Nat) → F1 j9 = F j9 := hwU
  replace hwV : ∀ j9 : Nat, j9 ∉ ([22, 24, 45] : List Nat) → V1 j9 = V j9 := hwV
  replace hP : va_P (dC, dI) vwCl (xW h a ev cI cJ cO cE L1 I1 M1 J n cap fE sd si1 sa1 dl ++ mW h2 a2 k2 F1 V1) H := hP
  replace hD : va_D (lwA s) (xW h a ev cI cJ cO cE L1 I1 M1 J n cap fE sd si1 sa1 dl ++ mW h2 a2 k2 F1 V1) := hD
  refine lv_pop hx hb dL_law_405 rfl ?_
  refine lv_goto (tgt := 738) hx hb dL_law_406 (by decide) ?_
  refine lv_iinc (v := nI (5 * (j + 1))) (lv' := [(3, .int (nI (5 * (j + 1)))), (2, .ref h2), (1, .ref h), (0, .ref b)]) hx hb dL_law_738 hl (k := 0) rfl (nI_add (5 * j) 5) (by decide) rfl (fun ls hl => ?_)
  refine lv_goto (tgt := 18) hx hb dL_law_741 (by decide) ?_
  refine W.widen (k := 60 + 7 * (j + 1)) (n := 19218 + 261 * (j + 1)) (by omega) (by omega) ?_
  exact K ev n cap fE sd L1 I1 M1 J si1 sa1 dl F1 V1 H locs ls ⟨hI1.mono (by omega), hI2.mono (by omega), hI.2.2.1, (st_tick hI.2.2.2 (by omega) hw0 hw1 (hwU 19 (by decide)))⟩ hP hD hS hl

