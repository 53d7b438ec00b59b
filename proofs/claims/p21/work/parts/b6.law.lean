set_option maxHeartbeats 8000000 in
set_option maxRecDepth 100000 in
theorem whole_start {p : Program} {e : Env} {s : State} {m : MethodId} {below : List Frame} {meth : Method} {c : Code} (l : Launch) {b L : Nat} {xs : Nat → Int32} (hL : L ≤ 2560) (C0 : lw_At p s m meth c b L xs) : W p l e room_1 s m #[Value.ref b] below meth c s.heap [] 0 0 (lw_Z below #[Value.ref b] s) (entryFrame m ([Value.ref b] : List Value).toArray 4) := by
  obtain ⟨hx, hb, hr, hml, hown, hts, hX, hbl, hlocks, hgv⟩ := id C0
  have hown : s.vm.findClass RL = some m.cls := hown
  obtain ⟨A, hAdef⟩ : ∃ A : Nat → Prop, A = lwA s := ⟨_, rfl⟩
  have hA : ∀ q : Nat, s.heap.size ≤ q → A q := fun q h => by rw [hAdef]; exact h
  have hAn : ∀ q : Nat, q < s.heap.size → ¬ A q := fun q h => by rw [hAdef]; exact Nat.not_le.mpr h
  have hbA : ¬ A b := hAn b hbl
  have hN : pw_N s := fun w hw => va_Nw.of (pw_on w hw) (hts w (pw_in w hw))
  have hM : va_AOA .long s := va_AOA.of (hts (.arrayOver (.array .long)) (by decide +kernel))
  have hO : va_AO "java/lang/Object" s := va_AO.of (hts (.arrayOver (.object "java/lang/Object")) (by decide +kernel))
  have hfl := flat_of_before _ hgv
  obtain ⟨z, hzv, hT⟩ := va_Tof (tm := .static "java/util/ArrayList" "DEFAULTCAPACITY_EMPTY_ELEMENTDATA" "[Ljava/lang/Object;") (ty := .object "java/lang/Object") (N := 0) (f := fun _ => .null) (A := A) (by decide) (hfl (.arrayOf (.static "java/util/ArrayList" "DEFAULTCAPACITY_EMPTY_ELEMENTDATA" "[Ljava/lang/Object;") (.object "java/lang/Object")) (by decide +kernel)) (va_eqt (hfl (.eq (.length (.static "java/util/ArrayList" "DEFAULTCAPACITY_EMPTY_ELEMENTDATA" "[Ljava/lang/Object;")) (.int 0)) (by decide +kernel))) (fun j hj => absurd hj (Nat.not_lt_zero j)) hAn
  have hZ := va_Zref (A := A) (hts (.laysStatic "java/util/ArrayList" "DEFAULTCAPACITY_EMPTY_ELEMENTDATA" "[Ljava/lang/Object;") (by decide +kernel)) (hts (.initialized "java/util/ArrayList") (by decide +kernel)) hzv hAn
  obtain ⟨c0, iS0, hKn0⟩ := u_known (C := RJx4a65c) (T := TJx4a65c) (N := 3) (n := 3) hts inKJx4a65c (hts (.instantiable RJx4a65c 3) (by decide +kernel))
  obtain ⟨c1, iS1, hKn1⟩ := u_known (C := RX0) (T := TX0) (N := 5) (n := 5) hts inKX0 (hts (.instantiable RX0 5) (by decide +kernel))
  obtain ⟨c2, iS2, hKn2⟩ := u_known (C := RX1) (T := TX1) (N := 5) (n := 5) hts inKX1 (hts (.instantiable RX1 5) (by decide +kernel))
  obtain ⟨c3, iS3, hKn3⟩ := u_known (C := RX2) (T := TX2) (N := 2) (n := 2) hts inKX2 (hts (.instantiable RX2 2) (by decide +kernel))
  obtain ⟨c4, iS4, hKn4⟩ := u_known (C := RX3) (T := TX3) (N := 4) (n := 4) hts inKX3 (hts (.instantiable RX3 4) (by decide +kernel))
  obtain ⟨c5, iS5, hKn5⟩ := u_known (C := RX4) (T := TX4) (N := 7) (n := 7) hts inKX4 (hts (.instantiable RX4 7) (by decide +kernel))
  obtain ⟨c6, iS6, hKn6⟩ := u_known (C := RX5) (T := TX5) (N := 3) (n := 3) hts inKX5 (hts (.instantiable RX5 3) (by decide +kernel))
  obtain ⟨c7, iS7, hKn7⟩ := u_known (C := RX6) (T := TX6) (N := 6) (n := 6) hts inKX6 (hts (.instantiable RX6 6) (by decide +kernel))
  obtain ⟨c8, iS8, hKn8⟩ := u_known (C := RX7) (T := TX7) (N := 12) (n := 12) hts inKX7 (hts (.instantiable RX7 12) (by decide +kernel))
  obtain ⟨c9, iS9, hKn9⟩ := u_known (C := RX8) (T := TX8) (N := 14) (n := 14) hts inKX8 (hts (.instantiable RX8 14) (by decide +kernel))
  obtain ⟨c10, iS10, hKn10⟩ := u_known (C := RX9) (T := TX9) (N := 46) (n := 46) hts inKX9 (hts (.instantiable RX9 46) (by decide +kernel))
  obtain ⟨dC, dI, hKc⟩ : ∃ (dC : Nat → ClassId) (dI : Nat → Nat → Nat), ∀ (k : Nat) (q : vw_C), vwCl[k]? = some q → u_Kn s q.1 q.2.1 q.2.2 (dC k) (dI k) := by
    refine ⟨fun k => [c0, c1, c2, c3, c4, c5, c6, c7, c8, c9, c10].getD k c0, fun k => [iS0, iS1, iS2, iS3, iS4, iS5, iS6, iS7, iS8, iS9, iS10].getD k iS0, ?_⟩
    intro k q hq
    match k, hq with
    | 0, hq => cases hq; exact hKn0
    | 1, hq => cases hq; exact hKn1
    | 2, hq => cases hq; exact hKn2
    | 3, hq => cases hq; exact hKn3
    | 4, hq => cases hq; exact hKn4
    | 5, hq => cases hq; exact hKn5
    | 6, hq => cases hq; exact hKn6
    | 7, hq => cases hq; exact hKn7
    | 8, hq => cases hq; exact hKn8
    | 9, hq => cases hq; exact hKn9
    | 10, hq => cases hq; exact hKn10
    | k + 11, hq => simp [vwCl] at hq
  have hS : va_S A s.heap s.heap [] := va_S.rf
  have hK : va_K (dC, dI) vwCl [] s := ⟨hKc, fun k q h => by simp at h⟩
  have hP : va_P (dC, dI) vwCl [] s.heap := fun k q h => by simp at h
  have hD : va_D A [] := ⟨fun i j p q h => by simp at h, fun k q h => by simp at h⟩
  have hl := lv_entry ([.ref b]) (n := 4) (Nat.le_of_ble_eq_true rfl)
  rw [lg_entry_eq]
  generalize (lg_sl ([.ref b]) ++ List.replicate (4 - (lg_sl ([.ref b])).length) Slot.unset).toArray = ls at hl ⊢
  have hl : lv_has ls 4 [(0, .ref b)] := hl
  obtain ⟨mi, hMi⟩ := va_Mi.of (hfl (.isRef (.mirror "[Ljava/lang/Object;")) (by decide +kernel))
  have hDc0 : va_Dc s := va_Dc.of (hts (.declares ⟨"java/lang/Object", "getClass", "()Ljava/lang/Class;"⟩) (by decide +kernel))
  obtain ⟨cE, hcE⟩ := xK_AO hO
  refine va_new (ci := 9) (fs := [.null, .null, .null, .null, .null, .null, .null, .long 0, .long 0, .int 0, .int 0, .int 0, .int 0, .int 0]) (C := RX8) (T := TX8) (N := 14) hx hb hts inKX8 tyX8 tyX8_ok hown (hts (.classLink RL 7 RX8) (by decide +kernel)) (hts (.instantiable RX8 14) (by decide +kernel)) (hts (.initialized RX8) (by decide +kernel)) hK hP hD hS hA rfl (fun j hj => dfX8 j hj) (Nat.le_of_ble_eq_true rfl) (Nat.le_of_ble_eq_true rfl) dL_law_0 (fun q1 H hP hD hS => ?_)
  replace hP : va_P (dC, dI) vwCl [(q1, .inr (9, [.null, .null, .null, .null, .null, .null, .null, .long 0, .long 0, .int 0, .int 0, .int 0, .int 0, .int 0]))] H := hP
  replace hD : va_D A [(q1, .inr (9, [.null, .null, .null, .null, .null, .null, .null, .long 0, .long 0, .int 0, .int 0, .int 0, .int 0, .int 0]))] := hD
  refine W.widen (k := 1) (n := 14) (by omega) (by omega) ?_
  refine lv_dup hx hb dL_law_3 rfl ?_
  have hKc := hK.sub (tys' := []) [] rfl
  have hFc := va_free (wc := [(q1, .inr (9, [.null, .null, .null, .null, .null, .null, .null, .long 0, .long 0, .int 0, .int 0, .int 0, .int 0, .int 0]))]) hD hS hA [0] rfl
  refine va_callv (va_runI (As := []) (rest := [.ref q1]) ⟨hx, hb, hml, hown, hts⟩ (c_s_tree l dC dI q1 z H.size) (cwI 0 hts wc_law_s_tree_9 rfl rfl rfl (hts (.initialized RX8) (by decide +kernel)) (hts (.methodLink RL 9 yX8_init) (by decide +kernel)) (hts (.instanceMethod yX8_init) (by decide +kernel)) rfl (by decide +kernel) ⟨Nat.le_of_ble_eq_true rfl, Nat.le_of_ble_eq_true rfl⟩) ⟨fun a U g mk q => by obtain ⟨q0, q1, qP, qK, qD, qN, qZ, qM⟩ := q; exact ⟨q0, q1, qP, va_K.moved (u := U) (U := U.calling g mk a) (Vm.Alike.refl U.vm) qK, qD, pw_N.same (u := U) (U := U.calling g mk a) rfl qN, va_Z.moved (u := U) (U := U.calling g mk a) (Vm.Alike.refl U.vm) qZ, va_AOA.moved (u := U) (U := U.calling g mk a) (Vm.Alike.refl U.vm) qM⟩, fun U hU hW => ⟨rfl, by rw [hU], by rw [hU]; exact hP, va_K.moved hW.alike hKc, hD.weaken (fun _ _ _ _ => trivial), pw_N.warm hW hN, by rw [hU]; exact va_Z.moved hW.alike ((hZ.kept (fun a h1 h2 => hS.2.1 a h1 h2)).narrow hFc), va_AOA.moved hW.alike hM⟩⟩ rfl rfl hl.1 rfl (lv_room (Nat.le_of_ble_eq_true rfl)) dL_law_4 ⟨Nat.le_of_ble_eq_true rfl, Nat.le_of_ble_eq_true rfl⟩) hS (fun q _ h => hFc q h) hFc (fun u t H1 locs ht hvm hw hB hz1 hk1 hS => ?_)
  obtain ⟨aa, g0, g1, rr, rq, cO, cP, cJ, b0, b1, b2, kb0, kb1, kb2, hb9, kh, ki, hP1, hK1, hD1⟩ := hB
  rw [ht] at hP1
  obtain ⟨hP, hD⟩ := xj_join (X := []) hP hD hk1 hFc hP1 hD1
  generalize H1 = H at hP hS ⊢
  have hK := hK.app (va_K.moved hvm.symm hK1)
  have hK : va_K (dC, dI) vwCl [(cO, .array .long), (cP, .array .long), (cJ, .long), (kb0, .int), (kb1, .int), (kb2, .int), (kh, .long), (ki, .long)] s := hK
  rw [show cP = cO from xK_arr hK (k1 := 1) (k2 := 0) rfl rfl, show kb1 = kb0 from xK_int hK (k1 := 4) (k2 := 3) rfl rfl, show kb2 = kb0 from xK_int hK (k1 := 5) (k2 := 3) rfl rfl, show kh = cJ from xK_long hK (k1 := 6) (k2 := 2) rfl rfl, show ki = cJ from xK_long hK (k1 := 7) (k2 := 2) rfl rfl] at hP hD
  have hKx : va_K (dC, dI) vwCl (xT kb0 cJ cO cE) s := ⟨hK.1, fun k q hk => by
    match k, hk with
    | 0, hk => cases hk; exact hK.2 3 _ rfl
    | 1, hk => cases hk; exact hK.2 2 _ rfl
    | 2, hk => cases hk; exact hK.2 0 _ rfl
    | 3, hk => cases hk; exact hcE
    | k + 4, hk => simp [xT] at hk⟩
  rw [List.nil_append, xW_start q1 z kb0 cJ cO cE aa rr rq g0 g1 b0 b1 b2 hb9] at hP hD
  generalize xa aa rr rq g0 g1 b0 b1 b2 hb9 = a at hP hD
  refine W.widen (k := 22) (n := 2492) (by omega) (by omega) ?_
  refine lv_astore_n (lv' := [(1, .ref q1), (0, .ref b)]) hx hb dL_law_7 rfl hl (by decide) rfl (fun ls hl => ?_)
  refine va_new (ci := 10) (fs := [.null, .null, .null, .null, .null, .null, .null, .null, .null, .null, .null, .null, .null, .null, .null, .null, .null, .null, .null, .null, .int 0, .int 0, .int 0, .int 0, .int 0, .null, .null, .null, .null, .null, .null, .null, .null, .int 0, .null, .null, .null, .null, .int 0, .int 0, .null, .null, .null, .null, .null, .int 0]) (C := RX9) (T := TX9) (N := 46) hx hb hts inKX9 tyX9 tyX9_ok hown (hts (.classLink RL 10 RX9) (by decide +kernel)) (hts (.instantiable RX9 46) (by decide +kernel)) (hts (.initialized RX9) (by decide +kernel)) hK hP hD hS hA rfl (fun j hj => dfX9 j hj) (Nat.le_of_ble_eq_true rfl) (Nat.le_of_ble_eq_true rfl) dL_law_8 (fun q2 H hP hD hS => ?_)
  refine W.widen (k := 23) (n := 2538) (by omega) (by omega) ?_
  refine lv_dup hx hb dL_law_11 rfl ?_
  have hPc := xq_right hP
  have hDc := xd_right hD
  have hKc := hK.sub (tys' := []) [] rfl
  have hFc := xj_free hD hS hA
  refine va_callv (va_runI (As := []) (rest := [.ref q2]) ⟨hx, hb, hml, hown, hts⟩ (c_s_model l dC dI q2 H.size) (cwI 0 hts wc_law_s_model_12 rfl rfl rfl (hts (.initialized RX9) (by decide +kernel)) (hts (.methodLink RL 12 yX9_init) (by decide +kernel)) (hts (.instanceMethod yX9_init) (by decide +kernel)) rfl (by decide +kernel) ⟨Nat.le_of_ble_eq_true rfl, Nat.le_of_ble_eq_true rfl⟩) ⟨fun a U g mk q => by obtain ⟨q0, q1, qP, qK, qD, qN⟩ := q; exact ⟨q0, q1, qP, va_K.moved (u := U) (U := U.calling g mk a) (Vm.Alike.refl U.vm) qK, qD, pw_N.same (u := U) (U := U.calling g mk a) rfl qN⟩, fun U hU hW => ⟨rfl, by rw [hU], by rw [hU]; exact hPc, va_K.moved hW.alike hKc, hDc.weaken (fun _ _ _ _ => trivial), pw_N.warm hW hN⟩⟩ rfl rfl hl.1 rfl (lv_room (Nat.le_of_ble_eq_true rfl)) dL_law_12 ⟨Nat.le_of_ble_eq_true rfl, Nat.le_of_ble_eq_true rfl⟩) hS (fun q _ h => hFc q h) hFc (fun u t H1 locs ht hvm hw hB hz1 hk1 hS => ?_)
  obtain ⟨a2, k2, hP1, hKm, hD1⟩ := hB
  rw [ht] at hP1
  obtain ⟨hP, hD⟩ := xj_join hP hD hk1 hFc hP1 hD1
  generalize H1 = H at hP hS ⊢
  replace hKm : va_K (dC, dI) vwCl (mT k2) s := va_K.moved hvm.symm hKm
  replace hP : va_P (dC, dI) vwCl (xW q1 a z kb0 cJ cO cE (fun _ => 0) (fun _ => 0) (fun _ _ => 0) (fun _ _ => 0) 0 0 (fun _ => none) (fun _ _ => 0) (fun _ _ => 0) (fun _ _ _ => 0) (fun _ => 0) ++ mW q2 a2 k2 (fun _ _ => 0) mV0) H := hP
  replace hD : va_D A (xW q1 a z kb0 cJ cO cE (fun _ => 0) (fun _ => 0) (fun _ _ => 0) (fun _ _ => 0) 0 0 (fun _ => none) (fun _ _ => 0) (fun _ _ => 0) (fun _ _ _ => 0) (fun _ => 0) ++ mW q2 a2 k2 (fun _ _ => 0) mV0) := hD
  refine W.widen (k := 60) (n := 19218) (by omega) (by omega) ?_
  refine lv_astore_n (lv' := [(2, .ref q2), (1, .ref q1), (0, .ref b)]) hx hb dL_law_15 rfl hl (by decide) rfl (fun ls hl => ?_)
  refine lv_iconst (v := 0) hx hb dL_law_16 (by decide) ?_
  refine lv_istore_n (lv' := [(3, .int 0), (2, .ref q2), (1, .ref q1), (0, .ref b)]) hx hb dL_law_17 rfl hl (by decide) rfl (fun ls hl => ?_)
  subst hAdef
  have C : lwC p s m c b L xs dC dI kb0 cJ cO cE k2 z mi := ⟨hx, hb, hml, hown, hts, hX, hbl, hKx, hKm, hN, hZ, hT, hO, hMi, hDc0⟩
  have lp : ∀ f j : Nat, 5 * j ≤ L → L + 1 ≤ 5 * j + 5 * f → LK p l e s m below meth c b dC dI q1 a kb0 cJ cO cE q2 a2 k2 z j := by
    intro f
    induction f with
    | zero => intro j h1 h2; exact absurd h2 (by omega)
    | succ f ih =>
      intro j h1 h2 ev n cap fE sd Lc I M J si sa dl F V H locs ls hI hP hD hS hl
      refine lv_iload_n hx hb dL_law_18 rfl (lv_at hl 0 rfl) ?_
      refine lv_aload_n hx hb dL_law_19 rfl (lv_at hl 3 rfl) ?_
      refine va_slen hx hb hX hbl hbA hS dL_law_20 ?_
      refine lv_iconst (v := 5) hx hb dL_law_21 (by decide) ?_
      refine lv_isub hx hb dL_law_22 ?_
      have hsub : (nI L - nI 5).toInt = (L : Int) - 5 := pk_sub_toInt (by omega) (by omega)
      have hcmp : nI L - 5 < nI (5 * j) ↔ L < 5 * j + 5 := by
        rw [Int32.lt_iff_toInt_lt, show (nI L - 5).toInt = (L : Int) - 5 from hsub, nI_toInt (by omega)]; omega
      rcases Nat.lt_or_ge L (5 * j + 5) with hc | hc
      · refine lv_icmp_gt (tgt := 744) hx hb dL_law_23 (by decide) (fun _ => ?_) (fun c9 => absurd (hcmp.mpr hc) c9)
        refine lv_iconst (v := 1) hx hb dL_law_744 (by decide) ?_
        refine va_forget (fun q hq => hS.2.2 q hq) ?_
        refine W.widen (k := 600000) (n := 7302250) (by omega) (by omega) ?_
        exact lw_ret hx hb hr hlocks dL_law_745
      refine lv_icmp_gt (tgt := 744) hx hb dL_law_23 (by decide) (fun c9 => absurd (hcmp.mp c9) (by omega)) (fun _ => ?_)
      have K := ih (j + 1) (by omega) (by omega)
      refine lv_aload_n hx hb dL_law_26 rfl (lv_at hl 3 rfl) ?_
      refine lv_iload_n hx hb dL_law_27 rfl (lv_at hl 0 rfl) ?_
      refine va_sld hx hb hX hbl hbA hS (nI_in (c := 5 * j) (N := L) (by omega) (by omega)) dL_law_28 ?_
      refine lv_bipush (v := 31) hx hb dL_law_29 (by decide) ?_
      refine lv_iand hx hb dL_law_31 ?_
      refine lv_topi (fun sw esw => ?_)
      rcases Classical.em (sw = 0) with c0 | c0
      · refine lv_tableIn (tgt := 128) (off := 96) hx hb dL_law_32 (by rw [c0]; decide) (by rw [c0]; decide) (by rw [c0]; rfl) (by decide) ?_
        exact lc_0 l hL hc C hI hP hD hS hl K
      rcases Classical.em (sw = 1) with c1 | c1
      · refine lv_tableIn (tgt := 171) (off := 139) hx hb dL_law_32 (by rw [c1]; decide) (by rw [c1]; decide) (by rw [c1]; rfl) (by decide) ?_
        exact lc_1 l hL hc C hI hP hD hS hl K
      rcases Classical.em (sw = 2) with c2 | c2
      · refine lv_tableIn (tgt := 214) (off := 182) hx hb dL_law_32 (by rw [c2]; decide) (by rw [c2]; decide) (by rw [c2]; rfl) (by decide) ?_
        exact lc_2 l hL hc C hI hP hD hS hl K
      rcases Classical.em (sw = 3) with c3 | c3
      · refine lv_tableIn (tgt := 267) (off := 235) hx hb dL_law_32 (by rw [c3]; decide) (by rw [c3]; decide) (by rw [c3]; rfl) (by decide) ?_
        exact lc_3 l hL hc C hI hP hD hS hl K
      rcases Classical.em (sw = 4) with c4 | c4
      · refine lv_tableIn (tgt := 310) (off := 278) hx hb dL_law_32 (by rw [c4]; decide) (by rw [c4]; decide) (by rw [c4]; rfl) (by decide) ?_
        exact lc_4 l hL hc C hI hP hD hS hl K
      rcases Classical.em (sw = 5) with c5 | c5
      · refine lv_tableIn (tgt := 353) (off := 321) hx hb dL_law_32 (by rw [c5]; decide) (by rw [c5]; decide) (by rw [c5]; rfl) (by decide) ?_
        exact lc_5 l hL hc C hI hP hD hS hl K
      rcases Classical.em (sw = 6) with c6 | c6
      · refine lv_tableIn (tgt := 386) (off := 354) hx hb dL_law_32 (by rw [c6]; decide) (by rw [c6]; decide) (by rw [c6]; rfl) (by decide) ?_
        exact lc_6 l hL hc C hI hP hD hS hl K
      rcases Classical.em (sw = 7) with c7 | c7
      · refine lv_tableIn (tgt := 409) (off := 377) hx hb dL_law_32 (by rw [c7]; decide) (by rw [c7]; decide) (by rw [c7]; rfl) (by decide) ?_
        exact lc_7 l hL hc C hI hP hD hS hl K
      rcases Classical.em (sw = 8) with c8 | c8
      · refine lv_tableIn (tgt := 432) (off := 400) hx hb dL_law_32 (by rw [c8]; decide) (by rw [c8]; decide) (by rw [c8]; rfl) (by decide) ?_
        exact lc_8 l hL hc C hI hP hD hS hl K
      rcases Classical.em (sw = 9) with c9 | c9
      · refine lv_tableIn (tgt := 465) (off := 433) hx hb dL_law_32 (by rw [c9]; decide) (by rw [c9]; decide) (by rw [c9]; rfl) (by decide) ?_
        exact lc_9 l hL hc C hI hP hD hS hl K
      rcases Classical.em (sw = 10) with c10 | c10
      · refine lv_tableIn (tgt := 488) (off := 456) hx hb dL_law_32 (by rw [c10]; decide) (by rw [c10]; decide) (by rw [c10]; rfl) (by decide) ?_
        exact lc_10 l hL hc C hI hP hD hS hl K
      rcases Classical.em (sw = 11) with c11 | c11
      · refine lv_tableIn (tgt := 511) (off := 479) hx hb dL_law_32 (by rw [c11]; decide) (by rw [c11]; decide) (by rw [c11]; rfl) (by decide) ?_
        exact lc_11 l hL hc C hI hP hD hS hl K
      rcases Classical.em (sw = 12) with c12 | c12
      · refine lv_tableIn (tgt := 554) (off := 522) hx hb dL_law_32 (by rw [c12]; decide) (by rw [c12]; decide) (by rw [c12]; rfl) (by decide) ?_
        exact lc_12 l hL hc C hI hP hD hS hl K
      rcases Classical.em (sw = 13) with c13 | c13
      · refine lv_tableIn (tgt := 587) (off := 555) hx hb dL_law_32 (by rw [c13]; decide) (by rw [c13]; decide) (by rw [c13]; rfl) (by decide) ?_
        exact lc_13 l hL hc C hI hP hD hS hl K
      rcases Classical.em (sw = 14) with c14 | c14
      · refine lv_tableIn (tgt := 620) (off := 588) hx hb dL_law_32 (by rw [c14]; decide) (by rw [c14]; decide) (by rw [c14]; rfl) (by decide) ?_
        exact lc_14 l hL hc C hI hP hD hS hl K
      rcases Classical.em (sw = 15) with c15 | c15
      · refine lv_tableIn (tgt := 653) (off := 621) hx hb dL_law_32 (by rw [c15]; decide) (by rw [c15]; decide) (by rw [c15]; rfl) (by decide) ?_
        exact lc_15 l hL hc C hI hP hD hS hl K
      rcases Classical.em (sw = 16) with c16 | c16
      · refine lv_tableIn (tgt := 666) (off := 634) hx hb dL_law_32 (by rw [c16]; decide) (by rw [c16]; decide) (by rw [c16]; rfl) (by decide) ?_
        exact lc_16 l hL hc C hI hP hD hS hl K
      rcases Classical.em (sw = 17) with c17 | c17
      · refine lv_tableIn (tgt := 679) (off := 647) hx hb dL_law_32 (by rw [c17]; decide) (by rw [c17]; decide) (by rw [c17]; rfl) (by decide) ?_
        exact lc_17 l hL hc C hI hP hD hS hl K
      rcases Classical.em (sw = 18) with c18 | c18
      · refine lv_tableIn (tgt := 692) (off := 660) hx hb dL_law_32 (by rw [c18]; decide) (by rw [c18]; decide) (by rw [c18]; rfl) (by decide) ?_
        exact lc_18 l hL hc C hI hP hD hS hl K
      rcases Classical.em (sw = 19) with c19 | c19
      · refine lv_tableIn (tgt := 725) (off := 693) hx hb dL_law_32 (by rw [c19]; decide) (by rw [c19]; decide) (by rw [c19]; rfl) (by decide) ?_
        exact lc_19 l hL hc C hI hP hD hS hl K
      refine lv_tableOut (tgt := 738) hx hb dL_law_32 (by have k0 := c0; have k1 := c1; have k2 := c2; have k3 := c3; have k4 := c4; have k5 := c5; have k6 := c6; have k7 := c7; have k8 := c8; have k9 := c9; have k10 := c10; have k11 := c11; have k12 := c12; have k13 := c13; have k14 := c14; have k15 := c15; have k16 := c16; have k17 := c17; have k18 := c18; have k19 := c19; simp only [p1_le, p1_lt, p1_eq, p1_m6, p1_m1, p1_0, p1_1, p1_2, p1_3, p1_4, p1_5, p1_6, p1_7, p1_8, p1_9, p1_10, p1_11, p1_12, p1_13, p1_14, p1_15, p1_16, p1_17, p1_18, p1_19, p1_20, p1_40, p1_50, p1_200, p1_1000] at k0 k1 k2 k3 k4 k5 k6 k7 k8 k9 k10 k11 k12 k13 k14 k15 k16 k17 k18 k19 ⊢; omega) (by decide) ?_
      refine lv_iinc (v := nI (5 * (j + 1))) (lv' := [(3, .int (nI (5 * (j + 1)))), (2, .ref q2), (1, .ref q1), (0, .ref b)]) hx hb dL_law_738 hl (k := 0) rfl (nI_add (5 * j) 5) (by decide) rfl (fun ls hl => ?_)
      refine lv_goto (tgt := 18) hx hb dL_law_741 (by decide) ?_
      refine W.widen (k := 60 + 7 * (j + 1)) (n := 19218 + 261 * (j + 1)) (by omega) (by omega) ?_
      exact K ev n cap fE sd Lc I M J si sa dl F V H locs ls ⟨hI.1.mono (by omega), hI.2.1.mono (by omega), hI.2.2.1, hI.2.2.2.step (by omega)⟩ hP hD hS hl
  exact lp (L + 1) 0 (by omega) (by omega) z 0 0 _ _ _ _ _ _ _ _ _ _ _ H locs ls ⟨InvX_start, InvM_start, fun _ => rfl, REx_0 _ (fun q h => if_neg h)⟩ hP hD hS hl

