section
def f_y_gatherNeeded (n : Nat) (dl : Nat → Nat) (xv : Nat) (p1 : Int64) (L : Nat → Int64) (I : Nat → Int32) (M : Nat → Nat → Int64) : Int32 × (Nat → Int64) × (Nat → Int32) := bnd (f_y_only n dl xv ) (fun (r1 : Int64) => bnd (f_y_withNeeded n dl r1 M) (fun (r2 : Int64) => bnd (va_up L 2 r2) (fun (L3 : Nat → Int64) => bnd (f_y_clash n dl r2 M) (fun (r4 : Int32) => if r4 = (0 : Int32) then (bnd (r2 &&& p1) (fun (x6 : Int64) => bnd (f_y_shortestRing n dl x6 M) (fun (r7 : Int32) => bnd (va_up I 8 r7) (fun (I8 : Nat → Int32) => if r7 ≤ (0 : Int32) then (((0 : Int32), L3, I8)) else (((-5 : Int32), L3, I8)))))) else (((-4 : Int32), L3, I))))))
def wq_y_gatherNeeded : List Cond := ([.code yX1_gatherNeeded cX1_gatherNeeded 4 (some .int), .fieldLink RX1 9 "ServiceTree$Draft" "relations" "LServiceTree$Relations;", .initialized RX8, .static yX8_only, .fieldLink RX1 15 "ServiceTree$Draft" "members" "J", .fieldLink RX1 53 "ServiceTree$Draft" "ringSize" "I", .methodLink RX1 62 yX5_withNeeded, .instanceMethod yX5_withNeeded, .selects RX5 yX5_withNeeded yX5_withNeeded, .initialized RX5, .methodLink RX1 66 yX5_clash, .instanceMethod yX5_clash, .selects RX5 yX5_clash yX5_clash, .methodLink RX1 49 yX5_shortestRing, .instanceMethod yX5_shortestRing, .selects RX5 yX5_shortestRing yX5_shortestRing] : List Cond) ++ (wsX10 ++ (wq_y_only ++ (wq_y_withNeeded ++ (wq_y_clash ++ (wq_y_shortestRing)))))
theorem in_y_gatherNeeded_X1 : ∀ w ∈ wsX10, w ∈ wq_y_gatherNeeded := fun _ h => List.mem_append_right _ (List.mem_append_left _ (h))
set_option maxRecDepth 20000 in
theorem wi_y_gatherNeeded : ∀ w ∈ wq_y_gatherNeeded, w ∈ lw_tbl := List.forall_mem_append.mpr ⟨(wix [541, 140, 60, 443, 141, 146, 542, 543, 544, 64, 546, 547, 548, 550, 551, 552] rfl), List.forall_mem_append.mpr ⟨inKX1, List.forall_mem_append.mpr ⟨wi_y_only, List.forall_mem_append.mpr ⟨wi_y_withNeeded, List.forall_mem_append.mpr ⟨wi_y_clash, wi_y_shortestRing⟩⟩⟩⟩⟩
set_option maxRecDepth 20000 in
theorem wg_y_gatherNeeded : GoodIn wq_y_gatherNeeded wq_y_gatherNeeded := goodIn_sub (fun _ h => h) (by decide +kernel)
theorem wc_y_gatherNeeded_y_only_19 : GoodIn wq_y_gatherNeeded wq_y_only := (fun w h => ⟨List.mem_append_right _ (List.mem_append_right _ (List.mem_append_left _ (h))), (wg_y_only w h).2⟩)
set_option maxRecDepth 20000 in
theorem wc_y_gatherNeeded_y_withNeeded_62 : GoodIn wq_y_gatherNeeded (wsV RX1 62 RX5 yX5_withNeeded wq_y_withNeeded) := goodIn_app (goodIn_of _ (by decide +kernel)) (fun w h => ⟨List.mem_append_right _ (List.mem_append_right _ (List.mem_append_right _ (List.mem_append_left _ (h)))), (wg_y_withNeeded w h).2⟩)
set_option maxRecDepth 20000 in
theorem wc_y_gatherNeeded_y_clash_66 : GoodIn wq_y_gatherNeeded (wsV RX1 66 RX5 yX5_clash wq_y_clash) := goodIn_app (goodIn_of _ (by decide +kernel)) (fun w h => ⟨List.mem_append_right _ (List.mem_append_right _ (List.mem_append_right _ (List.mem_append_right _ (List.mem_append_left _ (h))))), (wg_y_clash w h).2⟩)
set_option maxRecDepth 20000 in
theorem wc_y_gatherNeeded_y_shortestRing_49 : GoodIn wq_y_gatherNeeded (wsV RX1 49 RX5 yX5_shortestRing wq_y_shortestRing) := goodIn_app (goodIn_of _ (by decide +kernel)) (fun w h => ⟨List.mem_append_right _ (List.mem_append_right _ (List.mem_append_right _ (List.mem_append_right _ (List.mem_append_right _ (h))))), (wg_y_shortestRing w h).2⟩)
def rm_y_gatherNeeded : Room := { frames := 4, cells := 0, slots := 0, locals := 104 }
set_option maxHeartbeats 4000000 in
set_option maxRecDepth 100000 in
theorem c_y_gatherNeeded (l : Launch) (dC : Nat → ClassId) (dI : Nat → Nat → Nat) (h : Nat) (a : Nat → Nat) (e : Nat) (cI cJ cO cE : ClassId) (L : Nat → Int64) (I : Nat → Int32) (M : Nat → Nat → Int64) (J : Nat → Nat → Int32) (n cap : Nat) (fE : Nat → Option Nat) (sd : Nat → Nat → Nat) (si : Nat → Nat → Int32) (sa : Nat → Nat → Nat → Int32) (dl : Nat → Nat) (b : Nat) (xv : Nat) (p1 : Int64) (sz : Nat) (hX0 : InvX n cap fE sd dl b I J si) (hb0 : b + 0 < 2147483648)  : Met l yX1_gatherNeeded wq_y_gatherNeeded rm_y_gatherNeeded (va_Pc [.ref (a 2), .int (nI xv), .long p1] (fun U => U.heap.size = sz ∧ va_P (dC, dI) vwCl (xW h a e cI cJ cO cE L I M J n cap fE sd si sa dl) U.heap ∧ va_K (dC, dI) vwCl (xT cI cJ cO cE) U ∧ va_D (fun _ => True) (xW h a e cI cJ cO cE L I M J n cap fE sd si sa dl) ∧ pw_N U)) (va_Qi (fun (r : Int32) (u : (Nat → Int64) × (Nat → Int32)) => InvX n cap fE sd dl (b + 0) u.2 J si ∧ (∀ j9 : Nat, j9 ∉ ([2] : List Nat) → u.1 j9 = L j9) ∧ (∀ j9 : Nat, j9 ∉ ([8] : List Nat) → u.2 j9 = I j9) ∧ ((r, u) = f_y_gatherNeeded n dl xv p1 L I M)) (fun (u : (Nat → Int64) × (Nat → Int32)) (t : State) => va_P (dC, dI) vwCl (xW h a e cI cJ cO cE u.1 u.2 M J n cap fE sd si sa dl) t.heap ∧ va_D (va_A (xW h a e cI cJ cO cE L I M J n cap fE sd si sa dl) sz) (xW h a e cI cJ cO cE u.1 u.2 M J n cap fE sd si sa dl)) (va_A (xW h a e cI cJ cO cE L I M J n cap fE sd si sa dl) sz)) 0 0 (va_A (xW h a e cI cJ cO cE L I M J n cap fE sd si sa dl) sz) := by
  have hn : n ≤ 40 := hX0.1.1
  have hX := hX0
  have hUL : ∀ j9 : Nat, j9 ∉ ([2] : List Nat) → L j9 = L j9 := fun _ _ => rfl
  have hUI : ∀ j9 : Nat, j9 ∉ ([8] : List Nat) → I j9 = I j9 := fun _ _ => rfl
  refine Met.ofW (cc := cX1_gatherNeeded) (maxL := 4) (ret := (some .int)) (by decide) rfl ?_
  intro p e9 s m args below meth c s₁ B hml hv
  obtain ⟨rfl, hsz, hP, hK, hD0, hN⟩ := hv
  have hx := B.exec
  have hb := B.bytes
  have hr := B.returns
  have hts := atoms_spec (ws := wq_y_gatherNeeded) B.pre
  have hown : s.vm.findClass RX1 = some m.cls := findClass_of_methodNamed B.named
  have hlocks := B.notSynchronized
  subst hsz
  have hD := hD0.self (sz := s.heap.size)
  generalize hAe : va_A (xW h a e cI cJ cO cE L I M J n cap fE sd si sa dl) s.heap.size = A at hD ⊢
  have hA : ∀ q : Nat, s.heap.size ≤ q → A q := fun q h => by rw [← hAe]; exact Or.inr h
  have hS : va_S A s.heap s.heap [] := va_S.rf
  have hl := lv_entry ([.ref (a 2), .int (nI xv), .long p1]) (n := 4) (Nat.le_of_ble_eq_true rfl)
  rw [lg_entry_eq]
  generalize (lg_sl ([.ref (a 2), .int (nI xv), .long p1]) ++ List.replicate (4 - (lg_sl ([.ref (a 2), .int (nI xv), .long p1])).length) Slot.unset).toArray = ls at hl ⊢
  have hl : lv_has ls 4 [(0, .ref (a 2)), (1, .int (nI xv)), (2, .long p1)] := hl
  obtain ⟨RES, hR0⟩ : ∃ R9, R9 = f_y_gatherNeeded n dl xv p1 L I M := ⟨_, rfl⟩
  have hZ9 := hR0
  unfold f_y_gatherNeeded at hZ9
  refine lv_aload_n hx hb dX1_gatherNeeded_0 rfl (lv_at hl 0 rfl) ?_
  refine lv_aload_n hx hb dX1_gatherNeeded_1 rfl (lv_at hl 0 rfl) ?_
  refine va_get (D := (dC, dI)) (ci := 2) (v := .ref (a 1)) (C := RX1) (T := TX1) (N := 5) hx hb hts in_y_gatherNeeded_X1 hown hK hP 13 rfl rfl 0 (by decide) (hts (.fieldLink RX1 9 "ServiceTree$Draft" "relations" "LServiceTree$Relations;") (by decide +kernel)) (fun _ h9 => h9) rfl dX1_gatherNeeded_2 ?_
  refine lv_iload_n hx hb dX1_gatherNeeded_5 rfl (lv_at hl 1 rfl) ?_
  have hFc := mw_free hD hS hA
  refine va_calll (va_runSN (As := [.int (nI xv)]) (rest := [.ref (a 1), .ref (a 2)]) ⟨hx, hb, hml, hown, hts⟩ (c_y_only l dC dI h a e cI cJ cO cE L I M J n cap fE sd si sa dl (b) xv s.heap.size hX (by omega) ) ⟨va_cnB 1 hts wc_y_gatherNeeded_y_only_19 rfl rfl rfl (hN (.methodLinkNest RX1 19 yX8_only "ServiceTree") (by decide +kernel)) (hts (.initialized RX8) (by decide +kernel)) (by decide +kernel) ⟨Nat.le_of_ble_eq_true rfl, Nat.le_of_ble_eq_true rfl⟩, hts (.static yX8_only) (by decide +kernel), trivial⟩ ⟨fun a9 U g mk q => by obtain ⟨q0, q1, qP, qK, qD, qN⟩ := q; exact ⟨q0, q1, qP, va_K.moved (u := U) (U := U.calling g mk a9) (Vm.Alike.refl U.vm) qK, qD, pw_N.same (u := U) (U := U.calling g mk a9) rfl qN⟩, fun U hU hW => ⟨rfl, by rw [hU], by rw [hU]; exact hP, va_K.moved hW.alike hK, hD.weaken (fun _ _ _ _ => trivial), pw_N.warm hW hN⟩⟩ rfl rfl hl.1 rfl (lv_room (Nat.le_of_ble_eq_true rfl)) dX1_gatherNeeded_6 ⟨Nat.le_of_ble_eq_true rfl, Nat.le_of_ble_eq_true rfl⟩) hS (fun q _ h => hFc q h) hFc (fun r1 u t H1 locs ht hvm hw hB hz1 hk1 hS => ?_)
  replace hP := hB.1
  rw [ht] at hP
  replace hD : va_D A (xW h a e cI cJ cO cE L I M J n cap fE sd si sa dl) := hB.2.weaken (fun _ q _ h9 => hFc q.1 h9)
  clear hB
  generalize H1 = H at hP hS ⊢
  replace hP : va_P (dC, dI) vwCl (xW h a e cI cJ cO cE L I M J n cap fE sd si sa dl) H := hP
  replace hw : r1 = f_y_only n dl xv  := hw
  replace hZ9 := bnd_s hZ9 hw
  have hFc := mw_free hD hS hA
  refine va_calll (va_runV (As := [.long r1]) (rest := [.ref (a 2)]) ⟨hx, hb, hml, hown, hts⟩ (c_y_withNeeded l dC dI h a e cI cJ cO cE L I M J n cap fE sd si sa dl (b) r1 H.size hX (by omega) ) (cwV 1 hts wc_y_gatherNeeded_y_withNeeded_62 rfl rfl rfl (by decide +kernel) ⟨Nat.le_of_ble_eq_true rfl, Nat.le_of_ble_eq_true rfl⟩) ⟨fun a9 U g mk q => by obtain ⟨q0, q1, qP, qK, qD, qN⟩ := q; exact ⟨q0, q1, qP, va_K.moved (u := U) (U := U.calling g mk a9) (Vm.Alike.refl U.vm) qK, qD, pw_N.same (u := U) (U := U.calling g mk a9) rfl qN⟩, va_recv hK hP (ci := 6) (q0 := 2) rfl rfl, fun U hU hW => ⟨rfl, by rw [hU], by rw [hU]; exact hP, va_K.moved hW.alike hK, hD.weaken (fun _ _ _ _ => trivial), pw_N.warm hW hN⟩⟩ rfl rfl hl.1 rfl (lv_room (Nat.le_of_ble_eq_true rfl)) dX1_gatherNeeded_9 ⟨Nat.le_of_ble_eq_true rfl, Nat.le_of_ble_eq_true rfl⟩) hS (fun q _ h => hFc q h) hFc (fun r2 u t H1 locs ht hvm hw hB hz1 hk1 hS => ?_)
  replace hP := hB.1
  rw [ht] at hP
  replace hD : va_D A (xW h a e cI cJ cO cE L I M J n cap fE sd si sa dl) := hB.2.weaken (fun _ q _ h9 => hFc q.1 h9)
  clear hB
  generalize H1 = H at hP hS ⊢
  replace hP : va_P (dC, dI) vwCl (xW h a e cI cJ cO cE L I M J n cap fE sd si sa dl) H := hP
  replace hw : r2 = f_y_withNeeded n dl r1 M := hw
  replace hZ9 := bnd_s hZ9 hw
  refine va_put (D := (dC, dI)) (ci := 2) (fs := [.ref (a 1), .long (L 2), .long (L 3), .long (L 4), .int (I 8)]) (v := .long r2) (ty := .long) (C := RX1) (T := TX1) (N := 5) hx hb hts in_y_gatherNeeded_X1 tyX1 tyX1_ok nmX1 hown hK hP hD hS 13 rfl rfl 1 (by decide) (hts (.fieldLink RX1 15 "ServiceTree$Draft" "members" "J") (by decide +kernel)) (fun _ h9 => h9) rfl (by decide +kernel) rfl rfl (Nat.le_of_ble_eq_true rfl) dX1_gatherNeeded_12 (fun H locs hP hD hS => ?_)
  replace hP : va_P (dC, dI) vwCl ((xW h a e cI cJ cO cE L I M J n cap fE sd si sa dl).set 13 (a 2, .inr (2, [.ref (a 1), .long r2, .long (L 3), .long (L 4), .int (I 8)]))) H := hP
  replace hD : va_D A ((xW h a e cI cJ cO cE L I M J n cap fE sd si sa dl).set 13 (a 2, .inr (2, [.ref (a 1), .long r2, .long (L 3), .long (L 4), .int (I 8)]))) := hD
  rw [xF_L2] at hP hD
  obtain ⟨L3, eL3⟩ : ∃ f9 : Nat → Int64, f9 = va_up L 2 r2 := ⟨_, rfl⟩
  rw [← eL3] at hP hD
  replace hZ9 := bnd_s hZ9 eL3
  replace hUL : ∀ j9 : Nat, j9 ∉ ([2] : List Nat) → L3 j9 = L j9 := by rw [eL3]; exact mw_up (by decide) hUL
  refine lv_aload_n hx hb dX1_gatherNeeded_15 rfl (lv_at hl 0 rfl) ?_
  refine va_get (D := (dC, dI)) (ci := 2) (v := .ref (a 1)) (C := RX1) (T := TX1) (N := 5) hx hb hts in_y_gatherNeeded_X1 hown hK hP 13 rfl rfl 0 (by decide) (hts (.fieldLink RX1 9 "ServiceTree$Draft" "relations" "LServiceTree$Relations;") (by decide +kernel)) (fun _ h9 => h9) rfl dX1_gatherNeeded_16 ?_
  refine lv_aload_n hx hb dX1_gatherNeeded_19 rfl (lv_at hl 0 rfl) ?_
  refine va_get (D := (dC, dI)) (ci := 2) (v := .long (L3 2)) (C := RX1) (T := TX1) (N := 5) hx hb hts in_y_gatherNeeded_X1 hown hK hP 13 rfl rfl 1 (by decide) (hts (.fieldLink RX1 15 "ServiceTree$Draft" "members" "J") (by decide +kernel)) (fun _ h9 => h9) rfl dX1_gatherNeeded_20 ?_
  refine p1_topr (v := .long r2) (congrArg Value.long (by rw [eL3]; exact va_up_self _ _ _)) ?_
  have hFc := mw_free hD hS hA
  refine va_calli (va_runV (As := [.long r2]) (rest := []) ⟨hx, hb, hml, hown, hts⟩ (c_y_clash l dC dI h a e cI cJ cO cE L3 I M J n cap fE sd si sa dl (b) r2 H.size hX (by omega) ) (cwV 1 hts wc_y_gatherNeeded_y_clash_66 rfl rfl rfl (by decide +kernel) ⟨Nat.le_of_ble_eq_true rfl, Nat.le_of_ble_eq_true rfl⟩) ⟨fun a9 U g mk q => by obtain ⟨q0, q1, qP, qK, qD, qN⟩ := q; exact ⟨q0, q1, qP, va_K.moved (u := U) (U := U.calling g mk a9) (Vm.Alike.refl U.vm) qK, qD, pw_N.same (u := U) (U := U.calling g mk a9) rfl qN⟩, va_recv hK hP (ci := 6) (q0 := 2) rfl rfl, fun U hU hW => ⟨rfl, by rw [hU], by rw [hU]; exact hP, va_K.moved hW.alike hK, hD.weaken (fun _ _ _ _ => trivial), pw_N.warm hW hN⟩⟩ rfl rfl hl.1 rfl (lv_room (Nat.le_of_ble_eq_true rfl)) dX1_gatherNeeded_23 ⟨Nat.le_of_ble_eq_true rfl, Nat.le_of_ble_eq_true rfl⟩) hS (fun q _ h => hFc q h) hFc (fun r4 u t H1 locs ht hvm hw hB hz1 hk1 hS => ?_)
  replace hP := hB.1
  rw [ht] at hP
  replace hD : va_D A (xW h a e cI cJ cO cE L3 I M J n cap fE sd si sa dl) := hB.2.weaken (fun _ q _ h9 => hFc q.1 h9)
  clear hB
  generalize H1 = H at hP hS ⊢
  replace hP : va_P (dC, dI) vwCl (xW h a e cI cJ cO cE L3 I M J n cap fE sd si sa dl) H := hP
  obtain ⟨hw, hwe⟩ := hw
  replace hw : r4 = f_y_clash n dl r2 M := hw
  replace hZ9 := bnd_s hZ9 hw
  have br4 := hwe
  refine lv_if_eq (tgt := 32) hx hb dX1_gatherNeeded_26 (by decide) (fun c5 => ?_) (fun c5 => ?_)
  · replace hZ9 := ite_t hZ9 c5
    refine lv_aload_n hx hb dX1_gatherNeeded_32 rfl (lv_at hl 0 rfl) ?_
    refine lv_aload_n hx hb dX1_gatherNeeded_33 rfl (lv_at hl 0 rfl) ?_
    refine va_get (D := (dC, dI)) (ci := 2) (v := .ref (a 1)) (C := RX1) (T := TX1) (N := 5) hx hb hts in_y_gatherNeeded_X1 hown hK hP 13 rfl rfl 0 (by decide) (hts (.fieldLink RX1 9 "ServiceTree$Draft" "relations" "LServiceTree$Relations;") (by decide +kernel)) (fun _ h9 => h9) rfl dX1_gatherNeeded_34 ?_
    refine lv_aload_n hx hb dX1_gatherNeeded_37 rfl (lv_at hl 0 rfl) ?_
    refine va_get (D := (dC, dI)) (ci := 2) (v := .long (L3 2)) (C := RX1) (T := TX1) (N := 5) hx hb hts in_y_gatherNeeded_X1 hown hK hP 13 rfl rfl 1 (by decide) (hts (.fieldLink RX1 15 "ServiceTree$Draft" "members" "J") (by decide +kernel)) (fun _ h9 => h9) rfl dX1_gatherNeeded_38 ?_
    refine p1_topr (v := .long r2) (congrArg Value.long (by rw [eL3]; exact va_up_self _ _ _)) ?_
    refine lv_lload_n hx hb dX1_gatherNeeded_41 rfl (lv_at hl 2 rfl) ?_
    refine lv_land hx hb dX1_gatherNeeded_42 ?_
    refine lv_topl (fun x6 ex6 => ?_)
    replace hZ9 := bnd_s hZ9 ex6
    have hFc := mw_free hD hS hA
    refine va_calli (va_runV (As := [.long x6]) (rest := [.ref (a 2)]) ⟨hx, hb, hml, hown, hts⟩ (c_y_shortestRing l dC dI h a e cI cJ cO cE L3 I M J n cap fE sd si sa dl (b) x6 H.size hX (by omega) ) (cwV 1 hts wc_y_gatherNeeded_y_shortestRing_49 rfl rfl rfl (by decide +kernel) ⟨Nat.le_of_ble_eq_true rfl, Nat.le_of_ble_eq_true rfl⟩) ⟨fun a9 U g mk q => by obtain ⟨q0, q1, qP, qK, qD, qN⟩ := q; exact ⟨q0, q1, qP, va_K.moved (u := U) (U := U.calling g mk a9) (Vm.Alike.refl U.vm) qK, qD, pw_N.same (u := U) (U := U.calling g mk a9) rfl qN⟩, va_recv hK hP (ci := 6) (q0 := 2) rfl rfl, fun U hU hW => ⟨rfl, by rw [hU], by rw [hU]; exact hP, va_K.moved hW.alike hK, hD.weaken (fun _ _ _ _ => trivial), pw_N.warm hW hN⟩⟩ rfl rfl hl.1 rfl (lv_room (Nat.le_of_ble_eq_true rfl)) dX1_gatherNeeded_43 ⟨Nat.le_of_ble_eq_true rfl, Nat.le_of_ble_eq_true rfl⟩) hS (fun q _ h => hFc q h) hFc (fun r7 u t H1 locs ht hvm hw hB hz1 hk1 hS => ?_)
    replace hP := hB.1
    rw [ht] at hP
    replace hD : va_D A (xW h a e cI cJ cO cE L3 I M J n cap fE sd si sa dl) := hB.2.weaken (fun _ q _ h9 => hFc q.1 h9)
    clear hB
    generalize H1 = H at hP hS ⊢
    replace hP : va_P (dC, dI) vwCl (xW h a e cI cJ cO cE L3 I M J n cap fE sd si sa dl) H := hP
    replace hw : r7 = f_y_shortestRing n dl x6 M := hw
    replace hZ9 := bnd_s hZ9 hw
    refine va_put (D := (dC, dI)) (ci := 2) (fs := [.ref (a 1), .long (L3 2), .long (L3 3), .long (L3 4), .int (I 8)]) (v := .int r7) (ty := .int) (C := RX1) (T := TX1) (N := 5) hx hb hts in_y_gatherNeeded_X1 tyX1 tyX1_ok nmX1 hown hK hP hD hS 13 rfl rfl 4 (by decide) (hts (.fieldLink RX1 53 "ServiceTree$Draft" "ringSize" "I") (by decide +kernel)) (fun _ h9 => h9) rfl (by decide +kernel) rfl rfl (Nat.le_of_ble_eq_true rfl) dX1_gatherNeeded_46 (fun H locs hP hD hS => ?_)
    replace hP : va_P (dC, dI) vwCl ((xW h a e cI cJ cO cE L3 I M J n cap fE sd si sa dl).set 13 (a 2, .inr (2, [.ref (a 1), .long (L3 2), .long (L3 3), .long (L3 4), .int r7]))) H := hP
    replace hD : va_D A ((xW h a e cI cJ cO cE L3 I M J n cap fE sd si sa dl).set 13 (a 2, .inr (2, [.ref (a 1), .long (L3 2), .long (L3 3), .long (L3 4), .int r7]))) := hD
    rw [xF_I8] at hP hD
    obtain ⟨I8, eI8⟩ : ∃ f9 : Nat → Int32, f9 = va_up I 8 r7 := ⟨_, rfl⟩
    rw [← eI8] at hP hD
    replace hZ9 := bnd_s hZ9 eI8
    replace hX : InvX n cap fE sd dl (b) I8 J si := by rw [eI8]; exact hX.setI (by decide)
    replace hUI : ∀ j9 : Nat, j9 ∉ ([8] : List Nat) → I8 j9 = I j9 := by rw [eI8]; exact mw_up (by decide) hUI
    refine lv_aload_n hx hb dX1_gatherNeeded_49 rfl (lv_at hl 0 rfl) ?_
    refine va_get (D := (dC, dI)) (ci := 2) (v := .int (I8 8)) (C := RX1) (T := TX1) (N := 5) hx hb hts in_y_gatherNeeded_X1 hown hK hP 13 rfl rfl 4 (by decide) (hts (.fieldLink RX1 53 "ServiceTree$Draft" "ringSize" "I") (by decide +kernel)) (fun _ h9 => h9) rfl dX1_gatherNeeded_50 ?_
    refine p1_topr (v := .int r7) (congrArg Value.int (by rw [eI8]; exact va_up_self _ _ _)) ?_
    refine lv_if_le (tgt := 61) hx hb dX1_gatherNeeded_53 (by decide) (fun c9 => ?_) (fun c9 => ?_)
    · replace hZ9 := ite_t hZ9 c9
      refine lv_iconst (v := 0) hx hb dX1_gatherNeeded_61 (by decide) ?_
      exact W.iret (v := 0) hx hb hr (fun t ht hW => ⟨⟨0, (L3, I8), rfl, ⟨hX.mono (by omega), hUL, hUI, hZ9.symm.trans hR0⟩, by rw [ht]; exact hP, hD⟩, hS.F ht⟩) hS.2.2 dX1_gatherNeeded_62
    · replace hZ9 := ite_f hZ9 c9
      refine lv_bipush (v := (-5)) hx hb dX1_gatherNeeded_56 (by decide) ?_
      refine lv_goto (tgt := 62) hx hb dX1_gatherNeeded_58 (by decide) ?_
      exact W.iret (v := (-5)) hx hb hr (fun t ht hW => ⟨⟨(-5), (L3, I8), rfl, ⟨hX.mono (by omega), hUL, hUI, hZ9.symm.trans hR0⟩, by rw [ht]; exact hP, hD⟩, hS.F ht⟩) hS.2.2 dX1_gatherNeeded_62
  · replace hZ9 := ite_f hZ9 c5
    refine lv_bipush (v := (-4)) hx hb dX1_gatherNeeded_29 (by decide) ?_
    exact W.iret (v := (-4)) hx hb hr (fun t ht hW => ⟨⟨(-4), (L3, I), rfl, ⟨hX.mono (by omega), hUL, hUI, hZ9.symm.trans hR0⟩, by rw [ht]; exact hP, hD⟩, hS.F ht⟩) hS.2.2 dX1_gatherNeeded_31
def f_y_gatherWanted_5 (n : Nat) (dl : Nat → Nat) (p0 : Int64) (M : Nat → Nat → Int64) : Nat → Nat → Int64 → (Nat → Int64) → (Nat → Int64 → (Nat → Int64) → (Nat → Int64)) → (Nat → Int64)
  | 0, i1, y6, L5, K9_5 => K9_5 i1 y6 L5
  | fu2 + 1, i1, y6, L5, K9_5 => if 40 ≤ i1 then (K9_5 i1 y6 L5) else (bnd (L5 2) (fun (x8 : Int64) => bnd (f_y_fromAny1 n dl x8 M) (fun (r9 : Int64) => bnd (x8 ^^^ (-1 : Int64)) (fun (x10 : Int64) => bnd (r9 &&& x10) (fun (x11 : Int64) => bnd (y6 ^^^ (-1 : Int64)) (fun (x12 : Int64) => bnd (x11 &&& x12) (fun (x13 : Int64) => bnd (f_y_least n dl x13 ) (fun (r14 : Int32) => if (0 : Int32) ≤ r14 then (bnd (r14.toNatClampNeg) (fun (j16 : Nat) => bnd (f_y_only n dl j16 ) (fun (r17 : Int64) => bnd (y6 ||| r17) (fun (x18 : Int64) => bnd (f_y_only n dl j16 ) (fun (r19 : Int64) => bnd (f_y_withNeeded n dl r19 M) (fun (r20 : Int64) => bnd (x8 ||| r20) (fun (x21 : Int64) => bnd (f_y_clash n dl x21 M) (fun (r22 : Int32) => if r22 = (0 : Int32) then (bnd (x21 &&& p0) (fun (x24 : Int64) => bnd (f_y_tangled n dl x24 M) (fun (r25 : Int64) => bnd (lg_cmp r25 (0 : Int64)) (fun (x26 : Int32) => if x26 = (0 : Int32) then (bnd (va_up L5 2 x21) (fun (L28 : Nat → Int64) => f_y_gatherWanted_5 n dl p0 M fu2 (i1 + 1) x18 L28 K9_5)) else (f_y_gatherWanted_5 n dl p0 M fu2 (i1 + 1) x18 L5 K9_5))))) else (f_y_gatherWanted_5 n dl p0 M fu2 (i1 + 1) x18 L5 K9_5))))))))) else ((L5))))))))))
def f_y_gatherWanted (n : Nat) (dl : Nat → Nat) (p0 : Int64) (L : Nat → Int64) (M : Nat → Nat → Int64) : (Nat → Int64) := f_y_gatherWanted_5 n dl p0 M (40 + 1) 0 (0 : Int64) L (fun (i1 : Nat) (y6 : Int64) (L5 : Nat → Int64) => (L5))
def wq_y_gatherWanted : List Cond := ([.code yX1_gatherWanted cX1_gatherWanted 9 none, .fieldLink RX1 9 "ServiceTree$Draft" "relations" "LServiceTree$Relations;", .fieldLink RX1 15 "ServiceTree$Draft" "members" "J", .constantLong RX1 32 (-1), .initialized RX8, .static yX8_only, .methodLink RX1 42 yX5_fromAny, .instanceMethod yX5_fromAny, .selects RX5 yX5_fromAny yX5_fromAny, .initialized RX5, .methodLink RX1 70 yX1_least, .static yX1_least, .initialized RX1, .methodLink RX1 62 yX5_withNeeded, .instanceMethod yX5_withNeeded, .selects RX5 yX5_withNeeded yX5_withNeeded, .methodLink RX1 66 yX5_clash, .instanceMethod yX5_clash, .selects RX5 yX5_clash yX5_clash, .methodLink RX1 73 yX5_tangled, .instanceMethod yX5_tangled, .selects RX5 yX5_tangled yX5_tangled] : List Cond) ++ (wsX10 ++ (wq_y_fromAny1 ++ (wq_y_least ++ (wq_y_only ++ (wq_y_withNeeded ++ (wq_y_clash ++ (wq_y_tangled)))))))
theorem in_y_gatherWanted_X1 : ∀ w ∈ wsX10, w ∈ wq_y_gatherWanted := fun _ h => List.mem_append_right _ (List.mem_append_left _ (h))
set_option maxRecDepth 20000 in
theorem wi_y_gatherWanted : ∀ w ∈ wq_y_gatherWanted, w ∈ lw_tbl := List.forall_mem_append.mpr ⟨(wix [569, 140, 141, 537, 60, 443, 570, 571, 572, 64, 574, 575, 65, 542, 543, 544, 546, 547, 548, 578, 555, 556] rfl), List.forall_mem_append.mpr ⟨inKX1, List.forall_mem_append.mpr ⟨wi_y_fromAny1, List.forall_mem_append.mpr ⟨wi_y_least, List.forall_mem_append.mpr ⟨wi_y_only, List.forall_mem_append.mpr ⟨wi_y_withNeeded, List.forall_mem_append.mpr ⟨wi_y_clash, wi_y_tangled⟩⟩⟩⟩⟩⟩⟩
set_option maxRecDepth 20000 in
theorem wg_y_gatherWanted : GoodIn wq_y_gatherWanted wq_y_gatherWanted := goodIn_sub (fun _ h => h) (by decide +kernel)
set_option maxRecDepth 20000 in
theorem wc_y_gatherWanted_y_fromAny1_42 : GoodIn wq_y_gatherWanted (wsV RX1 42 RX5 yX5_fromAny wq_y_fromAny1) := goodIn_app (goodIn_of _ (by decide +kernel)) (fun w h => ⟨List.mem_append_right _ (List.mem_append_right _ (List.mem_append_left _ (h))), (wg_y_fromAny1 w h).2⟩)
set_option maxRecDepth 20000 in
theorem wc_y_gatherWanted_y_least_70 : GoodIn wq_y_gatherWanted (va_wsS RX1 70 yX1_least wq_y_least) := goodIn_app (goodIn_of _ (by decide +kernel)) (fun w h => ⟨List.mem_append_right _ (List.mem_append_right _ (List.mem_append_right _ (List.mem_append_left _ (h)))), (wg_y_least w h).2⟩)
theorem wc_y_gatherWanted_y_only_19 : GoodIn wq_y_gatherWanted wq_y_only := (fun w h => ⟨List.mem_append_right _ (List.mem_append_right _ (List.mem_append_right _ (List.mem_append_right _ (List.mem_append_left _ (h))))), (wg_y_only w h).2⟩)
set_option maxRecDepth 20000 in
theorem wc_y_gatherWanted_y_withNeeded_62 : GoodIn wq_y_gatherWanted (wsV RX1 62 RX5 yX5_withNeeded wq_y_withNeeded) := goodIn_app (goodIn_of _ (by decide +kernel)) (fun w h => ⟨List.mem_append_right _ (List.mem_append_right _ (List.mem_append_right _ (List.mem_append_right _ (List.mem_append_right _ (List.mem_append_left _ (h)))))), (wg_y_withNeeded w h).2⟩)
set_option maxRecDepth 20000 in
theorem wc_y_gatherWanted_y_clash_66 : GoodIn wq_y_gatherWanted (wsV RX1 66 RX5 yX5_clash wq_y_clash) := goodIn_app (goodIn_of _ (by decide +kernel)) (fun w h => ⟨List.mem_append_right _ (List.mem_append_right _ (List.mem_append_right _ (List.mem_append_right _ (List.mem_append_right _ (List.mem_append_right _ (List.mem_append_left _ (h))))))), (wg_y_clash w h).2⟩)
set_option maxRecDepth 20000 in
theorem wc_y_gatherWanted_y_tangled_73 : GoodIn wq_y_gatherWanted (wsV RX1 73 RX5 yX5_tangled wq_y_tangled) := goodIn_app (goodIn_of _ (by decide +kernel)) (fun w h => ⟨List.mem_append_right _ (List.mem_append_right _ (List.mem_append_right _ (List.mem_append_right _ (List.mem_append_right _ (List.mem_append_right _ (List.mem_append_right _ (h))))))), (wg_y_tangled w h).2⟩)
def rm_y_gatherWanted : Room := { frames := 3, cells := 0, slots := 0, locals := 74 }
set_option maxHeartbeats 4000000 in
set_option maxRecDepth 100000 in
theorem c_y_gatherWanted (l : Launch) (dC : Nat → ClassId) (dI : Nat → Nat → Nat) (h : Nat) (a : Nat → Nat) (e : Nat) (cI cJ cO cE : ClassId) (L : Nat → Int64) (I : Nat → Int32) (M : Nat → Nat → Int64) (J : Nat → Nat → Int32) (n cap : Nat) (fE : Nat → Option Nat) (sd : Nat → Nat → Nat) (si : Nat → Nat → Int32) (sa : Nat → Nat → Nat → Int32) (dl : Nat → Nat) (b : Nat) (p0 : Int64) (sz : Nat) (hX0 : InvX n cap fE sd dl b I J si) (hb0 : b + 0 < 2147483648)  : Met l yX1_gatherWanted wq_y_gatherWanted rm_y_gatherWanted (va_Pc [.ref (a 2), .long p0] (fun U => U.heap.size = sz ∧ va_P (dC, dI) vwCl (xW h a e cI cJ cO cE L I M J n cap fE sd si sa dl) U.heap ∧ va_K (dC, dI) vwCl (xT cI cJ cO cE) U ∧ va_D (fun _ => True) (xW h a e cI cJ cO cE L I M J n cap fE sd si sa dl) ∧ pw_N U)) (va_Qv (fun (u : (Nat → Int64)) => InvX n cap fE sd dl (b + 0) I J si ∧ (∀ j9 : Nat, j9 ∉ ([2] : List Nat) → u j9 = L j9) ∧ (u = f_y_gatherWanted n dl p0 L M)) (fun (u : (Nat → Int64)) (t : State) => va_P (dC, dI) vwCl (xW h a e cI cJ cO cE u I M J n cap fE sd si sa dl) t.heap ∧ va_D (va_A (xW h a e cI cJ cO cE L I M J n cap fE sd si sa dl) sz) (xW h a e cI cJ cO cE u I M J n cap fE sd si sa dl)) (va_A (xW h a e cI cJ cO cE L I M J n cap fE sd si sa dl) sz)) 0 0 (va_A (xW h a e cI cJ cO cE L I M J n cap fE sd si sa dl) sz) := by
  have hn : n ≤ 40 := hX0.1.1
  have hX := hX0
  have hUL : ∀ j9 : Nat, j9 ∉ ([2] : List Nat) → L j9 = L j9 := fun _ _ => rfl
  refine Met.ofW (cc := cX1_gatherWanted) (maxL := 9) (ret := none) (by decide) rfl ?_
  intro p e9 s m args below meth c s₁ B hml hv
  obtain ⟨rfl, hsz, hP, hK, hD0, hN⟩ := hv
  have hx := B.exec
  have hb := B.bytes
  have hr := B.returns
  have hts := atoms_spec (ws := wq_y_gatherWanted) B.pre
  have hown : s.vm.findClass RX1 = some m.cls := findClass_of_methodNamed B.named
  have hlocks := B.notSynchronized
  subst hsz
  have hD := hD0.self (sz := s.heap.size)
  generalize hAe : va_A (xW h a e cI cJ cO cE L I M J n cap fE sd si sa dl) s.heap.size = A at hD ⊢
  have hA : ∀ q : Nat, s.heap.size ≤ q → A q := fun q h => by rw [← hAe]; exact Or.inr h
  have hS : va_S A s.heap s.heap [] := va_S.rf
  have hl := lv_entry ([.ref (a 2), .long p0]) (n := 9) (Nat.le_of_ble_eq_true rfl)
  rw [lg_entry_eq]
  generalize (lg_sl ([.ref (a 2), .long p0]) ++ List.replicate (9 - (lg_sl ([.ref (a 2), .long p0])).length) Slot.unset).toArray = ls at hl ⊢
  have hl : lv_has ls 9 [(0, .ref (a 2)), (1, .long p0)] := hl
  refine mw_Q (fun Q0 hQ => ?_)
  obtain ⟨RES, hR0⟩ : ∃ R9, R9 = f_y_gatherWanted n dl p0 L M := ⟨_, rfl⟩
  have hZ9 := hR0
  unfold f_y_gatherWanted at hZ9
  refine lv_lconst (v := 0) hx hb dX1_gatherWanted_0 (by decide) ?_
  refine lv_lstore_n (lv' := [(3, .long 0), (0, .ref (a 2)), (1, .long p0)]) hx hb dX1_gatherWanted_1 rfl hl (by decide) rfl (fun ls hl => ?_)
  refine lv_iconst (v := 0) hx hb dX1_gatherWanted_2 (by decide) ?_
  refine lv_istore (lv' := [(5, .int 0), (3, .long 0), (0, .ref (a 2)), (1, .long p0)]) hx hb dX1_gatherWanted_3 hl (by decide) rfl (fun ls hl => ?_)
  obtain ⟨K9_5, hK9_5, hZ9⟩ := lp_gen hZ9
  have lp4 : ∀ (fu2 i1 : Nat) (y6 : Int64) (L5 : Nat → Int64) (H : Heap) (locs : List Loc) (ls : Array Slot), 40 < i1 + fu2 → i1 ≤ 40 → InvX n cap fE sd dl (b) I J si → (∀ j9 : Nat, j9 ∉ ([2] : List Nat) → L5 j9 = L j9) → RES = f_y_gatherWanted_5 n dl p0 M fu2 i1 y6 L5 K9_5 → va_P (dC, dI) vwCl (xW h a e cI cJ cO cE L5 I M J n cap fE sd si sa dl) H → va_D A (xW h a e cI cJ cO cE L5 I M J n cap fE sd si sa dl) → va_S A s.heap H locs → lv_has ls 9 [(5, .int (nI i1)), (3, .long y6), (0, .ref (a 2)), (1, .long p0)] → W p l e9 (headSpec wq_y_gatherWanted rm_y_gatherWanted).room s m ([.ref (a 2), .long p0] : List Value).toArray below meth c H locs 0 0 Q0 (F0 m 5 ls []) := by
    intro fu2
    induction fu2 with
    | zero =>
      intro i1 y6 L5 H locs ls hf hi
      exact absurd hf (by omega)
    | succ fu2 ih3 =>
      intro i1 y6 L5 H locs ls hfi1 hii1 hX hUL hZ9 hP hD hS hl
      rw [f_y_gatherWanted_5] at hZ9
      refine lv_iload hx hb dX1_gatherWanted_5 (lv_at hl 0 rfl) ?_
      refine lv_bipush (v := 40) hx hb dX1_gatherWanted_7 (by decide) ?_
      refine lv_icmp_ge (tgt := 117) hx hb dX1_gatherWanted_9 (by decide) (fun c7 => ?_) (fun c7 => ?_)
      · replace c7 : 40 ≤ i1 := (nI_leI (a := 40) (b := i1) (by omega) (by omega)).mp c7
        replace hZ9 := ite_t hZ9 c7
        replace hZ9 := lp_app3 hK9_5 hZ9
        rw [hQ]
        exact W.vret hx hb hr (fun t ht hW => ⟨⟨L5, rfl, ⟨hX.mono (by omega), hUL, hZ9.symm.trans hR0⟩, by rw [ht]; exact hP, hD⟩, hS.F ht⟩) hS.2.2 dX1_gatherWanted_117
      · replace c7 : ¬ (40 ≤ i1) := fun q9 => c7 ((nI_leI (a := 40) (b := i1) (by omega) (by omega)).mpr q9)
        replace hZ9 := ite_f hZ9 c7
        refine lv_aload_n hx hb dX1_gatherWanted_12 rfl (lv_at hl 2 rfl) ?_
        refine va_get (D := (dC, dI)) (ci := 2) (v := .ref (a 1)) (C := RX1) (T := TX1) (N := 5) hx hb hts in_y_gatherWanted_X1 hown hK hP 13 rfl rfl 0 (by decide) (hts (.fieldLink RX1 9 "ServiceTree$Draft" "relations" "LServiceTree$Relations;") (by decide +kernel)) (fun _ h9 => h9) rfl dX1_gatherWanted_13 ?_
        refine lv_iconst (v := 1) hx hb dX1_gatherWanted_16 (by decide) ?_
        refine lv_aload_n hx hb dX1_gatherWanted_17 rfl (lv_at hl 2 rfl) ?_
        refine va_get (D := (dC, dI)) (ci := 2) (v := .long (L5 2)) (C := RX1) (T := TX1) (N := 5) hx hb hts in_y_gatherWanted_X1 hown hK hP 13 rfl rfl 1 (by decide) (hts (.fieldLink RX1 15 "ServiceTree$Draft" "members" "J") (by decide +kernel)) (fun _ h9 => h9) rfl dX1_gatherWanted_18 ?_
        refine lv_topl (fun x8 ex8 => ?_)
        replace hZ9 := bnd_s hZ9 ex8
        have hFc := mw_free hD hS hA
        refine va_calll (va_runV (As := [.int 1, .long x8]) (rest := []) ⟨hx, hb, hml, hown, hts⟩ (c_y_fromAny1 l dC dI h a e cI cJ cO cE L5 I M J n cap fE sd si sa dl (b) x8 H.size hX (by omega) ) (cwV 2 hts wc_y_gatherWanted_y_fromAny1_42 rfl rfl rfl (by decide +kernel) ⟨Nat.le_of_ble_eq_true rfl, Nat.le_of_ble_eq_true rfl⟩) ⟨fun a9 U g mk q => by obtain ⟨q0, q1, qP, qK, qD, qN⟩ := q; exact ⟨q0, q1, qP, va_K.moved (u := U) (U := U.calling g mk a9) (Vm.Alike.refl U.vm) qK, qD, pw_N.same (u := U) (U := U.calling g mk a9) rfl qN⟩, va_recv hK hP (ci := 6) (q0 := 2) rfl rfl, fun U hU hW => ⟨rfl, by rw [hU], by rw [hU]; exact hP, va_K.moved hW.alike hK, hD.weaken (fun _ _ _ _ => trivial), pw_N.warm hW hN⟩⟩ rfl rfl hl.1 rfl (lv_room (Nat.le_of_ble_eq_true rfl)) dX1_gatherWanted_21 ⟨Nat.le_of_ble_eq_true rfl, Nat.le_of_ble_eq_true rfl⟩) hS (fun q _ h => hFc q h) hFc (fun r9 u t H1 locs ht hvm hw hB hz1 hk1 hS => ?_)
        replace hP := hB.1
        rw [ht] at hP
        replace hD : va_D A (xW h a e cI cJ cO cE L5 I M J n cap fE sd si sa dl) := hB.2.weaken (fun _ q _ h9 => hFc q.1 h9)
        clear hB
        generalize H1 = H at hP hS ⊢
        replace hP : va_P (dC, dI) vwCl (xW h a e cI cJ cO cE L5 I M J n cap fE sd si sa dl) H := hP
        replace hw : r9 = f_y_fromAny1 n dl x8 M := hw
        replace hZ9 := bnd_s hZ9 hw
        refine lv_aload_n hx hb dX1_gatherWanted_24 rfl (lv_at hl 2 rfl) ?_
        refine va_get (D := (dC, dI)) (ci := 2) (v := .long (L5 2)) (C := RX1) (T := TX1) (N := 5) hx hb hts in_y_gatherWanted_X1 hown hK hP 13 rfl rfl 1 (by decide) (hts (.fieldLink RX1 15 "ServiceTree$Draft" "members" "J") (by decide +kernel)) (fun _ h9 => h9) rfl dX1_gatherWanted_25 ?_
        refine p1_topr (v := .long x8) (congrArg Value.long ex8.symm) ?_
        refine lv_ldc2 (v := (-1)) hx hb hown (hts (.constantLong RX1 32 (-1)) (by decide +kernel)) dX1_gatherWanted_28 ?_
        refine lv_lxor hx hb dX1_gatherWanted_31 ?_
        refine lv_topl (fun x10 ex10 => ?_)
        replace hZ9 := bnd_s hZ9 ex10
        refine lv_land hx hb dX1_gatherWanted_32 ?_
        refine lv_topl (fun x11 ex11 => ?_)
        replace hZ9 := bnd_s hZ9 ex11
        refine lv_lload_n hx hb dX1_gatherWanted_33 rfl (lv_at hl 1 rfl) ?_
        refine lv_ldc2 (v := (-1)) hx hb hown (hts (.constantLong RX1 32 (-1)) (by decide +kernel)) dX1_gatherWanted_34 ?_
        refine lv_lxor hx hb dX1_gatherWanted_37 ?_
        refine lv_topl (fun x12 ex12 => ?_)
        replace hZ9 := bnd_s hZ9 ex12
        refine lv_land hx hb dX1_gatherWanted_38 ?_
        refine lv_topl (fun x13 ex13 => ?_)
        replace hZ9 := bnd_s hZ9 ex13
        have hFc := mw_free hD hS hA
        refine va_calli (va_runS (As := [.long x13]) (rest := []) ⟨hx, hb, hml, hown, hts⟩ (c_y_least l dC dI h a e cI cJ cO cE L5 I M J n cap fE sd si sa dl (b) x13 H.size hX (by omega) ) (va_cwS 1 hts wc_y_gatherWanted_y_least_70 rfl rfl rfl (by decide +kernel) ⟨Nat.le_of_ble_eq_true rfl, Nat.le_of_ble_eq_true rfl⟩) ⟨fun a9 U g mk q => by obtain ⟨q0, q1, qP, qK, qD, qN⟩ := q; exact ⟨q0, q1, qP, va_K.moved (u := U) (U := U.calling g mk a9) (Vm.Alike.refl U.vm) qK, qD, pw_N.same (u := U) (U := U.calling g mk a9) rfl qN⟩, fun U hU hW => ⟨rfl, by rw [hU], by rw [hU]; exact hP, va_K.moved hW.alike hK, hD.weaken (fun _ _ _ _ => trivial), pw_N.warm hW hN⟩⟩ rfl rfl hl.1 rfl (lv_room (Nat.le_of_ble_eq_true rfl)) dX1_gatherWanted_39 ⟨Nat.le_of_ble_eq_true rfl, Nat.le_of_ble_eq_true rfl⟩) hS (fun q _ h => hFc q h) hFc (fun r14 u t H1 locs ht hvm hw hB hz1 hk1 hS => ?_)
        replace hP := hB.1
        rw [ht] at hP
        replace hD : va_D A (xW h a e cI cJ cO cE L5 I M J n cap fE sd si sa dl) := hB.2.weaken (fun _ q _ h9 => hFc q.1 h9)
        clear hB
        generalize H1 = H at hP hS ⊢
        replace hP : va_P (dC, dI) vwCl (xW h a e cI cJ cO cE L5 I M J n cap fE sd si sa dl) H := hP
        obtain ⟨hw, hwe⟩ := hw
        replace hw : r14 = f_y_least n dl x13  := hw
        replace hZ9 := bnd_s hZ9 hw
        have qr14 := hwe
        refine lv_istore (lv' := [(6, .int r14), (5, .int (nI i1)), (3, .long y6), (0, .ref (a 2)), (1, .long p0)]) hx hb dX1_gatherWanted_42 hl (by decide) rfl (fun ls hl => ?_)
        refine lv_iload hx hb dX1_gatherWanted_44 (lv_at hl 0 rfl) ?_
        refine lv_if_ge (tgt := 50) hx hb dX1_gatherWanted_46 (by decide) (fun c15 => ?_) (fun c15 => ?_)
        · replace hZ9 := ite_t hZ9 c15
          obtain ⟨j16, hj16, ej16⟩ : ∃ j9 : Nat, j9 < 40 ∧ r14 = nI j9 := qr14.resolve_left (fun q9 => absurd c15 (by rw [q9]; decide))
          replace hZ9 := bnd_s hZ9 (show j16 = r14.toNatClampNeg by rw [ej16, nI_clamp (by omega)])
          subst ej16
          refine lv_lload_n hx hb dX1_gatherWanted_50 rfl (lv_at hl 2 rfl) ?_
          refine lv_iload hx hb dX1_gatherWanted_51 (lv_at hl 0 rfl) ?_
          have hFc := mw_free hD hS hA
          refine va_calll (va_runSN (As := [.int (nI j16)]) (rest := [.long y6]) ⟨hx, hb, hml, hown, hts⟩ (c_y_only l dC dI h a e cI cJ cO cE L5 I M J n cap fE sd si sa dl (b) j16 H.size hX (by omega) ) ⟨va_cnB 1 hts wc_y_gatherWanted_y_only_19 rfl rfl rfl (hN (.methodLinkNest RX1 19 yX8_only "ServiceTree") (by decide +kernel)) (hts (.initialized RX8) (by decide +kernel)) (by decide +kernel) ⟨Nat.le_of_ble_eq_true rfl, Nat.le_of_ble_eq_true rfl⟩, hts (.static yX8_only) (by decide +kernel), trivial⟩ ⟨fun a9 U g mk q => by obtain ⟨q0, q1, qP, qK, qD, qN⟩ := q; exact ⟨q0, q1, qP, va_K.moved (u := U) (U := U.calling g mk a9) (Vm.Alike.refl U.vm) qK, qD, pw_N.same (u := U) (U := U.calling g mk a9) rfl qN⟩, fun U hU hW => ⟨rfl, by rw [hU], by rw [hU]; exact hP, va_K.moved hW.alike hK, hD.weaken (fun _ _ _ _ => trivial), pw_N.warm hW hN⟩⟩ rfl rfl hl.1 rfl (lv_room (Nat.le_of_ble_eq_true rfl)) dX1_gatherWanted_53 ⟨Nat.le_of_ble_eq_true rfl, Nat.le_of_ble_eq_true rfl⟩) hS (fun q _ h => hFc q h) hFc (fun r17 u t H1 locs ht hvm hw hB hz1 hk1 hS => ?_)
          replace hP := hB.1
          rw [ht] at hP
          replace hD : va_D A (xW h a e cI cJ cO cE L5 I M J n cap fE sd si sa dl) := hB.2.weaken (fun _ q _ h9 => hFc q.1 h9)
          clear hB
          generalize H1 = H at hP hS ⊢
          replace hP : va_P (dC, dI) vwCl (xW h a e cI cJ cO cE L5 I M J n cap fE sd si sa dl) H := hP
          replace hw : r17 = f_y_only n dl j16  := hw
          replace hZ9 := bnd_s hZ9 hw
          refine lv_lor hx hb dX1_gatherWanted_56 ?_
          refine lv_topl (fun x18 ex18 => ?_)
          replace hZ9 := bnd_s hZ9 ex18
          refine lv_lstore_n (lv' := [(3, .long x18), (6, .int (nI j16)), (5, .int (nI i1)), (0, .ref (a 2)), (1, .long p0)]) hx hb dX1_gatherWanted_57 rfl hl (by decide) rfl (fun ls hl => ?_)
          refine lv_aload_n hx hb dX1_gatherWanted_58 rfl (lv_at hl 3 rfl) ?_
          refine va_get (D := (dC, dI)) (ci := 2) (v := .long (L5 2)) (C := RX1) (T := TX1) (N := 5) hx hb hts in_y_gatherWanted_X1 hown hK hP 13 rfl rfl 1 (by decide) (hts (.fieldLink RX1 15 "ServiceTree$Draft" "members" "J") (by decide +kernel)) (fun _ h9 => h9) rfl dX1_gatherWanted_59 ?_
          refine p1_topr (v := .long x8) (congrArg Value.long ex8.symm) ?_
          refine lv_aload_n hx hb dX1_gatherWanted_62 rfl (lv_at hl 3 rfl) ?_
          refine va_get (D := (dC, dI)) (ci := 2) (v := .ref (a 1)) (C := RX1) (T := TX1) (N := 5) hx hb hts in_y_gatherWanted_X1 hown hK hP 13 rfl rfl 0 (by decide) (hts (.fieldLink RX1 9 "ServiceTree$Draft" "relations" "LServiceTree$Relations;") (by decide +kernel)) (fun _ h9 => h9) rfl dX1_gatherWanted_63 ?_
          refine lv_iload hx hb dX1_gatherWanted_66 (lv_at hl 1 rfl) ?_
          have hFc := mw_free hD hS hA
          refine va_calll (va_runSN (As := [.int (nI j16)]) (rest := [.ref (a 1), .long x8]) ⟨hx, hb, hml, hown, hts⟩ (c_y_only l dC dI h a e cI cJ cO cE L5 I M J n cap fE sd si sa dl (b) j16 H.size hX (by omega) ) ⟨va_cnB 1 hts wc_y_gatherWanted_y_only_19 rfl rfl rfl (hN (.methodLinkNest RX1 19 yX8_only "ServiceTree") (by decide +kernel)) (hts (.initialized RX8) (by decide +kernel)) (by decide +kernel) ⟨Nat.le_of_ble_eq_true rfl, Nat.le_of_ble_eq_true rfl⟩, hts (.static yX8_only) (by decide +kernel), trivial⟩ ⟨fun a9 U g mk q => by obtain ⟨q0, q1, qP, qK, qD, qN⟩ := q; exact ⟨q0, q1, qP, va_K.moved (u := U) (U := U.calling g mk a9) (Vm.Alike.refl U.vm) qK, qD, pw_N.same (u := U) (U := U.calling g mk a9) rfl qN⟩, fun U hU hW => ⟨rfl, by rw [hU], by rw [hU]; exact hP, va_K.moved hW.alike hK, hD.weaken (fun _ _ _ _ => trivial), pw_N.warm hW hN⟩⟩ rfl rfl hl.1 rfl (lv_room (Nat.le_of_ble_eq_true rfl)) dX1_gatherWanted_68 ⟨Nat.le_of_ble_eq_true rfl, Nat.le_of_ble_eq_true rfl⟩) hS (fun q _ h => hFc q h) hFc (fun r19 u t H1 locs ht hvm hw hB hz1 hk1 hS => ?_)
          replace hP := hB.1
          rw [ht] at hP
          replace hD : va_D A (xW h a e cI cJ cO cE L5 I M J n cap fE sd si sa dl) := hB.2.weaken (fun _ q _ h9 => hFc q.1 h9)
          clear hB
          generalize H1 = H at hP hS ⊢
          replace hP : va_P (dC, dI) vwCl (xW h a e cI cJ cO cE L5 I M J n cap fE sd si sa dl) H := hP
          replace hw : r19 = f_y_only n dl j16  := hw
          replace hZ9 := bnd_s hZ9 hw
          have hFc := mw_free hD hS hA
          refine va_calll (va_runV (As := [.long r19]) (rest := [.long x8]) ⟨hx, hb, hml, hown, hts⟩ (c_y_withNeeded l dC dI h a e cI cJ cO cE L5 I M J n cap fE sd si sa dl (b) r19 H.size hX (by omega) ) (cwV 1 hts wc_y_gatherWanted_y_withNeeded_62 rfl rfl rfl (by decide +kernel) ⟨Nat.le_of_ble_eq_true rfl, Nat.le_of_ble_eq_true rfl⟩) ⟨fun a9 U g mk q => by obtain ⟨q0, q1, qP, qK, qD, qN⟩ := q; exact ⟨q0, q1, qP, va_K.moved (u := U) (U := U.calling g mk a9) (Vm.Alike.refl U.vm) qK, qD, pw_N.same (u := U) (U := U.calling g mk a9) rfl qN⟩, va_recv hK hP (ci := 6) (q0 := 2) rfl rfl, fun U hU hW => ⟨rfl, by rw [hU], by rw [hU]; exact hP, va_K.moved hW.alike hK, hD.weaken (fun _ _ _ _ => trivial), pw_N.warm hW hN⟩⟩ rfl rfl hl.1 rfl (lv_room (Nat.le_of_ble_eq_true rfl)) dX1_gatherWanted_71 ⟨Nat.le_of_ble_eq_true rfl, Nat.le_of_ble_eq_true rfl⟩) hS (fun q _ h => hFc q h) hFc (fun r20 u t H1 locs ht hvm hw hB hz1 hk1 hS => ?_)
          replace hP := hB.1
          rw [ht] at hP
          replace hD : va_D A (xW h a e cI cJ cO cE L5 I M J n cap fE sd si sa dl) := hB.2.weaken (fun _ q _ h9 => hFc q.1 h9)
          clear hB
          generalize H1 = H at hP hS ⊢
          replace hP : va_P (dC, dI) vwCl (xW h a e cI cJ cO cE L5 I M J n cap fE sd si sa dl) H := hP
          replace hw : r20 = f_y_withNeeded n dl r19 M := hw
          replace hZ9 := bnd_s hZ9 hw
          refine lv_lor hx hb dX1_gatherWanted_74 ?_
          refine lv_topl (fun x21 ex21 => ?_)
          replace hZ9 := bnd_s hZ9 ex21
          refine lv_lstore (lv' := [(7, .long x21), (3, .long x18), (6, .int (nI j16)), (5, .int (nI i1)), (0, .ref (a 2)), (1, .long p0)]) hx hb dX1_gatherWanted_75 hl (by decide) rfl (fun ls hl => ?_)
          refine lv_aload_n hx hb dX1_gatherWanted_77 rfl (lv_at hl 4 rfl) ?_
          refine va_get (D := (dC, dI)) (ci := 2) (v := .ref (a 1)) (C := RX1) (T := TX1) (N := 5) hx hb hts in_y_gatherWanted_X1 hown hK hP 13 rfl rfl 0 (by decide) (hts (.fieldLink RX1 9 "ServiceTree$Draft" "relations" "LServiceTree$Relations;") (by decide +kernel)) (fun _ h9 => h9) rfl dX1_gatherWanted_78 ?_
          refine lv_lload hx hb dX1_gatherWanted_81 (lv_at hl 0 rfl) ?_
          have hFc := mw_free hD hS hA
          refine va_calli (va_runV (As := [.long x21]) (rest := []) ⟨hx, hb, hml, hown, hts⟩ (c_y_clash l dC dI h a e cI cJ cO cE L5 I M J n cap fE sd si sa dl (b) x21 H.size hX (by omega) ) (cwV 1 hts wc_y_gatherWanted_y_clash_66 rfl rfl rfl (by decide +kernel) ⟨Nat.le_of_ble_eq_true rfl, Nat.le_of_ble_eq_true rfl⟩) ⟨fun a9 U g mk q => by obtain ⟨q0, q1, qP, qK, qD, qN⟩ := q; exact ⟨q0, q1, qP, va_K.moved (u := U) (U := U.calling g mk a9) (Vm.Alike.refl U.vm) qK, qD, pw_N.same (u := U) (U := U.calling g mk a9) rfl qN⟩, va_recv hK hP (ci := 6) (q0 := 2) rfl rfl, fun U hU hW => ⟨rfl, by rw [hU], by rw [hU]; exact hP, va_K.moved hW.alike hK, hD.weaken (fun _ _ _ _ => trivial), pw_N.warm hW hN⟩⟩ rfl rfl hl.1 rfl (lv_room (Nat.le_of_ble_eq_true rfl)) dX1_gatherWanted_83 ⟨Nat.le_of_ble_eq_true rfl, Nat.le_of_ble_eq_true rfl⟩) hS (fun q _ h => hFc q h) hFc (fun r22 u t H1 locs ht hvm hw hB hz1 hk1 hS => ?_)
          replace hP := hB.1
          rw [ht] at hP
          replace hD : va_D A (xW h a e cI cJ cO cE L5 I M J n cap fE sd si sa dl) := hB.2.weaken (fun _ q _ h9 => hFc q.1 h9)
          clear hB
          generalize H1 = H at hP hS ⊢
          replace hP : va_P (dC, dI) vwCl (xW h a e cI cJ cO cE L5 I M J n cap fE sd si sa dl) H := hP
          obtain ⟨hw, hwe⟩ := hw
          replace hw : r22 = f_y_clash n dl x21 M := hw
          replace hZ9 := bnd_s hZ9 hw
          have br22 := hwe
          refine lv_if_ne (tgt := 111) hx hb dX1_gatherWanted_86 (by decide) (fun c23 => ?_) (fun c23 => ?_)
          · replace hZ9 := ite_f hZ9 c23
            refine lv_iinc (v := (nI (i1 + 1))) (lv' := [(5, .int (nI (i1 + 1))), (7, .long x21), (3, .long x18), (6, .int (nI j16)), (0, .ref (a 2)), (1, .long p0)]) hx hb dX1_gatherWanted_111 hl (k := 3) rfl (nI_add i1 1) (by decide) rfl (fun ls hl => ?_)
            refine lv_goto (tgt := 5) hx hb dX1_gatherWanted_114 (by decide) ?_
            exact ih3 (i1 + 1) x18 L5 _ _ _ (by omega) (by omega) (hX.mono (by omega)) hUL  hZ9 hP hD hS (lv_sub hl [0, 2, 4, 5] rfl)
          · replace hZ9 := ite_t hZ9 c23
            refine lv_aload_n hx hb dX1_gatherWanted_89 rfl (lv_at hl 4 rfl) ?_
            refine va_get (D := (dC, dI)) (ci := 2) (v := .ref (a 1)) (C := RX1) (T := TX1) (N := 5) hx hb hts in_y_gatherWanted_X1 hown hK hP 13 rfl rfl 0 (by decide) (hts (.fieldLink RX1 9 "ServiceTree$Draft" "relations" "LServiceTree$Relations;") (by decide +kernel)) (fun _ h9 => h9) rfl dX1_gatherWanted_90 ?_
            refine lv_lload hx hb dX1_gatherWanted_93 (lv_at hl 0 rfl) ?_
            refine lv_lload_n hx hb dX1_gatherWanted_95 rfl (lv_at hl 5 rfl) ?_
            refine lv_land hx hb dX1_gatherWanted_96 ?_
            refine lv_topl (fun x24 ex24 => ?_)
            replace hZ9 := bnd_s hZ9 ex24
            have hFc := mw_free hD hS hA
            refine va_calll (va_runV (As := [.long x24]) (rest := []) ⟨hx, hb, hml, hown, hts⟩ (c_y_tangled l dC dI h a e cI cJ cO cE L5 I M J n cap fE sd si sa dl (b) x24 H.size hX (by omega) ) (cwV 1 hts wc_y_gatherWanted_y_tangled_73 rfl rfl rfl (by decide +kernel) ⟨Nat.le_of_ble_eq_true rfl, Nat.le_of_ble_eq_true rfl⟩) ⟨fun a9 U g mk q => by obtain ⟨q0, q1, qP, qK, qD, qN⟩ := q; exact ⟨q0, q1, qP, va_K.moved (u := U) (U := U.calling g mk a9) (Vm.Alike.refl U.vm) qK, qD, pw_N.same (u := U) (U := U.calling g mk a9) rfl qN⟩, va_recv hK hP (ci := 6) (q0 := 2) rfl rfl, fun U hU hW => ⟨rfl, by rw [hU], by rw [hU]; exact hP, va_K.moved hW.alike hK, hD.weaken (fun _ _ _ _ => trivial), pw_N.warm hW hN⟩⟩ rfl rfl hl.1 rfl (lv_room (Nat.le_of_ble_eq_true rfl)) dX1_gatherWanted_97 ⟨Nat.le_of_ble_eq_true rfl, Nat.le_of_ble_eq_true rfl⟩) hS (fun q _ h => hFc q h) hFc (fun r25 u t H1 locs ht hvm hw hB hz1 hk1 hS => ?_)
            replace hP := hB.1
            rw [ht] at hP
            replace hD : va_D A (xW h a e cI cJ cO cE L5 I M J n cap fE sd si sa dl) := hB.2.weaken (fun _ q _ h9 => hFc q.1 h9)
            clear hB
            generalize H1 = H at hP hS ⊢
            replace hP : va_P (dC, dI) vwCl (xW h a e cI cJ cO cE L5 I M J n cap fE sd si sa dl) H := hP
            replace hw : r25 = f_y_tangled n dl x24 M := hw
            replace hZ9 := bnd_s hZ9 hw
            refine lv_lconst (v := 0) hx hb dX1_gatherWanted_100 (by decide) ?_
            refine W.lcmp hx hb dX1_gatherWanted_101 ?_
            refine lv_topi (fun x26 ex26 => ?_)
            replace hZ9 := bnd_s hZ9 ex26
            refine lv_if_ne (tgt := 111) hx hb dX1_gatherWanted_102 (by decide) (fun c27 => ?_) (fun c27 => ?_)
            · replace hZ9 := ite_f hZ9 c27
              refine lv_iinc (v := (nI (i1 + 1))) (lv' := [(5, .int (nI (i1 + 1))), (7, .long x21), (3, .long x18), (6, .int (nI j16)), (0, .ref (a 2)), (1, .long p0)]) hx hb dX1_gatherWanted_111 hl (k := 3) rfl (nI_add i1 1) (by decide) rfl (fun ls hl => ?_)
              refine lv_goto (tgt := 5) hx hb dX1_gatherWanted_114 (by decide) ?_
              exact ih3 (i1 + 1) x18 L5 _ _ _ (by omega) (by omega) (hX.mono (by omega)) hUL  hZ9 hP hD hS (lv_sub hl [0, 2, 4, 5] rfl)
            · replace hZ9 := ite_t hZ9 c27
              refine lv_aload_n hx hb dX1_gatherWanted_105 rfl (lv_at hl 4 rfl) ?_
              refine lv_lload hx hb dX1_gatherWanted_106 (lv_at hl 0 rfl) ?_
              refine va_put (D := (dC, dI)) (ci := 2) (fs := [.ref (a 1), .long (L5 2), .long (L5 3), .long (L5 4), .int (I 8)]) (v := .long x21) (ty := .long) (C := RX1) (T := TX1) (N := 5) hx hb hts in_y_gatherWanted_X1 tyX1 tyX1_ok nmX1 hown hK hP hD hS 13 rfl rfl 1 (by decide) (hts (.fieldLink RX1 15 "ServiceTree$Draft" "members" "J") (by decide +kernel)) (fun _ h9 => h9) rfl (by decide +kernel) rfl rfl (Nat.le_of_ble_eq_true rfl) dX1_gatherWanted_108 (fun H locs hP hD hS => ?_)
              replace hP : va_P (dC, dI) vwCl ((xW h a e cI cJ cO cE L5 I M J n cap fE sd si sa dl).set 13 (a 2, .inr (2, [.ref (a 1), .long x21, .long (L5 3), .long (L5 4), .int (I 8)]))) H := hP
              replace hD : va_D A ((xW h a e cI cJ cO cE L5 I M J n cap fE sd si sa dl).set 13 (a 2, .inr (2, [.ref (a 1), .long x21, .long (L5 3), .long (L5 4), .int (I 8)]))) := hD
              rw [xF_L2] at hP hD
              obtain ⟨L28, eL28⟩ : ∃ f9 : Nat → Int64, f9 = va_up L5 2 x21 := ⟨_, rfl⟩
              rw [← eL28] at hP hD
              replace hZ9 := bnd_s hZ9 eL28
              replace hUL : ∀ j9 : Nat, j9 ∉ ([2] : List Nat) → L28 j9 = L j9 := by rw [eL28]; exact mw_up (by decide) hUL
              refine lv_iinc (v := (nI (i1 + 1))) (lv' := [(5, .int (nI (i1 + 1))), (7, .long x21), (3, .long x18), (6, .int (nI j16)), (0, .ref (a 2)), (1, .long p0)]) hx hb dX1_gatherWanted_111 hl (k := 3) rfl (nI_add i1 1) (by decide) rfl (fun ls hl => ?_)
              refine lv_goto (tgt := 5) hx hb dX1_gatherWanted_114 (by decide) ?_
              exact ih3 (i1 + 1) x18 L28 _ _ _ (by omega) (by omega) (hX.mono (by omega)) hUL  hZ9 hP hD hS (lv_sub hl [0, 2, 4, 5] rfl)
        · replace hZ9 := ite_f hZ9 c15
          rw [hQ]
          exact W.vret hx hb hr (fun t ht hW => ⟨⟨L5, rfl, ⟨hX.mono (by omega), hUL, hZ9.symm.trans hR0⟩, by rw [ht]; exact hP, hD⟩, hS.F ht⟩) hS.2.2 dX1_gatherWanted_49
  exact lp4 (40 + 1) 0 0 L _ _ _ (by omega) (by omega) (hX.mono (by omega)) hUL  hZ9 hP hD hS hl
def f_y_weigh (n : Nat) (dl : Nat → Nat) (p0 : Int32) (xv : Nat) (p2 : Int64) (p3 : Int64) (L : Nat → Int64) (I : Nat → Int32) (M : Nat → Nat → Int64) : Int32 × (Nat → Int64) × (Nat → Int32) := bnd (p2 ||| p3) (fun (x1 : Int64) => bnd (va_up L 2 0) (fun (L2 : Nat → Int64) => if p0 = (1 : Int32) then (bnd (f_y_only n dl xv ) (fun (r46 : Int64) => bnd (f_y_withNeeders n dl r46 x1 M) (fun (r47 : Int64) => bnd (r47 &&& x1) (fun (x48 : Int64) => bnd (va_up L2 4 x48) (fun (L49 : Nat → Int64) => bnd (p2 ^^^ (-1 : Int64)) (fun (x50 : Int64) => bnd ((0 : Int64) &&& x50) (fun (x51 : Int64) => bnd (va_up L49 3 x51) (fun (L52 : Nat → Int64) => bnd (f_y_shortestRing n dl x48 M) (fun (r53 : Int32) => bnd (va_up I 8 r53) (fun (I54 : Nat → Int32) => if r53 ≤ (0 : Int32) then (bnd (x51 ||| x48) (fun (x56 : Int64) => bnd (f_y_bitCount n dl x56 ) (fun (r57 : Int32) => (r57, L52, I54)))) else (((-5 : Int32), L52, I54)))))))))))) else (bnd (p2 ^^^ (-1 : Int64)) (fun (x4 : Int64) => bn3 (f_y_gatherNeeded n dl xv x4 L2 I M) (fun (r5 : Int32) (L6 : Nat → Int64) (I7 : Nat → Int32) => if (0 : Int32) ≤ r5 then (bnd (p2 ^^^ (-1 : Int64)) (fun (x9 : Int64) => bnd (f_y_gatherWanted n dl x9 L6 M) (fun (L11 : Nat → Int64) => bnd (L11 2) (fun (x12 : Int64) => bnd (f_y_fromAny3 n dl x12 M) (fun (r13 : Int64) => if p0 = (2 : Int32) then (bnd (x12 ^^^ (-1 : Int64)) (fun (x30 : Int64) => bnd (r13 ||| x30) (fun (x31 : Int64) => bnd (x31 &&& x1) (fun (x32 : Int64) => bnd (f_y_withNeeders n dl x32 x1 M) (fun (r33 : Int64) => bnd (va_up L11 4 r33) (fun (L34 : Nat → Int64) => bnd (r33 &&& x12) (fun (x35 : Int64) => bnd (lg_cmp x35 (0 : Int64)) (fun (x36 : Int32) => if x36 = (0 : Int32) then (bnd (p2 ^^^ (-1 : Int64)) (fun (x38 : Int64) => bnd (x12 &&& x38) (fun (x39 : Int64) => bnd (va_up L34 3 x39) (fun (L40 : Nat → Int64) => bnd (f_y_shortestRing n dl r33 M) (fun (r41 : Int32) => bnd (va_up I7 8 r41) (fun (I42 : Nat → Int32) => if r41 ≤ (0 : Int32) then (bnd (x39 ||| r33) (fun (x44 : Int64) => bnd (f_y_bitCount n dl x44 ) (fun (r45 : Int32) => (r45, L40, I42)))) else (((-5 : Int32), L40, I42)))))))) else (((-4 : Int32), L34, I7)))))))))) else (bnd (r13 ||| (0 : Int64)) (fun (x15 : Int64) => bnd (x15 &&& x1) (fun (x16 : Int64) => bnd (f_y_withNeeders n dl x16 x1 M) (fun (r17 : Int64) => bnd (va_up L11 4 r17) (fun (L18 : Nat → Int64) => bnd (r17 &&& x12) (fun (x19 : Int64) => bnd (lg_cmp x19 (0 : Int64)) (fun (x20 : Int32) => if x20 = (0 : Int32) then (bnd (p2 ^^^ (-1 : Int64)) (fun (x22 : Int64) => bnd (x12 &&& x22) (fun (x23 : Int64) => bnd (va_up L18 3 x23) (fun (L24 : Nat → Int64) => bnd (f_y_shortestRing n dl r17 M) (fun (r25 : Int32) => bnd (va_up I7 8 r25) (fun (I26 : Nat → Int32) => if r25 ≤ (0 : Int32) then (bnd (x23 ||| r17) (fun (x28 : Int64) => bnd (f_y_bitCount n dl x28 ) (fun (r29 : Int32) => (r29, L24, I26)))) else (((-5 : Int32), L24, I26)))))))) else (((-4 : Int32), L18, I7)))))))))))))) else ((r5, L6, I7)))))))
def wq_y_weigh : List Cond := ([.code yX1_weigh cX1_weigh 12 (some .int), .fieldLink RX1 15 "ServiceTree$Draft" "members" "J", .constantLong RX1 32 (-1), .fieldLink RX1 9 "ServiceTree$Draft" "relations" "LServiceTree$Relations;", .fieldLink RX1 29 "ServiceTree$Draft" "stops" "J", .fieldLink RX1 46 "ServiceTree$Draft" "starts" "J", .fieldLink RX1 53 "ServiceTree$Draft" "ringSize" "I", .initialized RX8, .static yX8_only, .methodLink RX1 34 yX1_gatherNeeded, .instanceMethod yX1_gatherNeeded, .selects RX1 yX1_gatherNeeded yX1_gatherNeeded, .initialized RX1, .methodLink RX1 38 yX1_gatherWanted, .instanceMethod yX1_gatherWanted, .selects RX1 yX1_gatherWanted yX1_gatherWanted, .methodLink RX1 42 yX5_fromAny, .instanceMethod yX5_fromAny, .selects RX5 yX5_fromAny yX5_fromAny, .initialized RX5, .methodLink RX1 23 yX5_withNeeders, .instanceMethod yX5_withNeeders, .selects RX5 yX5_withNeeders yX5_withNeeders, .methodLink RX1 49 yX5_shortestRing, .instanceMethod yX5_shortestRing, .selects RX5 yX5_shortestRing yX5_shortestRing, .methodLink RX1 57 yJ13_bitCount_95d88, .static yJ13_bitCount_95d88, .initialized RJ13] : List Cond) ++ (wsX10 ++ (wq_y_gatherNeeded ++ (wq_y_gatherWanted ++ (wq_y_fromAny3 ++ (wq_y_withNeeders ++ (wq_y_shortestRing ++ (wq_y_bitCount ++ (wq_y_only))))))))
theorem in_y_weigh_X1 : ∀ w ∈ wsX10, w ∈ wq_y_weigh := fun _ h => List.mem_append_right _ (List.mem_append_left _ (h))
set_option maxRecDepth 20000 in
theorem wi_y_weigh : ∀ w ∈ wq_y_weigh, w ∈ lw_tbl := List.forall_mem_append.mpr ⟨(wix [528, 141, 537, 140, 144, 142, 146, 60, 443, 538, 540, 8, 65, 566, 568, 11, 570, 571, 572, 64, 530, 531, 532, 550, 551, 552, 579, 580, 79] rfl), List.forall_mem_append.mpr ⟨inKX1, List.forall_mem_append.mpr ⟨wi_y_gatherNeeded, List.forall_mem_append.mpr ⟨wi_y_gatherWanted, List.forall_mem_append.mpr ⟨wi_y_fromAny3, List.forall_mem_append.mpr ⟨wi_y_withNeeders, List.forall_mem_append.mpr ⟨wi_y_shortestRing, List.forall_mem_append.mpr ⟨wi_y_bitCount, wi_y_only⟩⟩⟩⟩⟩⟩⟩⟩
set_option maxRecDepth 20000 in
theorem wg_y_weigh : GoodIn wq_y_weigh wq_y_weigh := goodIn_sub (fun _ h => h) (by decide +kernel)
set_option maxRecDepth 20000 in
theorem wc_y_weigh_y_gatherNeeded_34 : GoodIn wq_y_weigh (wsV RX1 34 RX1 yX1_gatherNeeded wq_y_gatherNeeded) := goodIn_app (goodIn_of _ (by decide +kernel)) (fun w h => ⟨List.mem_append_right _ (List.mem_append_right _ (List.mem_append_left _ (h))), (wg_y_gatherNeeded w h).2⟩)
set_option maxRecDepth 20000 in
theorem wc_y_weigh_y_gatherWanted_38 : GoodIn wq_y_weigh (wsV RX1 38 RX1 yX1_gatherWanted wq_y_gatherWanted) := goodIn_app (goodIn_of _ (by decide +kernel)) (fun w h => ⟨List.mem_append_right _ (List.mem_append_right _ (List.mem_append_right _ (List.mem_append_left _ (h)))), (wg_y_gatherWanted w h).2⟩)
set_option maxRecDepth 20000 in
theorem wc_y_weigh_y_fromAny3_42 : GoodIn wq_y_weigh (wsV RX1 42 RX5 yX5_fromAny wq_y_fromAny3) := goodIn_app (goodIn_of _ (by decide +kernel)) (fun w h => ⟨List.mem_append_right _ (List.mem_append_right _ (List.mem_append_right _ (List.mem_append_right _ (List.mem_append_left _ (h))))), (wg_y_fromAny3 w h).2⟩)
set_option maxRecDepth 20000 in
theorem wc_y_weigh_y_withNeeders_23 : GoodIn wq_y_weigh (wsV RX1 23 RX5 yX5_withNeeders wq_y_withNeeders) := goodIn_app (goodIn_of _ (by decide +kernel)) (fun w h => ⟨List.mem_append_right _ (List.mem_append_right _ (List.mem_append_right _ (List.mem_append_right _ (List.mem_append_right _ (List.mem_append_left _ (h)))))), (wg_y_withNeeders w h).2⟩)
set_option maxRecDepth 20000 in
theorem wc_y_weigh_y_shortestRing_49 : GoodIn wq_y_weigh (wsV RX1 49 RX5 yX5_shortestRing wq_y_shortestRing) := goodIn_app (goodIn_of _ (by decide +kernel)) (fun w h => ⟨List.mem_append_right _ (List.mem_append_right _ (List.mem_append_right _ (List.mem_append_right _ (List.mem_append_right _ (List.mem_append_right _ (List.mem_append_left _ (h))))))), (wg_y_shortestRing w h).2⟩)
set_option maxRecDepth 20000 in
theorem wc_y_weigh_y_bitCount_57 : GoodIn wq_y_weigh (va_wsS RX1 57 yJ13_bitCount_95d88 wq_y_bitCount) := goodIn_app (goodIn_of _ (by decide +kernel)) (fun w h => ⟨List.mem_append_right _ (List.mem_append_right _ (List.mem_append_right _ (List.mem_append_right _ (List.mem_append_right _ (List.mem_append_right _ (List.mem_append_right _ (List.mem_append_left _ (h)))))))), (wg_y_bitCount w h).2⟩)
theorem wc_y_weigh_y_only_19 : GoodIn wq_y_weigh wq_y_only := (fun w h => ⟨List.mem_append_right _ (List.mem_append_right _ (List.mem_append_right _ (List.mem_append_right _ (List.mem_append_right _ (List.mem_append_right _ (List.mem_append_right _ (List.mem_append_right _ (h)))))))), (wg_y_only w h).2⟩)
def rm_y_weigh : Room := { frames := 5, cells := 0, slots := 0, locals := 127 }
set_option maxHeartbeats 4000000 in
set_option maxRecDepth 100000 in
theorem c_y_weigh (l : Launch) (dC : Nat → ClassId) (dI : Nat → Nat → Nat) (h : Nat) (a : Nat → Nat) (e : Nat) (cI cJ cO cE : ClassId) (L : Nat → Int64) (I : Nat → Int32) (M : Nat → Nat → Int64) (J : Nat → Nat → Int32) (n cap : Nat) (fE : Nat → Option Nat) (sd : Nat → Nat → Nat) (si : Nat → Nat → Int32) (sa : Nat → Nat → Nat → Int32) (dl : Nat → Nat) (b : Nat) (p0 : Int32) (xv : Nat) (p2 : Int64) (p3 : Int64) (sz : Nat) (hX0 : InvX n cap fE sd dl b I J si) (hb0 : b + 0 < 2147483648)  : Met l yX1_weigh wq_y_weigh rm_y_weigh (va_Pc [.ref (a 2), .int p0, .int (nI xv), .long p2, .long p3] (fun U => U.heap.size = sz ∧ va_P (dC, dI) vwCl (xW h a e cI cJ cO cE L I M J n cap fE sd si sa dl) U.heap ∧ va_K (dC, dI) vwCl (xT cI cJ cO cE) U ∧ va_D (fun _ => True) (xW h a e cI cJ cO cE L I M J n cap fE sd si sa dl) ∧ pw_N U)) (va_Qi (fun (r : Int32) (u : (Nat → Int64) × (Nat → Int32)) => InvX n cap fE sd dl (b + 0) u.2 J si ∧ (∀ j9 : Nat, j9 ∉ ([2, 3, 4] : List Nat) → u.1 j9 = L j9) ∧ (∀ j9 : Nat, j9 ∉ ([8] : List Nat) → u.2 j9 = I j9) ∧ ((r, u) = f_y_weigh n dl p0 xv p2 p3 L I M)) (fun (u : (Nat → Int64) × (Nat → Int32)) (t : State) => va_P (dC, dI) vwCl (xW h a e cI cJ cO cE u.1 u.2 M J n cap fE sd si sa dl) t.heap ∧ va_D (va_A (xW h a e cI cJ cO cE L I M J n cap fE sd si sa dl) sz) (xW h a e cI cJ cO cE u.1 u.2 M J n cap fE sd si sa dl)) (va_A (xW h a e cI cJ cO cE L I M J n cap fE sd si sa dl) sz)) 0 0 (va_A (xW h a e cI cJ cO cE L I M J n cap fE sd si sa dl) sz) := by
  have hn : n ≤ 40 := hX0.1.1
  have hX := hX0
  have hUL : ∀ j9 : Nat, j9 ∉ ([2, 3, 4] : List Nat) → L j9 = L j9 := fun _ _ => rfl
  have hUI : ∀ j9 : Nat, j9 ∉ ([8] : List Nat) → I j9 = I j9 := fun _ _ => rfl
  refine Met.ofW (cc := cX1_weigh) (maxL := 12) (ret := (some .int)) (by decide) rfl ?_
  intro p e9 s m args below meth c s₁ B hml hv
  obtain ⟨rfl, hsz, hP, hK, hD0, hN⟩ := hv
  have hx := B.exec
  have hb := B.bytes
  have hr := B.returns
  have hts := atoms_spec (ws := wq_y_weigh) B.pre
  have hown : s.vm.findClass RX1 = some m.cls := findClass_of_methodNamed B.named
  have hlocks := B.notSynchronized
  subst hsz
  have hD := hD0.self (sz := s.heap.size)
  generalize hAe : va_A (xW h a e cI cJ cO cE L I M J n cap fE sd si sa dl) s.heap.size = A at hD ⊢
  have hA : ∀ q : Nat, s.heap.size ≤ q → A q := fun q h => by rw [← hAe]; exact Or.inr h
  have hS : va_S A s.heap s.heap [] := va_S.rf
  have hl := lv_entry ([.ref (a 2), .int p0, .int (nI xv), .long p2, .long p3]) (n := 12) (Nat.le_of_ble_eq_true rfl)
  rw [lg_entry_eq]
  generalize (lg_sl ([.ref (a 2), .int p0, .int (nI xv), .long p2, .long p3]) ++ List.replicate (12 - (lg_sl ([.ref (a 2), .int p0, .int (nI xv), .long p2, .long p3])).length) Slot.unset).toArray = ls at hl ⊢
  have hl : lv_has ls 12 [(0, .ref (a 2)), (1, .int p0), (2, .int (nI xv)), (3, .long p2), (5, .long p3)] := hl
  obtain ⟨RES, hR0⟩ : ∃ R9, R9 = f_y_weigh n dl p0 xv p2 p3 L I M := ⟨_, rfl⟩
  have hZ9 := hR0
  unfold f_y_weigh at hZ9
  refine lv_lload_n hx hb dX1_weigh_0 rfl (lv_at hl 3 rfl) ?_
  refine lv_lload hx hb dX1_weigh_1 (lv_at hl 4 rfl) ?_
  refine lv_lor hx hb dX1_weigh_3 ?_
  refine lv_topl (fun x1 ex1 => ?_)
  replace hZ9 := bnd_s hZ9 ex1
  refine lv_lstore (lv' := [(7, .long x1), (0, .ref (a 2)), (1, .int p0), (2, .int (nI xv)), (3, .long p2), (5, .long p3)]) hx hb dX1_weigh_4 hl (by decide) rfl (fun ls hl => ?_)
  refine lv_aload_n hx hb dX1_weigh_6 rfl (lv_at hl 1 rfl) ?_
  refine lv_lconst (v := 0) hx hb dX1_weigh_7 (by decide) ?_
  refine va_put (D := (dC, dI)) (ci := 2) (fs := [.ref (a 1), .long (L 2), .long (L 3), .long (L 4), .int (I 8)]) (v := .long 0) (ty := .long) (C := RX1) (T := TX1) (N := 5) hx hb hts in_y_weigh_X1 tyX1 tyX1_ok nmX1 hown hK hP hD hS 13 rfl rfl 1 (by decide) (hts (.fieldLink RX1 15 "ServiceTree$Draft" "members" "J") (by decide +kernel)) (fun _ h9 => h9) rfl (by decide +kernel) rfl rfl (Nat.le_of_ble_eq_true rfl) dX1_weigh_8 (fun H locs hP hD hS => ?_)
  replace hP : va_P (dC, dI) vwCl ((xW h a e cI cJ cO cE L I M J n cap fE sd si sa dl).set 13 (a 2, .inr (2, [.ref (a 1), .long 0, .long (L 3), .long (L 4), .int (I 8)]))) H := hP
  replace hD : va_D A ((xW h a e cI cJ cO cE L I M J n cap fE sd si sa dl).set 13 (a 2, .inr (2, [.ref (a 1), .long 0, .long (L 3), .long (L 4), .int (I 8)]))) := hD
  rw [xF_L2] at hP hD
  obtain ⟨L2, eL2⟩ : ∃ f9 : Nat → Int64, f9 = va_up L 2 0 := ⟨_, rfl⟩
  rw [← eL2] at hP hD
  replace hZ9 := bnd_s hZ9 eL2
  replace hUL : ∀ j9 : Nat, j9 ∉ ([2, 3, 4] : List Nat) → L2 j9 = L j9 := by rw [eL2]; exact mw_up (by decide) hUL
  refine lv_iload_n hx hb dX1_weigh_11 rfl (lv_at hl 2 rfl) ?_
  refine lv_iconst (v := 1) hx hb dX1_weigh_12 (by decide) ?_
  refine lv_icmp_ne (tgt := 39) hx hb dX1_weigh_13 (by decide) (fun c3 => ?_) (fun c3 => ?_)
  · replace hZ9 := ite_f hZ9 c3
    refine lv_aload_n hx hb dX1_weigh_39 rfl (lv_at hl 1 rfl) ?_
    refine lv_iload_n hx hb dX1_weigh_40 rfl (lv_at hl 3 rfl) ?_
    refine lv_lload_n hx hb dX1_weigh_41 rfl (lv_at hl 4 rfl) ?_
    refine lv_ldc2 (v := (-1)) hx hb hown (hts (.constantLong RX1 32 (-1)) (by decide +kernel)) dX1_weigh_42 ?_
    refine lv_lxor hx hb dX1_weigh_45 ?_
    refine lv_topl (fun x4 ex4 => ?_)
    replace hZ9 := bnd_s hZ9 ex4
    have hFc := mw_free hD hS hA
    refine va_calli (va_runV (As := [.int (nI xv), .long x4]) (rest := []) ⟨hx, hb, hml, hown, hts⟩ (c_y_gatherNeeded l dC dI h a e cI cJ cO cE L2 I M J n cap fE sd si sa dl (b) xv x4 H.size hX (by omega) ) (cwV 2 hts wc_y_weigh_y_gatherNeeded_34 rfl rfl rfl (by decide +kernel) ⟨Nat.le_of_ble_eq_true rfl, Nat.le_of_ble_eq_true rfl⟩) ⟨fun a9 U g mk q => by obtain ⟨q0, q1, qP, qK, qD, qN⟩ := q; exact ⟨q0, q1, qP, va_K.moved (u := U) (U := U.calling g mk a9) (Vm.Alike.refl U.vm) qK, qD, pw_N.same (u := U) (U := U.calling g mk a9) rfl qN⟩, va_recv hK hP (ci := 2) (q0 := 13) rfl rfl, fun U hU hW => ⟨rfl, by rw [hU], by rw [hU]; exact hP, va_K.moved hW.alike hK, hD.weaken (fun _ _ _ _ => trivial), pw_N.warm hW hN⟩⟩ rfl rfl hl.1 rfl (lv_room (Nat.le_of_ble_eq_true rfl)) dX1_weigh_46 ⟨Nat.le_of_ble_eq_true rfl, Nat.le_of_ble_eq_true rfl⟩) hS (fun q _ h => hFc q h) hFc (fun r5 u t H1 locs ht hvm hw hB hz1 hk1 hS => ?_)
    obtain ⟨L6, I7⟩ := u
    replace hP := hB.1
    rw [ht] at hP
    replace hD : va_D A (xW h a e cI cJ cO cE L6 I7 M J n cap fE sd si sa dl) := hB.2.weaken (fun _ q _ h9 => hFc q.1 h9)
    clear hB
    generalize H1 = H at hP hS ⊢
    replace hP : va_P (dC, dI) vwCl (xW h a e cI cJ cO cE L6 I7 M J n cap fE sd si sa dl) H := hP
    obtain ⟨hwX, whUL, whUI, hw⟩ := hw
    replace hX : InvX n cap fE sd dl (b) I7 J si := hwX
    replace hUL : ∀ j9 : Nat, j9 ∉ ([2, 3, 4] : List Nat) → L6 j9 = L j9 := mw_tr (by decide) whUL hUL
    replace hUI : ∀ j9 : Nat, j9 ∉ ([8] : List Nat) → I7 j9 = I j9 := mw_tr (by decide) whUI hUI
    replace hw : (r5, L6, I7) = f_y_gatherNeeded n dl xv x4 L2 I M := hw
    replace hZ9 := bn3_s hZ9 hw
    refine lv_istore (lv' := [(9, .int r5), (7, .long x1), (0, .ref (a 2)), (1, .int p0), (2, .int (nI xv)), (3, .long p2), (5, .long p3)]) hx hb dX1_weigh_49 hl (by decide) rfl (fun ls hl => ?_)
    refine lv_iload hx hb dX1_weigh_51 (lv_at hl 0 rfl) ?_
    refine lv_if_ge (tgt := 59) hx hb dX1_weigh_53 (by decide) (fun c8 => ?_) (fun c8 => ?_)
    · replace hZ9 := ite_t hZ9 c8
      refine lv_aload_n hx hb dX1_weigh_59 rfl (lv_at hl 2 rfl) ?_
      refine lv_lload_n hx hb dX1_weigh_60 rfl (lv_at hl 5 rfl) ?_
      refine lv_ldc2 (v := (-1)) hx hb hown (hts (.constantLong RX1 32 (-1)) (by decide +kernel)) dX1_weigh_61 ?_
      refine lv_lxor hx hb dX1_weigh_64 ?_
      refine lv_topl (fun x9 ex9 => ?_)
      replace hZ9 := bnd_s hZ9 ex9
      have hFc := mw_free hD hS hA
      refine va_callv (va_runV (As := [.long x9]) (rest := []) ⟨hx, hb, hml, hown, hts⟩ (c_y_gatherWanted l dC dI h a e cI cJ cO cE L6 I7 M J n cap fE sd si sa dl (b) x9 H.size hX (by omega) ) (cwV 1 hts wc_y_weigh_y_gatherWanted_38 rfl rfl rfl (by decide +kernel) ⟨Nat.le_of_ble_eq_true rfl, Nat.le_of_ble_eq_true rfl⟩) ⟨fun a9 U g mk q => by obtain ⟨q0, q1, qP, qK, qD, qN⟩ := q; exact ⟨q0, q1, qP, va_K.moved (u := U) (U := U.calling g mk a9) (Vm.Alike.refl U.vm) qK, qD, pw_N.same (u := U) (U := U.calling g mk a9) rfl qN⟩, va_recv hK hP (ci := 2) (q0 := 13) rfl rfl, fun U hU hW => ⟨rfl, by rw [hU], by rw [hU]; exact hP, va_K.moved hW.alike hK, hD.weaken (fun _ _ _ _ => trivial), pw_N.warm hW hN⟩⟩ rfl rfl hl.1 rfl (lv_room (Nat.le_of_ble_eq_true rfl)) dX1_weigh_65 ⟨Nat.le_of_ble_eq_true rfl, Nat.le_of_ble_eq_true rfl⟩) hS (fun q _ h => hFc q h) hFc (fun u t H1 locs ht hvm hw hB hz1 hk1 hS => ?_)
      obtain ⟨L11, rfl⟩ : ∃ z9, z9 = u := ⟨_, rfl⟩
      replace hP := hB.1
      rw [ht] at hP
      replace hD : va_D A (xW h a e cI cJ cO cE L11 I7 M J n cap fE sd si sa dl) := hB.2.weaken (fun _ q _ h9 => hFc q.1 h9)
      clear hB
      generalize H1 = H at hP hS ⊢
      replace hP : va_P (dC, dI) vwCl (xW h a e cI cJ cO cE L11 I7 M J n cap fE sd si sa dl) H := hP
      obtain ⟨hwX, whUL, hw⟩ := hw
      replace hX : InvX n cap fE sd dl (b) I7 J si := hwX
      replace hUL : ∀ j9 : Nat, j9 ∉ ([2, 3, 4] : List Nat) → L11 j9 = L j9 := mw_tr (by decide) whUL hUL
      replace hw : L11 = f_y_gatherWanted n dl x9 L6 M := hw
      replace hZ9 := bnd_s hZ9 hw
      refine lv_aload_n hx hb dX1_weigh_68 rfl (lv_at hl 2 rfl) ?_
      refine va_get (D := (dC, dI)) (ci := 2) (v := .ref (a 1)) (C := RX1) (T := TX1) (N := 5) hx hb hts in_y_weigh_X1 hown hK hP 13 rfl rfl 0 (by decide) (hts (.fieldLink RX1 9 "ServiceTree$Draft" "relations" "LServiceTree$Relations;") (by decide +kernel)) (fun _ h9 => h9) rfl dX1_weigh_69 ?_
      refine lv_iconst (v := 3) hx hb dX1_weigh_72 (by decide) ?_
      refine lv_aload_n hx hb dX1_weigh_73 rfl (lv_at hl 2 rfl) ?_
      refine va_get (D := (dC, dI)) (ci := 2) (v := .long (L11 2)) (C := RX1) (T := TX1) (N := 5) hx hb hts in_y_weigh_X1 hown hK hP 13 rfl rfl 1 (by decide) (hts (.fieldLink RX1 15 "ServiceTree$Draft" "members" "J") (by decide +kernel)) (fun _ h9 => h9) rfl dX1_weigh_74 ?_
      refine lv_topl (fun x12 ex12 => ?_)
      replace hZ9 := bnd_s hZ9 ex12
      have hFc := mw_free hD hS hA
      refine va_calll (va_runV (As := [.int 3, .long x12]) (rest := []) ⟨hx, hb, hml, hown, hts⟩ (c_y_fromAny3 l dC dI h a e cI cJ cO cE L11 I7 M J n cap fE sd si sa dl (b) x12 H.size hX (by omega) ) (cwV 2 hts wc_y_weigh_y_fromAny3_42 rfl rfl rfl (by decide +kernel) ⟨Nat.le_of_ble_eq_true rfl, Nat.le_of_ble_eq_true rfl⟩) ⟨fun a9 U g mk q => by obtain ⟨q0, q1, qP, qK, qD, qN⟩ := q; exact ⟨q0, q1, qP, va_K.moved (u := U) (U := U.calling g mk a9) (Vm.Alike.refl U.vm) qK, qD, pw_N.same (u := U) (U := U.calling g mk a9) rfl qN⟩, va_recv hK hP (ci := 6) (q0 := 2) rfl rfl, fun U hU hW => ⟨rfl, by rw [hU], by rw [hU]; exact hP, va_K.moved hW.alike hK, hD.weaken (fun _ _ _ _ => trivial), pw_N.warm hW hN⟩⟩ rfl rfl hl.1 rfl (lv_room (Nat.le_of_ble_eq_true rfl)) dX1_weigh_77 ⟨Nat.le_of_ble_eq_true rfl, Nat.le_of_ble_eq_true rfl⟩) hS (fun q _ h => hFc q h) hFc (fun r13 u t H1 locs ht hvm hw hB hz1 hk1 hS => ?_)
      replace hP := hB.1
      rw [ht] at hP
      replace hD : va_D A (xW h a e cI cJ cO cE L11 I7 M J n cap fE sd si sa dl) := hB.2.weaken (fun _ q _ h9 => hFc q.1 h9)
      clear hB
      generalize H1 = H at hP hS ⊢
      replace hP : va_P (dC, dI) vwCl (xW h a e cI cJ cO cE L11 I7 M J n cap fE sd si sa dl) H := hP
      replace hw : r13 = f_y_fromAny3 n dl x12 M := hw
      replace hZ9 := bnd_s hZ9 hw
      refine lv_iload_n hx hb dX1_weigh_80 rfl (lv_at hl 3 rfl) ?_
      refine lv_iconst (v := 2) hx hb dX1_weigh_81 (by decide) ?_
      refine lv_icmp_ne (tgt := 96) hx hb dX1_weigh_82 (by decide) (fun c14 => ?_) (fun c14 => ?_)
      · replace hZ9 := ite_f hZ9 c14
        refine lv_lconst (v := 0) hx hb dX1_weigh_96 (by decide) ?_
        refine lv_lor hx hb dX1_weigh_97 ?_
        refine lv_topl (fun x15 ex15 => ?_)
        replace hZ9 := bnd_s hZ9 ex15
        refine lv_lstore (lv' := [(10, .long x15), (9, .int r5), (7, .long x1), (0, .ref (a 2)), (1, .int p0), (2, .int (nI xv)), (3, .long p2), (5, .long p3)]) hx hb dX1_weigh_98 hl (by decide) rfl (fun ls hl => ?_)
        refine lv_aload_n hx hb dX1_weigh_100 rfl (lv_at hl 3 rfl) ?_
        refine lv_aload_n hx hb dX1_weigh_101 rfl (lv_at hl 3 rfl) ?_
        refine va_get (D := (dC, dI)) (ci := 2) (v := .ref (a 1)) (C := RX1) (T := TX1) (N := 5) hx hb hts in_y_weigh_X1 hown hK hP 13 rfl rfl 0 (by decide) (hts (.fieldLink RX1 9 "ServiceTree$Draft" "relations" "LServiceTree$Relations;") (by decide +kernel)) (fun _ h9 => h9) rfl dX1_weigh_102 ?_
        refine lv_lload hx hb dX1_weigh_105 (lv_at hl 0 rfl) ?_
        refine lv_lload hx hb dX1_weigh_107 (lv_at hl 2 rfl) ?_
        refine lv_land hx hb dX1_weigh_109 ?_
        refine lv_topl (fun x16 ex16 => ?_)
        replace hZ9 := bnd_s hZ9 ex16
        refine lv_lload hx hb dX1_weigh_110 (lv_at hl 2 rfl) ?_
        have hFc := mw_free hD hS hA
        refine va_calll (va_runV (As := [.long x16, .long x1]) (rest := [.ref (a 2)]) ⟨hx, hb, hml, hown, hts⟩ (c_y_withNeeders l dC dI h a e cI cJ cO cE L11 I7 M J n cap fE sd si sa dl (b) x16 x1 H.size hX (by omega) ) (cwV 2 hts wc_y_weigh_y_withNeeders_23 rfl rfl rfl (by decide +kernel) ⟨Nat.le_of_ble_eq_true rfl, Nat.le_of_ble_eq_true rfl⟩) ⟨fun a9 U g mk q => by obtain ⟨q0, q1, qP, qK, qD, qN⟩ := q; exact ⟨q0, q1, qP, va_K.moved (u := U) (U := U.calling g mk a9) (Vm.Alike.refl U.vm) qK, qD, pw_N.same (u := U) (U := U.calling g mk a9) rfl qN⟩, va_recv hK hP (ci := 6) (q0 := 2) rfl rfl, fun U hU hW => ⟨rfl, by rw [hU], by rw [hU]; exact hP, va_K.moved hW.alike hK, hD.weaken (fun _ _ _ _ => trivial), pw_N.warm hW hN⟩⟩ rfl rfl hl.1 rfl (lv_room (Nat.le_of_ble_eq_true rfl)) dX1_weigh_112 ⟨Nat.le_of_ble_eq_true rfl, Nat.le_of_ble_eq_true rfl⟩) hS (fun q _ h => hFc q h) hFc (fun r17 u t H1 locs ht hvm hw hB hz1 hk1 hS => ?_)
        replace hP := hB.1
        rw [ht] at hP
        replace hD : va_D A (xW h a e cI cJ cO cE L11 I7 M J n cap fE sd si sa dl) := hB.2.weaken (fun _ q _ h9 => hFc q.1 h9)
        clear hB
        generalize H1 = H at hP hS ⊢
        replace hP : va_P (dC, dI) vwCl (xW h a e cI cJ cO cE L11 I7 M J n cap fE sd si sa dl) H := hP
        replace hw : r17 = f_y_withNeeders n dl x16 x1 M := hw
        replace hZ9 := bnd_s hZ9 hw
        refine va_put (D := (dC, dI)) (ci := 2) (fs := [.ref (a 1), .long (L11 2), .long (L11 3), .long (L11 4), .int (I7 8)]) (v := .long r17) (ty := .long) (C := RX1) (T := TX1) (N := 5) hx hb hts in_y_weigh_X1 tyX1 tyX1_ok nmX1 hown hK hP hD hS 13 rfl rfl 3 (by decide) (hts (.fieldLink RX1 29 "ServiceTree$Draft" "stops" "J") (by decide +kernel)) (fun _ h9 => h9) rfl (by decide +kernel) rfl rfl (Nat.le_of_ble_eq_true rfl) dX1_weigh_115 (fun H locs hP hD hS => ?_)
        replace hP : va_P (dC, dI) vwCl ((xW h a e cI cJ cO cE L11 I7 M J n cap fE sd si sa dl).set 13 (a 2, .inr (2, [.ref (a 1), .long (L11 2), .long (L11 3), .long r17, .int (I7 8)]))) H := hP
        replace hD : va_D A ((xW h a e cI cJ cO cE L11 I7 M J n cap fE sd si sa dl).set 13 (a 2, .inr (2, [.ref (a 1), .long (L11 2), .long (L11 3), .long r17, .int (I7 8)]))) := hD
        rw [xF_L4] at hP hD
        obtain ⟨L18, eL18⟩ : ∃ f9 : Nat → Int64, f9 = va_up L11 4 r17 := ⟨_, rfl⟩
        rw [← eL18] at hP hD
        replace hZ9 := bnd_s hZ9 eL18
        replace hUL : ∀ j9 : Nat, j9 ∉ ([2, 3, 4] : List Nat) → L18 j9 = L j9 := by rw [eL18]; exact mw_up (by decide) hUL
        refine lv_aload_n hx hb dX1_weigh_118 rfl (lv_at hl 3 rfl) ?_
        refine va_get (D := (dC, dI)) (ci := 2) (v := .long (L18 4)) (C := RX1) (T := TX1) (N := 5) hx hb hts in_y_weigh_X1 hown hK hP 13 rfl rfl 3 (by decide) (hts (.fieldLink RX1 29 "ServiceTree$Draft" "stops" "J") (by decide +kernel)) (fun _ h9 => h9) rfl dX1_weigh_119 ?_
        refine p1_topr (v := .long r17) (congrArg Value.long (by rw [eL18]; exact va_up_self _ _ _)) ?_
        refine lv_aload_n hx hb dX1_weigh_122 rfl (lv_at hl 3 rfl) ?_
        refine va_get (D := (dC, dI)) (ci := 2) (v := .long (L18 2)) (C := RX1) (T := TX1) (N := 5) hx hb hts in_y_weigh_X1 hown hK hP 13 rfl rfl 1 (by decide) (hts (.fieldLink RX1 15 "ServiceTree$Draft" "members" "J") (by decide +kernel)) (fun _ h9 => h9) rfl dX1_weigh_123 ?_
        refine p1_topr (v := .long x12) (congrArg Value.long (by rw [eL18, va_up_ne _ _ (by decide)]; exact ex12.symm)) ?_
        refine lv_land hx hb dX1_weigh_126 ?_
        refine lv_topl (fun x19 ex19 => ?_)
        replace hZ9 := bnd_s hZ9 ex19
        refine lv_lconst (v := 0) hx hb dX1_weigh_127 (by decide) ?_
        refine W.lcmp hx hb dX1_weigh_128 ?_
        refine lv_topi (fun x20 ex20 => ?_)
        replace hZ9 := bnd_s hZ9 ex20
        refine lv_if_eq (tgt := 135) hx hb dX1_weigh_129 (by decide) (fun c21 => ?_) (fun c21 => ?_)
        · replace hZ9 := ite_t hZ9 c21
          refine lv_aload_n hx hb dX1_weigh_135 rfl (lv_at hl 3 rfl) ?_
          refine lv_aload_n hx hb dX1_weigh_136 rfl (lv_at hl 3 rfl) ?_
          refine va_get (D := (dC, dI)) (ci := 2) (v := .long (L18 2)) (C := RX1) (T := TX1) (N := 5) hx hb hts in_y_weigh_X1 hown hK hP 13 rfl rfl 1 (by decide) (hts (.fieldLink RX1 15 "ServiceTree$Draft" "members" "J") (by decide +kernel)) (fun _ h9 => h9) rfl dX1_weigh_137 ?_
          refine p1_topr (v := .long x12) (congrArg Value.long (by rw [eL18, va_up_ne _ _ (by decide)]; exact ex12.symm)) ?_
          refine lv_lload_n hx hb dX1_weigh_140 rfl (lv_at hl 6 rfl) ?_
          refine lv_ldc2 (v := (-1)) hx hb hown (hts (.constantLong RX1 32 (-1)) (by decide +kernel)) dX1_weigh_141 ?_
          refine lv_lxor hx hb dX1_weigh_144 ?_
          refine lv_topl (fun x22 ex22 => ?_)
          replace hZ9 := bnd_s hZ9 ex22
          refine lv_land hx hb dX1_weigh_145 ?_
          refine lv_topl (fun x23 ex23 => ?_)
          replace hZ9 := bnd_s hZ9 ex23
          refine va_put (D := (dC, dI)) (ci := 2) (fs := [.ref (a 1), .long (L18 2), .long (L18 3), .long (L18 4), .int (I7 8)]) (v := .long x23) (ty := .long) (C := RX1) (T := TX1) (N := 5) hx hb hts in_y_weigh_X1 tyX1 tyX1_ok nmX1 hown hK hP hD hS 13 rfl rfl 2 (by decide) (hts (.fieldLink RX1 46 "ServiceTree$Draft" "starts" "J") (by decide +kernel)) (fun _ h9 => h9) rfl (by decide +kernel) rfl rfl (Nat.le_of_ble_eq_true rfl) dX1_weigh_146 (fun H locs hP hD hS => ?_)
          replace hP : va_P (dC, dI) vwCl ((xW h a e cI cJ cO cE L18 I7 M J n cap fE sd si sa dl).set 13 (a 2, .inr (2, [.ref (a 1), .long (L18 2), .long x23, .long (L18 4), .int (I7 8)]))) H := hP
          replace hD : va_D A ((xW h a e cI cJ cO cE L18 I7 M J n cap fE sd si sa dl).set 13 (a 2, .inr (2, [.ref (a 1), .long (L18 2), .long x23, .long (L18 4), .int (I7 8)]))) := hD
          rw [xF_L3] at hP hD
          obtain ⟨L24, eL24⟩ : ∃ f9 : Nat → Int64, f9 = va_up L18 3 x23 := ⟨_, rfl⟩
          rw [← eL24] at hP hD
          replace hZ9 := bnd_s hZ9 eL24
          replace hUL : ∀ j9 : Nat, j9 ∉ ([2, 3, 4] : List Nat) → L24 j9 = L j9 := by rw [eL24]; exact mw_up (by decide) hUL
          refine lv_aload_n hx hb dX1_weigh_149 rfl (lv_at hl 3 rfl) ?_
          refine lv_aload_n hx hb dX1_weigh_150 rfl (lv_at hl 3 rfl) ?_
          refine va_get (D := (dC, dI)) (ci := 2) (v := .ref (a 1)) (C := RX1) (T := TX1) (N := 5) hx hb hts in_y_weigh_X1 hown hK hP 13 rfl rfl 0 (by decide) (hts (.fieldLink RX1 9 "ServiceTree$Draft" "relations" "LServiceTree$Relations;") (by decide +kernel)) (fun _ h9 => h9) rfl dX1_weigh_151 ?_
          refine lv_aload_n hx hb dX1_weigh_154 rfl (lv_at hl 3 rfl) ?_
          refine va_get (D := (dC, dI)) (ci := 2) (v := .long (L24 4)) (C := RX1) (T := TX1) (N := 5) hx hb hts in_y_weigh_X1 hown hK hP 13 rfl rfl 3 (by decide) (hts (.fieldLink RX1 29 "ServiceTree$Draft" "stops" "J") (by decide +kernel)) (fun _ h9 => h9) rfl dX1_weigh_155 ?_
          refine p1_topr (v := .long r17) (congrArg Value.long (by rw [eL24, va_up_ne _ _ (by decide)]; exact (by rw [eL18]; exact va_up_self _ _ _))) ?_
          have hFc := mw_free hD hS hA
          refine va_calli (va_runV (As := [.long r17]) (rest := [.ref (a 2)]) ⟨hx, hb, hml, hown, hts⟩ (c_y_shortestRing l dC dI h a e cI cJ cO cE L24 I7 M J n cap fE sd si sa dl (b) r17 H.size hX (by omega) ) (cwV 1 hts wc_y_weigh_y_shortestRing_49 rfl rfl rfl (by decide +kernel) ⟨Nat.le_of_ble_eq_true rfl, Nat.le_of_ble_eq_true rfl⟩) ⟨fun a9 U g mk q => by obtain ⟨q0, q1, qP, qK, qD, qN⟩ := q; exact ⟨q0, q1, qP, va_K.moved (u := U) (U := U.calling g mk a9) (Vm.Alike.refl U.vm) qK, qD, pw_N.same (u := U) (U := U.calling g mk a9) rfl qN⟩, va_recv hK hP (ci := 6) (q0 := 2) rfl rfl, fun U hU hW => ⟨rfl, by rw [hU], by rw [hU]; exact hP, va_K.moved hW.alike hK, hD.weaken (fun _ _ _ _ => trivial), pw_N.warm hW hN⟩⟩ rfl rfl hl.1 rfl (lv_room (Nat.le_of_ble_eq_true rfl)) dX1_weigh_158 ⟨Nat.le_of_ble_eq_true rfl, Nat.le_of_ble_eq_true rfl⟩) hS (fun q _ h => hFc q h) hFc (fun r25 u t H1 locs ht hvm hw hB hz1 hk1 hS => ?_)
          replace hP := hB.1
          rw [ht] at hP
          replace hD : va_D A (xW h a e cI cJ cO cE L24 I7 M J n cap fE sd si sa dl) := hB.2.weaken (fun _ q _ h9 => hFc q.1 h9)
          clear hB
          generalize H1 = H at hP hS ⊢
          replace hP : va_P (dC, dI) vwCl (xW h a e cI cJ cO cE L24 I7 M J n cap fE sd si sa dl) H := hP
          replace hw : r25 = f_y_shortestRing n dl r17 M := hw
          replace hZ9 := bnd_s hZ9 hw
          refine va_put (D := (dC, dI)) (ci := 2) (fs := [.ref (a 1), .long (L24 2), .long (L24 3), .long (L24 4), .int (I7 8)]) (v := .int r25) (ty := .int) (C := RX1) (T := TX1) (N := 5) hx hb hts in_y_weigh_X1 tyX1 tyX1_ok nmX1 hown hK hP hD hS 13 rfl rfl 4 (by decide) (hts (.fieldLink RX1 53 "ServiceTree$Draft" "ringSize" "I") (by decide +kernel)) (fun _ h9 => h9) rfl (by decide +kernel) rfl rfl (Nat.le_of_ble_eq_true rfl) dX1_weigh_161 (fun H locs hP hD hS => ?_)
          replace hP : va_P (dC, dI) vwCl ((xW h a e cI cJ cO cE L24 I7 M J n cap fE sd si sa dl).set 13 (a 2, .inr (2, [.ref (a 1), .long (L24 2), .long (L24 3), .long (L24 4), .int r25]))) H := hP
          replace hD : va_D A ((xW h a e cI cJ cO cE L24 I7 M J n cap fE sd si sa dl).set 13 (a 2, .inr (2, [.ref (a 1), .long (L24 2), .long (L24 3), .long (L24 4), .int r25]))) := hD
          rw [xF_I8] at hP hD
          obtain ⟨I26, eI26⟩ : ∃ f9 : Nat → Int32, f9 = va_up I7 8 r25 := ⟨_, rfl⟩
          rw [← eI26] at hP hD
          replace hZ9 := bnd_s hZ9 eI26
          replace hX : InvX n cap fE sd dl (b) I26 J si := by rw [eI26]; exact hX.setI (by decide)
          replace hUI : ∀ j9 : Nat, j9 ∉ ([8] : List Nat) → I26 j9 = I j9 := by rw [eI26]; exact mw_up (by decide) hUI
          refine lv_aload_n hx hb dX1_weigh_164 rfl (lv_at hl 3 rfl) ?_
          refine va_get (D := (dC, dI)) (ci := 2) (v := .int (I26 8)) (C := RX1) (T := TX1) (N := 5) hx hb hts in_y_weigh_X1 hown hK hP 13 rfl rfl 4 (by decide) (hts (.fieldLink RX1 53 "ServiceTree$Draft" "ringSize" "I") (by decide +kernel)) (fun _ h9 => h9) rfl dX1_weigh_165 ?_
          refine p1_topr (v := .int r25) (congrArg Value.int (by rw [eI26]; exact va_up_self _ _ _)) ?_
          refine lv_if_le (tgt := 176) hx hb dX1_weigh_168 (by decide) (fun c27 => ?_) (fun c27 => ?_)
          · replace hZ9 := ite_t hZ9 c27
            refine lv_aload_n hx hb dX1_weigh_176 rfl (lv_at hl 3 rfl) ?_
            refine va_get (D := (dC, dI)) (ci := 2) (v := .long (L24 3)) (C := RX1) (T := TX1) (N := 5) hx hb hts in_y_weigh_X1 hown hK hP 13 rfl rfl 2 (by decide) (hts (.fieldLink RX1 46 "ServiceTree$Draft" "starts" "J") (by decide +kernel)) (fun _ h9 => h9) rfl dX1_weigh_177 ?_
            refine p1_topr (v := .long x23) (congrArg Value.long (by rw [eL24]; exact va_up_self _ _ _)) ?_
            refine lv_aload_n hx hb dX1_weigh_180 rfl (lv_at hl 3 rfl) ?_
            refine va_get (D := (dC, dI)) (ci := 2) (v := .long (L24 4)) (C := RX1) (T := TX1) (N := 5) hx hb hts in_y_weigh_X1 hown hK hP 13 rfl rfl 3 (by decide) (hts (.fieldLink RX1 29 "ServiceTree$Draft" "stops" "J") (by decide +kernel)) (fun _ h9 => h9) rfl dX1_weigh_181 ?_
            refine p1_topr (v := .long r17) (congrArg Value.long (by rw [eL24, va_up_ne _ _ (by decide)]; exact (by rw [eL18]; exact va_up_self _ _ _))) ?_
            refine lv_lor hx hb dX1_weigh_184 ?_
            refine lv_topl (fun x28 ex28 => ?_)
            replace hZ9 := bnd_s hZ9 ex28
            have hFc := mw_free hD hS hA
            refine va_calli (va_runS (As := [.long x28]) (rest := []) ⟨hx, hb, hml, hown, hts⟩ (c_y_bitCount l dC dI h a e cI cJ cO cE L24 I26 M J n cap fE sd si sa dl (b) x28 H.size hX (by omega) ) (va_cwS 1 hts wc_y_weigh_y_bitCount_57 rfl rfl rfl (by decide +kernel) ⟨Nat.le_of_ble_eq_true rfl, Nat.le_of_ble_eq_true rfl⟩) ⟨fun a9 U g mk q => by obtain ⟨q0, q1, qP, qK, qD, qN⟩ := q; exact ⟨q0, q1, qP, va_K.moved (u := U) (U := U.calling g mk a9) (Vm.Alike.refl U.vm) qK, qD, pw_N.same (u := U) (U := U.calling g mk a9) rfl qN⟩, fun U hU hW => ⟨rfl, by rw [hU], by rw [hU]; exact hP, va_K.moved hW.alike hK, hD.weaken (fun _ _ _ _ => trivial), pw_N.warm hW hN⟩⟩ rfl rfl hl.1 rfl (lv_room (Nat.le_of_ble_eq_true rfl)) dX1_weigh_185 ⟨Nat.le_of_ble_eq_true rfl, Nat.le_of_ble_eq_true rfl⟩) hS (fun q _ h => hFc q h) hFc (fun r29 u t H1 locs ht hvm hw hB hz1 hk1 hS => ?_)
            replace hP := hB.1
            rw [ht] at hP
            replace hD : va_D A (xW h a e cI cJ cO cE L24 I26 M J n cap fE sd si sa dl) := hB.2.weaken (fun _ q _ h9 => hFc q.1 h9)
            clear hB
            generalize H1 = H at hP hS ⊢
            replace hP : va_P (dC, dI) vwCl (xW h a e cI cJ cO cE L24 I26 M J n cap fE sd si sa dl) H := hP
            replace hw : r29 = f_y_bitCount n dl x28  := hw
            replace hZ9 := bnd_s hZ9 hw
            exact W.iret (v := r29) hx hb hr (fun t ht hW => ⟨⟨r29, (L24, I26), rfl, ⟨hX.mono (by omega), hUL, hUI, hZ9.symm.trans hR0⟩, by rw [ht]; exact hP, hD⟩, hS.F ht⟩) hS.2.2 dX1_weigh_188
          · replace hZ9 := ite_f hZ9 c27
            refine lv_bipush (v := (-5)) hx hb dX1_weigh_171 (by decide) ?_
            refine lv_goto (tgt := 188) hx hb dX1_weigh_173 (by decide) ?_
            exact W.iret (v := (-5)) hx hb hr (fun t ht hW => ⟨⟨(-5), (L24, I26), rfl, ⟨hX.mono (by omega), hUL, hUI, hZ9.symm.trans hR0⟩, by rw [ht]; exact hP, hD⟩, hS.F ht⟩) hS.2.2 dX1_weigh_188
        · replace hZ9 := ite_f hZ9 c21
          refine lv_bipush (v := (-4)) hx hb dX1_weigh_132 (by decide) ?_
          exact W.iret (v := (-4)) hx hb hr (fun t ht hW => ⟨⟨(-4), (L18, I7), rfl, ⟨hX.mono (by omega), hUL, hUI, hZ9.symm.trans hR0⟩, by rw [ht]; exact hP, hD⟩, hS.F ht⟩) hS.2.2 dX1_weigh_134
      · replace hZ9 := ite_t hZ9 c14
        refine lv_aload_n hx hb dX1_weigh_85 rfl (lv_at hl 2 rfl) ?_
        refine va_get (D := (dC, dI)) (ci := 2) (v := .long (L11 2)) (C := RX1) (T := TX1) (N := 5) hx hb hts in_y_weigh_X1 hown hK hP 13 rfl rfl 1 (by decide) (hts (.fieldLink RX1 15 "ServiceTree$Draft" "members" "J") (by decide +kernel)) (fun _ h9 => h9) rfl dX1_weigh_86 ?_
        refine p1_topr (v := .long x12) (congrArg Value.long ex12.symm) ?_
        refine lv_ldc2 (v := (-1)) hx hb hown (hts (.constantLong RX1 32 (-1)) (by decide +kernel)) dX1_weigh_89 ?_
        refine lv_lxor hx hb dX1_weigh_92 ?_
        refine lv_topl (fun x30 ex30 => ?_)
        replace hZ9 := bnd_s hZ9 ex30
        refine lv_goto (tgt := 97) hx hb dX1_weigh_93 (by decide) ?_
        refine lv_lor hx hb dX1_weigh_97 ?_
        refine lv_topl (fun x31 ex31 => ?_)
        replace hZ9 := bnd_s hZ9 ex31
        refine lv_lstore (lv' := [(10, .long x31), (9, .int r5), (7, .long x1), (0, .ref (a 2)), (1, .int p0), (2, .int (nI xv)), (3, .long p2), (5, .long p3)]) hx hb dX1_weigh_98 hl (by decide) rfl (fun ls hl => ?_)
        refine lv_aload_n hx hb dX1_weigh_100 rfl (lv_at hl 3 rfl) ?_
        refine lv_aload_n hx hb dX1_weigh_101 rfl (lv_at hl 3 rfl) ?_
        refine va_get (D := (dC, dI)) (ci := 2) (v := .ref (a 1)) (C := RX1) (T := TX1) (N := 5) hx hb hts in_y_weigh_X1 hown hK hP 13 rfl rfl 0 (by decide) (hts (.fieldLink RX1 9 "ServiceTree$Draft" "relations" "LServiceTree$Relations;") (by decide +kernel)) (fun _ h9 => h9) rfl dX1_weigh_102 ?_
        refine lv_lload hx hb dX1_weigh_105 (lv_at hl 0 rfl) ?_
        refine lv_lload hx hb dX1_weigh_107 (lv_at hl 2 rfl) ?_
        refine lv_land hx hb dX1_weigh_109 ?_
        refine lv_topl (fun x32 ex32 => ?_)
        replace hZ9 := bnd_s hZ9 ex32
        refine lv_lload hx hb dX1_weigh_110 (lv_at hl 2 rfl) ?_
        have hFc := mw_free hD hS hA
        refine va_calll (va_runV (As := [.long x32, .long x1]) (rest := [.ref (a 2)]) ⟨hx, hb, hml, hown, hts⟩ (c_y_withNeeders l dC dI h a e cI cJ cO cE L11 I7 M J n cap fE sd si sa dl (b) x32 x1 H.size hX (by omega) ) (cwV 2 hts wc_y_weigh_y_withNeeders_23 rfl rfl rfl (by decide +kernel) ⟨Nat.le_of_ble_eq_true rfl, Nat.le_of_ble_eq_true rfl⟩) ⟨fun a9 U g mk q => by obtain ⟨q0, q1, qP, qK, qD, qN⟩ := q; exact ⟨q0, q1, qP, va_K.moved (u := U) (U := U.calling g mk a9) (Vm.Alike.refl U.vm) qK, qD, pw_N.same (u := U) (U := U.calling g mk a9) rfl qN⟩, va_recv hK hP (ci := 6) (q0 := 2) rfl rfl, fun U hU hW => ⟨rfl, by rw [hU], by rw [hU]; exact hP, va_K.moved hW.alike hK, hD.weaken (fun _ _ _ _ => trivial), pw_N.warm hW hN⟩⟩ rfl rfl hl.1 rfl (lv_room (Nat.le_of_ble_eq_true rfl)) dX1_weigh_112 ⟨Nat.le_of_ble_eq_true rfl, Nat.le_of_ble_eq_true rfl⟩) hS (fun q _ h => hFc q h) hFc (fun r33 u t H1 locs ht hvm hw hB hz1 hk1 hS => ?_)
        replace hP := hB.1
        rw [ht] at hP
        replace hD : va_D A (xW h a e cI cJ cO cE L11 I7 M J n cap fE sd si sa dl) := hB.2.weaken (fun _ q _ h9 => hFc q.1 h9)
        clear hB
        generalize H1 = H at hP hS ⊢
        replace hP : va_P (dC, dI) vwCl (xW h a e cI cJ cO cE L11 I7 M J n cap fE sd si sa dl) H := hP
        replace hw : r33 = f_y_withNeeders n dl x32 x1 M := hw
        replace hZ9 := bnd_s hZ9 hw
        refine va_put (D := (dC, dI)) (ci := 2) (fs := [.ref (a 1), .long (L11 2), .long (L11 3), .long (L11 4), .int (I7 8)]) (v := .long r33) (ty := .long) (C := RX1) (T := TX1) (N := 5) hx hb hts in_y_weigh_X1 tyX1 tyX1_ok nmX1 hown hK hP hD hS 13 rfl rfl 3 (by decide) (hts (.fieldLink RX1 29 "ServiceTree$Draft" "stops" "J") (by decide +kernel)) (fun _ h9 => h9) rfl (by decide +kernel) rfl rfl (Nat.le_of_ble_eq_true rfl) dX1_weigh_115 (fun H locs hP hD hS => ?_)
        replace hP : va_P (dC, dI) vwCl ((xW h a e cI cJ cO cE L11 I7 M J n cap fE sd si sa dl).set 13 (a 2, .inr (2, [.ref (a 1), .long (L11 2), .long (L11 3), .long r33, .int (I7 8)]))) H := hP
        replace hD : va_D A ((xW h a e cI cJ cO cE L11 I7 M J n cap fE sd si sa dl).set 13 (a 2, .inr (2, [.ref (a 1), .long (L11 2), .long (L11 3), .long r33, .int (I7 8)]))) := hD
        rw [xF_L4] at hP hD
        obtain ⟨L34, eL34⟩ : ∃ f9 : Nat → Int64, f9 = va_up L11 4 r33 := ⟨_, rfl⟩
        rw [← eL34] at hP hD
        replace hZ9 := bnd_s hZ9 eL34
        replace hUL : ∀ j9 : Nat, j9 ∉ ([2, 3, 4] : List Nat) → L34 j9 = L j9 := by rw [eL34]; exact mw_up (by decide) hUL
        refine lv_aload_n hx hb dX1_weigh_118 rfl (lv_at hl 3 rfl) ?_
        refine va_get (D := (dC, dI)) (ci := 2) (v := .long (L34 4)) (C := RX1) (T := TX1) (N := 5) hx hb hts in_y_weigh_X1 hown hK hP 13 rfl rfl 3 (by decide) (hts (.fieldLink RX1 29 "ServiceTree$Draft" "stops" "J") (by decide +kernel)) (fun _ h9 => h9) rfl dX1_weigh_119 ?_
        refine p1_topr (v := .long r33) (congrArg Value.long (by rw [eL34]; exact va_up_self _ _ _)) ?_
        refine lv_aload_n hx hb dX1_weigh_122 rfl (lv_at hl 3 rfl) ?_
        refine va_get (D := (dC, dI)) (ci := 2) (v := .long (L34 2)) (C := RX1) (T := TX1) (N := 5) hx hb hts in_y_weigh_X1 hown hK hP 13 rfl rfl 1 (by decide) (hts (.fieldLink RX1 15 "ServiceTree$Draft" "members" "J") (by decide +kernel)) (fun _ h9 => h9) rfl dX1_weigh_123 ?_
        refine p1_topr (v := .long x12) (congrArg Value.long (by rw [eL34, va_up_ne _ _ (by decide)]; exact ex12.symm)) ?_
        refine lv_land hx hb dX1_weigh_126 ?_
        refine lv_topl (fun x35 ex35 => ?_)
        replace hZ9 := bnd_s hZ9 ex35
        refine lv_lconst (v := 0) hx hb dX1_weigh_127 (by decide) ?_
        refine W.lcmp hx hb dX1_weigh_128 ?_
        refine lv_topi (fun x36 ex36 => ?_)
        replace hZ9 := bnd_s hZ9 ex36
        refine lv_if_eq (tgt := 135) hx hb dX1_weigh_129 (by decide) (fun c37 => ?_) (fun c37 => ?_)
        · replace hZ9 := ite_t hZ9 c37
          refine lv_aload_n hx hb dX1_weigh_135 rfl (lv_at hl 3 rfl) ?_
          refine lv_aload_n hx hb dX1_weigh_136 rfl (lv_at hl 3 rfl) ?_
          refine va_get (D := (dC, dI)) (ci := 2) (v := .long (L34 2)) (C := RX1) (T := TX1) (N := 5) hx hb hts in_y_weigh_X1 hown hK hP 13 rfl rfl 1 (by decide) (hts (.fieldLink RX1 15 "ServiceTree$Draft" "members" "J") (by decide +kernel)) (fun _ h9 => h9) rfl dX1_weigh_137 ?_
          refine p1_topr (v := .long x12) (congrArg Value.long (by rw [eL34, va_up_ne _ _ (by decide)]; exact ex12.symm)) ?_
          refine lv_lload_n hx hb dX1_weigh_140 rfl (lv_at hl 6 rfl) ?_
          refine lv_ldc2 (v := (-1)) hx hb hown (hts (.constantLong RX1 32 (-1)) (by decide +kernel)) dX1_weigh_141 ?_
          refine lv_lxor hx hb dX1_weigh_144 ?_
          refine lv_topl (fun x38 ex38 => ?_)
          replace hZ9 := bnd_s hZ9 ex38
          refine lv_land hx hb dX1_weigh_145 ?_
          refine lv_topl (fun x39 ex39 => ?_)
          replace hZ9 := bnd_s hZ9 ex39
          refine va_put (D := (dC, dI)) (ci := 2) (fs := [.ref (a 1), .long (L34 2), .long (L34 3), .long (L34 4), .int (I7 8)]) (v := .long x39) (ty := .long) (C := RX1) (T := TX1) (N := 5) hx hb hts in_y_weigh_X1 tyX1 tyX1_ok nmX1 hown hK hP hD hS 13 rfl rfl 2 (by decide) (hts (.fieldLink RX1 46 "ServiceTree$Draft" "starts" "J") (by decide +kernel)) (fun _ h9 => h9) rfl (by decide +kernel) rfl rfl (Nat.le_of_ble_eq_true rfl) dX1_weigh_146 (fun H locs hP hD hS => ?_)
          replace hP : va_P (dC, dI) vwCl ((xW h a e cI cJ cO cE L34 I7 M J n cap fE sd si sa dl).set 13 (a 2, .inr (2, [.ref (a 1), .long (L34 2), .long x39, .long (L34 4), .int (I7 8)]))) H := hP
          replace hD : va_D A ((xW h a e cI cJ cO cE L34 I7 M J n cap fE sd si sa dl).set 13 (a 2, .inr (2, [.ref (a 1), .long (L34 2), .long x39, .long (L34 4), .int (I7 8)]))) := hD
          rw [xF_L3] at hP hD
          obtain ⟨L40, eL40⟩ : ∃ f9 : Nat → Int64, f9 = va_up L34 3 x39 := ⟨_, rfl⟩
          rw [← eL40] at hP hD
          replace hZ9 := bnd_s hZ9 eL40
          replace hUL : ∀ j9 : Nat, j9 ∉ ([2, 3, 4] : List Nat) → L40 j9 = L j9 := by rw [eL40]; exact mw_up (by decide) hUL
          refine lv_aload_n hx hb dX1_weigh_149 rfl (lv_at hl 3 rfl) ?_
          refine lv_aload_n hx hb dX1_weigh_150 rfl (lv_at hl 3 rfl) ?_
          refine va_get (D := (dC, dI)) (ci := 2) (v := .ref (a 1)) (C := RX1) (T := TX1) (N := 5) hx hb hts in_y_weigh_X1 hown hK hP 13 rfl rfl 0 (by decide) (hts (.fieldLink RX1 9 "ServiceTree$Draft" "relations" "LServiceTree$Relations;") (by decide +kernel)) (fun _ h9 => h9) rfl dX1_weigh_151 ?_
          refine lv_aload_n hx hb dX1_weigh_154 rfl (lv_at hl 3 rfl) ?_
          refine va_get (D := (dC, dI)) (ci := 2) (v := .long (L40 4)) (C := RX1) (T := TX1) (N := 5) hx hb hts in_y_weigh_X1 hown hK hP 13 rfl rfl 3 (by decide) (hts (.fieldLink RX1 29 "ServiceTree$Draft" "stops" "J") (by decide +kernel)) (fun _ h9 => h9) rfl dX1_weigh_155 ?_
          refine p1_topr (v := .long r33) (congrArg Value.long (by rw [eL40, va_up_ne _ _ (by decide)]; exact (by rw [eL34]; exact va_up_self _ _ _))) ?_
          have hFc := mw_free hD hS hA
          refine va_calli (va_runV (As := [.long r33]) (rest := [.ref (a 2)]) ⟨hx, hb, hml, hown, hts⟩ (c_y_shortestRing l dC dI h a e cI cJ cO cE L40 I7 M J n cap fE sd si sa dl (b) r33 H.size hX (by omega) ) (cwV 1 hts wc_y_weigh_y_shortestRing_49 rfl rfl rfl (by decide +kernel) ⟨Nat.le_of_ble_eq_true rfl, Nat.le_of_ble_eq_true rfl⟩) ⟨fun a9 U g mk q => by obtain ⟨q0, q1, qP, qK, qD, qN⟩ := q; exact ⟨q0, q1, qP, va_K.moved (u := U) (U := U.calling g mk a9) (Vm.Alike.refl U.vm) qK, qD, pw_N.same (u := U) (U := U.calling g mk a9) rfl qN⟩, va_recv hK hP (ci := 6) (q0 := 2) rfl rfl, fun U hU hW => ⟨rfl, by rw [hU], by rw [hU]; exact hP, va_K.moved hW.alike hK, hD.weaken (fun _ _ _ _ => trivial), pw_N.warm hW hN⟩⟩ rfl rfl hl.1 rfl (lv_room (Nat.le_of_ble_eq_true rfl)) dX1_weigh_158 ⟨Nat.le_of_ble_eq_true rfl, Nat.le_of_ble_eq_true rfl⟩) hS (fun q _ h => hFc q h) hFc (fun r41 u t H1 locs ht hvm hw hB hz1 hk1 hS => ?_)
          replace hP := hB.1
          rw [ht] at hP
          replace hD : va_D A (xW h a e cI cJ cO cE L40 I7 M J n cap fE sd si sa dl) := hB.2.weaken (fun _ q _ h9 => hFc q.1 h9)
          clear hB
          generalize H1 = H at hP hS ⊢
          replace hP : va_P (dC, dI) vwCl (xW h a e cI cJ cO cE L40 I7 M J n cap fE sd si sa dl) H := hP
          replace hw : r41 = f_y_shortestRing n dl r33 M := hw
          replace hZ9 := bnd_s hZ9 hw
          refine va_put (D := (dC, dI)) (ci := 2) (fs := [.ref (a 1), .long (L40 2), .long (L40 3), .long (L40 4), .int (I7 8)]) (v := .int r41) (ty := .int) (C := RX1) (T := TX1) (N := 5) hx hb hts in_y_weigh_X1 tyX1 tyX1_ok nmX1 hown hK hP hD hS 13 rfl rfl 4 (by decide) (hts (.fieldLink RX1 53 "ServiceTree$Draft" "ringSize" "I") (by decide +kernel)) (fun _ h9 => h9) rfl (by decide +kernel) rfl rfl (Nat.le_of_ble_eq_true rfl) dX1_weigh_161 (fun H locs hP hD hS => ?_)
          replace hP : va_P (dC, dI) vwCl ((xW h a e cI cJ cO cE L40 I7 M J n cap fE sd si sa dl).set 13 (a 2, .inr (2, [.ref (a 1), .long (L40 2), .long (L40 3), .long (L40 4), .int r41]))) H := hP
          replace hD : va_D A ((xW h a e cI cJ cO cE L40 I7 M J n cap fE sd si sa dl).set 13 (a 2, .inr (2, [.ref (a 1), .long (L40 2), .long (L40 3), .long (L40 4), .int r41]))) := hD
          rw [xF_I8] at hP hD
          obtain ⟨I42, eI42⟩ : ∃ f9 : Nat → Int32, f9 = va_up I7 8 r41 := ⟨_, rfl⟩
          rw [← eI42] at hP hD
          replace hZ9 := bnd_s hZ9 eI42
          replace hX : InvX n cap fE sd dl (b) I42 J si := by rw [eI42]; exact hX.setI (by decide)
          replace hUI : ∀ j9 : Nat, j9 ∉ ([8] : List Nat) → I42 j9 = I j9 := by rw [eI42]; exact mw_up (by decide) hUI
          refine lv_aload_n hx hb dX1_weigh_164 rfl (lv_at hl 3 rfl) ?_
          refine va_get (D := (dC, dI)) (ci := 2) (v := .int (I42 8)) (C := RX1) (T := TX1) (N := 5) hx hb hts in_y_weigh_X1 hown hK hP 13 rfl rfl 4 (by decide) (hts (.fieldLink RX1 53 "ServiceTree$Draft" "ringSize" "I") (by decide +kernel)) (fun _ h9 => h9) rfl dX1_weigh_165 ?_
          refine p1_topr (v := .int r41) (congrArg Value.int (by rw [eI42]; exact va_up_self _ _ _)) ?_
          refine lv_if_le (tgt := 176) hx hb dX1_weigh_168 (by decide) (fun c43 => ?_) (fun c43 => ?_)
          · replace hZ9 := ite_t hZ9 c43
            refine lv_aload_n hx hb dX1_weigh_176 rfl (lv_at hl 3 rfl) ?_
            refine va_get (D := (dC, dI)) (ci := 2) (v := .long (L40 3)) (C := RX1) (T := TX1) (N := 5) hx hb hts in_y_weigh_X1 hown hK hP 13 rfl rfl 2 (by decide) (hts (.fieldLink RX1 46 "ServiceTree$Draft" "starts" "J") (by decide +kernel)) (fun _ h9 => h9) rfl dX1_weigh_177 ?_
            refine p1_topr (v := .long x39) (congrArg Value.long (by rw [eL40]; exact va_up_self _ _ _)) ?_
            refine lv_aload_n hx hb dX1_weigh_180 rfl (lv_at hl 3 rfl) ?_
            refine va_get (D := (dC, dI)) (ci := 2) (v := .long (L40 4)) (C := RX1) (T := TX1) (N := 5) hx hb hts in_y_weigh_X1 hown hK hP 13 rfl rfl 3 (by decide) (hts (.fieldLink RX1 29 "ServiceTree$Draft" "stops" "J") (by decide +kernel)) (fun _ h9 => h9) rfl dX1_weigh_181 ?_
            refine p1_topr (v := .long r33) (congrArg Value.long (by rw [eL40, va_up_ne _ _ (by decide)]; exact (by rw [eL34]; exact va_up_self _ _ _))) ?_
            refine lv_lor hx hb dX1_weigh_184 ?_
            refine lv_topl (fun x44 ex44 => ?_)
            replace hZ9 := bnd_s hZ9 ex44
            have hFc := mw_free hD hS hA
            refine va_calli (va_runS (As := [.long x44]) (rest := []) ⟨hx, hb, hml, hown, hts⟩ (c_y_bitCount l dC dI h a e cI cJ cO cE L40 I42 M J n cap fE sd si sa dl (b) x44 H.size hX (by omega) ) (va_cwS 1 hts wc_y_weigh_y_bitCount_57 rfl rfl rfl (by decide +kernel) ⟨Nat.le_of_ble_eq_true rfl, Nat.le_of_ble_eq_true rfl⟩) ⟨fun a9 U g mk q => by obtain ⟨q0, q1, qP, qK, qD, qN⟩ := q; exact ⟨q0, q1, qP, va_K.moved (u := U) (U := U.calling g mk a9) (Vm.Alike.refl U.vm) qK, qD, pw_N.same (u := U) (U := U.calling g mk a9) rfl qN⟩, fun U hU hW => ⟨rfl, by rw [hU], by rw [hU]; exact hP, va_K.moved hW.alike hK, hD.weaken (fun _ _ _ _ => trivial), pw_N.warm hW hN⟩⟩ rfl rfl hl.1 rfl (lv_room (Nat.le_of_ble_eq_true rfl)) dX1_weigh_185 ⟨Nat.le_of_ble_eq_true rfl, Nat.le_of_ble_eq_true rfl⟩) hS (fun q _ h => hFc q h) hFc (fun r45 u t H1 locs ht hvm hw hB hz1 hk1 hS => ?_)
            replace hP := hB.1
            rw [ht] at hP
            replace hD : va_D A (xW h a e cI cJ cO cE L40 I42 M J n cap fE sd si sa dl) := hB.2.weaken (fun _ q _ h9 => hFc q.1 h9)
            clear hB
            generalize H1 = H at hP hS ⊢
            replace hP : va_P (dC, dI) vwCl (xW h a e cI cJ cO cE L40 I42 M J n cap fE sd si sa dl) H := hP
            replace hw : r45 = f_y_bitCount n dl x44  := hw
            replace hZ9 := bnd_s hZ9 hw
            exact W.iret (v := r45) hx hb hr (fun t ht hW => ⟨⟨r45, (L40, I42), rfl, ⟨hX.mono (by omega), hUL, hUI, hZ9.symm.trans hR0⟩, by rw [ht]; exact hP, hD⟩, hS.F ht⟩) hS.2.2 dX1_weigh_188
          · replace hZ9 := ite_f hZ9 c43
            refine lv_bipush (v := (-5)) hx hb dX1_weigh_171 (by decide) ?_
            refine lv_goto (tgt := 188) hx hb dX1_weigh_173 (by decide) ?_
            exact W.iret (v := (-5)) hx hb hr (fun t ht hW => ⟨⟨(-5), (L40, I42), rfl, ⟨hX.mono (by omega), hUL, hUI, hZ9.symm.trans hR0⟩, by rw [ht]; exact hP, hD⟩, hS.F ht⟩) hS.2.2 dX1_weigh_188
        · replace hZ9 := ite_f hZ9 c37
          refine lv_bipush (v := (-4)) hx hb dX1_weigh_132 (by decide) ?_
          exact W.iret (v := (-4)) hx hb hr (fun t ht hW => ⟨⟨(-4), (L34, I7), rfl, ⟨hX.mono (by omega), hUL, hUI, hZ9.symm.trans hR0⟩, by rw [ht]; exact hP, hD⟩, hS.F ht⟩) hS.2.2 dX1_weigh_134
    · replace hZ9 := ite_f hZ9 c8
      refine lv_iload hx hb dX1_weigh_56 (lv_at hl 0 rfl) ?_
      exact W.iret (v := r5) hx hb hr (fun t ht hW => ⟨⟨r5, (L6, I7), rfl, ⟨hX.mono (by omega), hUL, hUI, hZ9.symm.trans hR0⟩, by rw [ht]; exact hP, hD⟩, hS.F ht⟩) hS.2.2 dX1_weigh_58
  · replace hZ9 := ite_t hZ9 c3
    refine lv_aload_n hx hb dX1_weigh_16 rfl (lv_at hl 1 rfl) ?_
    refine lv_aload_n hx hb dX1_weigh_17 rfl (lv_at hl 1 rfl) ?_
    refine va_get (D := (dC, dI)) (ci := 2) (v := .ref (a 1)) (C := RX1) (T := TX1) (N := 5) hx hb hts in_y_weigh_X1 hown hK hP 13 rfl rfl 0 (by decide) (hts (.fieldLink RX1 9 "ServiceTree$Draft" "relations" "LServiceTree$Relations;") (by decide +kernel)) (fun _ h9 => h9) rfl dX1_weigh_18 ?_
    refine lv_iload_n hx hb dX1_weigh_21 rfl (lv_at hl 3 rfl) ?_
    have hFc := mw_free hD hS hA
    refine va_calll (va_runSN (As := [.int (nI xv)]) (rest := [.ref (a 1), .ref (a 2)]) ⟨hx, hb, hml, hown, hts⟩ (c_y_only l dC dI h a e cI cJ cO cE L2 I M J n cap fE sd si sa dl (b) xv H.size hX (by omega) ) ⟨va_cnB 1 hts wc_y_weigh_y_only_19 rfl rfl rfl (hN (.methodLinkNest RX1 19 yX8_only "ServiceTree") (by decide +kernel)) (hts (.initialized RX8) (by decide +kernel)) (by decide +kernel) ⟨Nat.le_of_ble_eq_true rfl, Nat.le_of_ble_eq_true rfl⟩, hts (.static yX8_only) (by decide +kernel), trivial⟩ ⟨fun a9 U g mk q => by obtain ⟨q0, q1, qP, qK, qD, qN⟩ := q; exact ⟨q0, q1, qP, va_K.moved (u := U) (U := U.calling g mk a9) (Vm.Alike.refl U.vm) qK, qD, pw_N.same (u := U) (U := U.calling g mk a9) rfl qN⟩, fun U hU hW => ⟨rfl, by rw [hU], by rw [hU]; exact hP, va_K.moved hW.alike hK, hD.weaken (fun _ _ _ _ => trivial), pw_N.warm hW hN⟩⟩ rfl rfl hl.1 rfl (lv_room (Nat.le_of_ble_eq_true rfl)) dX1_weigh_22 ⟨Nat.le_of_ble_eq_true rfl, Nat.le_of_ble_eq_true rfl⟩) hS (fun q _ h => hFc q h) hFc (fun r46 u t H1 locs ht hvm hw hB hz1 hk1 hS => ?_)
    replace hP := hB.1
    rw [ht] at hP
    replace hD : va_D A (xW h a e cI cJ cO cE L2 I M J n cap fE sd si sa dl) := hB.2.weaken (fun _ q _ h9 => hFc q.1 h9)
    clear hB
    generalize H1 = H at hP hS ⊢
    replace hP : va_P (dC, dI) vwCl (xW h a e cI cJ cO cE L2 I M J n cap fE sd si sa dl) H := hP
    replace hw : r46 = f_y_only n dl xv  := hw
    replace hZ9 := bnd_s hZ9 hw
    refine lv_lload hx hb dX1_weigh_25 (lv_at hl 0 rfl) ?_
    have hFc := mw_free hD hS hA
    refine va_calll (va_runV (As := [.long r46, .long x1]) (rest := [.ref (a 2)]) ⟨hx, hb, hml, hown, hts⟩ (c_y_withNeeders l dC dI h a e cI cJ cO cE L2 I M J n cap fE sd si sa dl (b) r46 x1 H.size hX (by omega) ) (cwV 2 hts wc_y_weigh_y_withNeeders_23 rfl rfl rfl (by decide +kernel) ⟨Nat.le_of_ble_eq_true rfl, Nat.le_of_ble_eq_true rfl⟩) ⟨fun a9 U g mk q => by obtain ⟨q0, q1, qP, qK, qD, qN⟩ := q; exact ⟨q0, q1, qP, va_K.moved (u := U) (U := U.calling g mk a9) (Vm.Alike.refl U.vm) qK, qD, pw_N.same (u := U) (U := U.calling g mk a9) rfl qN⟩, va_recv hK hP (ci := 6) (q0 := 2) rfl rfl, fun U hU hW => ⟨rfl, by rw [hU], by rw [hU]; exact hP, va_K.moved hW.alike hK, hD.weaken (fun _ _ _ _ => trivial), pw_N.warm hW hN⟩⟩ rfl rfl hl.1 rfl (lv_room (Nat.le_of_ble_eq_true rfl)) dX1_weigh_27 ⟨Nat.le_of_ble_eq_true rfl, Nat.le_of_ble_eq_true rfl⟩) hS (fun q _ h => hFc q h) hFc (fun r47 u t H1 locs ht hvm hw hB hz1 hk1 hS => ?_)
    replace hP := hB.1
    rw [ht] at hP
    replace hD : va_D A (xW h a e cI cJ cO cE L2 I M J n cap fE sd si sa dl) := hB.2.weaken (fun _ q _ h9 => hFc q.1 h9)
    clear hB
    generalize H1 = H at hP hS ⊢
    replace hP : va_P (dC, dI) vwCl (xW h a e cI cJ cO cE L2 I M J n cap fE sd si sa dl) H := hP
    replace hw : r47 = f_y_withNeeders n dl r46 x1 M := hw
    replace hZ9 := bnd_s hZ9 hw
    refine lv_lload hx hb dX1_weigh_30 (lv_at hl 0 rfl) ?_
    refine lv_land hx hb dX1_weigh_32 ?_
    refine lv_topl (fun x48 ex48 => ?_)
    replace hZ9 := bnd_s hZ9 ex48
    refine va_put (D := (dC, dI)) (ci := 2) (fs := [.ref (a 1), .long (L2 2), .long (L2 3), .long (L2 4), .int (I 8)]) (v := .long x48) (ty := .long) (C := RX1) (T := TX1) (N := 5) hx hb hts in_y_weigh_X1 tyX1 tyX1_ok nmX1 hown hK hP hD hS 13 rfl rfl 3 (by decide) (hts (.fieldLink RX1 29 "ServiceTree$Draft" "stops" "J") (by decide +kernel)) (fun _ h9 => h9) rfl (by decide +kernel) rfl rfl (Nat.le_of_ble_eq_true rfl) dX1_weigh_33 (fun H locs hP hD hS => ?_)
    replace hP : va_P (dC, dI) vwCl ((xW h a e cI cJ cO cE L2 I M J n cap fE sd si sa dl).set 13 (a 2, .inr (2, [.ref (a 1), .long (L2 2), .long (L2 3), .long x48, .int (I 8)]))) H := hP
    replace hD : va_D A ((xW h a e cI cJ cO cE L2 I M J n cap fE sd si sa dl).set 13 (a 2, .inr (2, [.ref (a 1), .long (L2 2), .long (L2 3), .long x48, .int (I 8)]))) := hD
    rw [xF_L4] at hP hD
    obtain ⟨L49, eL49⟩ : ∃ f9 : Nat → Int64, f9 = va_up L2 4 x48 := ⟨_, rfl⟩
    rw [← eL49] at hP hD
    replace hZ9 := bnd_s hZ9 eL49
    replace hUL : ∀ j9 : Nat, j9 ∉ ([2, 3, 4] : List Nat) → L49 j9 = L j9 := by rw [eL49]; exact mw_up (by decide) hUL
    refine lv_goto (tgt := 135) hx hb dX1_weigh_36 (by decide) ?_
    refine lv_aload_n hx hb dX1_weigh_135 rfl (lv_at hl 1 rfl) ?_
    refine lv_aload_n hx hb dX1_weigh_136 rfl (lv_at hl 1 rfl) ?_
    refine va_get (D := (dC, dI)) (ci := 2) (v := .long (L49 2)) (C := RX1) (T := TX1) (N := 5) hx hb hts in_y_weigh_X1 hown hK hP 13 rfl rfl 1 (by decide) (hts (.fieldLink RX1 15 "ServiceTree$Draft" "members" "J") (by decide +kernel)) (fun _ h9 => h9) rfl dX1_weigh_137 ?_
    refine p1_topr (v := .long 0) (congrArg Value.long (by rw [eL49, va_up_ne _ _ (by decide)]; exact (by rw [eL2]; exact va_up_self _ _ _))) ?_
    refine lv_lload_n hx hb dX1_weigh_140 rfl (lv_at hl 4 rfl) ?_
    refine lv_ldc2 (v := (-1)) hx hb hown (hts (.constantLong RX1 32 (-1)) (by decide +kernel)) dX1_weigh_141 ?_
    refine lv_lxor hx hb dX1_weigh_144 ?_
    refine lv_topl (fun x50 ex50 => ?_)
    replace hZ9 := bnd_s hZ9 ex50
    refine lv_land hx hb dX1_weigh_145 ?_
    refine lv_topl (fun x51 ex51 => ?_)
    replace hZ9 := bnd_s hZ9 ex51
    refine va_put (D := (dC, dI)) (ci := 2) (fs := [.ref (a 1), .long (L49 2), .long (L49 3), .long (L49 4), .int (I 8)]) (v := .long x51) (ty := .long) (C := RX1) (T := TX1) (N := 5) hx hb hts in_y_weigh_X1 tyX1 tyX1_ok nmX1 hown hK hP hD hS 13 rfl rfl 2 (by decide) (hts (.fieldLink RX1 46 "ServiceTree$Draft" "starts" "J") (by decide +kernel)) (fun _ h9 => h9) rfl (by decide +kernel) rfl rfl (Nat.le_of_ble_eq_true rfl) dX1_weigh_146 (fun H locs hP hD hS => ?_)
    replace hP : va_P (dC, dI) vwCl ((xW h a e cI cJ cO cE L49 I M J n cap fE sd si sa dl).set 13 (a 2, .inr (2, [.ref (a 1), .long (L49 2), .long x51, .long (L49 4), .int (I 8)]))) H := hP
    replace hD : va_D A ((xW h a e cI cJ cO cE L49 I M J n cap fE sd si sa dl).set 13 (a 2, .inr (2, [.ref (a 1), .long (L49 2), .long x51, .long (L49 4), .int (I 8)]))) := hD
    rw [xF_L3] at hP hD
    obtain ⟨L52, eL52⟩ : ∃ f9 : Nat → Int64, f9 = va_up L49 3 x51 := ⟨_, rfl⟩
    rw [← eL52] at hP hD
    replace hZ9 := bnd_s hZ9 eL52
    replace hUL : ∀ j9 : Nat, j9 ∉ ([2, 3, 4] : List Nat) → L52 j9 = L j9 := by rw [eL52]; exact mw_up (by decide) hUL
    refine lv_aload_n hx hb dX1_weigh_149 rfl (lv_at hl 1 rfl) ?_
    refine lv_aload_n hx hb dX1_weigh_150 rfl (lv_at hl 1 rfl) ?_
    refine va_get (D := (dC, dI)) (ci := 2) (v := .ref (a 1)) (C := RX1) (T := TX1) (N := 5) hx hb hts in_y_weigh_X1 hown hK hP 13 rfl rfl 0 (by decide) (hts (.fieldLink RX1 9 "ServiceTree$Draft" "relations" "LServiceTree$Relations;") (by decide +kernel)) (fun _ h9 => h9) rfl dX1_weigh_151 ?_
    refine lv_aload_n hx hb dX1_weigh_154 rfl (lv_at hl 1 rfl) ?_
    refine va_get (D := (dC, dI)) (ci := 2) (v := .long (L52 4)) (C := RX1) (T := TX1) (N := 5) hx hb hts in_y_weigh_X1 hown hK hP 13 rfl rfl 3 (by decide) (hts (.fieldLink RX1 29 "ServiceTree$Draft" "stops" "J") (by decide +kernel)) (fun _ h9 => h9) rfl dX1_weigh_155 ?_
    refine p1_topr (v := .long x48) (congrArg Value.long (by rw [eL52, va_up_ne _ _ (by decide)]; exact (by rw [eL49]; exact va_up_self _ _ _))) ?_
    have hFc := mw_free hD hS hA
    refine va_calli (va_runV (As := [.long x48]) (rest := [.ref (a 2)]) ⟨hx, hb, hml, hown, hts⟩ (c_y_shortestRing l dC dI h a e cI cJ cO cE L52 I M J n cap fE sd si sa dl (b) x48 H.size hX (by omega) ) (cwV 1 hts wc_y_weigh_y_shortestRing_49 rfl rfl rfl (by decide +kernel) ⟨Nat.le_of_ble_eq_true rfl, Nat.le_of_ble_eq_true rfl⟩) ⟨fun a9 U g mk q => by obtain ⟨q0, q1, qP, qK, qD, qN⟩ := q; exact ⟨q0, q1, qP, va_K.moved (u := U) (U := U.calling g mk a9) (Vm.Alike.refl U.vm) qK, qD, pw_N.same (u := U) (U := U.calling g mk a9) rfl qN⟩, va_recv hK hP (ci := 6) (q0 := 2) rfl rfl, fun U hU hW => ⟨rfl, by rw [hU], by rw [hU]; exact hP, va_K.moved hW.alike hK, hD.weaken (fun _ _ _ _ => trivial), pw_N.warm hW hN⟩⟩ rfl rfl hl.1 rfl (lv_room (Nat.le_of_ble_eq_true rfl)) dX1_weigh_158 ⟨Nat.le_of_ble_eq_true rfl, Nat.le_of_ble_eq_true rfl⟩) hS (fun q _ h => hFc q h) hFc (fun r53 u t H1 locs ht hvm hw hB hz1 hk1 hS => ?_)
    replace hP := hB.1
    rw [ht] at hP
    replace hD : va_D A (xW h a e cI cJ cO cE L52 I M J n cap fE sd si sa dl) := hB.2.weaken (fun _ q _ h9 => hFc q.1 h9)
    clear hB
    generalize H1 = H at hP hS ⊢
    replace hP : va_P (dC, dI) vwCl (xW h a e cI cJ cO cE L52 I M J n cap fE sd si sa dl) H := hP
    replace hw : r53 = f_y_shortestRing n dl x48 M := hw
    replace hZ9 := bnd_s hZ9 hw
    refine va_put (D := (dC, dI)) (ci := 2) (fs := [.ref (a 1), .long (L52 2), .long (L52 3), .long (L52 4), .int (I 8)]) (v := .int r53) (ty := .int) (C := RX1) (T := TX1) (N := 5) hx hb hts in_y_weigh_X1 tyX1 tyX1_ok nmX1 hown hK hP hD hS 13 rfl rfl 4 (by decide) (hts (.fieldLink RX1 53 "ServiceTree$Draft" "ringSize" "I") (by decide +kernel)) (fun _ h9 => h9) rfl (by decide +kernel) rfl rfl (Nat.le_of_ble_eq_true rfl) dX1_weigh_161 (fun H locs hP hD hS => ?_)
    replace hP : va_P (dC, dI) vwCl ((xW h a e cI cJ cO cE L52 I M J n cap fE sd si sa dl).set 13 (a 2, .inr (2, [.ref (a 1), .long (L52 2), .long (L52 3), .long (L52 4), .int r53]))) H := hP
    replace hD : va_D A ((xW h a e cI cJ cO cE L52 I M J n cap fE sd si sa dl).set 13 (a 2, .inr (2, [.ref (a 1), .long (L52 2), .long (L52 3), .long (L52 4), .int r53]))) := hD
    rw [xF_I8] at hP hD
    obtain ⟨I54, eI54⟩ : ∃ f9 : Nat → Int32, f9 = va_up I 8 r53 := ⟨_, rfl⟩
    rw [← eI54] at hP hD
    replace hZ9 := bnd_s hZ9 eI54
    replace hX : InvX n cap fE sd dl (b) I54 J si := by rw [eI54]; exact hX.setI (by decide)
    replace hUI : ∀ j9 : Nat, j9 ∉ ([8] : List Nat) → I54 j9 = I j9 := by rw [eI54]; exact mw_up (by decide) hUI
    refine lv_aload_n hx hb dX1_weigh_164 rfl (lv_at hl 1 rfl) ?_
    refine va_get (D := (dC, dI)) (ci := 2) (v := .int (I54 8)) (C := RX1) (T := TX1) (N := 5) hx hb hts in_y_weigh_X1 hown hK hP 13 rfl rfl 4 (by decide) (hts (.fieldLink RX1 53 "ServiceTree$Draft" "ringSize" "I") (by decide +kernel)) (fun _ h9 => h9) rfl dX1_weigh_165 ?_
    refine p1_topr (v := .int r53) (congrArg Value.int (by rw [eI54]; exact va_up_self _ _ _)) ?_
    refine lv_if_le (tgt := 176) hx hb dX1_weigh_168 (by decide) (fun c55 => ?_) (fun c55 => ?_)
    · replace hZ9 := ite_t hZ9 c55
      refine lv_aload_n hx hb dX1_weigh_176 rfl (lv_at hl 1 rfl) ?_
      refine va_get (D := (dC, dI)) (ci := 2) (v := .long (L52 3)) (C := RX1) (T := TX1) (N := 5) hx hb hts in_y_weigh_X1 hown hK hP 13 rfl rfl 2 (by decide) (hts (.fieldLink RX1 46 "ServiceTree$Draft" "starts" "J") (by decide +kernel)) (fun _ h9 => h9) rfl dX1_weigh_177 ?_
      refine p1_topr (v := .long x51) (congrArg Value.long (by rw [eL52]; exact va_up_self _ _ _)) ?_
      refine lv_aload_n hx hb dX1_weigh_180 rfl (lv_at hl 1 rfl) ?_
      refine va_get (D := (dC, dI)) (ci := 2) (v := .long (L52 4)) (C := RX1) (T := TX1) (N := 5) hx hb hts in_y_weigh_X1 hown hK hP 13 rfl rfl 3 (by decide) (hts (.fieldLink RX1 29 "ServiceTree$Draft" "stops" "J") (by decide +kernel)) (fun _ h9 => h9) rfl dX1_weigh_181 ?_
      refine p1_topr (v := .long x48) (congrArg Value.long (by rw [eL52, va_up_ne _ _ (by decide)]; exact (by rw [eL49]; exact va_up_self _ _ _))) ?_
      refine lv_lor hx hb dX1_weigh_184 ?_
      refine lv_topl (fun x56 ex56 => ?_)
      replace hZ9 := bnd_s hZ9 ex56
      have hFc := mw_free hD hS hA
      refine va_calli (va_runS (As := [.long x56]) (rest := []) ⟨hx, hb, hml, hown, hts⟩ (c_y_bitCount l dC dI h a e cI cJ cO cE L52 I54 M J n cap fE sd si sa dl (b) x56 H.size hX (by omega) ) (va_cwS 1 hts wc_y_weigh_y_bitCount_57 rfl rfl rfl (by decide +kernel) ⟨Nat.le_of_ble_eq_true rfl, Nat.le_of_ble_eq_true rfl⟩) ⟨fun a9 U g mk q => by obtain ⟨q0, q1, qP, qK, qD, qN⟩ := q; exact ⟨q0, q1, qP, va_K.moved (u := U) (U := U.calling g mk a9) (Vm.Alike.refl U.vm) qK, qD, pw_N.same (u := U) (U := U.calling g mk a9) rfl qN⟩, fun U hU hW => ⟨rfl, by rw [hU], by rw [hU]; exact hP, va_K.moved hW.alike hK, hD.weaken (fun _ _ _ _ => trivial), pw_N.warm hW hN⟩⟩ rfl rfl hl.1 rfl (lv_room (Nat.le_of_ble_eq_true rfl)) dX1_weigh_185 ⟨Nat.le_of_ble_eq_true rfl, Nat.le_of_ble_eq_true rfl⟩) hS (fun q _ h => hFc q h) hFc (fun r57 u t H1 locs ht hvm hw hB hz1 hk1 hS => ?_)
      replace hP := hB.1
      rw [ht] at hP
      replace hD : va_D A (xW h a e cI cJ cO cE L52 I54 M J n cap fE sd si sa dl) := hB.2.weaken (fun _ q _ h9 => hFc q.1 h9)
      clear hB
      generalize H1 = H at hP hS ⊢
      replace hP : va_P (dC, dI) vwCl (xW h a e cI cJ cO cE L52 I54 M J n cap fE sd si sa dl) H := hP
      replace hw : r57 = f_y_bitCount n dl x56  := hw
      replace hZ9 := bnd_s hZ9 hw
      exact W.iret (v := r57) hx hb hr (fun t ht hW => ⟨⟨r57, (L52, I54), rfl, ⟨hX.mono (by omega), hUL, hUI, hZ9.symm.trans hR0⟩, by rw [ht]; exact hP, hD⟩, hS.F ht⟩) hS.2.2 dX1_weigh_188
    · replace hZ9 := ite_f hZ9 c55
      refine lv_bipush (v := (-5)) hx hb dX1_weigh_171 (by decide) ?_
      refine lv_goto (tgt := 188) hx hb dX1_weigh_173 (by decide) ?_
      exact W.iret (v := (-5)) hx hb hr (fun t ht hW => ⟨⟨(-5), (L52, I54), rfl, ⟨hX.mono (by omega), hUL, hUI, hZ9.symm.trans hR0⟩, by rw [ht]; exact hP, hD⟩, hS.F ht⟩) hS.2.2 dX1_weigh_188
def wq_y_canRelate : List Cond := ([.code yX8_canRelate cX8_canRelate 4 (some .boolean), .methodLink RX8 57 yX8_within, .static yX8_within, .initialized RX8, .methodLink RX8 82 yX8_exists, .instanceMethod yX8_exists, .selects RX8 yX8_exists yX8_exists] : List Cond) ++ (wq_y_within ++ (wq_y_exists))
set_option maxRecDepth 20000 in
theorem wi_y_canRelate : ∀ w ∈ wq_y_canRelate, w ∈ lw_tbl := List.forall_mem_append.mpr ⟨(wix [482, 271, 272, 60, 449, 451, 3] rfl), List.forall_mem_append.mpr ⟨wi_y_within, wi_y_exists⟩⟩
set_option maxRecDepth 20000 in
theorem wg_y_canRelate : GoodIn wq_y_canRelate wq_y_canRelate := goodIn_sub (fun _ h => h) (by decide +kernel)
set_option maxRecDepth 20000 in
theorem wc_y_canRelate_y_within_57 : GoodIn wq_y_canRelate (va_wsS RX8 57 yX8_within wq_y_within) := goodIn_app (goodIn_of _ (by decide +kernel)) (fun w h => ⟨List.mem_append_right _ (List.mem_append_left _ (h)), (wg_y_within w h).2⟩)
set_option maxRecDepth 20000 in
theorem wc_y_canRelate_y_exists_82 : GoodIn wq_y_canRelate (wsV RX8 82 RX8 yX8_exists wq_y_exists) := goodIn_app (goodIn_of _ (by decide +kernel)) (fun w h => ⟨List.mem_append_right _ (List.mem_append_right _ (h)), (wg_y_exists w h).2⟩)
def rm_y_canRelate : Room := { frames := 2, cells := 0, slots := 0, locals := 43 }
set_option maxHeartbeats 4000000 in
set_option maxRecDepth 100000 in
theorem c_y_canRelate (l : Launch) (dC : Nat → ClassId) (dI : Nat → Nat → Nat) (h : Nat) (a : Nat → Nat) (e : Nat) (cI cJ cO cE : ClassId) (L : Nat → Int64) (I : Nat → Int32) (M : Nat → Nat → Int64) (J : Nat → Nat → Int32) (n cap : Nat) (fE : Nat → Option Nat) (sd : Nat → Nat → Nat) (si : Nat → Nat → Int32) (sa : Nat → Nat → Nat → Int32) (dl : Nat → Nat) (b : Nat) (p0 : Int32) (p1 : Int32) (p2 : Int32) (sz : Nat) (hX0 : InvX n cap fE sd dl b I J si) (hb0 : b + 0 < 2147483648)  : Met l yX8_canRelate wq_y_canRelate rm_y_canRelate (va_Pc [.ref h, .int p0, .int p1, .int p2] (fun U => U.heap.size = sz ∧ va_P (dC, dI) vwCl (xW h a e cI cJ cO cE L I M J n cap fE sd si sa dl) U.heap ∧ va_K (dC, dI) vwCl (xT cI cJ cO cE) U ∧ va_D (fun _ => True) (xW h a e cI cJ cO cE L I M J n cap fE sd si sa dl) ∧ pw_N U)) (va_Qi (fun (r : Int32) (u : Unit) => ((r = 1 ∧ ∃ ov av bv : Nat, ov < 4 ∧ av < n ∧ bv < n ∧ av ≠ bv ∧ p0 = nI ov ∧ p1 = nI av ∧ p2 = nI bv) ∨ (r = 0 ∧ ¬ ((0 ≤ p0 ∧ p0 ≤ 3) ∧ (0 ≤ p1 ∧ p1 < nI n) ∧ (0 ≤ p2 ∧ p2 < nI n) ∧ ¬ p1 = p2)))) (fun (u : Unit) (t : State) => va_P (dC, dI) vwCl (xW h a e cI cJ cO cE L I M J n cap fE sd si sa dl) t.heap ∧ va_D (va_A (xW h a e cI cJ cO cE L I M J n cap fE sd si sa dl) sz) (xW h a e cI cJ cO cE L I M J n cap fE sd si sa dl)) (va_A (xW h a e cI cJ cO cE L I M J n cap fE sd si sa dl) sz)) 0 0 (va_A (xW h a e cI cJ cO cE L I M J n cap fE sd si sa dl) sz) := by
  have hn : n ≤ 40 := hX0.1.1
  have hX := hX0
  refine Met.ofW (cc := cX8_canRelate) (maxL := 4) (ret := (some .boolean)) (by decide) rfl ?_
  intro p e9 s m args below meth c s₁ B hml hv
  obtain ⟨rfl, hsz, hP, hK, hD0, hN⟩ := hv
  have hx := B.exec
  have hb := B.bytes
  have hr := B.returns
  have hts := atoms_spec (ws := wq_y_canRelate) B.pre
  have hown : s.vm.findClass RX8 = some m.cls := findClass_of_methodNamed B.named
  have hlocks := B.notSynchronized
  subst hsz
  have hD := hD0.self (sz := s.heap.size)
  generalize hAe : va_A (xW h a e cI cJ cO cE L I M J n cap fE sd si sa dl) s.heap.size = A at hD ⊢
  have hA : ∀ q : Nat, s.heap.size ≤ q → A q := fun q h => by rw [← hAe]; exact Or.inr h
  have hS : va_S A s.heap s.heap [] := va_S.rf
  have hl := lv_entry ([.ref h, .int p0, .int p1, .int p2]) (n := 4) (Nat.le_of_ble_eq_true rfl)
  rw [lg_entry_eq]
  generalize (lg_sl ([.ref h, .int p0, .int p1, .int p2]) ++ List.replicate (4 - (lg_sl ([.ref h, .int p0, .int p1, .int p2])).length) Slot.unset).toArray = ls at hl ⊢
  have hl : lv_has ls 4 [(0, .ref h), (1, .int p0), (2, .int p1), (3, .int p2)] := hl
  obtain ⟨RES, hZ9⟩ : ∃ R9 : Unit, R9 = R9 := ⟨(), rfl⟩
  refine lv_iload_n hx hb dX8_canRelate_0 rfl (lv_at hl 1 rfl) ?_
  refine lv_iconst (v := 0) hx hb dX8_canRelate_1 (by decide) ?_
  refine lv_iconst (v := 3) hx hb dX8_canRelate_2 (by decide) ?_
  have hFc := mw_free hD hS hA
  refine va_calli (va_runS (As := [.int p0, .int 0, .int 3]) (rest := []) ⟨hx, hb, hml, hown, hts⟩ (c_y_within l dC dI h a e cI cJ cO cE L I M J n cap fE sd si sa dl (b) p0 0 3 s.heap.size hX (by omega) ) (va_cwS 3 hts wc_y_canRelate_y_within_57 rfl rfl rfl (by decide +kernel) ⟨Nat.le_of_ble_eq_true rfl, Nat.le_of_ble_eq_true rfl⟩) ⟨fun a9 U g mk q => by obtain ⟨q0, q1, qP, qK, qD, qN⟩ := q; exact ⟨q0, q1, qP, va_K.moved (u := U) (U := U.calling g mk a9) (Vm.Alike.refl U.vm) qK, qD, pw_N.same (u := U) (U := U.calling g mk a9) rfl qN⟩, fun U hU hW => ⟨rfl, by rw [hU], by rw [hU]; exact hP, va_K.moved hW.alike hK, hD.weaken (fun _ _ _ _ => trivial), pw_N.warm hW hN⟩⟩ rfl rfl hl.1 rfl (lv_room (Nat.le_of_ble_eq_true rfl)) dX8_canRelate_3 ⟨Nat.le_of_ble_eq_true rfl, Nat.le_of_ble_eq_true rfl⟩) hS (fun q _ h => hFc q h) hFc (fun r1 u t H1 locs ht hvm hw hB hz1 hk1 hS => ?_)
  replace hP := hB.1
  rw [ht] at hP
  replace hD : va_D A (xW h a e cI cJ cO cE L I M J n cap fE sd si sa dl) := hB.2.weaken (fun _ q _ h9 => hFc q.1 h9)
  clear hB
  generalize H1 = H at hP hS ⊢
  replace hP : va_P (dC, dI) vwCl (xW h a e cI cJ cO cE L I M J n cap fE sd si sa dl) H := hP
  rcases hw with ⟨rfl, haj2, hbj2⟩ | ⟨rfl, noj2⟩
  · skip
    obtain ⟨j2, hj2, ej2⟩ := nI_of2 (n := 3) (by decide) (xw_ge0 haj2) hbj2
    skip
    subst ej2
    refine lv_if_eq (tgt := 34) hx hb dX8_canRelate_6 (by decide) (fun c9 => absurd c9 (by decide)) (fun _ => ?_)
    refine lv_aload_n hx hb dX8_canRelate_9 rfl (lv_at hl 0 rfl) ?_
    refine lv_iload_n hx hb dX8_canRelate_10 rfl (lv_at hl 2 rfl) ?_
    have hFc := mw_free hD hS hA
    refine va_calli (va_runV (As := [.int p1]) (rest := []) ⟨hx, hb, hml, hown, hts⟩ (c_y_exists l dC dI h a e cI cJ cO cE L I M J n cap fE sd si sa dl (b) p1 H.size hX (by omega) ) (cwV 1 hts wc_y_canRelate_y_exists_82 rfl rfl rfl (by decide +kernel) ⟨Nat.le_of_ble_eq_true rfl, Nat.le_of_ble_eq_true rfl⟩) ⟨fun a9 U g mk q => by obtain ⟨q0, q1, qP, qK, qD, qN⟩ := q; exact ⟨q0, q1, qP, va_K.moved (u := U) (U := U.calling g mk a9) (Vm.Alike.refl U.vm) qK, qD, pw_N.same (u := U) (U := U.calling g mk a9) rfl qN⟩, va_recv hK hP (ci := 9) (q0 := 0) rfl rfl, fun U hU hW => ⟨rfl, by rw [hU], by rw [hU]; exact hP, va_K.moved hW.alike hK, hD.weaken (fun _ _ _ _ => trivial), pw_N.warm hW hN⟩⟩ rfl rfl hl.1 rfl (lv_room (Nat.le_of_ble_eq_true rfl)) dX8_canRelate_11 ⟨Nat.le_of_ble_eq_true rfl, Nat.le_of_ble_eq_true rfl⟩) hS (fun q _ h => hFc q h) hFc (fun r3 u t H1 locs ht hvm hw hB hz1 hk1 hS => ?_)
    replace hP := hB.1
    rw [ht] at hP
    replace hD : va_D A (xW h a e cI cJ cO cE L I M J n cap fE sd si sa dl) := hB.2.weaken (fun _ q _ h9 => hFc q.1 h9)
    clear hB
    generalize H1 = H at hP hS ⊢
    replace hP : va_P (dC, dI) vwCl (xW h a e cI cJ cO cE L I M J n cap fE sd si sa dl) H := hP
    rcases hw with ⟨rfl, j4, hj4, ej4⟩ | ⟨rfl, noj4⟩
    · skip
      skip
      subst ej4
      refine lv_if_eq (tgt := 34) hx hb dX8_canRelate_14 (by decide) (fun c9 => absurd c9 (by decide)) (fun _ => ?_)
      refine lv_aload_n hx hb dX8_canRelate_17 rfl (lv_at hl 0 rfl) ?_
      refine lv_iload_n hx hb dX8_canRelate_18 rfl (lv_at hl 3 rfl) ?_
      have hFc := mw_free hD hS hA
      refine va_calli (va_runV (As := [.int p2]) (rest := []) ⟨hx, hb, hml, hown, hts⟩ (c_y_exists l dC dI h a e cI cJ cO cE L I M J n cap fE sd si sa dl (b) p2 H.size hX (by omega) ) (cwV 1 hts wc_y_canRelate_y_exists_82 rfl rfl rfl (by decide +kernel) ⟨Nat.le_of_ble_eq_true rfl, Nat.le_of_ble_eq_true rfl⟩) ⟨fun a9 U g mk q => by obtain ⟨q0, q1, qP, qK, qD, qN⟩ := q; exact ⟨q0, q1, qP, va_K.moved (u := U) (U := U.calling g mk a9) (Vm.Alike.refl U.vm) qK, qD, pw_N.same (u := U) (U := U.calling g mk a9) rfl qN⟩, va_recv hK hP (ci := 9) (q0 := 0) rfl rfl, fun U hU hW => ⟨rfl, by rw [hU], by rw [hU]; exact hP, va_K.moved hW.alike hK, hD.weaken (fun _ _ _ _ => trivial), pw_N.warm hW hN⟩⟩ rfl rfl hl.1 rfl (lv_room (Nat.le_of_ble_eq_true rfl)) dX8_canRelate_19 ⟨Nat.le_of_ble_eq_true rfl, Nat.le_of_ble_eq_true rfl⟩) hS (fun q _ h => hFc q h) hFc (fun r5 u t H1 locs ht hvm hw hB hz1 hk1 hS => ?_)
      replace hP := hB.1
      rw [ht] at hP
      replace hD : va_D A (xW h a e cI cJ cO cE L I M J n cap fE sd si sa dl) := hB.2.weaken (fun _ q _ h9 => hFc q.1 h9)
      clear hB
      generalize H1 = H at hP hS ⊢
      replace hP : va_P (dC, dI) vwCl (xW h a e cI cJ cO cE L I M J n cap fE sd si sa dl) H := hP
      rcases hw with ⟨rfl, j6, hj6, ej6⟩ | ⟨rfl, noj6⟩
      · skip
        skip
        subst ej6
        refine lv_if_eq (tgt := 34) hx hb dX8_canRelate_22 (by decide) (fun c9 => absurd c9 (by decide)) (fun _ => ?_)
        refine lv_iload_n hx hb dX8_canRelate_25 rfl (lv_at hl 2 rfl) ?_
        refine lv_iload_n hx hb dX8_canRelate_26 rfl (lv_at hl 3 rfl) ?_
        refine lv_icmp_eq (tgt := 34) hx hb dX8_canRelate_27 (by decide) (fun c7 => ?_) (fun c7 => ?_)
        · replace c7 : j4 = j6 := (nI_eq (a := j4) (b := j6) (by omega) (by omega)).mp c7
          skip
          refine lv_iconst (v := 0) hx hb dX8_canRelate_34 (by decide) ?_
          exact W.zret (v := 0) hx hb hr (by decide) (fun t ht hW => ⟨⟨0, (), rfl, Or.inr ⟨rfl, fun q9 => (by first | exact hbj2 q9.1 | exact hbj2 q9.2.1 | exact hbj2 q9.2.2.1 | exact q9.2.2.2 (by first | assumption | (subst_vars; rfl)))⟩, by rw [ht]; exact hP, hD⟩, hS.F ht⟩) hS.2.2 dX8_canRelate_35
        · replace c7 : ¬ (j4 = j6) := fun q9 => c7 ((nI_eq (a := j4) (b := j6) (by omega) (by omega)).mpr q9)
          skip
          refine lv_iconst (v := 1) hx hb dX8_canRelate_30 (by decide) ?_
          refine lv_goto (tgt := 35) hx hb dX8_canRelate_31 (by decide) ?_
          exact W.zret (v := 1) hx hb hr (by decide) (fun t ht hW => ⟨⟨1, (), rfl, Or.inl ⟨rfl, j2, j4, j6, by omega, by omega, by omega, by omega, rfl, rfl, rfl⟩, by rw [ht]; exact hP, hD⟩, hS.F ht⟩) hS.2.2 dX8_canRelate_35
      · skip
        refine lv_if_eq (tgt := 34) hx hb dX8_canRelate_22 (by decide) (fun _ => ?_) (fun c9 => absurd (by decide) c9)
        refine lv_iconst (v := 0) hx hb dX8_canRelate_34 (by decide) ?_
        exact W.zret (v := 0) hx hb hr (by decide) (fun t ht hW => ⟨⟨0, (), rfl, Or.inr ⟨rfl, fun q9 => (by first | exact noj6 q9.1 | exact noj6 q9.2.1 | exact noj6 q9.2.2.1 | exact q9.2.2.2 (by first | assumption | (subst_vars; rfl)))⟩, by rw [ht]; exact hP, hD⟩, hS.F ht⟩) hS.2.2 dX8_canRelate_35
    · skip
      refine lv_if_eq (tgt := 34) hx hb dX8_canRelate_14 (by decide) (fun _ => ?_) (fun c9 => absurd (by decide) c9)
      refine lv_iconst (v := 0) hx hb dX8_canRelate_34 (by decide) ?_
      exact W.zret (v := 0) hx hb hr (by decide) (fun t ht hW => ⟨⟨0, (), rfl, Or.inr ⟨rfl, fun q9 => (by first | exact noj4 q9.1 | exact noj4 q9.2.1 | exact noj4 q9.2.2.1 | exact q9.2.2.2 (by first | assumption | (subst_vars; rfl)))⟩, by rw [ht]; exact hP, hD⟩, hS.F ht⟩) hS.2.2 dX8_canRelate_35
  · skip
    refine lv_if_eq (tgt := 34) hx hb dX8_canRelate_6 (by decide) (fun _ => ?_) (fun c9 => absurd (by decide) c9)
    refine lv_iconst (v := 0) hx hb dX8_canRelate_34 (by decide) ?_
    exact W.zret (v := 0) hx hb hr (by decide) (fun t ht hW => ⟨⟨0, (), rfl, Or.inr ⟨rfl, fun q9 => (by first | exact noj2 q9.1 | exact noj2 q9.2.1 | exact noj2 q9.2.2.1 | exact q9.2.2.2 (by first | assumption | (subst_vars; rfl)))⟩, by rw [ht]; exact hP, hD⟩, hS.F ht⟩) hS.2.2 dX8_canRelate_35
def f_y_life (n : Nat) (dl : Nat → Nat) (p0 : Int32) (p1 : Int32) (p2 : Int32) (si : Nat → Nat → Int32) (sa : Nat → Nat → Nat → Int32) : Int32 × (Nat → Nat → Nat → Int32) := if (0 : Int32) ≤ p0 ∧ p0 < nI n then (bnd (p0.toNatClampNeg) (fun (j2 : Nat) => if (0 : Int32) ≤ p1 ∧ p1 ≤ (7 : Int32) then (bnd (p1.toNatClampNeg) (fun (j4 : Nat) => if (0 : Int32) ≤ p2 ∧ p2 ≤ (1000 : Int32) then (bnd (p2.toNatClampNeg) (fun (j6 : Nat) => bnd (si j2 0) (fun (x8 : Int32) => if x8 = (3 : Int32) then (((-2 : Int32), sa)) else (bnd (sa j2 1 (nI j4).toNatClampNeg) (fun (x10 : Int32) => bnd (up2 sa j2 1 (upd (sa j2 1) (nI j4).toNatClampNeg (nI j6))) (fun (sa11 : Nat → Nat → Nat → Int32) => (x10, sa11))))))) else (((-1 : Int32), sa)))) else (((-1 : Int32), sa)))) else (((-1 : Int32), sa))
def wq_y_life : List Cond := ([.code yX8_life cX8_life 6 (some .int), .fieldLink RX8 10 "ServiceTree" "services" "Ljava/util/ArrayList;", .classLink RX8 65 RX7, .methodLink RX8 82 yX8_exists, .instanceMethod yX8_exists, .selects RX8 yX8_exists yX8_exists, .initialized RX8, .methodLink RX8 57 yX8_within, .static yX8_within, .methodLink RX8 86 yJx4a65c_get_915e3, .instanceMethod yJx4a65c_get_915e3, .selects RJx4a65c yJx4a65c_get_915e3 yJx4a65c_get_915e3, .initialized RJx4a65c] : List Cond) ++ (wsX70 ++ (wsX80 ++ (wq_y_exists ++ (wq_y_within ++ (wq_x_get)))))
theorem in_y_life_X7 : ∀ w ∈ wsX70, w ∈ wq_y_life := fun _ h => List.mem_append_right _ (List.mem_append_left _ (h))
theorem in_y_life_X8 : ∀ w ∈ wsX80, w ∈ wq_y_life := fun _ h => List.mem_append_right _ (List.mem_append_right _ (List.mem_append_left _ (h)))
set_option maxRecDepth 20000 in
theorem wi_y_life : ∀ w ∈ wq_y_life, w ∈ lw_tbl := List.forall_mem_append.mpr ⟨(wix [448, 224, 278, 449, 451, 3, 60, 271, 272, 453, 454, 455, 63] rfl), List.forall_mem_append.mpr ⟨inKX7, List.forall_mem_append.mpr ⟨inKX8, List.forall_mem_append.mpr ⟨wi_y_exists, List.forall_mem_append.mpr ⟨wi_y_within, wi_x_get⟩⟩⟩⟩⟩
set_option maxRecDepth 20000 in
theorem wg_y_life : GoodIn wq_y_life wq_y_life := goodIn_sub (fun _ h => h) (by decide +kernel)
set_option maxRecDepth 20000 in
theorem wc_y_life_y_exists_82 : GoodIn wq_y_life (wsV RX8 82 RX8 yX8_exists wq_y_exists) := goodIn_app (goodIn_of _ (by decide +kernel)) (fun w h => ⟨List.mem_append_right _ (List.mem_append_right _ (List.mem_append_right _ (List.mem_append_left _ (h)))), (wg_y_exists w h).2⟩)
set_option maxRecDepth 20000 in
theorem wc_y_life_y_within_57 : GoodIn wq_y_life (va_wsS RX8 57 yX8_within wq_y_within) := goodIn_app (goodIn_of _ (by decide +kernel)) (fun w h => ⟨List.mem_append_right _ (List.mem_append_right _ (List.mem_append_right _ (List.mem_append_right _ (List.mem_append_left _ (h))))), (wg_y_within w h).2⟩)
set_option maxRecDepth 20000 in
theorem wc_y_life_x_get_86 : GoodIn wq_y_life (wsV RX8 86 RJx4a65c yJx4a65c_get_915e3 wq_x_get) := goodIn_app (goodIn_of _ (by decide +kernel)) (fun w h => ⟨List.mem_append_right _ (List.mem_append_right _ (List.mem_append_right _ (List.mem_append_right _ (List.mem_append_right _ (h))))), (wg_x_get w h).2⟩)
def rm_y_life : Room := { frames := 3, cells := 0, slots := 0, locals := 64 }
set_option maxHeartbeats 4000000 in
set_option maxRecDepth 100000 in
theorem c_y_life (l : Launch) (dC : Nat → ClassId) (dI : Nat → Nat → Nat) (h : Nat) (a : Nat → Nat) (e : Nat) (cI cJ cO cE : ClassId) (L : Nat → Int64) (I : Nat → Int32) (M : Nat → Nat → Int64) (J : Nat → Nat → Int32) (n cap : Nat) (fE : Nat → Option Nat) (sd : Nat → Nat → Nat) (si : Nat → Nat → Int32) (sa : Nat → Nat → Nat → Int32) (dl : Nat → Nat) (b : Nat) (p0 : Int32) (p1 : Int32) (p2 : Int32) (sz : Nat) (hX0 : InvX n cap fE sd dl b I J si) (hb0 : b + 0 < 2147483648)  : Met l yX8_life wq_y_life rm_y_life (va_Pc [.ref h, .int p0, .int p1, .int p2] (fun U => U.heap.size = sz ∧ va_P (dC, dI) vwCl (xW h a e cI cJ cO cE L I M J n cap fE sd si sa dl) U.heap ∧ va_K (dC, dI) vwCl (xT cI cJ cO cE) U ∧ va_D (fun _ => True) (xW h a e cI cJ cO cE L I M J n cap fE sd si sa dl) ∧ pw_N U)) (va_Qi (fun (r : Int32) (u : (Nat → Nat → Nat → Int32)) => InvX n cap fE sd dl (b + 0) I J si ∧ (∀ s9 q9 : Nat, q9 ∉ ([1] : List Nat) → u s9 q9 = sa s9 q9) ∧ ((r, u) = f_y_life n dl p0 p1 p2 si sa)) (fun (u : (Nat → Nat → Nat → Int32)) (t : State) => va_P (dC, dI) vwCl (xW h a e cI cJ cO cE L I M J n cap fE sd si u dl) t.heap ∧ va_D (va_A (xW h a e cI cJ cO cE L I M J n cap fE sd si sa dl) sz) (xW h a e cI cJ cO cE L I M J n cap fE sd si u dl)) (va_A (xW h a e cI cJ cO cE L I M J n cap fE sd si sa dl) sz)) 0 0 (va_A (xW h a e cI cJ cO cE L I M J n cap fE sd si sa dl) sz) := by
  have hn : n ≤ 40 := hX0.1.1
  have hX := hX0
  have hUsa : ∀ s9 q9 : Nat, q9 ∉ ([1] : List Nat) → sa s9 q9 = sa s9 q9 := fun _ _ _ => rfl
  refine Met.ofW (cc := cX8_life) (maxL := 6) (ret := (some .int)) (by decide) rfl ?_
  intro p e9 s m args below meth c s₁ B hml hv
  obtain ⟨rfl, hsz, hP, hK, hD0, hN⟩ := hv
  have hx := B.exec
  have hb := B.bytes
  have hr := B.returns
  have hts := atoms_spec (ws := wq_y_life) B.pre
  have hown : s.vm.findClass RX8 = some m.cls := findClass_of_methodNamed B.named
  have hlocks := B.notSynchronized
  subst hsz
  have hD := hD0.self (sz := s.heap.size)
  generalize hAe : va_A (xW h a e cI cJ cO cE L I M J n cap fE sd si sa dl) s.heap.size = A at hD ⊢
  have hA : ∀ q : Nat, s.heap.size ≤ q → A q := fun q h => by rw [← hAe]; exact Or.inr h
  have hS : va_S A s.heap s.heap [] := va_S.rf
  have hl := lv_entry ([.ref h, .int p0, .int p1, .int p2]) (n := 6) (Nat.le_of_ble_eq_true rfl)
  rw [lg_entry_eq]
  generalize (lg_sl ([.ref h, .int p0, .int p1, .int p2]) ++ List.replicate (6 - (lg_sl ([.ref h, .int p0, .int p1, .int p2])).length) Slot.unset).toArray = ls at hl ⊢
  have hl : lv_has ls 6 [(0, .ref h), (1, .int p0), (2, .int p1), (3, .int p2)] := hl
  obtain ⟨RES, hR0⟩ : ∃ R9, R9 = f_y_life n dl p0 p1 p2 si sa := ⟨_, rfl⟩
  have hZ9 := hR0
  unfold f_y_life at hZ9
  refine lv_aload_n hx hb dX8_life_0 rfl (lv_at hl 0 rfl) ?_
  refine lv_iload_n hx hb dX8_life_1 rfl (lv_at hl 1 rfl) ?_
  have hFc := mw_free hD hS hA
  refine va_calli (va_runV (As := [.int p0]) (rest := []) ⟨hx, hb, hml, hown, hts⟩ (c_y_exists l dC dI h a e cI cJ cO cE L I M J n cap fE sd si sa dl (b) p0 s.heap.size hX (by omega) ) (cwV 1 hts wc_y_life_y_exists_82 rfl rfl rfl (by decide +kernel) ⟨Nat.le_of_ble_eq_true rfl, Nat.le_of_ble_eq_true rfl⟩) ⟨fun a9 U g mk q => by obtain ⟨q0, q1, qP, qK, qD, qN⟩ := q; exact ⟨q0, q1, qP, va_K.moved (u := U) (U := U.calling g mk a9) (Vm.Alike.refl U.vm) qK, qD, pw_N.same (u := U) (U := U.calling g mk a9) rfl qN⟩, va_recv hK hP (ci := 9) (q0 := 0) rfl rfl, fun U hU hW => ⟨rfl, by rw [hU], by rw [hU]; exact hP, va_K.moved hW.alike hK, hD.weaken (fun _ _ _ _ => trivial), pw_N.warm hW hN⟩⟩ rfl rfl hl.1 rfl (lv_room (Nat.le_of_ble_eq_true rfl)) dX8_life_2 ⟨Nat.le_of_ble_eq_true rfl, Nat.le_of_ble_eq_true rfl⟩) hS (fun q _ h => hFc q h) hFc (fun r1 u t H1 locs ht hvm hw hB hz1 hk1 hS => ?_)
  replace hP := hB.1
  rw [ht] at hP
  replace hD : va_D A (xW h a e cI cJ cO cE L I M J n cap fE sd si sa dl) := hB.2.weaken (fun _ q _ h9 => hFc q.1 h9)
  clear hB
  generalize H1 = H at hP hS ⊢
  replace hP : va_P (dC, dI) vwCl (xW h a e cI cJ cO cE L I M J n cap fE sd si sa dl) H := hP
  rcases hw with ⟨rfl, j2, hj2, ej2⟩ | ⟨rfl, noj2⟩
  · replace hZ9 := ite_t hZ9 (show (0 : Int32) ≤ p0 ∧ p0 < nI n by rw [ej2]; exact ⟨nI_pos' (by omega), nI_lt hj2 (by omega)⟩)
    replace hZ9 := bnd_s hZ9 (show j2 = p0.toNatClampNeg by rw [ej2, nI_clamp (by omega)])
    subst ej2
    refine lv_if_eq (tgt := 29) hx hb dX8_life_5 (by decide) (fun c9 => absurd c9 (by decide)) (fun _ => ?_)
    refine lv_iload_n hx hb dX8_life_8 rfl (lv_at hl 2 rfl) ?_
    refine lv_iconst (v := 0) hx hb dX8_life_9 (by decide) ?_
    refine lv_bipush (v := 7) hx hb dX8_life_10 (by decide) ?_
    have hFc := mw_free hD hS hA
    refine va_calli (va_runS (As := [.int p1, .int 0, .int 7]) (rest := []) ⟨hx, hb, hml, hown, hts⟩ (c_y_within l dC dI h a e cI cJ cO cE L I M J n cap fE sd si sa dl (b) p1 0 7 H.size hX (by omega) ) (va_cwS 3 hts wc_y_life_y_within_57 rfl rfl rfl (by decide +kernel) ⟨Nat.le_of_ble_eq_true rfl, Nat.le_of_ble_eq_true rfl⟩) ⟨fun a9 U g mk q => by obtain ⟨q0, q1, qP, qK, qD, qN⟩ := q; exact ⟨q0, q1, qP, va_K.moved (u := U) (U := U.calling g mk a9) (Vm.Alike.refl U.vm) qK, qD, pw_N.same (u := U) (U := U.calling g mk a9) rfl qN⟩, fun U hU hW => ⟨rfl, by rw [hU], by rw [hU]; exact hP, va_K.moved hW.alike hK, hD.weaken (fun _ _ _ _ => trivial), pw_N.warm hW hN⟩⟩ rfl rfl hl.1 rfl (lv_room (Nat.le_of_ble_eq_true rfl)) dX8_life_12 ⟨Nat.le_of_ble_eq_true rfl, Nat.le_of_ble_eq_true rfl⟩) hS (fun q _ h => hFc q h) hFc (fun r3 u t H1 locs ht hvm hw hB hz1 hk1 hS => ?_)
    replace hP := hB.1
    rw [ht] at hP
    replace hD : va_D A (xW h a e cI cJ cO cE L I M J n cap fE sd si sa dl) := hB.2.weaken (fun _ q _ h9 => hFc q.1 h9)
    clear hB
    generalize H1 = H at hP hS ⊢
    replace hP : va_P (dC, dI) vwCl (xW h a e cI cJ cO cE L I M J n cap fE sd si sa dl) H := hP
    rcases hw with ⟨rfl, haj4, hbj4⟩ | ⟨rfl, noj4⟩
    · replace hZ9 := ite_t hZ9 ⟨haj4, hbj4⟩
      obtain ⟨j4, hj4, ej4⟩ := nI_of2 (n := 7) (by decide) (xw_ge0 haj4) hbj4
      replace hZ9 := bnd_s hZ9 (show j4 = p1.toNatClampNeg by rw [ej4, nI_clamp (by omega)])
      subst ej4
      refine lv_if_eq (tgt := 29) hx hb dX8_life_15 (by decide) (fun c9 => absurd c9 (by decide)) (fun _ => ?_)
      refine lv_iload_n hx hb dX8_life_18 rfl (lv_at hl 3 rfl) ?_
      refine lv_iconst (v := 0) hx hb dX8_life_19 (by decide) ?_
      refine lv_sipush (v := 1000) hx hb dX8_life_20 (by decide) ?_
      have hFc := mw_free hD hS hA
      refine va_calli (va_runS (As := [.int p2, .int 0, .int 1000]) (rest := []) ⟨hx, hb, hml, hown, hts⟩ (c_y_within l dC dI h a e cI cJ cO cE L I M J n cap fE sd si sa dl (b) p2 0 1000 H.size hX (by omega) ) (va_cwS 3 hts wc_y_life_y_within_57 rfl rfl rfl (by decide +kernel) ⟨Nat.le_of_ble_eq_true rfl, Nat.le_of_ble_eq_true rfl⟩) ⟨fun a9 U g mk q => by obtain ⟨q0, q1, qP, qK, qD, qN⟩ := q; exact ⟨q0, q1, qP, va_K.moved (u := U) (U := U.calling g mk a9) (Vm.Alike.refl U.vm) qK, qD, pw_N.same (u := U) (U := U.calling g mk a9) rfl qN⟩, fun U hU hW => ⟨rfl, by rw [hU], by rw [hU]; exact hP, va_K.moved hW.alike hK, hD.weaken (fun _ _ _ _ => trivial), pw_N.warm hW hN⟩⟩ rfl rfl hl.1 rfl (lv_room (Nat.le_of_ble_eq_true rfl)) dX8_life_23 ⟨Nat.le_of_ble_eq_true rfl, Nat.le_of_ble_eq_true rfl⟩) hS (fun q _ h => hFc q h) hFc (fun r5 u t H1 locs ht hvm hw hB hz1 hk1 hS => ?_)
      replace hP := hB.1
      rw [ht] at hP
      replace hD : va_D A (xW h a e cI cJ cO cE L I M J n cap fE sd si sa dl) := hB.2.weaken (fun _ q _ h9 => hFc q.1 h9)
      clear hB
      generalize H1 = H at hP hS ⊢
      replace hP : va_P (dC, dI) vwCl (xW h a e cI cJ cO cE L I M J n cap fE sd si sa dl) H := hP
      rcases hw with ⟨rfl, haj6, hbj6⟩ | ⟨rfl, noj6⟩
      · replace hZ9 := ite_t hZ9 ⟨haj6, hbj6⟩
        obtain ⟨j6, hj6, ej6⟩ := nI_of2 (n := 1000) (by decide) (xw_ge0 haj6) hbj6
        replace hZ9 := bnd_s hZ9 (show j6 = p2.toNatClampNeg by rw [ej6, nI_clamp (by omega)])
        subst ej6
        refine lv_if_ne (tgt := 31) hx hb dX8_life_26 (by decide) (fun _ => ?_) (fun c9 => absurd c9 (by decide))
        refine lv_aload_n hx hb dX8_life_31 rfl (lv_at hl 0 rfl) ?_
        refine va_get (D := (dC, dI)) (ci := 9) (v := .ref (a 0)) (C := RX8) (T := TX8) (N := 14) hx hb hts in_y_life_X8 hown hK hP 0 rfl rfl 0 (by decide) (hts (.fieldLink RX8 10 "ServiceTree" "services" "Ljava/util/ArrayList;") (by decide +kernel)) (fun _ h9 => h9) rfl dX8_life_32 ?_
        refine lv_iload_n hx hb dX8_life_35 rfl (lv_at hl 1 rfl) ?_
        have hFc := mw_free hD hS hA
        refine va_callr (va_runV (As := [.int (nI j2)]) (rest := []) ⟨hx, hb, hml, hown, hts⟩ (c_x_get l dC dI h a e cI cJ cO cE L I M J n cap fE sd si sa dl (b) j2 H.size hX (by omega) (by omega)) (cwV 1 hts wc_y_life_x_get_86 rfl rfl rfl (by decide +kernel) ⟨Nat.le_of_ble_eq_true rfl, Nat.le_of_ble_eq_true rfl⟩) ⟨fun a9 U g mk q => by obtain ⟨q0, q1, qP, qK, qD, qN⟩ := q; exact ⟨q0, q1, qP, va_K.moved (u := U) (U := U.calling g mk a9) (Vm.Alike.refl U.vm) qK, qD, pw_N.same (u := U) (U := U.calling g mk a9) rfl qN⟩, va_recv hK hP (ci := 0) (q0 := 1) rfl rfl, fun U hU hW => ⟨rfl, by rw [hU], by rw [hU]; exact hP, va_K.moved hW.alike hK, hD.weaken (fun _ _ _ _ => trivial), pw_N.warm hW hN⟩⟩ rfl rfl hl.1 rfl (lv_room (Nat.le_of_ble_eq_true rfl)) dX8_life_36 ⟨Nat.le_of_ble_eq_true rfl, Nat.le_of_ble_eq_true rfl⟩) hS (fun q _ h => hFc q h) hFc (fun u r7 t H1 locs ht hvm hw hB hz1 hk1 hS => ?_)
        obtain ⟨hra, hB⟩ := hB
        replace hP := hB.1
        rw [ht] at hP
        replace hD : va_D A (xW h a e cI cJ cO cE L I M J n cap fE sd si sa dl) := hB.2.weaken (fun _ q _ h9 => hFc q.1 h9)
        clear hB
        generalize H1 = H at hP hS ⊢
        replace hP : va_P (dC, dI) vwCl (xW h a e cI cJ cO cE L I M J n cap fE sd si sa dl) H := hP
        subst hra
        refine va_castS hx hb hown (hts (.classLink RX8 65 RX7) (by decide +kernel)) (hK.1 8 _ rfl).2 (va_recv hK hP (ci := 8) (q0 := (22 + (6 * j2 + 0))) rfl (xAt_0 h a e cI cJ cO cE L I M J n cap fE sd si sa dl (s := j2) (by omega))) dX8_life_39 ?_
        refine lv_astore (lv' := [(4, .ref (sd j2 0)), (0, .ref h), (1, .int (nI j2)), (2, .int (nI j4)), (3, .int (nI j6))]) hx hb dX8_life_42 hl (by decide) rfl (fun ls hl => ?_)
        refine lv_aload hx hb dX8_life_44 (lv_at hl 0 rfl) ?_
        refine va_getN (D := (dC, dI)) (ci := 8) (v := .int (si j2 0)) (C := RX7) (T := TX7) (N := 12) hx hb hts in_y_life_X7 hown hK hP (22 + (6 * j2 + 0)) (xAt_0 h a e cI cJ cO cE L I M J n cap fE sd si sa dl (s := j2) (by omega)) rfl 0 (by decide) (va_Nw.use rfl (hN (.fieldLinkNest RX8 90 "ServiceTree$Service" "kind" "I" "ServiceTree") (by decide +kernel))) (fun _ h9 => h9) rfl dX8_life_46 ?_
        refine lv_topi (fun x8 ex8 => ?_)
        replace hZ9 := bnd_s hZ9 ex8
        refine lv_iconst (v := 3) hx hb dX8_life_49 (by decide) ?_
        refine lv_icmp_ne (tgt := 56) hx hb dX8_life_50 (by decide) (fun c9 => ?_) (fun c9 => ?_)
        · replace hZ9 := ite_f hZ9 c9
          refine lv_aload hx hb dX8_life_56 (lv_at hl 0 rfl) ?_
          refine va_getN (D := (dC, dI)) (ci := 8) (v := .ref (sd j2 1)) (C := RX7) (T := TX7) (N := 12) hx hb hts in_y_life_X7 hown hK hP (22 + (6 * j2 + 0)) (xAt_0 h a e cI cJ cO cE L I M J n cap fE sd si sa dl (s := j2) (by omega)) rfl 3 (by decide) (va_Nw.use rfl (hN (.fieldLinkNest RX8 93 "ServiceTree$Service" "lives" "[I" "ServiceTree") (by decide +kernel))) (fun _ h9 => h9) rfl dX8_life_58 ?_
          refine lv_iload_n hx hb dX8_life_61 rfl (lv_at hl 3 rfl) ?_
          refine va_iald (n := 8) (f := sa j2 1) hx hb hK hP (22 + (6 * j2 + 1)) 0 (xAt_1 h a e cI cJ cO cE L I M J n cap fE sd si sa dl (s := j2) (by omega)) rfl (vp_in_nI (n := j4) (by omega) (by omega)) dX8_life_62 ?_
          refine lv_topi (fun x10 ex10 => ?_)
          replace hZ9 := bnd_s hZ9 ex10
          refine lv_istore (lv' := [(5, .int x10), (4, .ref (sd j2 0)), (0, .ref h), (1, .int (nI j2)), (2, .int (nI j4)), (3, .int (nI j6))]) hx hb dX8_life_63 hl (by decide) rfl (fun ls hl => ?_)
          refine lv_aload hx hb dX8_life_65 (lv_at hl 1 rfl) ?_
          refine va_getN (D := (dC, dI)) (ci := 8) (v := .ref (sd j2 1)) (C := RX7) (T := TX7) (N := 12) hx hb hts in_y_life_X7 hown hK hP (22 + (6 * j2 + 0)) (xAt_0 h a e cI cJ cO cE L I M J n cap fE sd si sa dl (s := j2) (by omega)) rfl 3 (by decide) (va_Nw.use rfl (hN (.fieldLinkNest RX8 93 "ServiceTree$Service" "lives" "[I" "ServiceTree") (by decide +kernel))) (fun _ h9 => h9) rfl dX8_life_67 ?_
          refine lv_iload_n hx hb dX8_life_70 rfl (lv_at hl 4 rfl) ?_
          refine lv_iload_n hx hb dX8_life_71 rfl (lv_at hl 5 rfl) ?_
          refine va_iast (n := 8) (f := sa j2 1) hx hb hK hP hD hS (22 + (6 * j2 + 1)) 0 (xAt_1 h a e cI cJ cO cE L I M J n cap fE sd si sa dl (s := j2) (by omega)) rfl (vp_in_nI (n := j4) (by omega) (by omega)) dX8_life_72 (fun H locs hP hD hS => ?_)
          rw [xSa_1 h a e cI cJ cO cE L I M J n cap fE sd si sa dl (s := j2) (by omega)] at hP hD
          obtain ⟨sa11, esa11⟩ : ∃ f9 : Nat → Nat → Nat → Int32, f9 = up2 sa j2 1 (upd (sa j2 1) (nI j4).toNatClampNeg (nI j6)) := ⟨_, rfl⟩
          rw [← esa11] at hP hD
          replace hZ9 := bnd_s hZ9 esa11
          replace hUsa : ∀ s9 q9 : Nat, q9 ∉ ([1] : List Nat) → sa11 s9 q9 = sa s9 q9 := by rw [esa11]; exact xw_up2 (by decide) hUsa
          refine lv_iload hx hb dX8_life_73 (lv_at hl 0 rfl) ?_
          exact W.iret (v := x10) hx hb hr (fun t ht hW => ⟨⟨x10, sa11, rfl, ⟨hX.mono (by omega), hUsa, hZ9.symm.trans hR0⟩, by rw [ht]; exact hP, hD⟩, hS.F ht⟩) hS.2.2 dX8_life_75
        · replace hZ9 := ite_t hZ9 c9
          refine lv_bipush (v := (-2)) hx hb dX8_life_53 (by decide) ?_
          exact W.iret (v := (-2)) hx hb hr (fun t ht hW => ⟨⟨(-2), sa, rfl, ⟨hX.mono (by omega), hUsa, hZ9.symm.trans hR0⟩, by rw [ht]; exact hP, hD⟩, hS.F ht⟩) hS.2.2 dX8_life_55
      · replace hZ9 := ite_f hZ9 noj6
        refine lv_if_ne (tgt := 31) hx hb dX8_life_26 (by decide) (fun c9 => absurd (by decide) c9) (fun _ => ?_)
        refine lv_iconst (v := (-1)) hx hb dX8_life_29 (by decide) ?_
        exact W.iret (v := (-1)) hx hb hr (fun t ht hW => ⟨⟨(-1), sa, rfl, ⟨hX.mono (by omega), hUsa, hZ9.symm.trans hR0⟩, by rw [ht]; exact hP, hD⟩, hS.F ht⟩) hS.2.2 dX8_life_30
    · replace hZ9 := ite_f hZ9 noj4
      refine lv_if_eq (tgt := 29) hx hb dX8_life_15 (by decide) (fun _ => ?_) (fun c9 => absurd (by decide) c9)
      refine lv_iconst (v := (-1)) hx hb dX8_life_29 (by decide) ?_
      exact W.iret (v := (-1)) hx hb hr (fun t ht hW => ⟨⟨(-1), sa, rfl, ⟨hX.mono (by omega), hUsa, hZ9.symm.trans hR0⟩, by rw [ht]; exact hP, hD⟩, hS.F ht⟩) hS.2.2 dX8_life_30
  · replace hZ9 := ite_f hZ9 noj2
    refine lv_if_eq (tgt := 29) hx hb dX8_life_5 (by decide) (fun _ => ?_) (fun c9 => absurd (by decide) c9)
    refine lv_iconst (v := (-1)) hx hb dX8_life_29 (by decide) ?_
    exact W.iret (v := (-1)) hx hb hr (fun t ht hW => ⟨⟨(-1), sa, rfl, ⟨hX.mono (by omega), hUsa, hZ9.symm.trans hR0⟩, by rw [ht]; exact hP, hD⟩, hS.F ht⟩) hS.2.2 dX8_life_30
def f_y_again (n : Nat) (dl : Nat → Nat) (p0 : Int32) (p1 : Int32) (p2 : Int32) (p3 : Int32) (si : Nat → Nat → Int32) : Int32 × (Nat → Nat → Int32) := if (0 : Int32) ≤ p0 ∧ p0 < nI n then (bnd (p0.toNatClampNeg) (fun (j2 : Nat) => if (1 : Int32) ≤ p1 ∧ p1 ≤ (50 : Int32) then (bnd (p1.toNatClampNeg) (fun (j4 : Nat) => if (0 : Int32) ≤ p2 ∧ p2 ≤ (10 : Int32) then (bnd (p2.toNatClampNeg) (fun (j6 : Nat) => if (1 : Int32) ≤ p3 ∧ p3 ≤ (200 : Int32) then (bnd (p3.toNatClampNeg) (fun (j8 : Nat) => bnd (f_y_allow n dl j2 (nI j4) j6 (nI j8) si) (fun (si11 : Nat → Nat → Int32) => ((1 : Int32), si11)))) else (((-1 : Int32), si)))) else (((-1 : Int32), si)))) else (((-1 : Int32), si)))) else (((-1 : Int32), si))
def wq_y_again : List Cond := ([.code yX8_again cX8_again 5 (some .int), .fieldLink RX8 10 "ServiceTree" "services" "Ljava/util/ArrayList;", .classLink RX8 65 RX7, .methodLink RX8 82 yX8_exists, .instanceMethod yX8_exists, .selects RX8 yX8_exists yX8_exists, .initialized RX8, .methodLink RX8 57 yX8_within, .static yX8_within, .methodLink RX8 86 yJx4a65c_get_915e3, .instanceMethod yJx4a65c_get_915e3, .selects RJx4a65c yJx4a65c_get_915e3 yJx4a65c_get_915e3, .initialized RJx4a65c, .methodLink RX8 101 yX6_allow, .instanceMethod yX6_allow, .selects RX6 yX6_allow yX6_allow, .initialized RX6] : List Cond) ++ (wsX70 ++ (wsX80 ++ (wq_y_exists ++ (wq_y_within ++ (wq_x_get ++ (wq_y_allow))))))
theorem in_y_again_X7 : ∀ w ∈ wsX70, w ∈ wq_y_again := fun _ h => List.mem_append_right _ (List.mem_append_left _ (h))
theorem in_y_again_X8 : ∀ w ∈ wsX80, w ∈ wq_y_again := fun _ h => List.mem_append_right _ (List.mem_append_right _ (List.mem_append_left _ (h)))
set_option maxRecDepth 20000 in
theorem wi_y_again : ∀ w ∈ wq_y_again, w ∈ lw_tbl := List.forall_mem_append.mpr ⟨(wix [470, 224, 278, 449, 451, 3, 60, 271, 272, 453, 454, 455, 63, 471, 472, 473, 71] rfl), List.forall_mem_append.mpr ⟨inKX7, List.forall_mem_append.mpr ⟨inKX8, List.forall_mem_append.mpr ⟨wi_y_exists, List.forall_mem_append.mpr ⟨wi_y_within, List.forall_mem_append.mpr ⟨wi_x_get, wi_y_allow⟩⟩⟩⟩⟩⟩
set_option maxRecDepth 20000 in
theorem wg_y_again : GoodIn wq_y_again wq_y_again := goodIn_sub (fun _ h => h) (by decide +kernel)
set_option maxRecDepth 20000 in
theorem wc_y_again_y_exists_82 : GoodIn wq_y_again (wsV RX8 82 RX8 yX8_exists wq_y_exists) := goodIn_app (goodIn_of _ (by decide +kernel)) (fun w h => ⟨List.mem_append_right _ (List.mem_append_right _ (List.mem_append_right _ (List.mem_append_left _ (h)))), (wg_y_exists w h).2⟩)
set_option maxRecDepth 20000 in
theorem wc_y_again_y_within_57 : GoodIn wq_y_again (va_wsS RX8 57 yX8_within wq_y_within) := goodIn_app (goodIn_of _ (by decide +kernel)) (fun w h => ⟨List.mem_append_right _ (List.mem_append_right _ (List.mem_append_right _ (List.mem_append_right _ (List.mem_append_left _ (h))))), (wg_y_within w h).2⟩)
set_option maxRecDepth 20000 in
theorem wc_y_again_x_get_86 : GoodIn wq_y_again (wsV RX8 86 RJx4a65c yJx4a65c_get_915e3 wq_x_get) := goodIn_app (goodIn_of _ (by decide +kernel)) (fun w h => ⟨List.mem_append_right _ (List.mem_append_right _ (List.mem_append_right _ (List.mem_append_right _ (List.mem_append_right _ (List.mem_append_left _ (h)))))), (wg_x_get w h).2⟩)
set_option maxRecDepth 20000 in
theorem wc_y_again_y_allow_101 : GoodIn wq_y_again (wsV RX8 101 RX6 yX6_allow wq_y_allow) := goodIn_app (goodIn_of _ (by decide +kernel)) (fun w h => ⟨List.mem_append_right _ (List.mem_append_right _ (List.mem_append_right _ (List.mem_append_right _ (List.mem_append_right _ (List.mem_append_right _ (h)))))), (wg_y_allow w h).2⟩)
def rm_y_again : Room := { frames := 3, cells := 0, slots := 0, locals := 64 }
set_option maxHeartbeats 4000000 in
set_option maxRecDepth 100000 in
theorem c_y_again (l : Launch) (dC : Nat → ClassId) (dI : Nat → Nat → Nat) (h : Nat) (a : Nat → Nat) (e : Nat) (cI cJ cO cE : ClassId) (L : Nat → Int64) (I : Nat → Int32) (M : Nat → Nat → Int64) (J : Nat → Nat → Int32) (n cap : Nat) (fE : Nat → Option Nat) (sd : Nat → Nat → Nat) (si : Nat → Nat → Int32) (sa : Nat → Nat → Nat → Int32) (dl : Nat → Nat) (b : Nat) (p0 : Int32) (p1 : Int32) (p2 : Int32) (p3 : Int32) (sz : Nat) (hX0 : InvX n cap fE sd dl b I J si) (hb0 : b + 0 < 2147483648)  : Met l yX8_again wq_y_again rm_y_again (va_Pc [.ref h, .int p0, .int p1, .int p2, .int p3] (fun U => U.heap.size = sz ∧ va_P (dC, dI) vwCl (xW h a e cI cJ cO cE L I M J n cap fE sd si sa dl) U.heap ∧ va_K (dC, dI) vwCl (xT cI cJ cO cE) U ∧ va_D (fun _ => True) (xW h a e cI cJ cO cE L I M J n cap fE sd si sa dl) ∧ pw_N U)) (va_Qi (fun (r : Int32) (u : (Nat → Nat → Int32)) => InvX n cap fE sd dl (b + 0) I J u ∧ (∀ s9 q9 : Nat, q9 ∉ ([23, 24, 25] : List Nat) → u s9 q9 = si s9 q9) ∧ ((r, u) = f_y_again n dl p0 p1 p2 p3 si)) (fun (u : (Nat → Nat → Int32)) (t : State) => va_P (dC, dI) vwCl (xW h a e cI cJ cO cE L I M J n cap fE sd u sa dl) t.heap ∧ va_D (va_A (xW h a e cI cJ cO cE L I M J n cap fE sd si sa dl) sz) (xW h a e cI cJ cO cE L I M J n cap fE sd u sa dl)) (va_A (xW h a e cI cJ cO cE L I M J n cap fE sd si sa dl) sz)) 0 0 (va_A (xW h a e cI cJ cO cE L I M J n cap fE sd si sa dl) sz) := by
  have hn : n ≤ 40 := hX0.1.1
  have hX := hX0
  have hUsi : ∀ s9 q9 : Nat, q9 ∉ ([23, 24, 25] : List Nat) → si s9 q9 = si s9 q9 := fun _ _ _ => rfl
  refine Met.ofW (cc := cX8_again) (maxL := 5) (ret := (some .int)) (by decide) rfl ?_
  intro p e9 s m args below meth c s₁ B hml hv
  obtain ⟨rfl, hsz, hP, hK, hD0, hN⟩ := hv
  have hx := B.exec
  have hb := B.bytes
  have hr := B.returns
  have hts := atoms_spec (ws := wq_y_again) B.pre
  have hown : s.vm.findClass RX8 = some m.cls := findClass_of_methodNamed B.named
  have hlocks := B.notSynchronized
  subst hsz
  have hD := hD0.self (sz := s.heap.size)
  generalize hAe : va_A (xW h a e cI cJ cO cE L I M J n cap fE sd si sa dl) s.heap.size = A at hD ⊢
  have hA : ∀ q : Nat, s.heap.size ≤ q → A q := fun q h => by rw [← hAe]; exact Or.inr h
  have hS : va_S A s.heap s.heap [] := va_S.rf
  have hl := lv_entry ([.ref h, .int p0, .int p1, .int p2, .int p3]) (n := 5) (Nat.le_of_ble_eq_true rfl)
  rw [lg_entry_eq]
  generalize (lg_sl ([.ref h, .int p0, .int p1, .int p2, .int p3]) ++ List.replicate (5 - (lg_sl ([.ref h, .int p0, .int p1, .int p2, .int p3])).length) Slot.unset).toArray = ls at hl ⊢
  have hl : lv_has ls 5 [(0, .ref h), (1, .int p0), (2, .int p1), (3, .int p2), (4, .int p3)] := hl
  obtain ⟨RES, hR0⟩ : ∃ R9, R9 = f_y_again n dl p0 p1 p2 p3 si := ⟨_, rfl⟩
  have hZ9 := hR0
  unfold f_y_again at hZ9
  refine lv_aload_n hx hb dX8_again_0 rfl (lv_at hl 0 rfl) ?_
  refine lv_iload_n hx hb dX8_again_1 rfl (lv_at hl 1 rfl) ?_
  have hFc := mw_free hD hS hA
  refine va_calli (va_runV (As := [.int p0]) (rest := []) ⟨hx, hb, hml, hown, hts⟩ (c_y_exists l dC dI h a e cI cJ cO cE L I M J n cap fE sd si sa dl (b) p0 s.heap.size hX (by omega) ) (cwV 1 hts wc_y_again_y_exists_82 rfl rfl rfl (by decide +kernel) ⟨Nat.le_of_ble_eq_true rfl, Nat.le_of_ble_eq_true rfl⟩) ⟨fun a9 U g mk q => by obtain ⟨q0, q1, qP, qK, qD, qN⟩ := q; exact ⟨q0, q1, qP, va_K.moved (u := U) (U := U.calling g mk a9) (Vm.Alike.refl U.vm) qK, qD, pw_N.same (u := U) (U := U.calling g mk a9) rfl qN⟩, va_recv hK hP (ci := 9) (q0 := 0) rfl rfl, fun U hU hW => ⟨rfl, by rw [hU], by rw [hU]; exact hP, va_K.moved hW.alike hK, hD.weaken (fun _ _ _ _ => trivial), pw_N.warm hW hN⟩⟩ rfl rfl hl.1 rfl (lv_room (Nat.le_of_ble_eq_true rfl)) dX8_again_2 ⟨Nat.le_of_ble_eq_true rfl, Nat.le_of_ble_eq_true rfl⟩) hS (fun q _ h => hFc q h) hFc (fun r1 u t H1 locs ht hvm hw hB hz1 hk1 hS => ?_)
  replace hP := hB.1
  rw [ht] at hP
  replace hD : va_D A (xW h a e cI cJ cO cE L I M J n cap fE sd si sa dl) := hB.2.weaken (fun _ q _ h9 => hFc q.1 h9)
  clear hB
  generalize H1 = H at hP hS ⊢
  replace hP : va_P (dC, dI) vwCl (xW h a e cI cJ cO cE L I M J n cap fE sd si sa dl) H := hP
  rcases hw with ⟨rfl, j2, hj2, ej2⟩ | ⟨rfl, noj2⟩
  · replace hZ9 := ite_t hZ9 (show (0 : Int32) ≤ p0 ∧ p0 < nI n by rw [ej2]; exact ⟨nI_pos' (by omega), nI_lt hj2 (by omega)⟩)
    replace hZ9 := bnd_s hZ9 (show j2 = p0.toNatClampNeg by rw [ej2, nI_clamp (by omega)])
    subst ej2
    refine lv_if_eq (tgt := 40) hx hb dX8_again_5 (by decide) (fun c9 => absurd c9 (by decide)) (fun _ => ?_)
    refine lv_iload_n hx hb dX8_again_8 rfl (lv_at hl 2 rfl) ?_
    refine lv_iconst (v := 1) hx hb dX8_again_9 (by decide) ?_
    refine lv_bipush (v := 50) hx hb dX8_again_10 (by decide) ?_
    have hFc := mw_free hD hS hA
    refine va_calli (va_runS (As := [.int p1, .int 1, .int 50]) (rest := []) ⟨hx, hb, hml, hown, hts⟩ (c_y_within l dC dI h a e cI cJ cO cE L I M J n cap fE sd si sa dl (b) p1 1 50 H.size hX (by omega) ) (va_cwS 3 hts wc_y_again_y_within_57 rfl rfl rfl (by decide +kernel) ⟨Nat.le_of_ble_eq_true rfl, Nat.le_of_ble_eq_true rfl⟩) ⟨fun a9 U g mk q => by obtain ⟨q0, q1, qP, qK, qD, qN⟩ := q; exact ⟨q0, q1, qP, va_K.moved (u := U) (U := U.calling g mk a9) (Vm.Alike.refl U.vm) qK, qD, pw_N.same (u := U) (U := U.calling g mk a9) rfl qN⟩, fun U hU hW => ⟨rfl, by rw [hU], by rw [hU]; exact hP, va_K.moved hW.alike hK, hD.weaken (fun _ _ _ _ => trivial), pw_N.warm hW hN⟩⟩ rfl rfl hl.1 rfl (lv_room (Nat.le_of_ble_eq_true rfl)) dX8_again_12 ⟨Nat.le_of_ble_eq_true rfl, Nat.le_of_ble_eq_true rfl⟩) hS (fun q _ h => hFc q h) hFc (fun r3 u t H1 locs ht hvm hw hB hz1 hk1 hS => ?_)
    replace hP := hB.1
    rw [ht] at hP
    replace hD : va_D A (xW h a e cI cJ cO cE L I M J n cap fE sd si sa dl) := hB.2.weaken (fun _ q _ h9 => hFc q.1 h9)
    clear hB
    generalize H1 = H at hP hS ⊢
    replace hP : va_P (dC, dI) vwCl (xW h a e cI cJ cO cE L I M J n cap fE sd si sa dl) H := hP
    rcases hw with ⟨rfl, haj4, hbj4⟩ | ⟨rfl, noj4⟩
    · replace hZ9 := ite_t hZ9 ⟨haj4, hbj4⟩
      obtain ⟨j4, hj4, ej4⟩ := nI_of2 (n := 50) (by decide) (xw_ge1 haj4) hbj4
      replace hZ9 := bnd_s hZ9 (show j4 = p1.toNatClampNeg by rw [ej4, nI_clamp (by omega)])
      have gj4 : 0 < j4 := xw_ge1p ej4 haj4
      subst ej4
      refine lv_if_eq (tgt := 40) hx hb dX8_again_15 (by decide) (fun c9 => absurd c9 (by decide)) (fun _ => ?_)
      refine lv_iload_n hx hb dX8_again_18 rfl (lv_at hl 3 rfl) ?_
      refine lv_iconst (v := 0) hx hb dX8_again_19 (by decide) ?_
      refine lv_bipush (v := 10) hx hb dX8_again_20 (by decide) ?_
      have hFc := mw_free hD hS hA
      refine va_calli (va_runS (As := [.int p2, .int 0, .int 10]) (rest := []) ⟨hx, hb, hml, hown, hts⟩ (c_y_within l dC dI h a e cI cJ cO cE L I M J n cap fE sd si sa dl (b) p2 0 10 H.size hX (by omega) ) (va_cwS 3 hts wc_y_again_y_within_57 rfl rfl rfl (by decide +kernel) ⟨Nat.le_of_ble_eq_true rfl, Nat.le_of_ble_eq_true rfl⟩) ⟨fun a9 U g mk q => by obtain ⟨q0, q1, qP, qK, qD, qN⟩ := q; exact ⟨q0, q1, qP, va_K.moved (u := U) (U := U.calling g mk a9) (Vm.Alike.refl U.vm) qK, qD, pw_N.same (u := U) (U := U.calling g mk a9) rfl qN⟩, fun U hU hW => ⟨rfl, by rw [hU], by rw [hU]; exact hP, va_K.moved hW.alike hK, hD.weaken (fun _ _ _ _ => trivial), pw_N.warm hW hN⟩⟩ rfl rfl hl.1 rfl (lv_room (Nat.le_of_ble_eq_true rfl)) dX8_again_22 ⟨Nat.le_of_ble_eq_true rfl, Nat.le_of_ble_eq_true rfl⟩) hS (fun q _ h => hFc q h) hFc (fun r5 u t H1 locs ht hvm hw hB hz1 hk1 hS => ?_)
      replace hP := hB.1
      rw [ht] at hP
      replace hD : va_D A (xW h a e cI cJ cO cE L I M J n cap fE sd si sa dl) := hB.2.weaken (fun _ q _ h9 => hFc q.1 h9)
      clear hB
      generalize H1 = H at hP hS ⊢
      replace hP : va_P (dC, dI) vwCl (xW h a e cI cJ cO cE L I M J n cap fE sd si sa dl) H := hP
      rcases hw with ⟨rfl, haj6, hbj6⟩ | ⟨rfl, noj6⟩
      · replace hZ9 := ite_t hZ9 ⟨haj6, hbj6⟩
        obtain ⟨j6, hj6, ej6⟩ := nI_of2 (n := 10) (by decide) (xw_ge0 haj6) hbj6
        replace hZ9 := bnd_s hZ9 (show j6 = p2.toNatClampNeg by rw [ej6, nI_clamp (by omega)])
        subst ej6
        refine lv_if_eq (tgt := 40) hx hb dX8_again_25 (by decide) (fun c9 => absurd c9 (by decide)) (fun _ => ?_)
        refine lv_iload hx hb dX8_again_28 (lv_at hl 4 rfl) ?_
        refine lv_iconst (v := 1) hx hb dX8_again_30 (by decide) ?_
        refine lv_sipush (v := 200) hx hb dX8_again_31 (by decide) ?_
        have hFc := mw_free hD hS hA
        refine va_calli (va_runS (As := [.int p3, .int 1, .int 200]) (rest := []) ⟨hx, hb, hml, hown, hts⟩ (c_y_within l dC dI h a e cI cJ cO cE L I M J n cap fE sd si sa dl (b) p3 1 200 H.size hX (by omega) ) (va_cwS 3 hts wc_y_again_y_within_57 rfl rfl rfl (by decide +kernel) ⟨Nat.le_of_ble_eq_true rfl, Nat.le_of_ble_eq_true rfl⟩) ⟨fun a9 U g mk q => by obtain ⟨q0, q1, qP, qK, qD, qN⟩ := q; exact ⟨q0, q1, qP, va_K.moved (u := U) (U := U.calling g mk a9) (Vm.Alike.refl U.vm) qK, qD, pw_N.same (u := U) (U := U.calling g mk a9) rfl qN⟩, fun U hU hW => ⟨rfl, by rw [hU], by rw [hU]; exact hP, va_K.moved hW.alike hK, hD.weaken (fun _ _ _ _ => trivial), pw_N.warm hW hN⟩⟩ rfl rfl hl.1 rfl (lv_room (Nat.le_of_ble_eq_true rfl)) dX8_again_34 ⟨Nat.le_of_ble_eq_true rfl, Nat.le_of_ble_eq_true rfl⟩) hS (fun q _ h => hFc q h) hFc (fun r7 u t H1 locs ht hvm hw hB hz1 hk1 hS => ?_)
        replace hP := hB.1
        rw [ht] at hP
        replace hD : va_D A (xW h a e cI cJ cO cE L I M J n cap fE sd si sa dl) := hB.2.weaken (fun _ q _ h9 => hFc q.1 h9)
        clear hB
        generalize H1 = H at hP hS ⊢
        replace hP : va_P (dC, dI) vwCl (xW h a e cI cJ cO cE L I M J n cap fE sd si sa dl) H := hP
        rcases hw with ⟨rfl, haj8, hbj8⟩ | ⟨rfl, noj8⟩
        · replace hZ9 := ite_t hZ9 ⟨haj8, hbj8⟩
          obtain ⟨j8, hj8, ej8⟩ := nI_of2 (n := 200) (by decide) (xw_ge1 haj8) hbj8
          replace hZ9 := bnd_s hZ9 (show j8 = p3.toNatClampNeg by rw [ej8, nI_clamp (by omega)])
          have gj8 : 0 < j8 := xw_ge1p ej8 haj8
          subst ej8
          refine lv_if_ne (tgt := 42) hx hb dX8_again_37 (by decide) (fun _ => ?_) (fun c9 => absurd c9 (by decide))
          refine lv_aload_n hx hb dX8_again_42 rfl (lv_at hl 0 rfl) ?_
          refine va_get (D := (dC, dI)) (ci := 9) (v := .ref (a 0)) (C := RX8) (T := TX8) (N := 14) hx hb hts in_y_again_X8 hown hK hP 0 rfl rfl 0 (by decide) (hts (.fieldLink RX8 10 "ServiceTree" "services" "Ljava/util/ArrayList;") (by decide +kernel)) (fun _ h9 => h9) rfl dX8_again_43 ?_
          refine lv_iload_n hx hb dX8_again_46 rfl (lv_at hl 1 rfl) ?_
          have hFc := mw_free hD hS hA
          refine va_callr (va_runV (As := [.int (nI j2)]) (rest := []) ⟨hx, hb, hml, hown, hts⟩ (c_x_get l dC dI h a e cI cJ cO cE L I M J n cap fE sd si sa dl (b) j2 H.size hX (by omega) (by omega)) (cwV 1 hts wc_y_again_x_get_86 rfl rfl rfl (by decide +kernel) ⟨Nat.le_of_ble_eq_true rfl, Nat.le_of_ble_eq_true rfl⟩) ⟨fun a9 U g mk q => by obtain ⟨q0, q1, qP, qK, qD, qN⟩ := q; exact ⟨q0, q1, qP, va_K.moved (u := U) (U := U.calling g mk a9) (Vm.Alike.refl U.vm) qK, qD, pw_N.same (u := U) (U := U.calling g mk a9) rfl qN⟩, va_recv hK hP (ci := 0) (q0 := 1) rfl rfl, fun U hU hW => ⟨rfl, by rw [hU], by rw [hU]; exact hP, va_K.moved hW.alike hK, hD.weaken (fun _ _ _ _ => trivial), pw_N.warm hW hN⟩⟩ rfl rfl hl.1 rfl (lv_room (Nat.le_of_ble_eq_true rfl)) dX8_again_47 ⟨Nat.le_of_ble_eq_true rfl, Nat.le_of_ble_eq_true rfl⟩) hS (fun q _ h => hFc q h) hFc (fun u r9 t H1 locs ht hvm hw hB hz1 hk1 hS => ?_)
          obtain ⟨hra, hB⟩ := hB
          replace hP := hB.1
          rw [ht] at hP
          replace hD : va_D A (xW h a e cI cJ cO cE L I M J n cap fE sd si sa dl) := hB.2.weaken (fun _ q _ h9 => hFc q.1 h9)
          clear hB
          generalize H1 = H at hP hS ⊢
          replace hP : va_P (dC, dI) vwCl (xW h a e cI cJ cO cE L I M J n cap fE sd si sa dl) H := hP
          subst hra
          refine va_castS hx hb hown (hts (.classLink RX8 65 RX7) (by decide +kernel)) (hK.1 8 _ rfl).2 (va_recv hK hP (ci := 8) (q0 := (22 + (6 * j2 + 0))) rfl (xAt_0 h a e cI cJ cO cE L I M J n cap fE sd si sa dl (s := j2) (by omega))) dX8_again_50 ?_
          refine va_getN (D := (dC, dI)) (ci := 8) (v := .ref (sd j2 2)) (C := RX7) (T := TX7) (N := 12) hx hb hts in_y_again_X7 hown hK hP (22 + (6 * j2 + 0)) (xAt_0 h a e cI cJ cO cE L I M J n cap fE sd si sa dl (s := j2) (by omega)) rfl 4 (by decide) (va_Nw.use rfl (hN (.fieldLinkNest RX8 97 "ServiceTree$Service" "restarts" "LServiceTree$Restarts;" "ServiceTree") (by decide +kernel))) (fun _ h9 => h9) rfl dX8_again_53 ?_
          refine lv_iload_n hx hb dX8_again_56 rfl (lv_at hl 2 rfl) ?_
          refine lv_iload_n hx hb dX8_again_57 rfl (lv_at hl 3 rfl) ?_
          refine lv_iload hx hb dX8_again_58 (lv_at hl 4 rfl) ?_
          have hFc := mw_free hD hS hA
          refine va_callv (va_runV (As := [.int (nI j4), .int (nI j6), .int (nI j8)]) (rest := []) ⟨hx, hb, hml, hown, hts⟩ (c_y_allow l dC dI h a e cI cJ cO cE L I M J n cap fE sd si sa dl (b) j2 (nI j4) j6 (nI j8) H.size hX (by omega) (by omega) (by omega)) (cwV 3 hts wc_y_again_y_allow_101 rfl rfl rfl (by decide +kernel) ⟨Nat.le_of_ble_eq_true rfl, Nat.le_of_ble_eq_true rfl⟩) ⟨fun a9 U g mk q => by obtain ⟨q0, q1, qP, qK, qD, qN⟩ := q; exact ⟨q0, q1, qP, va_K.moved (u := U) (U := U.calling g mk a9) (Vm.Alike.refl U.vm) qK, qD, pw_N.same (u := U) (U := U.calling g mk a9) rfl qN⟩, va_recv hK hP (ci := 7) (q0 := (22 + (6 * j2 + 2))) rfl (xAt_2 h a e cI cJ cO cE L I M J n cap fE sd si sa dl (s := j2) (by omega)), fun U hU hW => ⟨rfl, by rw [hU], by rw [hU]; exact hP, va_K.moved hW.alike hK, hD.weaken (fun _ _ _ _ => trivial), pw_N.warm hW hN⟩⟩ rfl rfl hl.1 rfl (lv_room (Nat.le_of_ble_eq_true rfl)) dX8_again_60 ⟨Nat.le_of_ble_eq_true rfl, Nat.le_of_ble_eq_true rfl⟩) hS (fun q _ h => hFc q h) hFc (fun u t H1 locs ht hvm hw hB hz1 hk1 hS => ?_)
          obtain ⟨si11, rfl⟩ : ∃ z9, z9 = u := ⟨_, rfl⟩
          replace hP := hB.1
          rw [ht] at hP
          replace hD : va_D A (xW h a e cI cJ cO cE L I M J n cap fE sd si11 sa dl) := hB.2.weaken (fun _ q _ h9 => hFc q.1 h9)
          clear hB
          generalize H1 = H at hP hS ⊢
          replace hP : va_P (dC, dI) vwCl (xW h a e cI cJ cO cE L I M J n cap fE sd si11 sa dl) H := hP
          obtain ⟨hwX, whUsi, hw⟩ := hw
          replace hX : InvX n cap fE sd dl (b) I J si11 := hwX
          replace hUsi : ∀ s9 q9 : Nat, q9 ∉ ([23, 24, 25] : List Nat) → si11 s9 q9 = si s9 q9 := xw_tr2 (by decide) whUsi hUsi
          replace hw : si11 = f_y_allow n dl j2 (nI j4) j6 (nI j8) si := hw
          replace hZ9 := bnd_s hZ9 hw
          refine lv_iconst (v := 1) hx hb dX8_again_63 (by decide) ?_
          exact W.iret (v := 1) hx hb hr (fun t ht hW => ⟨⟨1, si11, rfl, ⟨hX.mono (by omega), hUsi, hZ9.symm.trans hR0⟩, by rw [ht]; exact hP, hD⟩, hS.F ht⟩) hS.2.2 dX8_again_64
        · replace hZ9 := ite_f hZ9 noj8
          refine lv_if_ne (tgt := 42) hx hb dX8_again_37 (by decide) (fun c9 => absurd (by decide) c9) (fun _ => ?_)
          refine lv_iconst (v := (-1)) hx hb dX8_again_40 (by decide) ?_
          exact W.iret (v := (-1)) hx hb hr (fun t ht hW => ⟨⟨(-1), si, rfl, ⟨hX.mono (by omega), hUsi, hZ9.symm.trans hR0⟩, by rw [ht]; exact hP, hD⟩, hS.F ht⟩) hS.2.2 dX8_again_41
      · replace hZ9 := ite_f hZ9 noj6
        refine lv_if_eq (tgt := 40) hx hb dX8_again_25 (by decide) (fun _ => ?_) (fun c9 => absurd (by decide) c9)
        refine lv_iconst (v := (-1)) hx hb dX8_again_40 (by decide) ?_
        exact W.iret (v := (-1)) hx hb hr (fun t ht hW => ⟨⟨(-1), si, rfl, ⟨hX.mono (by omega), hUsi, hZ9.symm.trans hR0⟩, by rw [ht]; exact hP, hD⟩, hS.F ht⟩) hS.2.2 dX8_again_41
    · replace hZ9 := ite_f hZ9 noj4
      refine lv_if_eq (tgt := 40) hx hb dX8_again_15 (by decide) (fun _ => ?_) (fun c9 => absurd (by decide) c9)
      refine lv_iconst (v := (-1)) hx hb dX8_again_40 (by decide) ?_
      exact W.iret (v := (-1)) hx hb hr (fun t ht hW => ⟨⟨(-1), si, rfl, ⟨hX.mono (by omega), hUsi, hZ9.symm.trans hR0⟩, by rw [ht]; exact hP, hD⟩, hS.F ht⟩) hS.2.2 dX8_again_41
  · replace hZ9 := ite_f hZ9 noj2
    refine lv_if_eq (tgt := 40) hx hb dX8_again_5 (by decide) (fun _ => ?_) (fun c9 => absurd (by decide) c9)
    refine lv_iconst (v := (-1)) hx hb dX8_again_40 (by decide) ?_
    exact W.iret (v := (-1)) hx hb hr (fun t ht hW => ⟨⟨(-1), si, rfl, ⟨hX.mono (by omega), hUsi, hZ9.symm.trans hR0⟩, by rw [ht]; exact hP, hD⟩, hS.F ht⟩) hS.2.2 dX8_again_41
def f_y_relation (n : Nat) (dl : Nat → Nat) (p0 : Int32) (p1 : Int32) (p2 : Int32) (L : Nat → Int64) (I : Nat → Int32) (M : Nat → Nat → Int64) : Int32 × (Nat → Int32) × (Nat → Nat → Int64) := if ((0 : Int32) ≤ p0 ∧ p0 ≤ (3 : Int32)) ∧ ((0 : Int32) ≤ p1 ∧ p1 < nI n) ∧ ((0 : Int32) ≤ p2 ∧ p2 < nI n) ∧ ¬ p1 = p2 then (bnd (p0.toNatClampNeg) (fun (j2 : Nat) => bnd (p1.toNatClampNeg) (fun (j3 : Nat) => bnd (p2.toNatClampNeg) (fun (j4 : Nat) => bnd (f_y_left n dl  L) (fun (r5 : Int64) => bnd (lg_cmp r5 (0 : Int64)) (fun (x6 : Int32) => if x6 = (0 : Int32) then (bnd (M 9 (nI 0).toNatClampNeg) (fun (x8 : Int64) => bnd (M 9 (nI 4).toNatClampNeg) (fun (x9 : Int64) => bnd (x8 ||| x9) (fun (x10 : Int64) => if j2 = 0 then (bnd (f_y_holds n dl x10 j3 ) (fun (r12 : Int32) => if r12 = (0 : Int32) then (((-4 : Int32), I, M)) else (bnd (f_y_holds n dl x10 j4 ) (fun (r14 : Int32) => if r14 = (0 : Int32) then (((-4 : Int32), I, M)) else (bnd (f_y_told n dl j2 j3 j4 M) (fun (r16 : Int32) => if r16 = (0 : Int32) then (bnd (I 7) (fun (x18 : Int32) => if x18 < (400 : Int32) then (bn2 (f_y_radd n dl j2 j3 j4 I M) (fun (I21 : Nat → Int32) (M22 : Nat → Nat → Int64) => ((1 : Int32), I21, M22))) else (((-6 : Int32), I, M)))) else (((0 : Int32), I, M)))))))) else (if j2 = 3 then (bnd (f_y_holds n dl x10 j3 ) (fun (r31 : Int32) => if r31 = (0 : Int32) then (((-4 : Int32), I, M)) else (bnd (f_y_holds n dl x10 j4 ) (fun (r33 : Int32) => if r33 = (0 : Int32) then (((-4 : Int32), I, M)) else (bnd (f_y_told n dl j2 j3 j4 M) (fun (r35 : Int32) => if r35 = (0 : Int32) then (bnd (I 7) (fun (x37 : Int32) => if x37 < (400 : Int32) then (bn2 (f_y_radd n dl j2 j3 j4 I M) (fun (I40 : Nat → Int32) (M41 : Nat → Nat → Int64) => ((1 : Int32), I40, M41))) else (((-6 : Int32), I, M)))) else (((0 : Int32), I, M)))))))) else (bnd (f_y_told n dl j2 j3 j4 M) (fun (r24 : Int32) => if r24 = (0 : Int32) then (bnd (I 7) (fun (x26 : Int32) => if x26 < (400 : Int32) then (bn2 (f_y_radd n dl j2 j3 j4 I M) (fun (I29 : Nat → Int32) (M30 : Nat → Nat → Int64) => ((1 : Int32), I29, M30))) else (((-6 : Int32), I, M)))) else (((0 : Int32), I, M))))))))) else (((-3 : Int32), I, M)))))))) else (((-1 : Int32), I, M))
def wq_y_relation : List Cond := ([.code yX8_relation cX8_relation 6 (some .int), .fieldLink RX8 35 "ServiceTree" "jobs" "LServiceTree$Jobs;", .fieldLink RX8 53 "ServiceTree" "inState" "[J", .fieldLink RX8 19 "ServiceTree" "relations" "LServiceTree$Relations;", .methodLink RX8 107 yX8_canRelate, .instanceMethod yX8_canRelate, .selects RX8 yX8_canRelate yX8_canRelate, .initialized RX8, .methodLink RX8 110 yX3_left, .instanceMethod yX3_left, .selects RX3 yX3_left yX3_left, .initialized RX3, .methodLink RX8 114 yX8_holds, .static yX8_holds, .methodLink RX8 118 yX5_told, .instanceMethod yX5_told, .selects RX5 yX5_told yX5_told, .initialized RX5, .methodLink RX8 123 yX5_add, .instanceMethod yX5_add, .selects RX5 yX5_add yX5_add] : List Cond) ++ (wsX50 ++ (wsX80 ++ (wq_y_canRelate ++ (wq_y_left ++ (wq_y_holds ++ (wq_y_told ++ (wq_y_radd)))))))
theorem in_y_relation_X5 : ∀ w ∈ wsX50, w ∈ wq_y_relation := fun _ h => List.mem_append_right _ (List.mem_append_left _ (h))
theorem in_y_relation_X8 : ∀ w ∈ wsX80, w ∈ wq_y_relation := fun _ h => List.mem_append_right _ (List.mem_append_right _ (List.mem_append_left _ (h)))
set_option maxRecDepth 20000 in
theorem wi_y_relation : ∀ w ∈ wq_y_relation, w ∈ lw_tbl := List.forall_mem_append.mpr ⟨(wix [478, 227, 230, 225, 479, 481, 4, 60, 483, 484, 485, 66, 487, 488, 490, 491, 492, 64, 495, 496, 497] rfl), List.forall_mem_append.mpr ⟨inKX5, List.forall_mem_append.mpr ⟨inKX8, List.forall_mem_append.mpr ⟨wi_y_canRelate, List.forall_mem_append.mpr ⟨wi_y_left, List.forall_mem_append.mpr ⟨wi_y_holds, List.forall_mem_append.mpr ⟨wi_y_told, wi_y_radd⟩⟩⟩⟩⟩⟩⟩
set_option maxRecDepth 20000 in
theorem wg_y_relation : GoodIn wq_y_relation wq_y_relation := goodIn_sub (fun _ h => h) (by decide +kernel)
set_option maxRecDepth 20000 in
theorem wc_y_relation_y_canRelate_107 : GoodIn wq_y_relation (wsV RX8 107 RX8 yX8_canRelate wq_y_canRelate) := goodIn_app (goodIn_of _ (by decide +kernel)) (fun w h => ⟨List.mem_append_right _ (List.mem_append_right _ (List.mem_append_right _ (List.mem_append_left _ (h)))), (wg_y_canRelate w h).2⟩)
set_option maxRecDepth 20000 in
theorem wc_y_relation_y_left_110 : GoodIn wq_y_relation (wsV RX8 110 RX3 yX3_left wq_y_left) := goodIn_app (goodIn_of _ (by decide +kernel)) (fun w h => ⟨List.mem_append_right _ (List.mem_append_right _ (List.mem_append_right _ (List.mem_append_right _ (List.mem_append_left _ (h))))), (wg_y_left w h).2⟩)
set_option maxRecDepth 20000 in
theorem wc_y_relation_y_holds_114 : GoodIn wq_y_relation (va_wsS RX8 114 yX8_holds wq_y_holds) := goodIn_app (goodIn_of _ (by decide +kernel)) (fun w h => ⟨List.mem_append_right _ (List.mem_append_right _ (List.mem_append_right _ (List.mem_append_right _ (List.mem_append_right _ (List.mem_append_left _ (h)))))), (wg_y_holds w h).2⟩)
set_option maxRecDepth 20000 in
theorem wc_y_relation_y_told_118 : GoodIn wq_y_relation (wsV RX8 118 RX5 yX5_told wq_y_told) := goodIn_app (goodIn_of _ (by decide +kernel)) (fun w h => ⟨List.mem_append_right _ (List.mem_append_right _ (List.mem_append_right _ (List.mem_append_right _ (List.mem_append_right _ (List.mem_append_right _ (List.mem_append_left _ (h))))))), (wg_y_told w h).2⟩)
set_option maxRecDepth 20000 in
theorem wc_y_relation_y_radd_123 : GoodIn wq_y_relation (wsV RX8 123 RX5 yX5_add wq_y_radd) := goodIn_app (goodIn_of _ (by decide +kernel)) (fun w h => ⟨List.mem_append_right _ (List.mem_append_right _ (List.mem_append_right _ (List.mem_append_right _ (List.mem_append_right _ (List.mem_append_right _ (List.mem_append_right _ (h))))))), (wg_y_radd w h).2⟩)
def rm_y_relation : Room := { frames := 4, cells := 0, slots := 0, locals := 91 }
set_option maxHeartbeats 4000000 in
set_option maxRecDepth 100000 in
theorem c_y_relation (l : Launch) (dC : Nat → ClassId) (dI : Nat → Nat → Nat) (h : Nat) (a : Nat → Nat) (e : Nat) (cI cJ cO cE : ClassId) (L : Nat → Int64) (I : Nat → Int32) (M : Nat → Nat → Int64) (J : Nat → Nat → Int32) (n cap : Nat) (fE : Nat → Option Nat) (sd : Nat → Nat → Nat) (si : Nat → Nat → Int32) (sa : Nat → Nat → Nat → Int32) (dl : Nat → Nat) (b : Nat) (p0 : Int32) (p1 : Int32) (p2 : Int32) (sz : Nat) (hX0 : InvX n cap fE sd dl b I J si) (hb0 : b + 0 < 2147483648)  : Met l yX8_relation wq_y_relation rm_y_relation (va_Pc [.ref h, .int p0, .int p1, .int p2] (fun U => U.heap.size = sz ∧ va_P (dC, dI) vwCl (xW h a e cI cJ cO cE L I M J n cap fE sd si sa dl) U.heap ∧ va_K (dC, dI) vwCl (xT cI cJ cO cE) U ∧ va_D (fun _ => True) (xW h a e cI cJ cO cE L I M J n cap fE sd si sa dl) ∧ pw_N U)) (va_Qi (fun (r : Int32) (u : (Nat → Int32) × (Nat → Nat → Int64)) => InvX n cap fE sd dl (b + 0) u.1 J si ∧ (∀ j9 : Nat, j9 ∉ ([7] : List Nat) → u.1 j9 = I j9) ∧ (∀ j9 : Nat, j9 ∉ ([0, 1, 2, 3, 4, 5, 6, 7] : List Nat) → u.2 j9 = M j9) ∧ ((r, u) = f_y_relation n dl p0 p1 p2 L I M)) (fun (u : (Nat → Int32) × (Nat → Nat → Int64)) (t : State) => va_P (dC, dI) vwCl (xW h a e cI cJ cO cE L u.1 u.2 J n cap fE sd si sa dl) t.heap ∧ va_D (va_A (xW h a e cI cJ cO cE L I M J n cap fE sd si sa dl) sz) (xW h a e cI cJ cO cE L u.1 u.2 J n cap fE sd si sa dl)) (va_A (xW h a e cI cJ cO cE L I M J n cap fE sd si sa dl) sz)) 0 0 (va_A (xW h a e cI cJ cO cE L I M J n cap fE sd si sa dl) sz) := by
  have hn : n ≤ 40 := hX0.1.1
  have hX := hX0
  have hUI : ∀ j9 : Nat, j9 ∉ ([7] : List Nat) → I j9 = I j9 := fun _ _ => rfl
  have hUM : ∀ j9 : Nat, j9 ∉ ([0, 1, 2, 3, 4, 5, 6, 7] : List Nat) → M j9 = M j9 := fun _ _ => rfl
  refine Met.ofW (cc := cX8_relation) (maxL := 6) (ret := (some .int)) (by decide) rfl ?_
  intro p e9 s m args below meth c s₁ B hml hv
  obtain ⟨rfl, hsz, hP, hK, hD0, hN⟩ := hv
  have hx := B.exec
  have hb := B.bytes
  have hr := B.returns
  have hts := atoms_spec (ws := wq_y_relation) B.pre
  have hown : s.vm.findClass RX8 = some m.cls := findClass_of_methodNamed B.named
  have hlocks := B.notSynchronized
  subst hsz
  have hD := hD0.self (sz := s.heap.size)
  generalize hAe : va_A (xW h a e cI cJ cO cE L I M J n cap fE sd si sa dl) s.heap.size = A at hD ⊢
  have hA : ∀ q : Nat, s.heap.size ≤ q → A q := fun q h => by rw [← hAe]; exact Or.inr h
  have hS : va_S A s.heap s.heap [] := va_S.rf
  have hl := lv_entry ([.ref h, .int p0, .int p1, .int p2]) (n := 6) (Nat.le_of_ble_eq_true rfl)
  rw [lg_entry_eq]
  generalize (lg_sl ([.ref h, .int p0, .int p1, .int p2]) ++ List.replicate (6 - (lg_sl ([.ref h, .int p0, .int p1, .int p2])).length) Slot.unset).toArray = ls at hl ⊢
  have hl : lv_has ls 6 [(0, .ref h), (1, .int p0), (2, .int p1), (3, .int p2)] := hl
  obtain ⟨RES, hR0⟩ : ∃ R9, R9 = f_y_relation n dl p0 p1 p2 L I M := ⟨_, rfl⟩
  have hZ9 := hR0
  unfold f_y_relation at hZ9
  refine lv_aload_n hx hb dX8_relation_0 rfl (lv_at hl 0 rfl) ?_
  refine lv_iload_n hx hb dX8_relation_1 rfl (lv_at hl 1 rfl) ?_
  refine lv_iload_n hx hb dX8_relation_2 rfl (lv_at hl 2 rfl) ?_
  refine lv_iload_n hx hb dX8_relation_3 rfl (lv_at hl 3 rfl) ?_
  have hFc := mw_free hD hS hA
  refine va_calli (va_runV (As := [.int p0, .int p1, .int p2]) (rest := []) ⟨hx, hb, hml, hown, hts⟩ (c_y_canRelate l dC dI h a e cI cJ cO cE L I M J n cap fE sd si sa dl (b) p0 p1 p2 s.heap.size hX (by omega) ) (cwV 3 hts wc_y_relation_y_canRelate_107 rfl rfl rfl (by decide +kernel) ⟨Nat.le_of_ble_eq_true rfl, Nat.le_of_ble_eq_true rfl⟩) ⟨fun a9 U g mk q => by obtain ⟨q0, q1, qP, qK, qD, qN⟩ := q; exact ⟨q0, q1, qP, va_K.moved (u := U) (U := U.calling g mk a9) (Vm.Alike.refl U.vm) qK, qD, pw_N.same (u := U) (U := U.calling g mk a9) rfl qN⟩, va_recv hK hP (ci := 9) (q0 := 0) rfl rfl, fun U hU hW => ⟨rfl, by rw [hU], by rw [hU]; exact hP, va_K.moved hW.alike hK, hD.weaken (fun _ _ _ _ => trivial), pw_N.warm hW hN⟩⟩ rfl rfl hl.1 rfl (lv_room (Nat.le_of_ble_eq_true rfl)) dX8_relation_4 ⟨Nat.le_of_ble_eq_true rfl, Nat.le_of_ble_eq_true rfl⟩) hS (fun q _ h => hFc q h) hFc (fun r1 u t H1 locs ht hvm hw hB hz1 hk1 hS => ?_)
  replace hP := hB.1
  rw [ht] at hP
  replace hD : va_D A (xW h a e cI cJ cO cE L I M J n cap fE sd si sa dl) := hB.2.weaken (fun _ q _ h9 => hFc q.1 h9)
  clear hB
  generalize H1 = H at hP hS ⊢
  replace hP : va_P (dC, dI) vwCl (xW h a e cI cJ cO cE L I M J n cap fE sd si sa dl) H := hP
  rcases hw with ⟨rfl, j2, j3, j4, hj2, hj3, hj4, hnej2, ej2, ej3, ej4⟩ | ⟨rfl, noj2⟩
  · replace hZ9 := ite_t hZ9 (show ((0 : Int32) ≤ p0 ∧ p0 ≤ (3 : Int32)) ∧ ((0 : Int32) ≤ p1 ∧ p1 < nI n) ∧ ((0 : Int32) ≤ p2 ∧ p2 < nI n) ∧ ¬ p1 = p2 by rw [ej2, ej3, ej4]; exact ⟨⟨nI_pos' (by omega), nI_le (b := 3) (by omega) (by omega)⟩, ⟨nI_pos' (by omega), nI_lt hj3 (by omega)⟩, ⟨nI_pos' (by omega), nI_lt hj4 (by omega)⟩, fun q9 => hnej2 ((nI_eq (by omega) (by omega)).mp q9)⟩)
    replace hZ9 := bnd_s hZ9 (show j2 = p0.toNatClampNeg by rw [ej2, nI_clamp (by omega)])
    replace hZ9 := bnd_s hZ9 (show j3 = p1.toNatClampNeg by rw [ej3, nI_clamp (by omega)])
    replace hZ9 := bnd_s hZ9 (show j4 = p2.toNatClampNeg by rw [ej4, nI_clamp (by omega)])
    subst ej2
    subst ej3
    subst ej4
    refine lv_if_ne (tgt := 12) hx hb dX8_relation_7 (by decide) (fun _ => ?_) (fun c9 => absurd c9 (by decide))
    refine lv_aload_n hx hb dX8_relation_12 rfl (lv_at hl 0 rfl) ?_
    refine va_get (D := (dC, dI)) (ci := 9) (v := .ref (a 3)) (C := RX8) (T := TX8) (N := 14) hx hb hts in_y_relation_X8 hown hK hP 0 rfl rfl 3 (by decide) (hts (.fieldLink RX8 35 "ServiceTree" "jobs" "LServiceTree$Jobs;") (by decide +kernel)) (fun _ h9 => h9) rfl dX8_relation_13 ?_
    have hFc := mw_free hD hS hA
    refine va_calll (va_runV (As := []) (rest := []) ⟨hx, hb, hml, hown, hts⟩ (c_y_left l dC dI h a e cI cJ cO cE L I M J n cap fE sd si sa dl (b)  H.size hX (by omega) ) (cwV 0 hts wc_y_relation_y_left_110 rfl rfl rfl (by decide +kernel) ⟨Nat.le_of_ble_eq_true rfl, Nat.le_of_ble_eq_true rfl⟩) ⟨fun a9 U g mk q => by obtain ⟨q0, q1, qP, qK, qD, qN⟩ := q; exact ⟨q0, q1, qP, va_K.moved (u := U) (U := U.calling g mk a9) (Vm.Alike.refl U.vm) qK, qD, pw_N.same (u := U) (U := U.calling g mk a9) rfl qN⟩, va_recv hK hP (ci := 4) (q0 := 14) rfl rfl, fun U hU hW => ⟨rfl, by rw [hU], by rw [hU]; exact hP, va_K.moved hW.alike hK, hD.weaken (fun _ _ _ _ => trivial), pw_N.warm hW hN⟩⟩ rfl rfl hl.1 rfl (lv_room (Nat.le_of_ble_eq_true rfl)) dX8_relation_16 ⟨Nat.le_of_ble_eq_true rfl, Nat.le_of_ble_eq_true rfl⟩) hS (fun q _ h => hFc q h) hFc (fun r5 u t H1 locs ht hvm hw hB hz1 hk1 hS => ?_)
    replace hP := hB.1
    rw [ht] at hP
    replace hD : va_D A (xW h a e cI cJ cO cE L I M J n cap fE sd si sa dl) := hB.2.weaken (fun _ q _ h9 => hFc q.1 h9)
    clear hB
    generalize H1 = H at hP hS ⊢
    replace hP : va_P (dC, dI) vwCl (xW h a e cI cJ cO cE L I M J n cap fE sd si sa dl) H := hP
    replace hw : r5 = f_y_left n dl  L := hw
    replace hZ9 := bnd_s hZ9 hw
    refine lv_lconst (v := 0) hx hb dX8_relation_19 (by decide) ?_
    refine W.lcmp hx hb dX8_relation_20 ?_
    refine lv_topi (fun x6 ex6 => ?_)
    replace hZ9 := bnd_s hZ9 ex6
    refine lv_if_eq (tgt := 27) hx hb dX8_relation_21 (by decide) (fun c7 => ?_) (fun c7 => ?_)
    · replace hZ9 := ite_t hZ9 c7
      refine lv_aload_n hx hb dX8_relation_27 rfl (lv_at hl 0 rfl) ?_
      refine va_get (D := (dC, dI)) (ci := 9) (v := .ref (a 6)) (C := RX8) (T := TX8) (N := 14) hx hb hts in_y_relation_X8 hown hK hP 0 rfl rfl 6 (by decide) (hts (.fieldLink RX8 53 "ServiceTree" "inState" "[J") (by decide +kernel)) (fun _ h9 => h9) rfl dX8_relation_28 ?_
      refine lv_iconst (v := 0) hx hb dX8_relation_31 (by decide) ?_
      refine va_lald (n := 6) (f := M 9) hx hb hK hP 21 1 rfl rfl (vp_in_nI (n := 0) (by omega) (by omega)) dX8_relation_32 ?_
      refine lv_topl (fun x8 ex8 => ?_)
      replace hZ9 := bnd_s hZ9 ex8
      refine lv_aload_n hx hb dX8_relation_33 rfl (lv_at hl 0 rfl) ?_
      refine va_get (D := (dC, dI)) (ci := 9) (v := .ref (a 6)) (C := RX8) (T := TX8) (N := 14) hx hb hts in_y_relation_X8 hown hK hP 0 rfl rfl 6 (by decide) (hts (.fieldLink RX8 53 "ServiceTree" "inState" "[J") (by decide +kernel)) (fun _ h9 => h9) rfl dX8_relation_34 ?_
      refine lv_iconst (v := 4) hx hb dX8_relation_37 (by decide) ?_
      refine va_lald (n := 6) (f := M 9) hx hb hK hP 21 1 rfl rfl (vp_in_nI (n := 4) (by omega) (by omega)) dX8_relation_38 ?_
      refine lv_topl (fun x9 ex9 => ?_)
      replace hZ9 := bnd_s hZ9 ex9
      refine lv_lor hx hb dX8_relation_39 ?_
      refine lv_topl (fun x10 ex10 => ?_)
      replace hZ9 := bnd_s hZ9 ex10
      refine lv_lstore (lv' := [(4, .long x10), (0, .ref h), (1, .int (nI j2)), (2, .int (nI j3)), (3, .int (nI j4))]) hx hb dX8_relation_40 hl (by decide) rfl (fun ls hl => ?_)
      refine lv_iload_n hx hb dX8_relation_42 rfl (lv_at hl 2 rfl) ?_
      refine lv_if_eq (tgt := 51) hx hb dX8_relation_43 (by decide) (fun c11 => ?_) (fun c11 => ?_)
      · replace c11 : j2 = 0 := (nI_eq (a := j2) (b := 0) (by omega) (by omega)).mp c11
        replace hZ9 := ite_t hZ9 c11
        refine lv_lload hx hb dX8_relation_51 (lv_at hl 0 rfl) ?_
        refine lv_iload_n hx hb dX8_relation_53 rfl (lv_at hl 3 rfl) ?_
        have hFc := mw_free hD hS hA
        refine va_calli (va_runS (As := [.long x10, .int (nI j3)]) (rest := []) ⟨hx, hb, hml, hown, hts⟩ (c_y_holds l dC dI h a e cI cJ cO cE L I M J n cap fE sd si sa dl (b) x10 j3 H.size hX (by omega) ) (va_cwS 2 hts wc_y_relation_y_holds_114 rfl rfl rfl (by decide +kernel) ⟨Nat.le_of_ble_eq_true rfl, Nat.le_of_ble_eq_true rfl⟩) ⟨fun a9 U g mk q => by obtain ⟨q0, q1, qP, qK, qD, qN⟩ := q; exact ⟨q0, q1, qP, va_K.moved (u := U) (U := U.calling g mk a9) (Vm.Alike.refl U.vm) qK, qD, pw_N.same (u := U) (U := U.calling g mk a9) rfl qN⟩, fun U hU hW => ⟨rfl, by rw [hU], by rw [hU]; exact hP, va_K.moved hW.alike hK, hD.weaken (fun _ _ _ _ => trivial), pw_N.warm hW hN⟩⟩ rfl rfl hl.1 rfl (lv_room (Nat.le_of_ble_eq_true rfl)) dX8_relation_54 ⟨Nat.le_of_ble_eq_true rfl, Nat.le_of_ble_eq_true rfl⟩) hS (fun q _ h => hFc q h) hFc (fun r12 u t H1 locs ht hvm hw hB hz1 hk1 hS => ?_)
        replace hP := hB.1
        rw [ht] at hP
        replace hD : va_D A (xW h a e cI cJ cO cE L I M J n cap fE sd si sa dl) := hB.2.weaken (fun _ q _ h9 => hFc q.1 h9)
        clear hB
        generalize H1 = H at hP hS ⊢
        replace hP : va_P (dC, dI) vwCl (xW h a e cI cJ cO cE L I M J n cap fE sd si sa dl) H := hP
        obtain ⟨hw, hwe⟩ := hw
        replace hw : r12 = f_y_holds n dl x10 j3  := hw
        replace hZ9 := bnd_s hZ9 hw
        have br12 := hwe
        refine lv_if_eq (tgt := 69) hx hb dX8_relation_57 (by decide) (fun c13 => ?_) (fun c13 => ?_)
        · replace hZ9 := ite_t hZ9 c13
          refine lv_bipush (v := (-4)) hx hb dX8_relation_69 (by decide) ?_
          exact W.iret (v := (-4)) hx hb hr (fun t ht hW => ⟨⟨(-4), (I, M), rfl, ⟨hX.mono (by omega), hUI, hUM, hZ9.symm.trans hR0⟩, by rw [ht]; exact hP, hD⟩, hS.F ht⟩) hS.2.2 dX8_relation_71
        · replace hZ9 := ite_f hZ9 c13
          refine lv_lload hx hb dX8_relation_60 (lv_at hl 0 rfl) ?_
          refine lv_iload_n hx hb dX8_relation_62 rfl (lv_at hl 4 rfl) ?_
          have hFc := mw_free hD hS hA
          refine va_calli (va_runS (As := [.long x10, .int (nI j4)]) (rest := []) ⟨hx, hb, hml, hown, hts⟩ (c_y_holds l dC dI h a e cI cJ cO cE L I M J n cap fE sd si sa dl (b) x10 j4 H.size hX (by omega) ) (va_cwS 2 hts wc_y_relation_y_holds_114 rfl rfl rfl (by decide +kernel) ⟨Nat.le_of_ble_eq_true rfl, Nat.le_of_ble_eq_true rfl⟩) ⟨fun a9 U g mk q => by obtain ⟨q0, q1, qP, qK, qD, qN⟩ := q; exact ⟨q0, q1, qP, va_K.moved (u := U) (U := U.calling g mk a9) (Vm.Alike.refl U.vm) qK, qD, pw_N.same (u := U) (U := U.calling g mk a9) rfl qN⟩, fun U hU hW => ⟨rfl, by rw [hU], by rw [hU]; exact hP, va_K.moved hW.alike hK, hD.weaken (fun _ _ _ _ => trivial), pw_N.warm hW hN⟩⟩ rfl rfl hl.1 rfl (lv_room (Nat.le_of_ble_eq_true rfl)) dX8_relation_63 ⟨Nat.le_of_ble_eq_true rfl, Nat.le_of_ble_eq_true rfl⟩) hS (fun q _ h => hFc q h) hFc (fun r14 u t H1 locs ht hvm hw hB hz1 hk1 hS => ?_)
          replace hP := hB.1
          rw [ht] at hP
          replace hD : va_D A (xW h a e cI cJ cO cE L I M J n cap fE sd si sa dl) := hB.2.weaken (fun _ q _ h9 => hFc q.1 h9)
          clear hB
          generalize H1 = H at hP hS ⊢
          replace hP : va_P (dC, dI) vwCl (xW h a e cI cJ cO cE L I M J n cap fE sd si sa dl) H := hP
          obtain ⟨hw, hwe⟩ := hw
          replace hw : r14 = f_y_holds n dl x10 j4  := hw
          replace hZ9 := bnd_s hZ9 hw
          have br14 := hwe
          refine lv_if_ne (tgt := 72) hx hb dX8_relation_66 (by decide) (fun c15 => ?_) (fun c15 => ?_)
          · replace hZ9 := ite_f hZ9 c15
            refine lv_aload_n hx hb dX8_relation_72 rfl (lv_at hl 1 rfl) ?_
            refine va_get (D := (dC, dI)) (ci := 9) (v := .ref (a 1)) (C := RX8) (T := TX8) (N := 14) hx hb hts in_y_relation_X8 hown hK hP 0 rfl rfl 1 (by decide) (hts (.fieldLink RX8 19 "ServiceTree" "relations" "LServiceTree$Relations;") (by decide +kernel)) (fun _ h9 => h9) rfl dX8_relation_73 ?_
            refine lv_iload_n hx hb dX8_relation_76 rfl (lv_at hl 2 rfl) ?_
            refine lv_iload_n hx hb dX8_relation_77 rfl (lv_at hl 3 rfl) ?_
            refine lv_iload_n hx hb dX8_relation_78 rfl (lv_at hl 4 rfl) ?_
            have hFc := mw_free hD hS hA
            refine va_calli (va_runV (As := [.int (nI j2), .int (nI j3), .int (nI j4)]) (rest := []) ⟨hx, hb, hml, hown, hts⟩ (c_y_told l dC dI h a e cI cJ cO cE L I M J n cap fE sd si sa dl (b) j2 j3 j4 H.size hX (by omega) (by omega) (by omega)) (cwV 3 hts wc_y_relation_y_told_118 rfl rfl rfl (by decide +kernel) ⟨Nat.le_of_ble_eq_true rfl, Nat.le_of_ble_eq_true rfl⟩) ⟨fun a9 U g mk q => by obtain ⟨q0, q1, qP, qK, qD, qN⟩ := q; exact ⟨q0, q1, qP, va_K.moved (u := U) (U := U.calling g mk a9) (Vm.Alike.refl U.vm) qK, qD, pw_N.same (u := U) (U := U.calling g mk a9) rfl qN⟩, va_recv hK hP (ci := 6) (q0 := 2) rfl rfl, fun U hU hW => ⟨rfl, by rw [hU], by rw [hU]; exact hP, va_K.moved hW.alike hK, hD.weaken (fun _ _ _ _ => trivial), pw_N.warm hW hN⟩⟩ rfl rfl hl.1 rfl (lv_room (Nat.le_of_ble_eq_true rfl)) dX8_relation_79 ⟨Nat.le_of_ble_eq_true rfl, Nat.le_of_ble_eq_true rfl⟩) hS (fun q _ h => hFc q h) hFc (fun r16 u t H1 locs ht hvm hw hB hz1 hk1 hS => ?_)
            replace hP := hB.1
            rw [ht] at hP
            replace hD : va_D A (xW h a e cI cJ cO cE L I M J n cap fE sd si sa dl) := hB.2.weaken (fun _ q _ h9 => hFc q.1 h9)
            clear hB
            generalize H1 = H at hP hS ⊢
            replace hP : va_P (dC, dI) vwCl (xW h a e cI cJ cO cE L I M J n cap fE sd si sa dl) H := hP
            obtain ⟨hw, hwe⟩ := hw
            replace hw : r16 = f_y_told n dl j2 j3 j4 M := hw
            replace hZ9 := bnd_s hZ9 hw
            have br16 := hwe
            refine lv_if_eq (tgt := 87) hx hb dX8_relation_82 (by decide) (fun c17 => ?_) (fun c17 => ?_)
            · replace hZ9 := ite_t hZ9 c17
              refine lv_aload_n hx hb dX8_relation_87 rfl (lv_at hl 1 rfl) ?_
              refine va_get (D := (dC, dI)) (ci := 9) (v := .ref (a 1)) (C := RX8) (T := TX8) (N := 14) hx hb hts in_y_relation_X8 hown hK hP 0 rfl rfl 1 (by decide) (hts (.fieldLink RX8 19 "ServiceTree" "relations" "LServiceTree$Relations;") (by decide +kernel)) (fun _ h9 => h9) rfl dX8_relation_88 ?_
              refine va_getN (D := (dC, dI)) (ci := 6) (v := .int (I 7)) (C := RX5) (T := TX5) (N := 3) hx hb hts in_y_relation_X5 hown hK hP 2 rfl rfl 2 (by decide) (va_Nw.use rfl (hN (.fieldLinkNest RX8 121 "ServiceTree$Relations" "size" "I" "ServiceTree") (by decide +kernel))) (fun _ h9 => h9) rfl dX8_relation_91 ?_
              refine lv_topi (fun x18 ex18 => ?_)
              replace hZ9 := bnd_s hZ9 ex18
              refine lv_sipush (v := 400) hx hb dX8_relation_94 (by decide) ?_
              refine lv_icmp_lt (tgt := 103) hx hb dX8_relation_97 (by decide) (fun c19 => ?_) (fun c19 => ?_)
              · replace hZ9 := ite_t hZ9 c19
                refine lv_aload_n hx hb dX8_relation_103 rfl (lv_at hl 1 rfl) ?_
                refine va_get (D := (dC, dI)) (ci := 9) (v := .ref (a 1)) (C := RX8) (T := TX8) (N := 14) hx hb hts in_y_relation_X8 hown hK hP 0 rfl rfl 1 (by decide) (hts (.fieldLink RX8 19 "ServiceTree" "relations" "LServiceTree$Relations;") (by decide +kernel)) (fun _ h9 => h9) rfl dX8_relation_104 ?_
                refine lv_iload_n hx hb dX8_relation_107 rfl (lv_at hl 2 rfl) ?_
                refine lv_iload_n hx hb dX8_relation_108 rfl (lv_at hl 3 rfl) ?_
                refine lv_iload_n hx hb dX8_relation_109 rfl (lv_at hl 4 rfl) ?_
                have hFc := mw_free hD hS hA
                refine va_callv (va_runV (As := [.int (nI j2), .int (nI j3), .int (nI j4)]) (rest := []) ⟨hx, hb, hml, hown, hts⟩ (c_y_radd l dC dI h a e cI cJ cO cE L I M J n cap fE sd si sa dl (b) j2 j3 j4 H.size hX (by omega) (by omega) (by omega) (by omega)) (cwV 3 hts wc_y_relation_y_radd_123 rfl rfl rfl (by decide +kernel) ⟨Nat.le_of_ble_eq_true rfl, Nat.le_of_ble_eq_true rfl⟩) ⟨fun a9 U g mk q => by obtain ⟨q0, q1, qP, qK, qD, qN⟩ := q; exact ⟨q0, q1, qP, va_K.moved (u := U) (U := U.calling g mk a9) (Vm.Alike.refl U.vm) qK, qD, pw_N.same (u := U) (U := U.calling g mk a9) rfl qN⟩, va_recv hK hP (ci := 6) (q0 := 2) rfl rfl, fun U hU hW => ⟨rfl, by rw [hU], by rw [hU]; exact hP, va_K.moved hW.alike hK, hD.weaken (fun _ _ _ _ => trivial), pw_N.warm hW hN⟩⟩ rfl rfl hl.1 rfl (lv_room (Nat.le_of_ble_eq_true rfl)) dX8_relation_110 ⟨Nat.le_of_ble_eq_true rfl, Nat.le_of_ble_eq_true rfl⟩) hS (fun q _ h => hFc q h) hFc (fun u t H1 locs ht hvm hw hB hz1 hk1 hS => ?_)
                obtain ⟨I21, M22⟩ := u
                replace hP := hB.1
                rw [ht] at hP
                replace hD : va_D A (xW h a e cI cJ cO cE L I21 M22 J n cap fE sd si sa dl) := hB.2.weaken (fun _ q _ h9 => hFc q.1 h9)
                clear hB
                generalize H1 = H at hP hS ⊢
                replace hP : va_P (dC, dI) vwCl (xW h a e cI cJ cO cE L I21 M22 J n cap fE sd si sa dl) H := hP
                obtain ⟨hwX, whUI, whUM, hw⟩ := hw
                replace hX : InvX n cap fE sd dl (b) I21 J si := hwX
                replace hUI : ∀ j9 : Nat, j9 ∉ ([7] : List Nat) → I21 j9 = I j9 := mw_tr (by decide) whUI hUI
                replace hUM : ∀ j9 : Nat, j9 ∉ ([0, 1, 2, 3, 4, 5, 6, 7] : List Nat) → M22 j9 = M j9 := mw_tr (by decide) whUM hUM
                replace hw : (I21, M22) = f_y_radd n dl j2 j3 j4 I M := hw
                replace hZ9 := bn2_s hZ9 hw
                refine lv_iconst (v := 1) hx hb dX8_relation_113 (by decide) ?_
                exact W.iret (v := 1) hx hb hr (fun t ht hW => ⟨⟨1, (I21, M22), rfl, ⟨hX.mono (by omega), hUI, hUM, hZ9.symm.trans hR0⟩, by rw [ht]; exact hP, hD⟩, hS.F ht⟩) hS.2.2 dX8_relation_114
              · replace hZ9 := ite_f hZ9 c19
                refine lv_bipush (v := (-6)) hx hb dX8_relation_100 (by decide) ?_
                exact W.iret (v := (-6)) hx hb hr (fun t ht hW => ⟨⟨(-6), (I, M), rfl, ⟨hX.mono (by omega), hUI, hUM, hZ9.symm.trans hR0⟩, by rw [ht]; exact hP, hD⟩, hS.F ht⟩) hS.2.2 dX8_relation_102
            · replace hZ9 := ite_f hZ9 c17
              refine lv_iconst (v := 0) hx hb dX8_relation_85 (by decide) ?_
              exact W.iret (v := 0) hx hb hr (fun t ht hW => ⟨⟨0, (I, M), rfl, ⟨hX.mono (by omega), hUI, hUM, hZ9.symm.trans hR0⟩, by rw [ht]; exact hP, hD⟩, hS.F ht⟩) hS.2.2 dX8_relation_86
          · replace hZ9 := ite_t hZ9 c15
            refine lv_bipush (v := (-4)) hx hb dX8_relation_69 (by decide) ?_
            exact W.iret (v := (-4)) hx hb hr (fun t ht hW => ⟨⟨(-4), (I, M), rfl, ⟨hX.mono (by omega), hUI, hUM, hZ9.symm.trans hR0⟩, by rw [ht]; exact hP, hD⟩, hS.F ht⟩) hS.2.2 dX8_relation_71
      · replace c11 : ¬ (j2 = 0) := fun q9 => c11 ((nI_eq (a := j2) (b := 0) (by omega) (by omega)).mpr q9)
        replace hZ9 := ite_f hZ9 c11
        refine lv_iload_n hx hb dX8_relation_46 rfl (lv_at hl 2 rfl) ?_
        refine lv_iconst (v := 3) hx hb dX8_relation_47 (by decide) ?_
        refine lv_icmp_ne (tgt := 72) hx hb dX8_relation_48 (by decide) (fun c23 => ?_) (fun c23 => ?_)
        · replace c23 : ¬ (j2 = 3) := fun q9 => c23 ((nI_eq (a := j2) (b := 3) (by omega) (by omega)).mpr q9)
          replace hZ9 := ite_f hZ9 c23
          refine lv_aload_n hx hb dX8_relation_72 rfl (lv_at hl 1 rfl) ?_
          refine va_get (D := (dC, dI)) (ci := 9) (v := .ref (a 1)) (C := RX8) (T := TX8) (N := 14) hx hb hts in_y_relation_X8 hown hK hP 0 rfl rfl 1 (by decide) (hts (.fieldLink RX8 19 "ServiceTree" "relations" "LServiceTree$Relations;") (by decide +kernel)) (fun _ h9 => h9) rfl dX8_relation_73 ?_
          refine lv_iload_n hx hb dX8_relation_76 rfl (lv_at hl 2 rfl) ?_
          refine lv_iload_n hx hb dX8_relation_77 rfl (lv_at hl 3 rfl) ?_
          refine lv_iload_n hx hb dX8_relation_78 rfl (lv_at hl 4 rfl) ?_
          have hFc := mw_free hD hS hA
          refine va_calli (va_runV (As := [.int (nI j2), .int (nI j3), .int (nI j4)]) (rest := []) ⟨hx, hb, hml, hown, hts⟩ (c_y_told l dC dI h a e cI cJ cO cE L I M J n cap fE sd si sa dl (b) j2 j3 j4 H.size hX (by omega) (by omega) (by omega)) (cwV 3 hts wc_y_relation_y_told_118 rfl rfl rfl (by decide +kernel) ⟨Nat.le_of_ble_eq_true rfl, Nat.le_of_ble_eq_true rfl⟩) ⟨fun a9 U g mk q => by obtain ⟨q0, q1, qP, qK, qD, qN⟩ := q; exact ⟨q0, q1, qP, va_K.moved (u := U) (U := U.calling g mk a9) (Vm.Alike.refl U.vm) qK, qD, pw_N.same (u := U) (U := U.calling g mk a9) rfl qN⟩, va_recv hK hP (ci := 6) (q0 := 2) rfl rfl, fun U hU hW => ⟨rfl, by rw [hU], by rw [hU]; exact hP, va_K.moved hW.alike hK, hD.weaken (fun _ _ _ _ => trivial), pw_N.warm hW hN⟩⟩ rfl rfl hl.1 rfl (lv_room (Nat.le_of_ble_eq_true rfl)) dX8_relation_79 ⟨Nat.le_of_ble_eq_true rfl, Nat.le_of_ble_eq_true rfl⟩) hS (fun q _ h => hFc q h) hFc (fun r24 u t H1 locs ht hvm hw hB hz1 hk1 hS => ?_)
          replace hP := hB.1
          rw [ht] at hP
          replace hD : va_D A (xW h a e cI cJ cO cE L I M J n cap fE sd si sa dl) := hB.2.weaken (fun _ q _ h9 => hFc q.1 h9)
          clear hB
          generalize H1 = H at hP hS ⊢
          replace hP : va_P (dC, dI) vwCl (xW h a e cI cJ cO cE L I M J n cap fE sd si sa dl) H := hP
          obtain ⟨hw, hwe⟩ := hw
          replace hw : r24 = f_y_told n dl j2 j3 j4 M := hw
          replace hZ9 := bnd_s hZ9 hw
          have br24 := hwe
          refine lv_if_eq (tgt := 87) hx hb dX8_relation_82 (by decide) (fun c25 => ?_) (fun c25 => ?_)
          · replace hZ9 := ite_t hZ9 c25
            refine lv_aload_n hx hb dX8_relation_87 rfl (lv_at hl 1 rfl) ?_
            refine va_get (D := (dC, dI)) (ci := 9) (v := .ref (a 1)) (C := RX8) (T := TX8) (N := 14) hx hb hts in_y_relation_X8 hown hK hP 0 rfl rfl 1 (by decide) (hts (.fieldLink RX8 19 "ServiceTree" "relations" "LServiceTree$Relations;") (by decide +kernel)) (fun _ h9 => h9) rfl dX8_relation_88 ?_
            refine va_getN (D := (dC, dI)) (ci := 6) (v := .int (I 7)) (C := RX5) (T := TX5) (N := 3) hx hb hts in_y_relation_X5 hown hK hP 2 rfl rfl 2 (by decide) (va_Nw.use rfl (hN (.fieldLinkNest RX8 121 "ServiceTree$Relations" "size" "I" "ServiceTree") (by decide +kernel))) (fun _ h9 => h9) rfl dX8_relation_91 ?_
            refine lv_topi (fun x26 ex26 => ?_)
            replace hZ9 := bnd_s hZ9 ex26
            refine lv_sipush (v := 400) hx hb dX8_relation_94 (by decide) ?_
            refine lv_icmp_lt (tgt := 103) hx hb dX8_relation_97 (by decide) (fun c27 => ?_) (fun c27 => ?_)
            · replace hZ9 := ite_t hZ9 c27
              refine lv_aload_n hx hb dX8_relation_103 rfl (lv_at hl 1 rfl) ?_
              refine va_get (D := (dC, dI)) (ci := 9) (v := .ref (a 1)) (C := RX8) (T := TX8) (N := 14) hx hb hts in_y_relation_X8 hown hK hP 0 rfl rfl 1 (by decide) (hts (.fieldLink RX8 19 "ServiceTree" "relations" "LServiceTree$Relations;") (by decide +kernel)) (fun _ h9 => h9) rfl dX8_relation_104 ?_
              refine lv_iload_n hx hb dX8_relation_107 rfl (lv_at hl 2 rfl) ?_
              refine lv_iload_n hx hb dX8_relation_108 rfl (lv_at hl 3 rfl) ?_
              refine lv_iload_n hx hb dX8_relation_109 rfl (lv_at hl 4 rfl) ?_
              have hFc := mw_free hD hS hA
              refine va_callv (va_runV (As := [.int (nI j2), .int (nI j3), .int (nI j4)]) (rest := []) ⟨hx, hb, hml, hown, hts⟩ (c_y_radd l dC dI h a e cI cJ cO cE L I M J n cap fE sd si sa dl (b) j2 j3 j4 H.size hX (by omega) (by omega) (by omega) (by omega)) (cwV 3 hts wc_y_relation_y_radd_123 rfl rfl rfl (by decide +kernel) ⟨Nat.le_of_ble_eq_true rfl, Nat.le_of_ble_eq_true rfl⟩) ⟨fun a9 U g mk q => by obtain ⟨q0, q1, qP, qK, qD, qN⟩ := q; exact ⟨q0, q1, qP, va_K.moved (u := U) (U := U.calling g mk a9) (Vm.Alike.refl U.vm) qK, qD, pw_N.same (u := U) (U := U.calling g mk a9) rfl qN⟩, va_recv hK hP (ci := 6) (q0 := 2) rfl rfl, fun U hU hW => ⟨rfl, by rw [hU], by rw [hU]; exact hP, va_K.moved hW.alike hK, hD.weaken (fun _ _ _ _ => trivial), pw_N.warm hW hN⟩⟩ rfl rfl hl.1 rfl (lv_room (Nat.le_of_ble_eq_true rfl)) dX8_relation_110 ⟨Nat.le_of_ble_eq_true rfl, Nat.le_of_ble_eq_true rfl⟩) hS (fun q _ h => hFc q h) hFc (fun u t H1 locs ht hvm hw hB hz1 hk1 hS => ?_)
              obtain ⟨I29, M30⟩ := u
              replace hP := hB.1
              rw [ht] at hP
              replace hD : va_D A (xW h a e cI cJ cO cE L I29 M30 J n cap fE sd si sa dl) := hB.2.weaken (fun _ q _ h9 => hFc q.1 h9)
              clear hB
              generalize H1 = H at hP hS ⊢
              replace hP : va_P (dC, dI) vwCl (xW h a e cI cJ cO cE L I29 M30 J n cap fE sd si sa dl) H := hP
              obtain ⟨hwX, whUI, whUM, hw⟩ := hw
              replace hX : InvX n cap fE sd dl (b) I29 J si := hwX
              replace hUI : ∀ j9 : Nat, j9 ∉ ([7] : List Nat) → I29 j9 = I j9 := mw_tr (by decide) whUI hUI
              replace hUM : ∀ j9 : Nat, j9 ∉ ([0, 1, 2, 3, 4, 5, 6, 7] : List Nat) → M30 j9 = M j9 := mw_tr (by decide) whUM hUM
              replace hw : (I29, M30) = f_y_radd n dl j2 j3 j4 I M := hw
              replace hZ9 := bn2_s hZ9 hw
              refine lv_iconst (v := 1) hx hb dX8_relation_113 (by decide) ?_
              exact W.iret (v := 1) hx hb hr (fun t ht hW => ⟨⟨1, (I29, M30), rfl, ⟨hX.mono (by omega), hUI, hUM, hZ9.symm.trans hR0⟩, by rw [ht]; exact hP, hD⟩, hS.F ht⟩) hS.2.2 dX8_relation_114
            · replace hZ9 := ite_f hZ9 c27
              refine lv_bipush (v := (-6)) hx hb dX8_relation_100 (by decide) ?_
              exact W.iret (v := (-6)) hx hb hr (fun t ht hW => ⟨⟨(-6), (I, M), rfl, ⟨hX.mono (by omega), hUI, hUM, hZ9.symm.trans hR0⟩, by rw [ht]; exact hP, hD⟩, hS.F ht⟩) hS.2.2 dX8_relation_102
          · replace hZ9 := ite_f hZ9 c25
            refine lv_iconst (v := 0) hx hb dX8_relation_85 (by decide) ?_
            exact W.iret (v := 0) hx hb hr (fun t ht hW => ⟨⟨0, (I, M), rfl, ⟨hX.mono (by omega), hUI, hUM, hZ9.symm.trans hR0⟩, by rw [ht]; exact hP, hD⟩, hS.F ht⟩) hS.2.2 dX8_relation_86
        · replace c23 : j2 = 3 := (nI_eq (a := j2) (b := 3) (by omega) (by omega)).mp c23
          replace hZ9 := ite_t hZ9 c23
          refine lv_lload hx hb dX8_relation_51 (lv_at hl 0 rfl) ?_
          refine lv_iload_n hx hb dX8_relation_53 rfl (lv_at hl 3 rfl) ?_
          have hFc := mw_free hD hS hA
          refine va_calli (va_runS (As := [.long x10, .int (nI j3)]) (rest := []) ⟨hx, hb, hml, hown, hts⟩ (c_y_holds l dC dI h a e cI cJ cO cE L I M J n cap fE sd si sa dl (b) x10 j3 H.size hX (by omega) ) (va_cwS 2 hts wc_y_relation_y_holds_114 rfl rfl rfl (by decide +kernel) ⟨Nat.le_of_ble_eq_true rfl, Nat.le_of_ble_eq_true rfl⟩) ⟨fun a9 U g mk q => by obtain ⟨q0, q1, qP, qK, qD, qN⟩ := q; exact ⟨q0, q1, qP, va_K.moved (u := U) (U := U.calling g mk a9) (Vm.Alike.refl U.vm) qK, qD, pw_N.same (u := U) (U := U.calling g mk a9) rfl qN⟩, fun U hU hW => ⟨rfl, by rw [hU], by rw [hU]; exact hP, va_K.moved hW.alike hK, hD.weaken (fun _ _ _ _ => trivial), pw_N.warm hW hN⟩⟩ rfl rfl hl.1 rfl (lv_room (Nat.le_of_ble_eq_true rfl)) dX8_relation_54 ⟨Nat.le_of_ble_eq_true rfl, Nat.le_of_ble_eq_true rfl⟩) hS (fun q _ h => hFc q h) hFc (fun r31 u t H1 locs ht hvm hw hB hz1 hk1 hS => ?_)
          replace hP := hB.1
          rw [ht] at hP
          replace hD : va_D A (xW h a e cI cJ cO cE L I M J n cap fE sd si sa dl) := hB.2.weaken (fun _ q _ h9 => hFc q.1 h9)
          clear hB
          generalize H1 = H at hP hS ⊢
          replace hP : va_P (dC, dI) vwCl (xW h a e cI cJ cO cE L I M J n cap fE sd si sa dl) H := hP
          obtain ⟨hw, hwe⟩ := hw
          replace hw : r31 = f_y_holds n dl x10 j3  := hw
          replace hZ9 := bnd_s hZ9 hw
          have br31 := hwe
          refine lv_if_eq (tgt := 69) hx hb dX8_relation_57 (by decide) (fun c32 => ?_) (fun c32 => ?_)
          · replace hZ9 := ite_t hZ9 c32
            refine lv_bipush (v := (-4)) hx hb dX8_relation_69 (by decide) ?_
            exact W.iret (v := (-4)) hx hb hr (fun t ht hW => ⟨⟨(-4), (I, M), rfl, ⟨hX.mono (by omega), hUI, hUM, hZ9.symm.trans hR0⟩, by rw [ht]; exact hP, hD⟩, hS.F ht⟩) hS.2.2 dX8_relation_71
          · replace hZ9 := ite_f hZ9 c32
            refine lv_lload hx hb dX8_relation_60 (lv_at hl 0 rfl) ?_
            refine lv_iload_n hx hb dX8_relation_62 rfl (lv_at hl 4 rfl) ?_
            have hFc := mw_free hD hS hA
            refine va_calli (va_runS (As := [.long x10, .int (nI j4)]) (rest := []) ⟨hx, hb, hml, hown, hts⟩ (c_y_holds l dC dI h a e cI cJ cO cE L I M J n cap fE sd si sa dl (b) x10 j4 H.size hX (by omega) ) (va_cwS 2 hts wc_y_relation_y_holds_114 rfl rfl rfl (by decide +kernel) ⟨Nat.le_of_ble_eq_true rfl, Nat.le_of_ble_eq_true rfl⟩) ⟨fun a9 U g mk q => by obtain ⟨q0, q1, qP, qK, qD, qN⟩ := q; exact ⟨q0, q1, qP, va_K.moved (u := U) (U := U.calling g mk a9) (Vm.Alike.refl U.vm) qK, qD, pw_N.same (u := U) (U := U.calling g mk a9) rfl qN⟩, fun U hU hW => ⟨rfl, by rw [hU], by rw [hU]; exact hP, va_K.moved hW.alike hK, hD.weaken (fun _ _ _ _ => trivial), pw_N.warm hW hN⟩⟩ rfl rfl hl.1 rfl (lv_room (Nat.le_of_ble_eq_true rfl)) dX8_relation_63 ⟨Nat.le_of_ble_eq_true rfl, Nat.le_of_ble_eq_true rfl⟩) hS (fun q _ h => hFc q h) hFc (fun r33 u t H1 locs ht hvm hw hB hz1 hk1 hS => ?_)
            replace hP := hB.1
            rw [ht] at hP
            replace hD : va_D A (xW h a e cI cJ cO cE L I M J n cap fE sd si sa dl) := hB.2.weaken (fun _ q _ h9 => hFc q.1 h9)
            clear hB
            generalize H1 = H at hP hS ⊢
            replace hP : va_P (dC, dI) vwCl (xW h a e cI cJ cO cE L I M J n cap fE sd si sa dl) H := hP
            obtain ⟨hw, hwe⟩ := hw
            replace hw : r33 = f_y_holds n dl x10 j4  := hw
            replace hZ9 := bnd_s hZ9 hw
            have br33 := hwe
            refine lv_if_ne (tgt := 72) hx hb dX8_relation_66 (by decide) (fun c34 => ?_) (fun c34 => ?_)
            · replace hZ9 := ite_f hZ9 c34
              refine lv_aload_n hx hb dX8_relation_72 rfl (lv_at hl 1 rfl) ?_
              refine va_get (D := (dC, dI)) (ci := 9) (v := .ref (a 1)) (C := RX8) (T := TX8) (N := 14) hx hb hts in_y_relation_X8 hown hK hP 0 rfl rfl 1 (by decide) (hts (.fieldLink RX8 19 "ServiceTree" "relations" "LServiceTree$Relations;") (by decide +kernel)) (fun _ h9 => h9) rfl dX8_relation_73 ?_
              refine lv_iload_n hx hb dX8_relation_76 rfl (lv_at hl 2 rfl) ?_
              refine lv_iload_n hx hb dX8_relation_77 rfl (lv_at hl 3 rfl) ?_
              refine lv_iload_n hx hb dX8_relation_78 rfl (lv_at hl 4 rfl) ?_
              have hFc := mw_free hD hS hA
              refine va_calli (va_runV (As := [.int (nI j2), .int (nI j3), .int (nI j4)]) (rest := []) ⟨hx, hb, hml, hown, hts⟩ (c_y_told l dC dI h a e cI cJ cO cE L I M J n cap fE sd si sa dl (b) j2 j3 j4 H.size hX (by omega) (by omega) (by omega)) (cwV 3 hts wc_y_relation_y_told_118 rfl rfl rfl (by decide +kernel) ⟨Nat.le_of_ble_eq_true rfl, Nat.le_of_ble_eq_true rfl⟩) ⟨fun a9 U g mk q => by obtain ⟨q0, q1, qP, qK, qD, qN⟩ := q; exact ⟨q0, q1, qP, va_K.moved (u := U) (U := U.calling g mk a9) (Vm.Alike.refl U.vm) qK, qD, pw_N.same (u := U) (U := U.calling g mk a9) rfl qN⟩, va_recv hK hP (ci := 6) (q0 := 2) rfl rfl, fun U hU hW => ⟨rfl, by rw [hU], by rw [hU]; exact hP, va_K.moved hW.alike hK, hD.weaken (fun _ _ _ _ => trivial), pw_N.warm hW hN⟩⟩ rfl rfl hl.1 rfl (lv_room (Nat.le_of_ble_eq_true rfl)) dX8_relation_79 ⟨Nat.le_of_ble_eq_true rfl, Nat.le_of_ble_eq_true rfl⟩) hS (fun q _ h => hFc q h) hFc (fun r35 u t H1 locs ht hvm hw hB hz1 hk1 hS => ?_)
              replace hP := hB.1
              rw [ht] at hP
              replace hD : va_D A (xW h a e cI cJ cO cE L I M J n cap fE sd si sa dl) := hB.2.weaken (fun _ q _ h9 => hFc q.1 h9)
              clear hB
              generalize H1 = H at hP hS ⊢
              replace hP : va_P (dC, dI) vwCl (xW h a e cI cJ cO cE L I M J n cap fE sd si sa dl) H := hP
              obtain ⟨hw, hwe⟩ := hw
              replace hw : r35 = f_y_told n dl j2 j3 j4 M := hw
              replace hZ9 := bnd_s hZ9 hw
              have br35 := hwe
              refine lv_if_eq (tgt := 87) hx hb dX8_relation_82 (by decide) (fun c36 => ?_) (fun c36 => ?_)
              · replace hZ9 := ite_t hZ9 c36
                refine lv_aload_n hx hb dX8_relation_87 rfl (lv_at hl 1 rfl) ?_
                refine va_get (D := (dC, dI)) (ci := 9) (v := .ref (a 1)) (C := RX8) (T := TX8) (N := 14) hx hb hts in_y_relation_X8 hown hK hP 0 rfl rfl 1 (by decide) (hts (.fieldLink RX8 19 "ServiceTree" "relations" "LServiceTree$Relations;") (by decide +kernel)) (fun _ h9 => h9) rfl dX8_relation_88 ?_
                refine va_getN (D := (dC, dI)) (ci := 6) (v := .int (I 7)) (C := RX5) (T := TX5) (N := 3) hx hb hts in_y_relation_X5 hown hK hP 2 rfl rfl 2 (by decide) (va_Nw.use rfl (hN (.fieldLinkNest RX8 121 "ServiceTree$Relations" "size" "I" "ServiceTree") (by decide +kernel))) (fun _ h9 => h9) rfl dX8_relation_91 ?_
                refine lv_topi (fun x37 ex37 => ?_)
                replace hZ9 := bnd_s hZ9 ex37
                refine lv_sipush (v := 400) hx hb dX8_relation_94 (by decide) ?_
                refine lv_icmp_lt (tgt := 103) hx hb dX8_relation_97 (by decide) (fun c38 => ?_) (fun c38 => ?_)
                · replace hZ9 := ite_t hZ9 c38
                  refine lv_aload_n hx hb dX8_relation_103 rfl (lv_at hl 1 rfl) ?_
                  refine va_get (D := (dC, dI)) (ci := 9) (v := .ref (a 1)) (C := RX8) (T := TX8) (N := 14) hx hb hts in_y_relation_X8 hown hK hP 0 rfl rfl 1 (by decide) (hts (.fieldLink RX8 19 "ServiceTree" "relations" "LServiceTree$Relations;") (by decide +kernel)) (fun _ h9 => h9) rfl dX8_relation_104 ?_
                  refine lv_iload_n hx hb dX8_relation_107 rfl (lv_at hl 2 rfl) ?_
                  refine lv_iload_n hx hb dX8_relation_108 rfl (lv_at hl 3 rfl) ?_
                  refine lv_iload_n hx hb dX8_relation_109 rfl (lv_at hl 4 rfl) ?_
                  have hFc := mw_free hD hS hA
                  refine va_callv (va_runV (As := [.int (nI j2), .int (nI j3), .int (nI j4)]) (rest := []) ⟨hx, hb, hml, hown, hts⟩ (c_y_radd l dC dI h a e cI cJ cO cE L I M J n cap fE sd si sa dl (b) j2 j3 j4 H.size hX (by omega) (by omega) (by omega) (by omega)) (cwV 3 hts wc_y_relation_y_radd_123 rfl rfl rfl (by decide +kernel) ⟨Nat.le_of_ble_eq_true rfl, Nat.le_of_ble_eq_true rfl⟩) ⟨fun a9 U g mk q => by obtain ⟨q0, q1, qP, qK, qD, qN⟩ := q; exact ⟨q0, q1, qP, va_K.moved (u := U) (U := U.calling g mk a9) (Vm.Alike.refl U.vm) qK, qD, pw_N.same (u := U) (U := U.calling g mk a9) rfl qN⟩, va_recv hK hP (ci := 6) (q0 := 2) rfl rfl, fun U hU hW => ⟨rfl, by rw [hU], by rw [hU]; exact hP, va_K.moved hW.alike hK, hD.weaken (fun _ _ _ _ => trivial), pw_N.warm hW hN⟩⟩ rfl rfl hl.1 rfl (lv_room (Nat.le_of_ble_eq_true rfl)) dX8_relation_110 ⟨Nat.le_of_ble_eq_true rfl, Nat.le_of_ble_eq_true rfl⟩) hS (fun q _ h => hFc q h) hFc (fun u t H1 locs ht hvm hw hB hz1 hk1 hS => ?_)
                  obtain ⟨I40, M41⟩ := u
                  replace hP := hB.1
                  rw [ht] at hP
                  replace hD : va_D A (xW h a e cI cJ cO cE L I40 M41 J n cap fE sd si sa dl) := hB.2.weaken (fun _ q _ h9 => hFc q.1 h9)
                  clear hB
                  generalize H1 = H at hP hS ⊢
                  replace hP : va_P (dC, dI) vwCl (xW h a e cI cJ cO cE L I40 M41 J n cap fE sd si sa dl) H := hP
                  obtain ⟨hwX, whUI, whUM, hw⟩ := hw
                  replace hX : InvX n cap fE sd dl (b) I40 J si := hwX
                  replace hUI : ∀ j9 : Nat, j9 ∉ ([7] : List Nat) → I40 j9 = I j9 := mw_tr (by decide) whUI hUI
                  replace hUM : ∀ j9 : Nat, j9 ∉ ([0, 1, 2, 3, 4, 5, 6, 7] : List Nat) → M41 j9 = M j9 := mw_tr (by decide) whUM hUM
                  replace hw : (I40, M41) = f_y_radd n dl j2 j3 j4 I M := hw
                  replace hZ9 := bn2_s hZ9 hw
                  refine lv_iconst (v := 1) hx hb dX8_relation_113 (by decide) ?_
                  exact W.iret (v := 1) hx hb hr (fun t ht hW => ⟨⟨1, (I40, M41), rfl, ⟨hX.mono (by omega), hUI, hUM, hZ9.symm.trans hR0⟩, by rw [ht]; exact hP, hD⟩, hS.F ht⟩) hS.2.2 dX8_relation_114
                · replace hZ9 := ite_f hZ9 c38
                  refine lv_bipush (v := (-6)) hx hb dX8_relation_100 (by decide) ?_
                  exact W.iret (v := (-6)) hx hb hr (fun t ht hW => ⟨⟨(-6), (I, M), rfl, ⟨hX.mono (by omega), hUI, hUM, hZ9.symm.trans hR0⟩, by rw [ht]; exact hP, hD⟩, hS.F ht⟩) hS.2.2 dX8_relation_102
              · replace hZ9 := ite_f hZ9 c36
                refine lv_iconst (v := 0) hx hb dX8_relation_85 (by decide) ?_
                exact W.iret (v := 0) hx hb hr (fun t ht hW => ⟨⟨0, (I, M), rfl, ⟨hX.mono (by omega), hUI, hUM, hZ9.symm.trans hR0⟩, by rw [ht]; exact hP, hD⟩, hS.F ht⟩) hS.2.2 dX8_relation_86
            · replace hZ9 := ite_t hZ9 c34
              refine lv_bipush (v := (-4)) hx hb dX8_relation_69 (by decide) ?_
              exact W.iret (v := (-4)) hx hb hr (fun t ht hW => ⟨⟨(-4), (I, M), rfl, ⟨hX.mono (by omega), hUI, hUM, hZ9.symm.trans hR0⟩, by rw [ht]; exact hP, hD⟩, hS.F ht⟩) hS.2.2 dX8_relation_71
    · replace hZ9 := ite_f hZ9 c7
      refine lv_bipush (v := (-3)) hx hb dX8_relation_24 (by decide) ?_
      exact W.iret (v := (-3)) hx hb hr (fun t ht hW => ⟨⟨(-3), (I, M), rfl, ⟨hX.mono (by omega), hUI, hUM, hZ9.symm.trans hR0⟩, by rw [ht]; exact hP, hD⟩, hS.F ht⟩) hS.2.2 dX8_relation_26
  · replace hZ9 := ite_f hZ9 noj2
    refine lv_if_ne (tgt := 12) hx hb dX8_relation_7 (by decide) (fun c9 => absurd (by decide) c9) (fun _ => ?_)
    refine lv_iconst (v := (-1)) hx hb dX8_relation_10 (by decide) ?_
    exact W.iret (v := (-1)) hx hb hr (fun t ht hW => ⟨⟨(-1), (I, M), rfl, ⟨hX.mono (by omega), hUI, hUM, hZ9.symm.trans hR0⟩, by rw [ht]; exact hP, hD⟩, hS.F ht⟩) hS.2.2 dX8_relation_11
def f_y_undo (n : Nat) (dl : Nat → Nat) (p0 : Int32) (p1 : Int32) (p2 : Int32) (L : Nat → Int64) (I : Nat → Int32) (M : Nat → Nat → Int64) : Int32 × (Nat → Int32) × (Nat → Nat → Int64) := if ((0 : Int32) ≤ p0 ∧ p0 ≤ (3 : Int32)) ∧ ((0 : Int32) ≤ p1 ∧ p1 < nI n) ∧ ((0 : Int32) ≤ p2 ∧ p2 < nI n) ∧ ¬ p1 = p2 then (bnd (p0.toNatClampNeg) (fun (j2 : Nat) => bnd (p1.toNatClampNeg) (fun (j3 : Nat) => bnd (p2.toNatClampNeg) (fun (j4 : Nat) => bnd (f_y_left n dl  L) (fun (r5 : Int64) => bnd (lg_cmp r5 (0 : Int64)) (fun (x6 : Int32) => if x6 = (0 : Int32) then (bnd (f_y_told n dl j2 j3 j4 M) (fun (r8 : Int32) => if r8 = (0 : Int32) then (((0 : Int32), I, M)) else (bn2 (f_y_rremove n dl j2 j3 j4 I M) (fun (I11 : Nat → Int32) (M12 : Nat → Nat → Int64) => ((1 : Int32), I11, M12))))) else (((-3 : Int32), I, M)))))))) else (((-1 : Int32), I, M))
def wq_y_undo : List Cond := ([.code yX8_undo cX8_undo 4 (some .int), .fieldLink RX8 35 "ServiceTree" "jobs" "LServiceTree$Jobs;", .fieldLink RX8 19 "ServiceTree" "relations" "LServiceTree$Relations;", .methodLink RX8 107 yX8_canRelate, .instanceMethod yX8_canRelate, .selects RX8 yX8_canRelate yX8_canRelate, .initialized RX8, .methodLink RX8 110 yX3_left, .instanceMethod yX3_left, .selects RX3 yX3_left yX3_left, .initialized RX3, .methodLink RX8 118 yX5_told, .instanceMethod yX5_told, .selects RX5 yX5_told yX5_told, .initialized RX5, .methodLink RX8 125 yX5_remove, .instanceMethod yX5_remove, .selects RX5 yX5_remove yX5_remove] : List Cond) ++ (wsX80 ++ (wq_y_canRelate ++ (wq_y_left ++ (wq_y_told ++ (wq_y_rremove)))))
theorem in_y_undo_X8 : ∀ w ∈ wsX80, w ∈ wq_y_undo := fun _ h => List.mem_append_right _ (List.mem_append_left _ (h))
set_option maxRecDepth 20000 in
theorem wi_y_undo : ∀ w ∈ wq_y_undo, w ∈ lw_tbl := List.forall_mem_append.mpr ⟨(wix [512, 227, 225, 479, 481, 4, 60, 483, 484, 485, 66, 490, 491, 492, 64, 513, 514, 515] rfl), List.forall_mem_append.mpr ⟨inKX8, List.forall_mem_append.mpr ⟨wi_y_canRelate, List.forall_mem_append.mpr ⟨wi_y_left, List.forall_mem_append.mpr ⟨wi_y_told, wi_y_rremove⟩⟩⟩⟩⟩
set_option maxRecDepth 20000 in
theorem wg_y_undo : GoodIn wq_y_undo wq_y_undo := goodIn_sub (fun _ h => h) (by decide +kernel)
set_option maxRecDepth 20000 in
theorem wc_y_undo_y_canRelate_107 : GoodIn wq_y_undo (wsV RX8 107 RX8 yX8_canRelate wq_y_canRelate) := goodIn_app (goodIn_of _ (by decide +kernel)) (fun w h => ⟨List.mem_append_right _ (List.mem_append_right _ (List.mem_append_left _ (h))), (wg_y_canRelate w h).2⟩)
set_option maxRecDepth 20000 in
theorem wc_y_undo_y_left_110 : GoodIn wq_y_undo (wsV RX8 110 RX3 yX3_left wq_y_left) := goodIn_app (goodIn_of _ (by decide +kernel)) (fun w h => ⟨List.mem_append_right _ (List.mem_append_right _ (List.mem_append_right _ (List.mem_append_left _ (h)))), (wg_y_left w h).2⟩)
set_option maxRecDepth 20000 in
theorem wc_y_undo_y_told_118 : GoodIn wq_y_undo (wsV RX8 118 RX5 yX5_told wq_y_told) := goodIn_app (goodIn_of _ (by decide +kernel)) (fun w h => ⟨List.mem_append_right _ (List.mem_append_right _ (List.mem_append_right _ (List.mem_append_right _ (List.mem_append_left _ (h))))), (wg_y_told w h).2⟩)
set_option maxRecDepth 20000 in
theorem wc_y_undo_y_rremove_125 : GoodIn wq_y_undo (wsV RX8 125 RX5 yX5_remove wq_y_rremove) := goodIn_app (goodIn_of _ (by decide +kernel)) (fun w h => ⟨List.mem_append_right _ (List.mem_append_right _ (List.mem_append_right _ (List.mem_append_right _ (List.mem_append_right _ (h))))), (wg_y_rremove w h).2⟩)
def rm_y_undo : Room := { frames := 4, cells := 0, slots := 0, locals := 91 }
set_option maxHeartbeats 4000000 in
set_option maxRecDepth 100000 in
theorem c_y_undo (l : Launch) (dC : Nat → ClassId) (dI : Nat → Nat → Nat) (h : Nat) (a : Nat → Nat) (e : Nat) (cI cJ cO cE : ClassId) (L : Nat → Int64) (I : Nat → Int32) (M : Nat → Nat → Int64) (J : Nat → Nat → Int32) (n cap : Nat) (fE : Nat → Option Nat) (sd : Nat → Nat → Nat) (si : Nat → Nat → Int32) (sa : Nat → Nat → Nat → Int32) (dl : Nat → Nat) (b : Nat) (p0 : Int32) (p1 : Int32) (p2 : Int32) (sz : Nat) (hX0 : InvX n cap fE sd dl b I J si) (hb0 : b + 0 < 2147483648)  : Met l yX8_undo wq_y_undo rm_y_undo (va_Pc [.ref h, .int p0, .int p1, .int p2] (fun U => U.heap.size = sz ∧ va_P (dC, dI) vwCl (xW h a e cI cJ cO cE L I M J n cap fE sd si sa dl) U.heap ∧ va_K (dC, dI) vwCl (xT cI cJ cO cE) U ∧ va_D (fun _ => True) (xW h a e cI cJ cO cE L I M J n cap fE sd si sa dl) ∧ pw_N U)) (va_Qi (fun (r : Int32) (u : (Nat → Int32) × (Nat → Nat → Int64)) => InvX n cap fE sd dl (b + 0) u.1 J si ∧ (∀ j9 : Nat, j9 ∉ ([7] : List Nat) → u.1 j9 = I j9) ∧ (∀ j9 : Nat, j9 ∉ ([0, 1, 2, 3, 4, 5, 6, 7] : List Nat) → u.2 j9 = M j9) ∧ ((r, u) = f_y_undo n dl p0 p1 p2 L I M)) (fun (u : (Nat → Int32) × (Nat → Nat → Int64)) (t : State) => va_P (dC, dI) vwCl (xW h a e cI cJ cO cE L u.1 u.2 J n cap fE sd si sa dl) t.heap ∧ va_D (va_A (xW h a e cI cJ cO cE L I M J n cap fE sd si sa dl) sz) (xW h a e cI cJ cO cE L u.1 u.2 J n cap fE sd si sa dl)) (va_A (xW h a e cI cJ cO cE L I M J n cap fE sd si sa dl) sz)) 0 0 (va_A (xW h a e cI cJ cO cE L I M J n cap fE sd si sa dl) sz) := by
  have hn : n ≤ 40 := hX0.1.1
  have hX := hX0
  have hUI : ∀ j9 : Nat, j9 ∉ ([7] : List Nat) → I j9 = I j9 := fun _ _ => rfl
  have hUM : ∀ j9 : Nat, j9 ∉ ([0, 1, 2, 3, 4, 5, 6, 7] : List Nat) → M j9 = M j9 := fun _ _ => rfl
  refine Met.ofW (cc := cX8_undo) (maxL := 4) (ret := (some .int)) (by decide) rfl ?_
  intro p e9 s m args below meth c s₁ B hml hv
  obtain ⟨rfl, hsz, hP, hK, hD0, hN⟩ := hv
  have hx := B.exec
  have hb := B.bytes
  have hr := B.returns
  have hts := atoms_spec (ws := wq_y_undo) B.pre
  have hown : s.vm.findClass RX8 = some m.cls := findClass_of_methodNamed B.named
  have hlocks := B.notSynchronized
  subst hsz
  have hD := hD0.self (sz := s.heap.size)
  generalize hAe : va_A (xW h a e cI cJ cO cE L I M J n cap fE sd si sa dl) s.heap.size = A at hD ⊢
  have hA : ∀ q : Nat, s.heap.size ≤ q → A q := fun q h => by rw [← hAe]; exact Or.inr h
  have hS : va_S A s.heap s.heap [] := va_S.rf
  have hl := lv_entry ([.ref h, .int p0, .int p1, .int p2]) (n := 4) (Nat.le_of_ble_eq_true rfl)
  rw [lg_entry_eq]
  generalize (lg_sl ([.ref h, .int p0, .int p1, .int p2]) ++ List.replicate (4 - (lg_sl ([.ref h, .int p0, .int p1, .int p2])).length) Slot.unset).toArray = ls at hl ⊢
  have hl : lv_has ls 4 [(0, .ref h), (1, .int p0), (2, .int p1), (3, .int p2)] := hl
  obtain ⟨RES, hR0⟩ : ∃ R9, R9 = f_y_undo n dl p0 p1 p2 L I M := ⟨_, rfl⟩
  have hZ9 := hR0
  unfold f_y_undo at hZ9
  refine lv_aload_n hx hb dX8_undo_0 rfl (lv_at hl 0 rfl) ?_
  refine lv_iload_n hx hb dX8_undo_1 rfl (lv_at hl 1 rfl) ?_
  refine lv_iload_n hx hb dX8_undo_2 rfl (lv_at hl 2 rfl) ?_
  refine lv_iload_n hx hb dX8_undo_3 rfl (lv_at hl 3 rfl) ?_
  have hFc := mw_free hD hS hA
  refine va_calli (va_runV (As := [.int p0, .int p1, .int p2]) (rest := []) ⟨hx, hb, hml, hown, hts⟩ (c_y_canRelate l dC dI h a e cI cJ cO cE L I M J n cap fE sd si sa dl (b) p0 p1 p2 s.heap.size hX (by omega) ) (cwV 3 hts wc_y_undo_y_canRelate_107 rfl rfl rfl (by decide +kernel) ⟨Nat.le_of_ble_eq_true rfl, Nat.le_of_ble_eq_true rfl⟩) ⟨fun a9 U g mk q => by obtain ⟨q0, q1, qP, qK, qD, qN⟩ := q; exact ⟨q0, q1, qP, va_K.moved (u := U) (U := U.calling g mk a9) (Vm.Alike.refl U.vm) qK, qD, pw_N.same (u := U) (U := U.calling g mk a9) rfl qN⟩, va_recv hK hP (ci := 9) (q0 := 0) rfl rfl, fun U hU hW => ⟨rfl, by rw [hU], by rw [hU]; exact hP, va_K.moved hW.alike hK, hD.weaken (fun _ _ _ _ => trivial), pw_N.warm hW hN⟩⟩ rfl rfl hl.1 rfl (lv_room (Nat.le_of_ble_eq_true rfl)) dX8_undo_4 ⟨Nat.le_of_ble_eq_true rfl, Nat.le_of_ble_eq_true rfl⟩) hS (fun q _ h => hFc q h) hFc (fun r1 u t H1 locs ht hvm hw hB hz1 hk1 hS => ?_)
  replace hP := hB.1
  rw [ht] at hP
  replace hD : va_D A (xW h a e cI cJ cO cE L I M J n cap fE sd si sa dl) := hB.2.weaken (fun _ q _ h9 => hFc q.1 h9)
  clear hB
  generalize H1 = H at hP hS ⊢
  replace hP : va_P (dC, dI) vwCl (xW h a e cI cJ cO cE L I M J n cap fE sd si sa dl) H := hP
  rcases hw with ⟨rfl, j2, j3, j4, hj2, hj3, hj4, hnej2, ej2, ej3, ej4⟩ | ⟨rfl, noj2⟩
  · replace hZ9 := ite_t hZ9 (show ((0 : Int32) ≤ p0 ∧ p0 ≤ (3 : Int32)) ∧ ((0 : Int32) ≤ p1 ∧ p1 < nI n) ∧ ((0 : Int32) ≤ p2 ∧ p2 < nI n) ∧ ¬ p1 = p2 by rw [ej2, ej3, ej4]; exact ⟨⟨nI_pos' (by omega), nI_le (b := 3) (by omega) (by omega)⟩, ⟨nI_pos' (by omega), nI_lt hj3 (by omega)⟩, ⟨nI_pos' (by omega), nI_lt hj4 (by omega)⟩, fun q9 => hnej2 ((nI_eq (by omega) (by omega)).mp q9)⟩)
    replace hZ9 := bnd_s hZ9 (show j2 = p0.toNatClampNeg by rw [ej2, nI_clamp (by omega)])
    replace hZ9 := bnd_s hZ9 (show j3 = p1.toNatClampNeg by rw [ej3, nI_clamp (by omega)])
    replace hZ9 := bnd_s hZ9 (show j4 = p2.toNatClampNeg by rw [ej4, nI_clamp (by omega)])
    subst ej2
    subst ej3
    subst ej4
    refine lv_if_ne (tgt := 12) hx hb dX8_undo_7 (by decide) (fun _ => ?_) (fun c9 => absurd c9 (by decide))
    refine lv_aload_n hx hb dX8_undo_12 rfl (lv_at hl 0 rfl) ?_
    refine va_get (D := (dC, dI)) (ci := 9) (v := .ref (a 3)) (C := RX8) (T := TX8) (N := 14) hx hb hts in_y_undo_X8 hown hK hP 0 rfl rfl 3 (by decide) (hts (.fieldLink RX8 35 "ServiceTree" "jobs" "LServiceTree$Jobs;") (by decide +kernel)) (fun _ h9 => h9) rfl dX8_undo_13 ?_
    have hFc := mw_free hD hS hA
    refine va_calll (va_runV (As := []) (rest := []) ⟨hx, hb, hml, hown, hts⟩ (c_y_left l dC dI h a e cI cJ cO cE L I M J n cap fE sd si sa dl (b)  H.size hX (by omega) ) (cwV 0 hts wc_y_undo_y_left_110 rfl rfl rfl (by decide +kernel) ⟨Nat.le_of_ble_eq_true rfl, Nat.le_of_ble_eq_true rfl⟩) ⟨fun a9 U g mk q => by obtain ⟨q0, q1, qP, qK, qD, qN⟩ := q; exact ⟨q0, q1, qP, va_K.moved (u := U) (U := U.calling g mk a9) (Vm.Alike.refl U.vm) qK, qD, pw_N.same (u := U) (U := U.calling g mk a9) rfl qN⟩, va_recv hK hP (ci := 4) (q0 := 14) rfl rfl, fun U hU hW => ⟨rfl, by rw [hU], by rw [hU]; exact hP, va_K.moved hW.alike hK, hD.weaken (fun _ _ _ _ => trivial), pw_N.warm hW hN⟩⟩ rfl rfl hl.1 rfl (lv_room (Nat.le_of_ble_eq_true rfl)) dX8_undo_16 ⟨Nat.le_of_ble_eq_true rfl, Nat.le_of_ble_eq_true rfl⟩) hS (fun q _ h => hFc q h) hFc (fun r5 u t H1 locs ht hvm hw hB hz1 hk1 hS => ?_)
    replace hP := hB.1
    rw [ht] at hP
    replace hD : va_D A (xW h a e cI cJ cO cE L I M J n cap fE sd si sa dl) := hB.2.weaken (fun _ q _ h9 => hFc q.1 h9)
    clear hB
    generalize H1 = H at hP hS ⊢
    replace hP : va_P (dC, dI) vwCl (xW h a e cI cJ cO cE L I M J n cap fE sd si sa dl) H := hP
    replace hw : r5 = f_y_left n dl  L := hw
    replace hZ9 := bnd_s hZ9 hw
    refine lv_lconst (v := 0) hx hb dX8_undo_19 (by decide) ?_
    refine W.lcmp hx hb dX8_undo_20 ?_
    refine lv_topi (fun x6 ex6 => ?_)
    replace hZ9 := bnd_s hZ9 ex6
    refine lv_if_eq (tgt := 27) hx hb dX8_undo_21 (by decide) (fun c7 => ?_) (fun c7 => ?_)
    · replace hZ9 := ite_t hZ9 c7
      refine lv_aload_n hx hb dX8_undo_27 rfl (lv_at hl 0 rfl) ?_
      refine va_get (D := (dC, dI)) (ci := 9) (v := .ref (a 1)) (C := RX8) (T := TX8) (N := 14) hx hb hts in_y_undo_X8 hown hK hP 0 rfl rfl 1 (by decide) (hts (.fieldLink RX8 19 "ServiceTree" "relations" "LServiceTree$Relations;") (by decide +kernel)) (fun _ h9 => h9) rfl dX8_undo_28 ?_
      refine lv_iload_n hx hb dX8_undo_31 rfl (lv_at hl 1 rfl) ?_
      refine lv_iload_n hx hb dX8_undo_32 rfl (lv_at hl 2 rfl) ?_
      refine lv_iload_n hx hb dX8_undo_33 rfl (lv_at hl 3 rfl) ?_
      have hFc := mw_free hD hS hA
      refine va_calli (va_runV (As := [.int (nI j2), .int (nI j3), .int (nI j4)]) (rest := []) ⟨hx, hb, hml, hown, hts⟩ (c_y_told l dC dI h a e cI cJ cO cE L I M J n cap fE sd si sa dl (b) j2 j3 j4 H.size hX (by omega) (by omega) (by omega)) (cwV 3 hts wc_y_undo_y_told_118 rfl rfl rfl (by decide +kernel) ⟨Nat.le_of_ble_eq_true rfl, Nat.le_of_ble_eq_true rfl⟩) ⟨fun a9 U g mk q => by obtain ⟨q0, q1, qP, qK, qD, qN⟩ := q; exact ⟨q0, q1, qP, va_K.moved (u := U) (U := U.calling g mk a9) (Vm.Alike.refl U.vm) qK, qD, pw_N.same (u := U) (U := U.calling g mk a9) rfl qN⟩, va_recv hK hP (ci := 6) (q0 := 2) rfl rfl, fun U hU hW => ⟨rfl, by rw [hU], by rw [hU]; exact hP, va_K.moved hW.alike hK, hD.weaken (fun _ _ _ _ => trivial), pw_N.warm hW hN⟩⟩ rfl rfl hl.1 rfl (lv_room (Nat.le_of_ble_eq_true rfl)) dX8_undo_34 ⟨Nat.le_of_ble_eq_true rfl, Nat.le_of_ble_eq_true rfl⟩) hS (fun q _ h => hFc q h) hFc (fun r8 u t H1 locs ht hvm hw hB hz1 hk1 hS => ?_)
      replace hP := hB.1
      rw [ht] at hP
      replace hD : va_D A (xW h a e cI cJ cO cE L I M J n cap fE sd si sa dl) := hB.2.weaken (fun _ q _ h9 => hFc q.1 h9)
      clear hB
      generalize H1 = H at hP hS ⊢
      replace hP : va_P (dC, dI) vwCl (xW h a e cI cJ cO cE L I M J n cap fE sd si sa dl) H := hP
      obtain ⟨hw, hwe⟩ := hw
      replace hw : r8 = f_y_told n dl j2 j3 j4 M := hw
      replace hZ9 := bnd_s hZ9 hw
      have br8 := hwe
      refine lv_if_ne (tgt := 42) hx hb dX8_undo_37 (by decide) (fun c9 => ?_) (fun c9 => ?_)
      · replace hZ9 := ite_f hZ9 c9
        refine lv_aload_n hx hb dX8_undo_42 rfl (lv_at hl 0 rfl) ?_
        refine va_get (D := (dC, dI)) (ci := 9) (v := .ref (a 1)) (C := RX8) (T := TX8) (N := 14) hx hb hts in_y_undo_X8 hown hK hP 0 rfl rfl 1 (by decide) (hts (.fieldLink RX8 19 "ServiceTree" "relations" "LServiceTree$Relations;") (by decide +kernel)) (fun _ h9 => h9) rfl dX8_undo_43 ?_
        refine lv_iload_n hx hb dX8_undo_46 rfl (lv_at hl 1 rfl) ?_
        refine lv_iload_n hx hb dX8_undo_47 rfl (lv_at hl 2 rfl) ?_
        refine lv_iload_n hx hb dX8_undo_48 rfl (lv_at hl 3 rfl) ?_
        have hFc := mw_free hD hS hA
        refine va_callv (va_runV (As := [.int (nI j2), .int (nI j3), .int (nI j4)]) (rest := []) ⟨hx, hb, hml, hown, hts⟩ (c_y_rremove l dC dI h a e cI cJ cO cE L I M J n cap fE sd si sa dl (b) j2 j3 j4 H.size hX (by omega) (by omega) (by omega) (by omega)) (cwV 3 hts wc_y_undo_y_rremove_125 rfl rfl rfl (by decide +kernel) ⟨Nat.le_of_ble_eq_true rfl, Nat.le_of_ble_eq_true rfl⟩) ⟨fun a9 U g mk q => by obtain ⟨q0, q1, qP, qK, qD, qN⟩ := q; exact ⟨q0, q1, qP, va_K.moved (u := U) (U := U.calling g mk a9) (Vm.Alike.refl U.vm) qK, qD, pw_N.same (u := U) (U := U.calling g mk a9) rfl qN⟩, va_recv hK hP (ci := 6) (q0 := 2) rfl rfl, fun U hU hW => ⟨rfl, by rw [hU], by rw [hU]; exact hP, va_K.moved hW.alike hK, hD.weaken (fun _ _ _ _ => trivial), pw_N.warm hW hN⟩⟩ rfl rfl hl.1 rfl (lv_room (Nat.le_of_ble_eq_true rfl)) dX8_undo_49 ⟨Nat.le_of_ble_eq_true rfl, Nat.le_of_ble_eq_true rfl⟩) hS (fun q _ h => hFc q h) hFc (fun u t H1 locs ht hvm hw hB hz1 hk1 hS => ?_)
        obtain ⟨I11, M12⟩ := u
        replace hP := hB.1
        rw [ht] at hP
        replace hD : va_D A (xW h a e cI cJ cO cE L I11 M12 J n cap fE sd si sa dl) := hB.2.weaken (fun _ q _ h9 => hFc q.1 h9)
        clear hB
        generalize H1 = H at hP hS ⊢
        replace hP : va_P (dC, dI) vwCl (xW h a e cI cJ cO cE L I11 M12 J n cap fE sd si sa dl) H := hP
        obtain ⟨hwX, whUI, whUM, hw⟩ := hw
        replace hX : InvX n cap fE sd dl (b) I11 J si := hwX
        replace hUI : ∀ j9 : Nat, j9 ∉ ([7] : List Nat) → I11 j9 = I j9 := mw_tr (by decide) whUI hUI
        replace hUM : ∀ j9 : Nat, j9 ∉ ([0, 1, 2, 3, 4, 5, 6, 7] : List Nat) → M12 j9 = M j9 := mw_tr (by decide) whUM hUM
        replace hw : (I11, M12) = f_y_rremove n dl j2 j3 j4 I M := hw
        replace hZ9 := bn2_s hZ9 hw
        refine lv_iconst (v := 1) hx hb dX8_undo_52 (by decide) ?_
        exact W.iret (v := 1) hx hb hr (fun t ht hW => ⟨⟨1, (I11, M12), rfl, ⟨hX.mono (by omega), hUI, hUM, hZ9.symm.trans hR0⟩, by rw [ht]; exact hP, hD⟩, hS.F ht⟩) hS.2.2 dX8_undo_53
      · replace hZ9 := ite_t hZ9 c9
        refine lv_iconst (v := 0) hx hb dX8_undo_40 (by decide) ?_
        exact W.iret (v := 0) hx hb hr (fun t ht hW => ⟨⟨0, (I, M), rfl, ⟨hX.mono (by omega), hUI, hUM, hZ9.symm.trans hR0⟩, by rw [ht]; exact hP, hD⟩, hS.F ht⟩) hS.2.2 dX8_undo_41
    · replace hZ9 := ite_f hZ9 c7
      refine lv_bipush (v := (-3)) hx hb dX8_undo_24 (by decide) ?_
      exact W.iret (v := (-3)) hx hb hr (fun t ht hW => ⟨⟨(-3), (I, M), rfl, ⟨hX.mono (by omega), hUI, hUM, hZ9.symm.trans hR0⟩, by rw [ht]; exact hP, hD⟩, hS.F ht⟩) hS.2.2 dX8_undo_26
  · replace hZ9 := ite_f hZ9 noj2
    refine lv_if_ne (tgt := 12) hx hb dX8_undo_7 (by decide) (fun c9 => absurd (by decide) c9) (fun _ => ?_)
    refine lv_iconst (v := (-1)) hx hb dX8_undo_10 (by decide) ?_
    exact W.iret (v := (-1)) hx hb hr (fun t ht hW => ⟨⟨(-1), (I, M), rfl, ⟨hX.mono (by omega), hUI, hUM, hZ9.symm.trans hR0⟩, by rw [ht]; exact hP, hD⟩, hS.F ht⟩) hS.2.2 dX8_undo_11

end
section
def f_y_hasItsNeeds (n : Nat) (dl : Nat → Nat) (sv : Nat) (M : Nat → Nat → Int64) : Int32 := bnd (f_y_from n dl 0 sv M) (fun (r1 : Int64) => bnd (M 9 (nI 2).toNatClampNeg) (fun (x2 : Int64) => bnd (x2 ^^^ (-1 : Int64)) (fun (x3 : Int64) => bnd (r1 &&& x3) (fun (x4 : Int64) => bnd (lg_cmp x4 (0 : Int64)) (fun (x5 : Int32) => if x5 = (0 : Int32) then (((1 : Int32))) else (((0 : Int32))))))))
def wq_y_hasItsNeeds : List Cond := ([.code yX8_hasItsNeeds cX8_hasItsNeeds 2 (some .boolean), .fieldLink RX8 19 "ServiceTree" "relations" "LServiceTree$Relations;", .fieldLink RX8 53 "ServiceTree" "inState" "[J", .constantLong RX8 238 (-1), .methodLink RX8 234 yX5_from, .instanceMethod yX5_from, .selects RX5 yX5_from yX5_from, .initialized RX5] : List Cond) ++ (wsX80 ++ (wq_y_from))
theorem in_y_hasItsNeeds_X8 : ∀ w ∈ wsX80, w ∈ wq_y_hasItsNeeds := fun _ h => List.mem_append_right _ (List.mem_append_left _ (h))
set_option maxRecDepth 20000 in
theorem wi_y_hasItsNeeds : ∀ w ∈ wq_y_hasItsNeeds, w ∈ lw_tbl := List.forall_mem_append.mpr ⟨(wix [654, 225, 230, 597, 655, 656, 657, 64] rfl), List.forall_mem_append.mpr ⟨inKX8, wi_y_from⟩⟩
set_option maxRecDepth 20000 in
theorem wg_y_hasItsNeeds : GoodIn wq_y_hasItsNeeds wq_y_hasItsNeeds := goodIn_sub (fun _ h => h) (by decide +kernel)
set_option maxRecDepth 20000 in
theorem wc_y_hasItsNeeds_y_from_234 : GoodIn wq_y_hasItsNeeds (wsV RX8 234 RX5 yX5_from wq_y_from) := goodIn_app (goodIn_of _ (by decide +kernel)) (fun w h => ⟨List.mem_append_right _ (List.mem_append_right _ (h)), (wg_y_from w h).2⟩)
def rm_y_hasItsNeeds : Room := { frames := 1, cells := 0, slots := 0, locals := 22 }
set_option maxHeartbeats 4000000 in
set_option maxRecDepth 100000 in
theorem c_y_hasItsNeeds (l : Launch) (dC : Nat → ClassId) (dI : Nat → Nat → Nat) (h : Nat) (a : Nat → Nat) (e : Nat) (cI cJ cO cE : ClassId) (L : Nat → Int64) (I : Nat → Int32) (M : Nat → Nat → Int64) (J : Nat → Nat → Int32) (n cap : Nat) (fE : Nat → Option Nat) (sd : Nat → Nat → Nat) (si : Nat → Nat → Int32) (sa : Nat → Nat → Nat → Int32) (dl : Nat → Nat) (b : Nat) (sv : Nat) (sz : Nat) (hX0 : InvX n cap fE sd dl b I J si) (hb0 : b + 0 < 2147483648) (hp0 : sv < n) : Met l yX8_hasItsNeeds wq_y_hasItsNeeds rm_y_hasItsNeeds (va_Pc [.ref h, .int (nI sv)] (fun U => U.heap.size = sz ∧ va_P (dC, dI) vwCl (xW h a e cI cJ cO cE L I M J n cap fE sd si sa dl) U.heap ∧ va_K (dC, dI) vwCl (xT cI cJ cO cE) U ∧ va_D (fun _ => True) (xW h a e cI cJ cO cE L I M J n cap fE sd si sa dl) ∧ pw_N U)) (va_Qi (fun (r : Int32) (u : Unit) => ((r = f_y_hasItsNeeds n dl sv M) ∧ (r = 0 ∨ r = 1))) (fun (u : Unit) (t : State) => va_P (dC, dI) vwCl (xW h a e cI cJ cO cE L I M J n cap fE sd si sa dl) t.heap ∧ va_D (va_A (xW h a e cI cJ cO cE L I M J n cap fE sd si sa dl) sz) (xW h a e cI cJ cO cE L I M J n cap fE sd si sa dl)) (va_A (xW h a e cI cJ cO cE L I M J n cap fE sd si sa dl) sz)) 0 0 (va_A (xW h a e cI cJ cO cE L I M J n cap fE sd si sa dl) sz) := by
  have hn : n ≤ 40 := hX0.1.1
  have hX := hX0
  refine Met.ofW (cc := cX8_hasItsNeeds) (maxL := 2) (ret := (some .boolean)) (by decide) rfl ?_
  intro p e9 s m args below meth c s₁ B hml hv
  obtain ⟨rfl, hsz, hP, hK, hD0, hN⟩ := hv
  have hx := B.exec
  have hb := B.bytes
  have hr := B.returns
  have hts := atoms_spec (ws := wq_y_hasItsNeeds) B.pre
  have hown : s.vm.findClass RX8 = some m.cls := findClass_of_methodNamed B.named
  have hlocks := B.notSynchronized
  subst hsz
  have hD := hD0.self (sz := s.heap.size)
  generalize hAe : va_A (xW h a e cI cJ cO cE L I M J n cap fE sd si sa dl) s.heap.size = A at hD ⊢
  have hA : ∀ q : Nat, s.heap.size ≤ q → A q := fun q h => by rw [← hAe]; exact Or.inr h
  have hS : va_S A s.heap s.heap [] := va_S.rf
  have hl := lv_entry ([.ref h, .int (nI sv)]) (n := 2) (Nat.le_of_ble_eq_true rfl)
  rw [lg_entry_eq]
  generalize (lg_sl ([.ref h, .int (nI sv)]) ++ List.replicate (2 - (lg_sl ([.ref h, .int (nI sv)])).length) Slot.unset).toArray = ls at hl ⊢
  have hl : lv_has ls 2 [(0, .ref h), (1, .int (nI sv))] := hl
  obtain ⟨RES, hR0⟩ : ∃ R9, R9 = f_y_hasItsNeeds n dl sv M := ⟨_, rfl⟩
  have hZ9 := hR0
  unfold f_y_hasItsNeeds at hZ9
  refine lv_aload_n hx hb dX8_hasItsNeeds_0 rfl (lv_at hl 0 rfl) ?_
  refine va_get (D := (dC, dI)) (ci := 9) (v := .ref (a 1)) (C := RX8) (T := TX8) (N := 14) hx hb hts in_y_hasItsNeeds_X8 hown hK hP 0 rfl rfl 1 (by decide) (hts (.fieldLink RX8 19 "ServiceTree" "relations" "LServiceTree$Relations;") (by decide +kernel)) (fun _ h9 => h9) rfl dX8_hasItsNeeds_1 ?_
  refine lv_iconst (v := 0) hx hb dX8_hasItsNeeds_4 (by decide) ?_
  refine lv_iload_n hx hb dX8_hasItsNeeds_5 rfl (lv_at hl 1 rfl) ?_
  have hFc := mw_free hD hS hA
  refine va_calll (va_runV (As := [.int 0, .int (nI sv)]) (rest := []) ⟨hx, hb, hml, hown, hts⟩ (c_y_from l dC dI h a e cI cJ cO cE L I M J n cap fE sd si sa dl (b) 0 sv s.heap.size hX (by omega) (by omega) (by omega)) (cwV 2 hts wc_y_hasItsNeeds_y_from_234 rfl rfl rfl (by decide +kernel) ⟨Nat.le_of_ble_eq_true rfl, Nat.le_of_ble_eq_true rfl⟩) ⟨fun a9 U g mk q => by obtain ⟨q0, q1, qP, qK, qD, qN⟩ := q; exact ⟨q0, q1, qP, va_K.moved (u := U) (U := U.calling g mk a9) (Vm.Alike.refl U.vm) qK, qD, pw_N.same (u := U) (U := U.calling g mk a9) rfl qN⟩, va_recv hK hP (ci := 6) (q0 := 2) rfl rfl, fun U hU hW => ⟨rfl, by rw [hU], by rw [hU]; exact hP, va_K.moved hW.alike hK, hD.weaken (fun _ _ _ _ => trivial), pw_N.warm hW hN⟩⟩ rfl rfl hl.1 rfl (lv_room (Nat.le_of_ble_eq_true rfl)) dX8_hasItsNeeds_6 ⟨Nat.le_of_ble_eq_true rfl, Nat.le_of_ble_eq_true rfl⟩) hS (fun q _ h => hFc q h) hFc (fun r1 u t H1 locs ht hvm hw hB hz1 hk1 hS => ?_)
  replace hP := hB.1
  rw [ht] at hP
  replace hD : va_D A (xW h a e cI cJ cO cE L I M J n cap fE sd si sa dl) := hB.2.weaken (fun _ q _ h9 => hFc q.1 h9)
  clear hB
  generalize H1 = H at hP hS ⊢
  replace hP : va_P (dC, dI) vwCl (xW h a e cI cJ cO cE L I M J n cap fE sd si sa dl) H := hP
  replace hw : r1 = f_y_from n dl 0 sv M := hw
  replace hZ9 := bnd_s hZ9 hw
  refine lv_aload_n hx hb dX8_hasItsNeeds_9 rfl (lv_at hl 0 rfl) ?_
  refine va_get (D := (dC, dI)) (ci := 9) (v := .ref (a 6)) (C := RX8) (T := TX8) (N := 14) hx hb hts in_y_hasItsNeeds_X8 hown hK hP 0 rfl rfl 6 (by decide) (hts (.fieldLink RX8 53 "ServiceTree" "inState" "[J") (by decide +kernel)) (fun _ h9 => h9) rfl dX8_hasItsNeeds_10 ?_
  refine lv_iconst (v := 2) hx hb dX8_hasItsNeeds_13 (by decide) ?_
  refine va_lald (n := 6) (f := M 9) hx hb hK hP 21 1 rfl rfl (vp_in_nI (n := 2) (by omega) (by omega)) dX8_hasItsNeeds_14 ?_
  refine lv_topl (fun x2 ex2 => ?_)
  replace hZ9 := bnd_s hZ9 ex2
  refine lv_ldc2 (v := (-1)) hx hb hown (hts (.constantLong RX8 238 (-1)) (by decide +kernel)) dX8_hasItsNeeds_15 ?_
  refine lv_lxor hx hb dX8_hasItsNeeds_18 ?_
  refine lv_topl (fun x3 ex3 => ?_)
  replace hZ9 := bnd_s hZ9 ex3
  refine lv_land hx hb dX8_hasItsNeeds_19 ?_
  refine lv_topl (fun x4 ex4 => ?_)
  replace hZ9 := bnd_s hZ9 ex4
  refine lv_lconst (v := 0) hx hb dX8_hasItsNeeds_20 (by decide) ?_
  refine W.lcmp hx hb dX8_hasItsNeeds_21 ?_
  refine lv_topi (fun x5 ex5 => ?_)
  replace hZ9 := bnd_s hZ9 ex5
  refine lv_if_ne (tgt := 29) hx hb dX8_hasItsNeeds_22 (by decide) (fun c6 => ?_) (fun c6 => ?_)
  · replace hZ9 := ite_f hZ9 c6
    refine lv_iconst (v := 0) hx hb dX8_hasItsNeeds_29 (by decide) ?_
    exact W.zret (v := 0) hx hb hr (by decide) (fun t ht hW => ⟨⟨0, (), rfl, ⟨hZ9.symm.trans hR0, Or.inl rfl⟩, by rw [ht]; exact hP, hD⟩, hS.F ht⟩) hS.2.2 dX8_hasItsNeeds_30
  · replace hZ9 := ite_t hZ9 c6
    refine lv_iconst (v := 1) hx hb dX8_hasItsNeeds_25 (by decide) ?_
    refine lv_goto (tgt := 30) hx hb dX8_hasItsNeeds_26 (by decide) ?_
    exact W.zret (v := 1) hx hb hr (by decide) (fun t ht hW => ⟨⟨1, (), rfl, ⟨hZ9.symm.trans hR0, Or.inr rfl⟩, by rw [ht]; exact hP, hD⟩, hS.F ht⟩) hS.2.2 dX8_hasItsNeeds_30
def f_y_sus (n : Nat) (dl : Nat → Nat)  (M : Nat → Nat → Int64) : Int64 := bnd (M 9 (nI 1).toNatClampNeg) (fun (x1 : Int64) => bnd (M 9 (nI 2).toNatClampNeg) (fun (x2 : Int64) => bnd (x1 ||| x2) (fun (x3 : Int64) => bnd (M 9 (nI 3).toNatClampNeg) (fun (x4 : Int64) => bnd (x3 ||| x4) (fun (x5 : Int64) => (x5))))))
def wq_y_sus : List Cond := ([.code yX8_startingUpOrStopping cX8_startingUpOrStopping 1 (some .long), .fieldLink RX8 53 "ServiceTree" "inState" "[J"] : List Cond) ++ (wsX80)
theorem in_y_sus_X8 : ∀ w ∈ wsX80, w ∈ wq_y_sus := fun _ h => List.mem_append_right _ (h)
set_option maxRecDepth 20000 in
theorem wi_y_sus : ∀ w ∈ wq_y_sus, w ∈ lw_tbl := List.forall_mem_append.mpr ⟨(wix [716, 230] rfl), inKX8⟩
set_option maxRecDepth 20000 in
theorem wg_y_sus : GoodIn wq_y_sus wq_y_sus := goodIn_sub (fun _ h => h) (by decide +kernel)
def rm_y_sus : Room := { frames := 0, cells := 0, slots := 0, locals := 0 }
set_option maxHeartbeats 4000000 in
set_option maxRecDepth 100000 in
theorem c_y_sus (l : Launch) (dC : Nat → ClassId) (dI : Nat → Nat → Nat) (h : Nat) (a : Nat → Nat) (e : Nat) (cI cJ cO cE : ClassId) (L : Nat → Int64) (I : Nat → Int32) (M : Nat → Nat → Int64) (J : Nat → Nat → Int32) (n cap : Nat) (fE : Nat → Option Nat) (sd : Nat → Nat → Nat) (si : Nat → Nat → Int32) (sa : Nat → Nat → Nat → Int32) (dl : Nat → Nat) (b : Nat)  (sz : Nat) (hX0 : InvX n cap fE sd dl b I J si) (hb0 : b + 0 < 2147483648)  : Met l yX8_startingUpOrStopping wq_y_sus rm_y_sus (va_Pc [.ref h] (fun U => U.heap.size = sz ∧ va_P (dC, dI) vwCl (xW h a e cI cJ cO cE L I M J n cap fE sd si sa dl) U.heap ∧ va_K (dC, dI) vwCl (xT cI cJ cO cE) U ∧ va_D (fun _ => True) (xW h a e cI cJ cO cE L I M J n cap fE sd si sa dl) ∧ pw_N U)) (va_Ql (fun (r : Int64) (u : Unit) => (r = f_y_sus n dl  M)) (fun (u : Unit) (t : State) => va_P (dC, dI) vwCl (xW h a e cI cJ cO cE L I M J n cap fE sd si sa dl) t.heap ∧ va_D (va_A (xW h a e cI cJ cO cE L I M J n cap fE sd si sa dl) sz) (xW h a e cI cJ cO cE L I M J n cap fE sd si sa dl)) (va_A (xW h a e cI cJ cO cE L I M J n cap fE sd si sa dl) sz)) 0 0 (va_A (xW h a e cI cJ cO cE L I M J n cap fE sd si sa dl) sz) := by
  have hn : n ≤ 40 := hX0.1.1
  have hX := hX0
  refine Met.ofW (cc := cX8_startingUpOrStopping) (maxL := 1) (ret := (some .long)) (by decide) rfl ?_
  intro p e9 s m args below meth c s₁ B hml hv
  obtain ⟨rfl, hsz, hP, hK, hD0, hN⟩ := hv
  have hx := B.exec
  have hb := B.bytes
  have hr := B.returns
  have hts := atoms_spec (ws := wq_y_sus) B.pre
  have hown : s.vm.findClass RX8 = some m.cls := findClass_of_methodNamed B.named
  have hlocks := B.notSynchronized
  subst hsz
  have hD := hD0.self (sz := s.heap.size)
  generalize hAe : va_A (xW h a e cI cJ cO cE L I M J n cap fE sd si sa dl) s.heap.size = A at hD ⊢
  have hA : ∀ q : Nat, s.heap.size ≤ q → A q := fun q h => by rw [← hAe]; exact Or.inr h
  have hS : va_S A s.heap s.heap [] := va_S.rf
  have hl := lv_entry ([.ref h]) (n := 1) (Nat.le_of_ble_eq_true rfl)
  rw [lg_entry_eq]
  generalize (lg_sl ([.ref h]) ++ List.replicate (1 - (lg_sl ([.ref h])).length) Slot.unset).toArray = ls at hl ⊢
  have hl : lv_has ls 1 [(0, .ref h)] := hl
  obtain ⟨RES, hR0⟩ : ∃ R9, R9 = f_y_sus n dl  M := ⟨_, rfl⟩
  have hZ9 := hR0
  unfold f_y_sus at hZ9
  refine lv_aload_n hx hb dX8_startingUpOrStopping_0 rfl (lv_at hl 0 rfl) ?_
  refine va_get (D := (dC, dI)) (ci := 9) (v := .ref (a 6)) (C := RX8) (T := TX8) (N := 14) hx hb hts in_y_sus_X8 hown hK hP 0 rfl rfl 6 (by decide) (hts (.fieldLink RX8 53 "ServiceTree" "inState" "[J") (by decide +kernel)) (fun _ h9 => h9) rfl dX8_startingUpOrStopping_1 ?_
  refine lv_iconst (v := 1) hx hb dX8_startingUpOrStopping_4 (by decide) ?_
  refine va_lald (n := 6) (f := M 9) hx hb hK hP 21 1 rfl rfl (vp_in_nI (n := 1) (by omega) (by omega)) dX8_startingUpOrStopping_5 ?_
  refine lv_topl (fun x1 ex1 => ?_)
  replace hZ9 := bnd_s hZ9 ex1
  refine lv_aload_n hx hb dX8_startingUpOrStopping_6 rfl (lv_at hl 0 rfl) ?_
  refine va_get (D := (dC, dI)) (ci := 9) (v := .ref (a 6)) (C := RX8) (T := TX8) (N := 14) hx hb hts in_y_sus_X8 hown hK hP 0 rfl rfl 6 (by decide) (hts (.fieldLink RX8 53 "ServiceTree" "inState" "[J") (by decide +kernel)) (fun _ h9 => h9) rfl dX8_startingUpOrStopping_7 ?_
  refine lv_iconst (v := 2) hx hb dX8_startingUpOrStopping_10 (by decide) ?_
  refine va_lald (n := 6) (f := M 9) hx hb hK hP 21 1 rfl rfl (vp_in_nI (n := 2) (by omega) (by omega)) dX8_startingUpOrStopping_11 ?_
  refine lv_topl (fun x2 ex2 => ?_)
  replace hZ9 := bnd_s hZ9 ex2
  refine lv_lor hx hb dX8_startingUpOrStopping_12 ?_
  refine lv_topl (fun x3 ex3 => ?_)
  replace hZ9 := bnd_s hZ9 ex3
  refine lv_aload_n hx hb dX8_startingUpOrStopping_13 rfl (lv_at hl 0 rfl) ?_
  refine va_get (D := (dC, dI)) (ci := 9) (v := .ref (a 6)) (C := RX8) (T := TX8) (N := 14) hx hb hts in_y_sus_X8 hown hK hP 0 rfl rfl 6 (by decide) (hts (.fieldLink RX8 53 "ServiceTree" "inState" "[J") (by decide +kernel)) (fun _ h9 => h9) rfl dX8_startingUpOrStopping_14 ?_
  refine lv_iconst (v := 3) hx hb dX8_startingUpOrStopping_17 (by decide) ?_
  refine va_lald (n := 6) (f := M 9) hx hb hK hP 21 1 rfl rfl (vp_in_nI (n := 3) (by omega) (by omega)) dX8_startingUpOrStopping_18 ?_
  refine lv_topl (fun x4 ex4 => ?_)
  replace hZ9 := bnd_s hZ9 ex4
  refine lv_lor hx hb dX8_startingUpOrStopping_19 ?_
  refine lv_topl (fun x5 ex5 => ?_)
  replace hZ9 := bnd_s hZ9 ex5
  exact W.lret (v := x5) hx hb hr (fun t ht hW => ⟨⟨x5, (), rfl, hZ9.symm.trans hR0, by rw [ht]; exact hP, hD⟩, hS.F ht⟩) hS.2.2 dX8_startingUpOrStopping_20
def f_y_leastLacking_16 (n : Nat) (dl : Nat → Nat) (M : Nat → Nat → Int64) (x3 : Int64) : Nat → Nat → (Nat → Int32) → Int32
  | 0, i4, K9_16 => K9_16 i4  
  | fu5 + 1, i4, K9_16 => if n ≤ i4 then (K9_16 i4) else (bnd (f_y_holds n dl x3 i4 ) (fun (r10 : Int32) => if r10 = (0 : Int32) then (f_y_leastLacking_16 n dl M x3 fu5 (i4 + 1)   K9_16) else (bnd (f_y_hasItsNeeds n dl i4 M) (fun (r12 : Int32) => if r12 = (0 : Int32) then (((nI i4))) else (f_y_leastLacking_16 n dl M x3 fu5 (i4 + 1)   K9_16)))))
def f_y_leastLacking (n : Nat) (dl : Nat → Nat)  (M : Nat → Nat → Int64) : Int32 := bnd (M 9 (nI 1).toNatClampNeg) (fun (x1 : Int64) => bnd (M 9 (nI 2).toNatClampNeg) (fun (x2 : Int64) => bnd (x1 ||| x2) (fun (x3 : Int64) => f_y_leastLacking_16 n dl M x3 (n + 1) 0   (fun (i4 : Nat) => ((-1 : Int32))))))
def wq_y_leastLacking : List Cond := ([.code yX8_leastLacking cX8_leastLacking 4 (some .int), .fieldLink RX8 53 "ServiceTree" "inState" "[J", .fieldLink RX8 10 "ServiceTree" "services" "Ljava/util/ArrayList;", .methodLink RX8 61 yJx4a65c_size_8abf5, .instanceMethod yJx4a65c_size_8abf5, .selects RJx4a65c yJx4a65c_size_8abf5 yJx4a65c_size_8abf5, .initialized RJx4a65c, .methodLink RX8 114 yX8_holds, .static yX8_holds, .initialized RX8, .methodLink RX8 231 yX8_hasItsNeeds, .instanceMethod yX8_hasItsNeeds, .selects RX8 yX8_hasItsNeeds yX8_hasItsNeeds] : List Cond) ++ (wsX80 ++ (wq_y_size ++ (wq_y_holds ++ (wq_y_hasItsNeeds))))
theorem in_y_leastLacking_X8 : ∀ w ∈ wsX80, w ∈ wq_y_leastLacking := fun _ h => List.mem_append_right _ (List.mem_append_left _ (h))
set_option maxRecDepth 20000 in
theorem wi_y_leastLacking : ∀ w ∈ wq_y_leastLacking, w ∈ lw_tbl := List.forall_mem_append.mpr ⟨(wix [724, 230, 224, 274, 275, 276, 63, 487, 488, 60, 651, 653, 17] rfl), List.forall_mem_append.mpr ⟨inKX8, List.forall_mem_append.mpr ⟨wi_y_size, List.forall_mem_append.mpr ⟨wi_y_holds, wi_y_hasItsNeeds⟩⟩⟩⟩
set_option maxRecDepth 20000 in
theorem wg_y_leastLacking : GoodIn wq_y_leastLacking wq_y_leastLacking := goodIn_sub (fun _ h => h) (by decide +kernel)
set_option maxRecDepth 20000 in
theorem wc_y_leastLacking_y_size_61 : GoodIn wq_y_leastLacking (wsV RX8 61 RJx4a65c yJx4a65c_size_8abf5 wq_y_size) := goodIn_app (goodIn_of _ (by decide +kernel)) (fun w h => ⟨List.mem_append_right _ (List.mem_append_right _ (List.mem_append_left _ (h))), (wg_y_size w h).2⟩)
set_option maxRecDepth 20000 in
theorem wc_y_leastLacking_y_holds_114 : GoodIn wq_y_leastLacking (va_wsS RX8 114 yX8_holds wq_y_holds) := goodIn_app (goodIn_of _ (by decide +kernel)) (fun w h => ⟨List.mem_append_right _ (List.mem_append_right _ (List.mem_append_right _ (List.mem_append_left _ (h)))), (wg_y_holds w h).2⟩)
set_option maxRecDepth 20000 in
theorem wc_y_leastLacking_y_hasItsNeeds_231 : GoodIn wq_y_leastLacking (wsV RX8 231 RX8 yX8_hasItsNeeds wq_y_hasItsNeeds) := goodIn_app (goodIn_of _ (by decide +kernel)) (fun w h => ⟨List.mem_append_right _ (List.mem_append_right _ (List.mem_append_right _ (List.mem_append_right _ (h)))), (wg_y_hasItsNeeds w h).2⟩)
def rm_y_leastLacking : Room := { frames := 2, cells := 0, slots := 0, locals := 43 }
set_option maxHeartbeats 4000000 in
set_option maxRecDepth 100000 in
theorem c_y_leastLacking (l : Launch) (dC : Nat → ClassId) (dI : Nat → Nat → Nat) (h : Nat) (a : Nat → Nat) (e : Nat) (cI cJ cO cE : ClassId) (L : Nat → Int64) (I : Nat → Int32) (M : Nat → Nat → Int64) (J : Nat → Nat → Int32) (n cap : Nat) (fE : Nat → Option Nat) (sd : Nat → Nat → Nat) (si : Nat → Nat → Int32) (sa : Nat → Nat → Nat → Int32) (dl : Nat → Nat) (b : Nat)  (sz : Nat) (hX0 : InvX n cap fE sd dl b I J si) (hb0 : b + 0 < 2147483648)  : Met l yX8_leastLacking wq_y_leastLacking rm_y_leastLacking (va_Pc [.ref h] (fun U => U.heap.size = sz ∧ va_P (dC, dI) vwCl (xW h a e cI cJ cO cE L I M J n cap fE sd si sa dl) U.heap ∧ va_K (dC, dI) vwCl (xT cI cJ cO cE) U ∧ va_D (fun _ => True) (xW h a e cI cJ cO cE L I M J n cap fE sd si sa dl) ∧ pw_N U)) (va_Qi (fun (r : Int32) (u : Unit) => (r = f_y_leastLacking n dl  M)) (fun (u : Unit) (t : State) => va_P (dC, dI) vwCl (xW h a e cI cJ cO cE L I M J n cap fE sd si sa dl) t.heap ∧ va_D (va_A (xW h a e cI cJ cO cE L I M J n cap fE sd si sa dl) sz) (xW h a e cI cJ cO cE L I M J n cap fE sd si sa dl)) (va_A (xW h a e cI cJ cO cE L I M J n cap fE sd si sa dl) sz)) 0 0 (va_A (xW h a e cI cJ cO cE L I M J n cap fE sd si sa dl) sz) := by
  have hn : n ≤ 40 := hX0.1.1
  have hX := hX0
  refine Met.ofW (cc := cX8_leastLacking) (maxL := 4) (ret := (some .int)) (by decide) rfl ?_
  intro p e9 s m args below meth c s₁ B hml hv
  obtain ⟨rfl, hsz, hP, hK, hD0, hN⟩ := hv
  have hx := B.exec
  have hb := B.bytes
  have hr := B.returns
  have hts := atoms_spec (ws := wq_y_leastLacking) B.pre
  have hown : s.vm.findClass RX8 = some m.cls := findClass_of_methodNamed B.named
  have hlocks := B.notSynchronized
  subst hsz
  have hD := hD0.self (sz := s.heap.size)
  generalize hAe : va_A (xW h a e cI cJ cO cE L I M J n cap fE sd si sa dl) s.heap.size = A at hD ⊢
  have hA : ∀ q : Nat, s.heap.size ≤ q → A q := fun q h => by rw [← hAe]; exact Or.inr h
  have hS : va_S A s.heap s.heap [] := va_S.rf
  have hl := lv_entry ([.ref h]) (n := 4) (Nat.le_of_ble_eq_true rfl)
  rw [lg_entry_eq]
  generalize (lg_sl ([.ref h]) ++ List.replicate (4 - (lg_sl ([.ref h])).length) Slot.unset).toArray = ls at hl ⊢
  have hl : lv_has ls 4 [(0, .ref h)] := hl
  refine mw_Q (fun Q0 hQ => ?_)
  obtain ⟨RES, hR0⟩ : ∃ R9, R9 = f_y_leastLacking n dl  M := ⟨_, rfl⟩
  have hZ9 := hR0
  unfold f_y_leastLacking at hZ9
  refine lv_aload_n hx hb dX8_leastLacking_0 rfl (lv_at hl 0 rfl) ?_
  refine va_get (D := (dC, dI)) (ci := 9) (v := .ref (a 6)) (C := RX8) (T := TX8) (N := 14) hx hb hts in_y_leastLacking_X8 hown hK hP 0 rfl rfl 6 (by decide) (hts (.fieldLink RX8 53 "ServiceTree" "inState" "[J") (by decide +kernel)) (fun _ h9 => h9) rfl dX8_leastLacking_1 ?_
  refine lv_iconst (v := 1) hx hb dX8_leastLacking_4 (by decide) ?_
  refine va_lald (n := 6) (f := M 9) hx hb hK hP 21 1 rfl rfl (vp_in_nI (n := 1) (by omega) (by omega)) dX8_leastLacking_5 ?_
  refine lv_topl (fun x1 ex1 => ?_)
  replace hZ9 := bnd_s hZ9 ex1
  refine lv_aload_n hx hb dX8_leastLacking_6 rfl (lv_at hl 0 rfl) ?_
  refine va_get (D := (dC, dI)) (ci := 9) (v := .ref (a 6)) (C := RX8) (T := TX8) (N := 14) hx hb hts in_y_leastLacking_X8 hown hK hP 0 rfl rfl 6 (by decide) (hts (.fieldLink RX8 53 "ServiceTree" "inState" "[J") (by decide +kernel)) (fun _ h9 => h9) rfl dX8_leastLacking_7 ?_
  refine lv_iconst (v := 2) hx hb dX8_leastLacking_10 (by decide) ?_
  refine va_lald (n := 6) (f := M 9) hx hb hK hP 21 1 rfl rfl (vp_in_nI (n := 2) (by omega) (by omega)) dX8_leastLacking_11 ?_
  refine lv_topl (fun x2 ex2 => ?_)
  replace hZ9 := bnd_s hZ9 ex2
  refine lv_lor hx hb dX8_leastLacking_12 ?_
  refine lv_topl (fun x3 ex3 => ?_)
  replace hZ9 := bnd_s hZ9 ex3
  refine lv_lstore_n (lv' := [(1, .long x3), (0, .ref h)]) hx hb dX8_leastLacking_13 rfl hl (by decide) rfl (fun ls hl => ?_)
  refine lv_iconst (v := 0) hx hb dX8_leastLacking_14 (by decide) ?_
  refine lv_istore_n (lv' := [(3, .int 0), (1, .long x3), (0, .ref h)]) hx hb dX8_leastLacking_15 rfl hl (by decide) rfl (fun ls hl => ?_)
  obtain ⟨K9_16, hK9_16, hZ9⟩ := lp_gen hZ9
  have lp7 : ∀ (fu5 i4 : Nat)   (H : Heap) (locs : List Loc) (ls : Array Slot), n < i4 + fu5 → i4 ≤ n → RES = f_y_leastLacking_16 n dl M x3 fu5 i4   K9_16 → va_P (dC, dI) vwCl (xW h a e cI cJ cO cE L I M J n cap fE sd si sa dl) H → va_D A (xW h a e cI cJ cO cE L I M J n cap fE sd si sa dl) → va_S A s.heap H locs → lv_has ls 4 [(3, .int (nI i4)), (1, .long x3), (0, .ref h)] → W p l e9 (headSpec wq_y_leastLacking rm_y_leastLacking).room s m ([.ref h] : List Value).toArray below meth c H locs 0 0 Q0 (F0 m 16 ls []) := by
    intro fu5
    induction fu5 with
    | zero =>
      intro i4   H locs ls hf hi
      exact absurd hf (by omega)
    | succ fu5 ih6 =>
      intro i4   H locs ls hfi4 hii4 hZ9 hP hD hS hl
      rw [f_y_leastLacking_16] at hZ9
      refine lv_iload_n hx hb dX8_leastLacking_16 rfl (lv_at hl 0 rfl) ?_
      refine lv_aload_n hx hb dX8_leastLacking_17 rfl (lv_at hl 2 rfl) ?_
      refine va_get (D := (dC, dI)) (ci := 9) (v := .ref (a 0)) (C := RX8) (T := TX8) (N := 14) hx hb hts in_y_leastLacking_X8 hown hK hP 0 rfl rfl 0 (by decide) (hts (.fieldLink RX8 10 "ServiceTree" "services" "Ljava/util/ArrayList;") (by decide +kernel)) (fun _ h9 => h9) rfl dX8_leastLacking_18 ?_
      have hFc := mw_free hD hS hA
      refine va_calli (va_runV (As := []) (rest := [.int (nI i4)]) ⟨hx, hb, hml, hown, hts⟩ (c_y_size l dC dI h a e cI cJ cO cE L I M J n cap fE sd si sa dl (b)  H.size hX (by omega) ) (cwV 0 hts wc_y_leastLacking_y_size_61 rfl rfl rfl (by decide +kernel) ⟨Nat.le_of_ble_eq_true rfl, Nat.le_of_ble_eq_true rfl⟩) ⟨fun a9 U g mk q => by obtain ⟨q0, q1, qP, qK, qD, qN⟩ := q; exact ⟨q0, q1, qP, va_K.moved (u := U) (U := U.calling g mk a9) (Vm.Alike.refl U.vm) qK, qD, pw_N.same (u := U) (U := U.calling g mk a9) rfl qN⟩, va_recv hK hP (ci := 0) (q0 := 1) rfl rfl, fun U hU hW => ⟨rfl, by rw [hU], by rw [hU]; exact hP, va_K.moved hW.alike hK, hD.weaken (fun _ _ _ _ => trivial), pw_N.warm hW hN⟩⟩ rfl rfl hl.1 rfl (lv_room (Nat.le_of_ble_eq_true rfl)) dX8_leastLacking_21 ⟨Nat.le_of_ble_eq_true rfl, Nat.le_of_ble_eq_true rfl⟩) hS (fun q _ h => hFc q h) hFc (fun r8 u t H1 locs ht hvm hw hB hz1 hk1 hS => ?_)
      replace hP := hB.1
      rw [ht] at hP
      replace hD : va_D A (xW h a e cI cJ cO cE L I M J n cap fE sd si sa dl) := hB.2.weaken (fun _ q _ h9 => hFc q.1 h9)
      clear hB
      generalize H1 = H at hP hS ⊢
      replace hP : va_P (dC, dI) vwCl (xW h a e cI cJ cO cE L I M J n cap fE sd si sa dl) H := hP
      obtain rfl : r8 = nI n := hw
      refine lv_icmp_ge (tgt := 51) hx hb dX8_leastLacking_24 (by decide) (fun c9 => ?_) (fun c9 => ?_)
      · replace c9 : n ≤ i4 := (nI_leI (a := n) (b := i4) (by omega) (by omega)).mp c9
        replace hZ9 := ite_t hZ9 c9
        replace hZ9 := lp_app1 hK9_16 hZ9
        refine lv_iconst (v := (-1)) hx hb dX8_leastLacking_51 (by decide) ?_
        rw [hQ]
        exact W.iret (v := (-1)) hx hb hr (fun t ht hW => ⟨⟨(-1), (), rfl, hZ9.symm.trans hR0, by rw [ht]; exact hP, hD⟩, hS.F ht⟩) hS.2.2 dX8_leastLacking_52
      · replace c9 : ¬ (n ≤ i4) := fun q9 => c9 ((nI_leI (a := n) (b := i4) (by omega) (by omega)).mpr q9)
        replace hZ9 := ite_f hZ9 c9
        refine lv_lload_n hx hb dX8_leastLacking_27 rfl (lv_at hl 1 rfl) ?_
        refine lv_iload_n hx hb dX8_leastLacking_28 rfl (lv_at hl 0 rfl) ?_
        have hFc := mw_free hD hS hA
        refine va_calli (va_runS (As := [.long x3, .int (nI i4)]) (rest := []) ⟨hx, hb, hml, hown, hts⟩ (c_y_holds l dC dI h a e cI cJ cO cE L I M J n cap fE sd si sa dl (b) x3 i4 H.size hX (by omega) ) (va_cwS 2 hts wc_y_leastLacking_y_holds_114 rfl rfl rfl (by decide +kernel) ⟨Nat.le_of_ble_eq_true rfl, Nat.le_of_ble_eq_true rfl⟩) ⟨fun a9 U g mk q => by obtain ⟨q0, q1, qP, qK, qD, qN⟩ := q; exact ⟨q0, q1, qP, va_K.moved (u := U) (U := U.calling g mk a9) (Vm.Alike.refl U.vm) qK, qD, pw_N.same (u := U) (U := U.calling g mk a9) rfl qN⟩, fun U hU hW => ⟨rfl, by rw [hU], by rw [hU]; exact hP, va_K.moved hW.alike hK, hD.weaken (fun _ _ _ _ => trivial), pw_N.warm hW hN⟩⟩ rfl rfl hl.1 rfl (lv_room (Nat.le_of_ble_eq_true rfl)) dX8_leastLacking_29 ⟨Nat.le_of_ble_eq_true rfl, Nat.le_of_ble_eq_true rfl⟩) hS (fun q _ h => hFc q h) hFc (fun r10 u t H1 locs ht hvm hw hB hz1 hk1 hS => ?_)
        replace hP := hB.1
        rw [ht] at hP
        replace hD : va_D A (xW h a e cI cJ cO cE L I M J n cap fE sd si sa dl) := hB.2.weaken (fun _ q _ h9 => hFc q.1 h9)
        clear hB
        generalize H1 = H at hP hS ⊢
        replace hP : va_P (dC, dI) vwCl (xW h a e cI cJ cO cE L I M J n cap fE sd si sa dl) H := hP
        obtain ⟨hw, hwe⟩ := hw
        replace hw : r10 = f_y_holds n dl x3 i4  := hw
        replace hZ9 := bnd_s hZ9 hw
        have br10 := hwe
        refine lv_if_eq (tgt := 45) hx hb dX8_leastLacking_32 (by decide) (fun c11 => ?_) (fun c11 => ?_)
        · replace hZ9 := ite_t hZ9 c11
          refine lv_iinc (v := (nI (i4 + 1))) (lv' := [(3, .int (nI (i4 + 1))), (1, .long x3), (0, .ref h)]) hx hb dX8_leastLacking_45 hl (k := 0) rfl (nI_add i4 1) (by decide) rfl (fun ls hl => ?_)
          refine lv_goto (tgt := 16) hx hb dX8_leastLacking_48 (by decide) ?_
          exact ih6 (i4 + 1)   _ _ _ (by omega) (by omega)  hZ9 hP hD hS (lv_sub hl [0, 1, 2] rfl)
        · replace hZ9 := ite_f hZ9 c11
          refine lv_aload_n hx hb dX8_leastLacking_35 rfl (lv_at hl 2 rfl) ?_
          refine lv_iload_n hx hb dX8_leastLacking_36 rfl (lv_at hl 0 rfl) ?_
          have hFc := mw_free hD hS hA
          refine va_calli (va_runV (As := [.int (nI i4)]) (rest := []) ⟨hx, hb, hml, hown, hts⟩ (c_y_hasItsNeeds l dC dI h a e cI cJ cO cE L I M J n cap fE sd si sa dl (b) i4 H.size hX (by omega) (by omega)) (cwV 1 hts wc_y_leastLacking_y_hasItsNeeds_231 rfl rfl rfl (by decide +kernel) ⟨Nat.le_of_ble_eq_true rfl, Nat.le_of_ble_eq_true rfl⟩) ⟨fun a9 U g mk q => by obtain ⟨q0, q1, qP, qK, qD, qN⟩ := q; exact ⟨q0, q1, qP, va_K.moved (u := U) (U := U.calling g mk a9) (Vm.Alike.refl U.vm) qK, qD, pw_N.same (u := U) (U := U.calling g mk a9) rfl qN⟩, va_recv hK hP (ci := 9) (q0 := 0) rfl rfl, fun U hU hW => ⟨rfl, by rw [hU], by rw [hU]; exact hP, va_K.moved hW.alike hK, hD.weaken (fun _ _ _ _ => trivial), pw_N.warm hW hN⟩⟩ rfl rfl hl.1 rfl (lv_room (Nat.le_of_ble_eq_true rfl)) dX8_leastLacking_37 ⟨Nat.le_of_ble_eq_true rfl, Nat.le_of_ble_eq_true rfl⟩) hS (fun q _ h => hFc q h) hFc (fun r12 u t H1 locs ht hvm hw hB hz1 hk1 hS => ?_)
          replace hP := hB.1
          rw [ht] at hP
          replace hD : va_D A (xW h a e cI cJ cO cE L I M J n cap fE sd si sa dl) := hB.2.weaken (fun _ q _ h9 => hFc q.1 h9)
          clear hB
          generalize H1 = H at hP hS ⊢
          replace hP : va_P (dC, dI) vwCl (xW h a e cI cJ cO cE L I M J n cap fE sd si sa dl) H := hP
          obtain ⟨hw, hwe⟩ := hw
          replace hw : r12 = f_y_hasItsNeeds n dl i4 M := hw
          replace hZ9 := bnd_s hZ9 hw
          have br12 := hwe
          refine lv_if_ne (tgt := 45) hx hb dX8_leastLacking_40 (by decide) (fun c13 => ?_) (fun c13 => ?_)
          · replace hZ9 := ite_f hZ9 c13
            refine lv_iinc (v := (nI (i4 + 1))) (lv' := [(3, .int (nI (i4 + 1))), (1, .long x3), (0, .ref h)]) hx hb dX8_leastLacking_45 hl (k := 0) rfl (nI_add i4 1) (by decide) rfl (fun ls hl => ?_)
            refine lv_goto (tgt := 16) hx hb dX8_leastLacking_48 (by decide) ?_
            exact ih6 (i4 + 1)   _ _ _ (by omega) (by omega)  hZ9 hP hD hS (lv_sub hl [0, 1, 2] rfl)
          · replace hZ9 := ite_t hZ9 c13
            refine lv_iload_n hx hb dX8_leastLacking_43 rfl (lv_at hl 0 rfl) ?_
            rw [hQ]
            exact W.iret (v := (nI i4)) hx hb hr (fun t ht hW => ⟨⟨(nI i4), (), rfl, hZ9.symm.trans hR0, by rw [ht]; exact hP, hD⟩, hS.F ht⟩) hS.2.2 dX8_leastLacking_44
  exact lp7 (n + 1) 0   _ _ _ (by omega) (by omega)  hZ9 hP hD hS hl
def f_y_draftOrder (n : Nat) (dl : Nat → Nat) (p0 : Int32) (p1 : Int32) (L : Nat → Int64) (I : Nat → Int32) (M : Nat → Nat → Int64) : Int32 × (Nat → Int64) × (Nat → Int32) := if (0 : Int32) ≤ p0 ∧ p0 ≤ (2 : Int32) then (bnd (p0.toNatClampNeg) (fun (j2 : Nat) => if (0 : Int32) ≤ p1 ∧ p1 < nI n then (bnd (p1.toNatClampNeg) (fun (j4 : Nat) => bnd (f_y_left n dl  L) (fun (r5 : Int64) => bnd (lg_cmp r5 (0 : Int64)) (fun (x6 : Int32) => if x6 = (0 : Int32) then (bnd (M 9 (nI 1).toNatClampNeg) (fun (x8 : Int64) => bnd (M 9 (nI 3).toNatClampNeg) (fun (x9 : Int64) => bnd (x8 ||| x9) (fun (x10 : Int64) => bnd (lg_cmp x10 (0 : Int64)) (fun (x11 : Int32) => if x11 = (0 : Int32) then (bnd (M 9 (nI 2).toNatClampNeg) (fun (x13 : Int64) => bnd (M 9 (nI 5).toNatClampNeg) (fun (x14 : Int64) => bn3 (f_y_weigh n dl (nI j2) j4 x13 x14 L I M) (fun (r15 : Int32) (L16 : Nat → Int64) (I17 : Nat → Int32) => (r15, L16, I17))))) else (((-3 : Int32), L, I))))))) else (((-3 : Int32), L, I)))))) else (((-1 : Int32), L, I)))) else (((-1 : Int32), L, I))
def wq_y_draftOrder : List Cond := ([.code yX8_draftOrder cX8_draftOrder 3 (some .int), .fieldLink RX8 35 "ServiceTree" "jobs" "LServiceTree$Jobs;", .fieldLink RX8 53 "ServiceTree" "inState" "[J", .fieldLink RX8 28 "ServiceTree" "draft" "LServiceTree$Draft;", .methodLink RX8 57 yX8_within, .static yX8_within, .initialized RX8, .methodLink RX8 82 yX8_exists, .instanceMethod yX8_exists, .selects RX8 yX8_exists yX8_exists, .methodLink RX8 110 yX3_left, .instanceMethod yX3_left, .selects RX3 yX3_left yX3_left, .initialized RX3, .methodLink RX8 240 yX1_weigh, .instanceMethod yX1_weigh, .selects RX1 yX1_weigh yX1_weigh, .initialized RX1] : List Cond) ++ (wsX80 ++ (wq_y_within ++ (wq_y_exists ++ (wq_y_left ++ (wq_y_weigh)))))
theorem in_y_draftOrder_X8 : ∀ w ∈ wsX80, w ∈ wq_y_draftOrder := fun _ h => List.mem_append_right _ (List.mem_append_left _ (h))
set_option maxRecDepth 20000 in
theorem wi_y_draftOrder : ∀ w ∈ wq_y_draftOrder, w ∈ lw_tbl := List.forall_mem_append.mpr ⟨(wix [524, 227, 230, 226, 271, 272, 60, 449, 451, 3, 483, 484, 485, 66, 525, 526, 527, 65] rfl), List.forall_mem_append.mpr ⟨inKX8, List.forall_mem_append.mpr ⟨wi_y_within, List.forall_mem_append.mpr ⟨wi_y_exists, List.forall_mem_append.mpr ⟨wi_y_left, wi_y_weigh⟩⟩⟩⟩⟩
set_option maxRecDepth 20000 in
theorem wg_y_draftOrder : GoodIn wq_y_draftOrder wq_y_draftOrder := goodIn_sub (fun _ h => h) (by decide +kernel)
set_option maxRecDepth 20000 in
theorem wc_y_draftOrder_y_within_57 : GoodIn wq_y_draftOrder (va_wsS RX8 57 yX8_within wq_y_within) := goodIn_app (goodIn_of _ (by decide +kernel)) (fun w h => ⟨List.mem_append_right _ (List.mem_append_right _ (List.mem_append_left _ (h))), (wg_y_within w h).2⟩)
set_option maxRecDepth 20000 in
theorem wc_y_draftOrder_y_exists_82 : GoodIn wq_y_draftOrder (wsV RX8 82 RX8 yX8_exists wq_y_exists) := goodIn_app (goodIn_of _ (by decide +kernel)) (fun w h => ⟨List.mem_append_right _ (List.mem_append_right _ (List.mem_append_right _ (List.mem_append_left _ (h)))), (wg_y_exists w h).2⟩)
set_option maxRecDepth 20000 in
theorem wc_y_draftOrder_y_left_110 : GoodIn wq_y_draftOrder (wsV RX8 110 RX3 yX3_left wq_y_left) := goodIn_app (goodIn_of _ (by decide +kernel)) (fun w h => ⟨List.mem_append_right _ (List.mem_append_right _ (List.mem_append_right _ (List.mem_append_right _ (List.mem_append_left _ (h))))), (wg_y_left w h).2⟩)
set_option maxRecDepth 20000 in
theorem wc_y_draftOrder_y_weigh_240 : GoodIn wq_y_draftOrder (wsV RX8 240 RX1 yX1_weigh wq_y_weigh) := goodIn_app (goodIn_of _ (by decide +kernel)) (fun w h => ⟨List.mem_append_right _ (List.mem_append_right _ (List.mem_append_right _ (List.mem_append_right _ (List.mem_append_right _ (h))))), (wg_y_weigh w h).2⟩)
def rm_y_draftOrder : Room := { frames := 6, cells := 0, slots := 0, locals := 158 }
set_option maxHeartbeats 4000000 in
set_option maxRecDepth 100000 in
theorem c_y_draftOrder (l : Launch) (dC : Nat → ClassId) (dI : Nat → Nat → Nat) (h : Nat) (a : Nat → Nat) (e : Nat) (cI cJ cO cE : ClassId) (L : Nat → Int64) (I : Nat → Int32) (M : Nat → Nat → Int64) (J : Nat → Nat → Int32) (n cap : Nat) (fE : Nat → Option Nat) (sd : Nat → Nat → Nat) (si : Nat → Nat → Int32) (sa : Nat → Nat → Nat → Int32) (dl : Nat → Nat) (b : Nat) (p0 : Int32) (p1 : Int32) (sz : Nat) (hX0 : InvX n cap fE sd dl b I J si) (hb0 : b + 0 < 2147483648)  : Met l yX8_draftOrder wq_y_draftOrder rm_y_draftOrder (va_Pc [.ref h, .int p0, .int p1] (fun U => U.heap.size = sz ∧ va_P (dC, dI) vwCl (xW h a e cI cJ cO cE L I M J n cap fE sd si sa dl) U.heap ∧ va_K (dC, dI) vwCl (xT cI cJ cO cE) U ∧ va_D (fun _ => True) (xW h a e cI cJ cO cE L I M J n cap fE sd si sa dl) ∧ pw_N U)) (va_Qi (fun (r : Int32) (u : (Nat → Int64) × (Nat → Int32)) => InvX n cap fE sd dl (b + 0) u.2 J si ∧ (∀ j9 : Nat, j9 ∉ ([2, 3, 4] : List Nat) → u.1 j9 = L j9) ∧ (∀ j9 : Nat, j9 ∉ ([8] : List Nat) → u.2 j9 = I j9) ∧ ((r, u) = f_y_draftOrder n dl p0 p1 L I M)) (fun (u : (Nat → Int64) × (Nat → Int32)) (t : State) => va_P (dC, dI) vwCl (xW h a e cI cJ cO cE u.1 u.2 M J n cap fE sd si sa dl) t.heap ∧ va_D (va_A (xW h a e cI cJ cO cE L I M J n cap fE sd si sa dl) sz) (xW h a e cI cJ cO cE u.1 u.2 M J n cap fE sd si sa dl)) (va_A (xW h a e cI cJ cO cE L I M J n cap fE sd si sa dl) sz)) 0 0 (va_A (xW h a e cI cJ cO cE L I M J n cap fE sd si sa dl) sz) := by
  have hn : n ≤ 40 := hX0.1.1
  have hX := hX0
  have hUL : ∀ j9 : Nat, j9 ∉ ([2, 3, 4] : List Nat) → L j9 = L j9 := fun _ _ => rfl
  have hUI : ∀ j9 : Nat, j9 ∉ ([8] : List Nat) → I j9 = I j9 := fun _ _ => rfl
  refine Met.ofW (cc := cX8_draftOrder) (maxL := 3) (ret := (some .int)) (by decide) rfl ?_
  intro p e9 s m args below meth c s₁ B hml hv
  obtain ⟨rfl, hsz, hP, hK, hD0, hN⟩ := hv
  have hx := B.exec
  have hb := B.bytes
  have hr := B.returns
  have hts := atoms_spec (ws := wq_y_draftOrder) B.pre
  have hown : s.vm.findClass RX8 = some m.cls := findClass_of_methodNamed B.named
  have hlocks := B.notSynchronized
  subst hsz
  have hD := hD0.self (sz := s.heap.size)
  generalize hAe : va_A (xW h a e cI cJ cO cE L I M J n cap fE sd si sa dl) s.heap.size = A at hD ⊢
  have hA : ∀ q : Nat, s.heap.size ≤ q → A q := fun q h => by rw [← hAe]; exact Or.inr h
  have hS : va_S A s.heap s.heap [] := va_S.rf
  have hl := lv_entry ([.ref h, .int p0, .int p1]) (n := 3) (Nat.le_of_ble_eq_true rfl)
  rw [lg_entry_eq]
  generalize (lg_sl ([.ref h, .int p0, .int p1]) ++ List.replicate (3 - (lg_sl ([.ref h, .int p0, .int p1])).length) Slot.unset).toArray = ls at hl ⊢
  have hl : lv_has ls 3 [(0, .ref h), (1, .int p0), (2, .int p1)] := hl
  obtain ⟨RES, hR0⟩ : ∃ R9, R9 = f_y_draftOrder n dl p0 p1 L I M := ⟨_, rfl⟩
  have hZ9 := hR0
  unfold f_y_draftOrder at hZ9
  refine lv_iload_n hx hb dX8_draftOrder_0 rfl (lv_at hl 1 rfl) ?_
  refine lv_iconst (v := 0) hx hb dX8_draftOrder_1 (by decide) ?_
  refine lv_iconst (v := 2) hx hb dX8_draftOrder_2 (by decide) ?_
  have hFc := mw_free hD hS hA
  refine va_calli (va_runS (As := [.int p0, .int 0, .int 2]) (rest := []) ⟨hx, hb, hml, hown, hts⟩ (c_y_within l dC dI h a e cI cJ cO cE L I M J n cap fE sd si sa dl (b) p0 0 2 s.heap.size hX (by omega) ) (va_cwS 3 hts wc_y_draftOrder_y_within_57 rfl rfl rfl (by decide +kernel) ⟨Nat.le_of_ble_eq_true rfl, Nat.le_of_ble_eq_true rfl⟩) ⟨fun a9 U g mk q => by obtain ⟨q0, q1, qP, qK, qD, qN⟩ := q; exact ⟨q0, q1, qP, va_K.moved (u := U) (U := U.calling g mk a9) (Vm.Alike.refl U.vm) qK, qD, pw_N.same (u := U) (U := U.calling g mk a9) rfl qN⟩, fun U hU hW => ⟨rfl, by rw [hU], by rw [hU]; exact hP, va_K.moved hW.alike hK, hD.weaken (fun _ _ _ _ => trivial), pw_N.warm hW hN⟩⟩ rfl rfl hl.1 rfl (lv_room (Nat.le_of_ble_eq_true rfl)) dX8_draftOrder_3 ⟨Nat.le_of_ble_eq_true rfl, Nat.le_of_ble_eq_true rfl⟩) hS (fun q _ h => hFc q h) hFc (fun r1 u t H1 locs ht hvm hw hB hz1 hk1 hS => ?_)
  replace hP := hB.1
  rw [ht] at hP
  replace hD : va_D A (xW h a e cI cJ cO cE L I M J n cap fE sd si sa dl) := hB.2.weaken (fun _ q _ h9 => hFc q.1 h9)
  clear hB
  generalize H1 = H at hP hS ⊢
  replace hP : va_P (dC, dI) vwCl (xW h a e cI cJ cO cE L I M J n cap fE sd si sa dl) H := hP
  rcases hw with ⟨rfl, haj2, hbj2⟩ | ⟨rfl, noj2⟩
  · replace hZ9 := ite_t hZ9 ⟨haj2, hbj2⟩
    obtain ⟨j2, hj2, ej2⟩ := nI_of2 (n := 2) (by decide) (xw_ge0 haj2) hbj2
    replace hZ9 := bnd_s hZ9 (show j2 = p0.toNatClampNeg by rw [ej2, nI_clamp (by omega)])
    subst ej2
    refine lv_if_eq (tgt := 17) hx hb dX8_draftOrder_6 (by decide) (fun c9 => absurd c9 (by decide)) (fun _ => ?_)
    refine lv_aload_n hx hb dX8_draftOrder_9 rfl (lv_at hl 0 rfl) ?_
    refine lv_iload_n hx hb dX8_draftOrder_10 rfl (lv_at hl 2 rfl) ?_
    have hFc := mw_free hD hS hA
    refine va_calli (va_runV (As := [.int p1]) (rest := []) ⟨hx, hb, hml, hown, hts⟩ (c_y_exists l dC dI h a e cI cJ cO cE L I M J n cap fE sd si sa dl (b) p1 H.size hX (by omega) ) (cwV 1 hts wc_y_draftOrder_y_exists_82 rfl rfl rfl (by decide +kernel) ⟨Nat.le_of_ble_eq_true rfl, Nat.le_of_ble_eq_true rfl⟩) ⟨fun a9 U g mk q => by obtain ⟨q0, q1, qP, qK, qD, qN⟩ := q; exact ⟨q0, q1, qP, va_K.moved (u := U) (U := U.calling g mk a9) (Vm.Alike.refl U.vm) qK, qD, pw_N.same (u := U) (U := U.calling g mk a9) rfl qN⟩, va_recv hK hP (ci := 9) (q0 := 0) rfl rfl, fun U hU hW => ⟨rfl, by rw [hU], by rw [hU]; exact hP, va_K.moved hW.alike hK, hD.weaken (fun _ _ _ _ => trivial), pw_N.warm hW hN⟩⟩ rfl rfl hl.1 rfl (lv_room (Nat.le_of_ble_eq_true rfl)) dX8_draftOrder_11 ⟨Nat.le_of_ble_eq_true rfl, Nat.le_of_ble_eq_true rfl⟩) hS (fun q _ h => hFc q h) hFc (fun r3 u t H1 locs ht hvm hw hB hz1 hk1 hS => ?_)
    replace hP := hB.1
    rw [ht] at hP
    replace hD : va_D A (xW h a e cI cJ cO cE L I M J n cap fE sd si sa dl) := hB.2.weaken (fun _ q _ h9 => hFc q.1 h9)
    clear hB
    generalize H1 = H at hP hS ⊢
    replace hP : va_P (dC, dI) vwCl (xW h a e cI cJ cO cE L I M J n cap fE sd si sa dl) H := hP
    rcases hw with ⟨rfl, j4, hj4, ej4⟩ | ⟨rfl, noj4⟩
    · replace hZ9 := ite_t hZ9 (show (0 : Int32) ≤ p1 ∧ p1 < nI n by rw [ej4]; exact ⟨nI_pos' (by omega), nI_lt hj4 (by omega)⟩)
      replace hZ9 := bnd_s hZ9 (show j4 = p1.toNatClampNeg by rw [ej4, nI_clamp (by omega)])
      subst ej4
      refine lv_if_ne (tgt := 19) hx hb dX8_draftOrder_14 (by decide) (fun _ => ?_) (fun c9 => absurd c9 (by decide))
      refine lv_aload_n hx hb dX8_draftOrder_19 rfl (lv_at hl 0 rfl) ?_
      refine va_get (D := (dC, dI)) (ci := 9) (v := .ref (a 3)) (C := RX8) (T := TX8) (N := 14) hx hb hts in_y_draftOrder_X8 hown hK hP 0 rfl rfl 3 (by decide) (hts (.fieldLink RX8 35 "ServiceTree" "jobs" "LServiceTree$Jobs;") (by decide +kernel)) (fun _ h9 => h9) rfl dX8_draftOrder_20 ?_
      have hFc := mw_free hD hS hA
      refine va_calll (va_runV (As := []) (rest := []) ⟨hx, hb, hml, hown, hts⟩ (c_y_left l dC dI h a e cI cJ cO cE L I M J n cap fE sd si sa dl (b)  H.size hX (by omega) ) (cwV 0 hts wc_y_draftOrder_y_left_110 rfl rfl rfl (by decide +kernel) ⟨Nat.le_of_ble_eq_true rfl, Nat.le_of_ble_eq_true rfl⟩) ⟨fun a9 U g mk q => by obtain ⟨q0, q1, qP, qK, qD, qN⟩ := q; exact ⟨q0, q1, qP, va_K.moved (u := U) (U := U.calling g mk a9) (Vm.Alike.refl U.vm) qK, qD, pw_N.same (u := U) (U := U.calling g mk a9) rfl qN⟩, va_recv hK hP (ci := 4) (q0 := 14) rfl rfl, fun U hU hW => ⟨rfl, by rw [hU], by rw [hU]; exact hP, va_K.moved hW.alike hK, hD.weaken (fun _ _ _ _ => trivial), pw_N.warm hW hN⟩⟩ rfl rfl hl.1 rfl (lv_room (Nat.le_of_ble_eq_true rfl)) dX8_draftOrder_23 ⟨Nat.le_of_ble_eq_true rfl, Nat.le_of_ble_eq_true rfl⟩) hS (fun q _ h => hFc q h) hFc (fun r5 u t H1 locs ht hvm hw hB hz1 hk1 hS => ?_)
      replace hP := hB.1
      rw [ht] at hP
      replace hD : va_D A (xW h a e cI cJ cO cE L I M J n cap fE sd si sa dl) := hB.2.weaken (fun _ q _ h9 => hFc q.1 h9)
      clear hB
      generalize H1 = H at hP hS ⊢
      replace hP : va_P (dC, dI) vwCl (xW h a e cI cJ cO cE L I M J n cap fE sd si sa dl) H := hP
      replace hw : r5 = f_y_left n dl  L := hw
      replace hZ9 := bnd_s hZ9 hw
      refine lv_lconst (v := 0) hx hb dX8_draftOrder_26 (by decide) ?_
      refine W.lcmp hx hb dX8_draftOrder_27 ?_
      refine lv_topi (fun x6 ex6 => ?_)
      replace hZ9 := bnd_s hZ9 ex6
      refine lv_if_ne (tgt := 49) hx hb dX8_draftOrder_28 (by decide) (fun c7 => ?_) (fun c7 => ?_)
      · replace hZ9 := ite_f hZ9 c7
        refine lv_bipush (v := (-3)) hx hb dX8_draftOrder_49 (by decide) ?_
        exact W.iret (v := (-3)) hx hb hr (fun t ht hW => ⟨⟨(-3), (L, I), rfl, ⟨hX.mono (by omega), hUL, hUI, hZ9.symm.trans hR0⟩, by rw [ht]; exact hP, hD⟩, hS.F ht⟩) hS.2.2 dX8_draftOrder_51
      · replace hZ9 := ite_t hZ9 c7
        refine lv_aload_n hx hb dX8_draftOrder_31 rfl (lv_at hl 0 rfl) ?_
        refine va_get (D := (dC, dI)) (ci := 9) (v := .ref (a 6)) (C := RX8) (T := TX8) (N := 14) hx hb hts in_y_draftOrder_X8 hown hK hP 0 rfl rfl 6 (by decide) (hts (.fieldLink RX8 53 "ServiceTree" "inState" "[J") (by decide +kernel)) (fun _ h9 => h9) rfl dX8_draftOrder_32 ?_
        refine lv_iconst (v := 1) hx hb dX8_draftOrder_35 (by decide) ?_
        refine va_lald (n := 6) (f := M 9) hx hb hK hP 21 1 rfl rfl (vp_in_nI (n := 1) (by omega) (by omega)) dX8_draftOrder_36 ?_
        refine lv_topl (fun x8 ex8 => ?_)
        replace hZ9 := bnd_s hZ9 ex8
        refine lv_aload_n hx hb dX8_draftOrder_37 rfl (lv_at hl 0 rfl) ?_
        refine va_get (D := (dC, dI)) (ci := 9) (v := .ref (a 6)) (C := RX8) (T := TX8) (N := 14) hx hb hts in_y_draftOrder_X8 hown hK hP 0 rfl rfl 6 (by decide) (hts (.fieldLink RX8 53 "ServiceTree" "inState" "[J") (by decide +kernel)) (fun _ h9 => h9) rfl dX8_draftOrder_38 ?_
        refine lv_iconst (v := 3) hx hb dX8_draftOrder_41 (by decide) ?_
        refine va_lald (n := 6) (f := M 9) hx hb hK hP 21 1 rfl rfl (vp_in_nI (n := 3) (by omega) (by omega)) dX8_draftOrder_42 ?_
        refine lv_topl (fun x9 ex9 => ?_)
        replace hZ9 := bnd_s hZ9 ex9
        refine lv_lor hx hb dX8_draftOrder_43 ?_
        refine lv_topl (fun x10 ex10 => ?_)
        replace hZ9 := bnd_s hZ9 ex10
        refine lv_lconst (v := 0) hx hb dX8_draftOrder_44 (by decide) ?_
        refine W.lcmp hx hb dX8_draftOrder_45 ?_
        refine lv_topi (fun x11 ex11 => ?_)
        replace hZ9 := bnd_s hZ9 ex11
        refine lv_if_eq (tgt := 52) hx hb dX8_draftOrder_46 (by decide) (fun c12 => ?_) (fun c12 => ?_)
        · replace hZ9 := ite_t hZ9 c12
          refine lv_aload_n hx hb dX8_draftOrder_52 rfl (lv_at hl 0 rfl) ?_
          refine va_get (D := (dC, dI)) (ci := 9) (v := .ref (a 2)) (C := RX8) (T := TX8) (N := 14) hx hb hts in_y_draftOrder_X8 hown hK hP 0 rfl rfl 2 (by decide) (hts (.fieldLink RX8 28 "ServiceTree" "draft" "LServiceTree$Draft;") (by decide +kernel)) (fun _ h9 => h9) rfl dX8_draftOrder_53 ?_
          refine lv_iload_n hx hb dX8_draftOrder_56 rfl (lv_at hl 1 rfl) ?_
          refine lv_iload_n hx hb dX8_draftOrder_57 rfl (lv_at hl 2 rfl) ?_
          refine lv_aload_n hx hb dX8_draftOrder_58 rfl (lv_at hl 0 rfl) ?_
          refine va_get (D := (dC, dI)) (ci := 9) (v := .ref (a 6)) (C := RX8) (T := TX8) (N := 14) hx hb hts in_y_draftOrder_X8 hown hK hP 0 rfl rfl 6 (by decide) (hts (.fieldLink RX8 53 "ServiceTree" "inState" "[J") (by decide +kernel)) (fun _ h9 => h9) rfl dX8_draftOrder_59 ?_
          refine lv_iconst (v := 2) hx hb dX8_draftOrder_62 (by decide) ?_
          refine va_lald (n := 6) (f := M 9) hx hb hK hP 21 1 rfl rfl (vp_in_nI (n := 2) (by omega) (by omega)) dX8_draftOrder_63 ?_
          refine lv_topl (fun x13 ex13 => ?_)
          replace hZ9 := bnd_s hZ9 ex13
          refine lv_aload_n hx hb dX8_draftOrder_64 rfl (lv_at hl 0 rfl) ?_
          refine va_get (D := (dC, dI)) (ci := 9) (v := .ref (a 6)) (C := RX8) (T := TX8) (N := 14) hx hb hts in_y_draftOrder_X8 hown hK hP 0 rfl rfl 6 (by decide) (hts (.fieldLink RX8 53 "ServiceTree" "inState" "[J") (by decide +kernel)) (fun _ h9 => h9) rfl dX8_draftOrder_65 ?_
          refine lv_iconst (v := 5) hx hb dX8_draftOrder_68 (by decide) ?_
          refine va_lald (n := 6) (f := M 9) hx hb hK hP 21 1 rfl rfl (vp_in_nI (n := 5) (by omega) (by omega)) dX8_draftOrder_69 ?_
          refine lv_topl (fun x14 ex14 => ?_)
          replace hZ9 := bnd_s hZ9 ex14
          have hFc := mw_free hD hS hA
          refine va_calli (va_runV (As := [.int (nI j2), .int (nI j4), .long x13, .long x14]) (rest := []) ⟨hx, hb, hml, hown, hts⟩ (c_y_weigh l dC dI h a e cI cJ cO cE L I M J n cap fE sd si sa dl (b) (nI j2) j4 x13 x14 H.size hX (by omega) ) (cwV 4 hts wc_y_draftOrder_y_weigh_240 rfl rfl rfl (by decide +kernel) ⟨Nat.le_of_ble_eq_true rfl, Nat.le_of_ble_eq_true rfl⟩) ⟨fun a9 U g mk q => by obtain ⟨q0, q1, qP, qK, qD, qN⟩ := q; exact ⟨q0, q1, qP, va_K.moved (u := U) (U := U.calling g mk a9) (Vm.Alike.refl U.vm) qK, qD, pw_N.same (u := U) (U := U.calling g mk a9) rfl qN⟩, va_recv hK hP (ci := 2) (q0 := 13) rfl rfl, fun U hU hW => ⟨rfl, by rw [hU], by rw [hU]; exact hP, va_K.moved hW.alike hK, hD.weaken (fun _ _ _ _ => trivial), pw_N.warm hW hN⟩⟩ rfl rfl hl.1 rfl (lv_room (Nat.le_of_ble_eq_true rfl)) dX8_draftOrder_70 ⟨Nat.le_of_ble_eq_true rfl, Nat.le_of_ble_eq_true rfl⟩) hS (fun q _ h => hFc q h) hFc (fun r15 u t H1 locs ht hvm hw hB hz1 hk1 hS => ?_)
          obtain ⟨L16, I17⟩ := u
          replace hP := hB.1
          rw [ht] at hP
          replace hD : va_D A (xW h a e cI cJ cO cE L16 I17 M J n cap fE sd si sa dl) := hB.2.weaken (fun _ q _ h9 => hFc q.1 h9)
          clear hB
          generalize H1 = H at hP hS ⊢
          replace hP : va_P (dC, dI) vwCl (xW h a e cI cJ cO cE L16 I17 M J n cap fE sd si sa dl) H := hP
          obtain ⟨hwX, whUL, whUI, hw⟩ := hw
          replace hX : InvX n cap fE sd dl (b) I17 J si := hwX
          replace hUL : ∀ j9 : Nat, j9 ∉ ([2, 3, 4] : List Nat) → L16 j9 = L j9 := mw_tr (by decide) whUL hUL
          replace hUI : ∀ j9 : Nat, j9 ∉ ([8] : List Nat) → I17 j9 = I j9 := mw_tr (by decide) whUI hUI
          replace hw : (r15, L16, I17) = f_y_weigh n dl (nI j2) j4 x13 x14 L I M := hw
          replace hZ9 := bn3_s hZ9 hw
          exact W.iret (v := r15) hx hb hr (fun t ht hW => ⟨⟨r15, (L16, I17), rfl, ⟨hX.mono (by omega), hUL, hUI, hZ9.symm.trans hR0⟩, by rw [ht]; exact hP, hD⟩, hS.F ht⟩) hS.2.2 dX8_draftOrder_73
        · replace hZ9 := ite_f hZ9 c12
          refine lv_bipush (v := (-3)) hx hb dX8_draftOrder_49 (by decide) ?_
          exact W.iret (v := (-3)) hx hb hr (fun t ht hW => ⟨⟨(-3), (L, I), rfl, ⟨hX.mono (by omega), hUL, hUI, hZ9.symm.trans hR0⟩, by rw [ht]; exact hP, hD⟩, hS.F ht⟩) hS.2.2 dX8_draftOrder_51
    · replace hZ9 := ite_f hZ9 noj4
      refine lv_if_ne (tgt := 19) hx hb dX8_draftOrder_14 (by decide) (fun c9 => absurd (by decide) c9) (fun _ => ?_)
      refine lv_iconst (v := (-1)) hx hb dX8_draftOrder_17 (by decide) ?_
      exact W.iret (v := (-1)) hx hb hr (fun t ht hW => ⟨⟨(-1), (L, I), rfl, ⟨hX.mono (by omega), hUL, hUI, hZ9.symm.trans hR0⟩, by rw [ht]; exact hP, hD⟩, hS.F ht⟩) hS.2.2 dX8_draftOrder_18
  · replace hZ9 := ite_f hZ9 noj2
    refine lv_if_eq (tgt := 17) hx hb dX8_draftOrder_6 (by decide) (fun _ => ?_) (fun c9 => absurd (by decide) c9)
    refine lv_iconst (v := (-1)) hx hb dX8_draftOrder_17 (by decide) ?_
    exact W.iret (v := (-1)) hx hb hr (fun t ht hW => ⟨⟨(-1), (L, I), rfl, ⟨hX.mono (by omega), hUL, hUI, hZ9.symm.trans hR0⟩, by rw [ht]; exact hP, hD⟩, hS.F ht⟩) hS.2.2 dX8_draftOrder_18
def f_y_keepRing (n : Nat) (dl : Nat → Nat) (p0 : Int32) (I : Nat → Int32) : (Nat → Int32) := if p0 = (-5 : Int32) then (bnd (I 8) (fun (x2 : Int32) => bnd (va_up I 3 x2) (fun (I3 : Nat → Int32) => (I3)))) else ((I))
def wq_y_keepRing : List Cond := ([.code yX8_keepRing cX8_keepRing 2 none, .fieldLink RX8 28 "ServiceTree" "draft" "LServiceTree$Draft;", .fieldLink RX8 216 "ServiceTree" "latestRing" "I"] : List Cond) ++ (wsX10 ++ (wsX80))
theorem in_y_keepRing_X1 : ∀ w ∈ wsX10, w ∈ wq_y_keepRing := fun _ h => List.mem_append_right _ (List.mem_append_left _ (h))
theorem in_y_keepRing_X8 : ∀ w ∈ wsX80, w ∈ wq_y_keepRing := fun _ h => List.mem_append_right _ (List.mem_append_right _ (h))
set_option maxRecDepth 20000 in
theorem wi_y_keepRing : ∀ w ∈ wq_y_keepRing, w ∈ lw_tbl := List.forall_mem_append.mpr ⟨(wix [588, 226, 236] rfl), List.forall_mem_append.mpr ⟨inKX1, inKX8⟩⟩
set_option maxRecDepth 20000 in
theorem wg_y_keepRing : GoodIn wq_y_keepRing wq_y_keepRing := goodIn_sub (fun _ h => h) (by decide +kernel)
def rm_y_keepRing : Room := { frames := 0, cells := 0, slots := 0, locals := 0 }
set_option maxHeartbeats 4000000 in
set_option maxRecDepth 100000 in
theorem c_y_keepRing (l : Launch) (dC : Nat → ClassId) (dI : Nat → Nat → Nat) (h : Nat) (a : Nat → Nat) (e : Nat) (cI cJ cO cE : ClassId) (L : Nat → Int64) (I : Nat → Int32) (M : Nat → Nat → Int64) (J : Nat → Nat → Int32) (n cap : Nat) (fE : Nat → Option Nat) (sd : Nat → Nat → Nat) (si : Nat → Nat → Int32) (sa : Nat → Nat → Nat → Int32) (dl : Nat → Nat) (b : Nat) (p0 : Int32) (sz : Nat) (hX0 : InvX n cap fE sd dl b I J si) (hb0 : b + 0 < 2147483648)  : Met l yX8_keepRing wq_y_keepRing rm_y_keepRing (va_Pc [.ref h, .int p0] (fun U => U.heap.size = sz ∧ va_P (dC, dI) vwCl (xW h a e cI cJ cO cE L I M J n cap fE sd si sa dl) U.heap ∧ va_K (dC, dI) vwCl (xT cI cJ cO cE) U ∧ va_D (fun _ => True) (xW h a e cI cJ cO cE L I M J n cap fE sd si sa dl) ∧ pw_N U)) (va_Qv (fun (u : (Nat → Int32)) => InvX n cap fE sd dl (b + 0) u J si ∧ (∀ j9 : Nat, j9 ∉ ([3] : List Nat) → u j9 = I j9) ∧ (u = f_y_keepRing n dl p0 I)) (fun (u : (Nat → Int32)) (t : State) => va_P (dC, dI) vwCl (xW h a e cI cJ cO cE L u M J n cap fE sd si sa dl) t.heap ∧ va_D (va_A (xW h a e cI cJ cO cE L I M J n cap fE sd si sa dl) sz) (xW h a e cI cJ cO cE L u M J n cap fE sd si sa dl)) (va_A (xW h a e cI cJ cO cE L I M J n cap fE sd si sa dl) sz)) 0 0 (va_A (xW h a e cI cJ cO cE L I M J n cap fE sd si sa dl) sz) := by
  have hn : n ≤ 40 := hX0.1.1
  have hX := hX0
  have hUI : ∀ j9 : Nat, j9 ∉ ([3] : List Nat) → I j9 = I j9 := fun _ _ => rfl
  refine Met.ofW (cc := cX8_keepRing) (maxL := 2) (ret := none) (by decide) rfl ?_
  intro p e9 s m args below meth c s₁ B hml hv
  obtain ⟨rfl, hsz, hP, hK, hD0, hN⟩ := hv
  have hx := B.exec
  have hb := B.bytes
  have hr := B.returns
  have hts := atoms_spec (ws := wq_y_keepRing) B.pre
  have hown : s.vm.findClass RX8 = some m.cls := findClass_of_methodNamed B.named
  have hlocks := B.notSynchronized
  subst hsz
  have hD := hD0.self (sz := s.heap.size)
  generalize hAe : va_A (xW h a e cI cJ cO cE L I M J n cap fE sd si sa dl) s.heap.size = A at hD ⊢
  have hA : ∀ q : Nat, s.heap.size ≤ q → A q := fun q h => by rw [← hAe]; exact Or.inr h
  have hS : va_S A s.heap s.heap [] := va_S.rf
  have hl := lv_entry ([.ref h, .int p0]) (n := 2) (Nat.le_of_ble_eq_true rfl)
  rw [lg_entry_eq]
  generalize (lg_sl ([.ref h, .int p0]) ++ List.replicate (2 - (lg_sl ([.ref h, .int p0])).length) Slot.unset).toArray = ls at hl ⊢
  have hl : lv_has ls 2 [(0, .ref h), (1, .int p0)] := hl
  obtain ⟨RES, hR0⟩ : ∃ R9, R9 = f_y_keepRing n dl p0 I := ⟨_, rfl⟩
  have hZ9 := hR0
  unfold f_y_keepRing at hZ9
  refine lv_iload_n hx hb dX8_keepRing_0 rfl (lv_at hl 1 rfl) ?_
  refine lv_bipush (v := (-5)) hx hb dX8_keepRing_1 (by decide) ?_
  refine lv_icmp_ne (tgt := 17) hx hb dX8_keepRing_3 (by decide) (fun c1 => ?_) (fun c1 => ?_)
  · replace hZ9 := ite_f hZ9 c1
    exact W.vret hx hb hr (fun t ht hW => ⟨⟨I, rfl, ⟨hX.mono (by omega), hUI, hZ9.symm.trans hR0⟩, by rw [ht]; exact hP, hD⟩, hS.F ht⟩) hS.2.2 dX8_keepRing_17
  · replace hZ9 := ite_t hZ9 c1
    refine lv_aload_n hx hb dX8_keepRing_6 rfl (lv_at hl 0 rfl) ?_
    refine lv_aload_n hx hb dX8_keepRing_7 rfl (lv_at hl 0 rfl) ?_
    refine va_get (D := (dC, dI)) (ci := 9) (v := .ref (a 2)) (C := RX8) (T := TX8) (N := 14) hx hb hts in_y_keepRing_X8 hown hK hP 0 rfl rfl 2 (by decide) (hts (.fieldLink RX8 28 "ServiceTree" "draft" "LServiceTree$Draft;") (by decide +kernel)) (fun _ h9 => h9) rfl dX8_keepRing_8 ?_
    refine va_getN (D := (dC, dI)) (ci := 2) (v := .int (I 8)) (C := RX1) (T := TX1) (N := 5) hx hb hts in_y_keepRing_X1 hown hK hP 13 rfl rfl 4 (by decide) (va_Nw.use rfl (hN (.fieldLinkNest RX8 244 "ServiceTree$Draft" "ringSize" "I" "ServiceTree") (by decide +kernel))) (fun _ h9 => h9) rfl dX8_keepRing_11 ?_
    refine lv_topi (fun x2 ex2 => ?_)
    replace hZ9 := bnd_s hZ9 ex2
    refine va_put (D := (dC, dI)) (ci := 9) (fs := [.ref (a 0), .ref (a 1), .ref (a 2), .ref (a 3), .ref (a 4), .ref (a 5), .ref (a 6), .long (L 0), .long (L 1), .int (I 0), .int (I 1), .int (I 2), .int (I 3), .int (I 4)]) (v := .int x2) (ty := .int) (C := RX8) (T := TX8) (N := 14) hx hb hts in_y_keepRing_X8 tyX8 tyX8_ok nmX8 hown hK hP hD hS 0 rfl rfl 12 (by decide) (hts (.fieldLink RX8 216 "ServiceTree" "latestRing" "I") (by decide +kernel)) (fun _ h9 => h9) rfl (by decide +kernel) rfl rfl (Nat.le_of_ble_eq_true rfl) dX8_keepRing_14 (fun H locs hP hD hS => ?_)
    replace hP : va_P (dC, dI) vwCl ((xW h a e cI cJ cO cE L I M J n cap fE sd si sa dl).set 0 (h, .inr (9, [.ref (a 0), .ref (a 1), .ref (a 2), .ref (a 3), .ref (a 4), .ref (a 5), .ref (a 6), .long (L 0), .long (L 1), .int (I 0), .int (I 1), .int (I 2), .int x2, .int (I 4)]))) H := hP
    replace hD : va_D A ((xW h a e cI cJ cO cE L I M J n cap fE sd si sa dl).set 0 (h, .inr (9, [.ref (a 0), .ref (a 1), .ref (a 2), .ref (a 3), .ref (a 4), .ref (a 5), .ref (a 6), .long (L 0), .long (L 1), .int (I 0), .int (I 1), .int (I 2), .int x2, .int (I 4)]))) := hD
    rw [xF_I3] at hP hD
    obtain ⟨I3, eI3⟩ : ∃ f9 : Nat → Int32, f9 = va_up I 3 x2 := ⟨_, rfl⟩
    rw [← eI3] at hP hD
    replace hZ9 := bnd_s hZ9 eI3
    replace hX : InvX n cap fE sd dl (b) I3 J si := by rw [eI3]; exact hX.setI (by decide)
    replace hUI : ∀ j9 : Nat, j9 ∉ ([3] : List Nat) → I3 j9 = I j9 := by rw [eI3]; exact mw_up (by decide) hUI
    exact W.vret hx hb hr (fun t ht hW => ⟨⟨I3, rfl, ⟨hX.mono (by omega), hUI, hZ9.symm.trans hR0⟩, by rw [ht]; exact hP, hD⟩, hS.F ht⟩) hS.2.2 dX8_keepRing_17
def f_y_enter (n : Nat) (dl : Nat → Nat) (sv : Nat) (tv : Nat) (L : Nat → Int64) (I : Nat → Int32) (M : Nat → Nat → Int64) (si : Nat → Nat → Int32) (sa : Nat → Nat → Nat → Int32) : (Nat → Int64) × (Nat → Int32) × (Nat → Nat → Int64) × (Nat → Nat → Int32) × (Nat → Nat → Nat → Int32) := bnd (f_y_only n dl sv ) (fun (r2 : Int64) => bnd ((si sv 6).toNatClampNeg) (fun (z3 : Nat) => bnd (M 9 (nI z3).toNatClampNeg) (fun (x4 : Int64) => bnd (r2 ^^^ (-1 : Int64)) (fun (x5 : Int64) => bnd (x4 &&& x5) (fun (x6 : Int64) => bnd (va_up M 9 (vp_updL (M 9) (nI z3).toNatClampNeg x6)) (fun (M7 : Nat → Nat → Int64) => bnd (M7 9 (nI tv).toNatClampNeg) (fun (x8 : Int64) => bnd (x8 ||| r2) (fun (x9 : Int64) => bnd (va_up M7 9 (vp_updL (M7 9) (nI tv).toNatClampNeg x9)) (fun (M10 : Nat → Nat → Int64) => bnd (I 0) (fun (x11 : Int32) => bn2 (f_y_senter n dl sv tv x11 si sa) (fun (si13 : Nat → Nat → Int32) (sa14 : Nat → Nat → Nat → Int32) => bnd (si13 sv 10) (fun (x15 : Int32) => if x15 ≤ (0 : Int32) then (bnd (L 0) (fun (x17 : Int64) => bnd (r2 ^^^ (-1 : Int64)) (fun (x18 : Int64) => bnd (x17 &&& x18) (fun (x19 : Int64) => bnd (va_up L 0 x19) (fun (L20 : Nat → Int64) => bn2 (f_y_hadd n dl x11 sv tv I M10) (fun (I22 : Nat → Int32) (M23 : Nat → Nat → Int64) => bnd (f_y_noteState n dl sv tv L20) (fun (L25 : Nat → Int64) => (L25, I22, M23, si13, sa14)))))))) else (bnd (L 0) (fun (x26 : Int64) => bnd (x26 ||| r2) (fun (x27 : Int64) => bnd (va_up L 0 x27) (fun (L28 : Nat → Int64) => bn2 (f_y_hadd n dl x11 sv tv I M10) (fun (I30 : Nat → Int32) (M31 : Nat → Nat → Int64) => bnd (f_y_noteState n dl sv tv L28) (fun (L33 : Nat → Int64) => (L33, I30, M31, si13, sa14)))))))))))))))))))
def wq_y_enter : List Cond := ([.code yX8_enter cX8_enter 6 none, .fieldLink RX8 10 "ServiceTree" "services" "Ljava/util/ArrayList;", .classLink RX8 65 RX7, .fieldLink RX8 53 "ServiceTree" "inState" "[J", .constantLong RX8 238 (-1), .fieldLink RX8 67 "ServiceTree" "now" "I", .fieldLink RX8 311 "ServiceTree" "living" "J", .fieldLink RX8 49 "ServiceTree" "history" "LServiceTree$History;", .fieldLink RX8 35 "ServiceTree" "jobs" "LServiceTree$Jobs;", .methodLink RX8 86 yJx4a65c_get_915e3, .instanceMethod yJx4a65c_get_915e3, .selects RJx4a65c yJx4a65c_get_915e3 yJx4a65c_get_915e3, .initialized RJx4a65c, .methodLink RX8 78 yX8_only, .static yX8_only, .initialized RX8, .methodLink RX8 341 yX7_enter, .instanceMethod yX7_enter, .selects RX7 yX7_enter yX7_enter, .initialized RX7, .methodLink RX8 345 yX2_add, .instanceMethod yX2_add, .selects RX2 yX2_add yX2_add, .initialized RX2, .methodLink RX8 346 yX3_noteState, .instanceMethod yX3_noteState, .selects RX3 yX3_noteState yX3_noteState, .initialized RX3] : List Cond) ++ (wsX70 ++ (wsX80 ++ (wq_x_get ++ (wq_y_only ++ (wq_y_senter ++ (wq_y_hadd ++ (wq_y_noteState)))))))
theorem in_y_enter_X7 : ∀ w ∈ wsX70, w ∈ wq_y_enter := fun _ h => List.mem_append_right _ (List.mem_append_left _ (h))
theorem in_y_enter_X8 : ∀ w ∈ wsX80, w ∈ wq_y_enter := fun _ h => List.mem_append_right _ (List.mem_append_right _ (List.mem_append_left _ (h)))
set_option maxRecDepth 20000 in
theorem wi_y_enter : ∀ w ∈ wq_y_enter, w ∈ lw_tbl := List.forall_mem_append.mpr ⟨(wix [596, 224, 278, 230, 597, 233, 231, 229, 227, 453, 454, 455, 63, 442, 443, 60, 598, 599, 600, 70, 608, 609, 610, 68, 616, 617, 618, 66] rfl), List.forall_mem_append.mpr ⟨inKX7, List.forall_mem_append.mpr ⟨inKX8, List.forall_mem_append.mpr ⟨wi_x_get, List.forall_mem_append.mpr ⟨wi_y_only, List.forall_mem_append.mpr ⟨wi_y_senter, List.forall_mem_append.mpr ⟨wi_y_hadd, wi_y_noteState⟩⟩⟩⟩⟩⟩⟩
set_option maxRecDepth 20000 in
theorem wg_y_enter : GoodIn wq_y_enter wq_y_enter := goodIn_sub (fun _ h => h) (by decide +kernel)
set_option maxRecDepth 20000 in
theorem wc_y_enter_x_get_86 : GoodIn wq_y_enter (wsV RX8 86 RJx4a65c yJx4a65c_get_915e3 wq_x_get) := goodIn_app (goodIn_of _ (by decide +kernel)) (fun w h => ⟨List.mem_append_right _ (List.mem_append_right _ (List.mem_append_right _ (List.mem_append_left _ (h)))), (wg_x_get w h).2⟩)
set_option maxRecDepth 20000 in
theorem wc_y_enter_y_only_78 : GoodIn wq_y_enter (va_wsS RX8 78 yX8_only wq_y_only) := goodIn_app (goodIn_of _ (by decide +kernel)) (fun w h => ⟨List.mem_append_right _ (List.mem_append_right _ (List.mem_append_right _ (List.mem_append_right _ (List.mem_append_left _ (h))))), (wg_y_only w h).2⟩)
set_option maxRecDepth 20000 in
theorem wc_y_enter_y_senter_341 : GoodIn wq_y_enter (wsV RX8 341 RX7 yX7_enter wq_y_senter) := goodIn_app (goodIn_of _ (by decide +kernel)) (fun w h => ⟨List.mem_append_right _ (List.mem_append_right _ (List.mem_append_right _ (List.mem_append_right _ (List.mem_append_right _ (List.mem_append_left _ (h)))))), (wg_y_senter w h).2⟩)
set_option maxRecDepth 20000 in
theorem wc_y_enter_y_hadd_345 : GoodIn wq_y_enter (wsV RX8 345 RX2 yX2_add wq_y_hadd) := goodIn_app (goodIn_of _ (by decide +kernel)) (fun w h => ⟨List.mem_append_right _ (List.mem_append_right _ (List.mem_append_right _ (List.mem_append_right _ (List.mem_append_right _ (List.mem_append_right _ (List.mem_append_left _ (h))))))), (wg_y_hadd w h).2⟩)
set_option maxRecDepth 20000 in
theorem wc_y_enter_y_noteState_346 : GoodIn wq_y_enter (wsV RX8 346 RX3 yX3_noteState wq_y_noteState) := goodIn_app (goodIn_of _ (by decide +kernel)) (fun w h => ⟨List.mem_append_right _ (List.mem_append_right _ (List.mem_append_right _ (List.mem_append_right _ (List.mem_append_right _ (List.mem_append_right _ (List.mem_append_right _ (h))))))), (wg_y_noteState w h).2⟩)
def rm_y_enter : Room := { frames := 3, cells := 0, slots := 0, locals := 64 }
set_option maxHeartbeats 4000000 in
set_option maxRecDepth 100000 in
theorem c_y_enter (l : Launch) (dC : Nat → ClassId) (dI : Nat → Nat → Nat) (h : Nat) (a : Nat → Nat) (e : Nat) (cI cJ cO cE : ClassId) (L : Nat → Int64) (I : Nat → Int32) (M : Nat → Nat → Int64) (J : Nat → Nat → Int32) (n cap : Nat) (fE : Nat → Option Nat) (sd : Nat → Nat → Nat) (si : Nat → Nat → Int32) (sa : Nat → Nat → Nat → Int32) (dl : Nat → Nat) (b : Nat) (sv : Nat) (tv : Nat) (sz : Nat) (hX0 : InvX n cap fE sd dl b I J si) (hb0 : b + 1 < 2147483648) (hp0 : sv < n) (hp1 : tv ≤ 5) : Met l yX8_enter wq_y_enter rm_y_enter (va_Pc [.ref h, .int (nI sv), .int (nI tv)] (fun U => U.heap.size = sz ∧ va_P (dC, dI) vwCl (xW h a e cI cJ cO cE L I M J n cap fE sd si sa dl) U.heap ∧ va_K (dC, dI) vwCl (xT cI cJ cO cE) U ∧ va_D (fun _ => True) (xW h a e cI cJ cO cE L I M J n cap fE sd si sa dl) ∧ pw_N U)) (va_Qv (fun (u : (Nat → Int64) × (Nat → Int32) × (Nat → Nat → Int64) × (Nat → Nat → Int32) × (Nat → Nat → Nat → Int32)) => InvX n cap fE sd dl (b + 1) u.2.1 J u.2.2.2.1 ∧ (∀ j9 : Nat, j9 ∉ ([0, 5, 6, 7] : List Nat) → u.1 j9 = L j9) ∧ (∀ j9 : Nat, j9 ∉ ([12] : List Nat) → u.2.1 j9 = I j9) ∧ (∀ j9 : Nat, j9 ∉ ([8, 9] : List Nat) → u.2.2.1 j9 = M j9) ∧ (∀ s9 q9 : Nat, q9 ∉ ([6, 7, 8, 9, 10, 11, 21, 22] : List Nat) → u.2.2.2.1 s9 q9 = si s9 q9) ∧ (∀ s9 q9 : Nat, q9 ∉ ([3] : List Nat) → u.2.2.2.2 s9 q9 = sa s9 q9) ∧ (u = f_y_enter n dl sv tv L I M si sa)) (fun (u : (Nat → Int64) × (Nat → Int32) × (Nat → Nat → Int64) × (Nat → Nat → Int32) × (Nat → Nat → Nat → Int32)) (t : State) => va_P (dC, dI) vwCl (xW h a e cI cJ cO cE u.1 u.2.1 u.2.2.1 J n cap fE sd u.2.2.2.1 u.2.2.2.2 dl) t.heap ∧ va_D (va_A (xW h a e cI cJ cO cE L I M J n cap fE sd si sa dl) sz) (xW h a e cI cJ cO cE u.1 u.2.1 u.2.2.1 J n cap fE sd u.2.2.2.1 u.2.2.2.2 dl)) (va_A (xW h a e cI cJ cO cE L I M J n cap fE sd si sa dl) sz)) 0 0 (va_A (xW h a e cI cJ cO cE L I M J n cap fE sd si sa dl) sz) := by
  have hn : n ≤ 40 := hX0.1.1
  have hX := hX0
  have hUL : ∀ j9 : Nat, j9 ∉ ([0, 5, 6, 7] : List Nat) → L j9 = L j9 := fun _ _ => rfl
  have hUI : ∀ j9 : Nat, j9 ∉ ([12] : List Nat) → I j9 = I j9 := fun _ _ => rfl
  have hUM : ∀ j9 : Nat, j9 ∉ ([8, 9] : List Nat) → M j9 = M j9 := fun _ _ => rfl
  have hUsi : ∀ s9 q9 : Nat, q9 ∉ ([6, 7, 8, 9, 10, 11, 21, 22] : List Nat) → si s9 q9 = si s9 q9 := fun _ _ _ => rfl
  have hUsa : ∀ s9 q9 : Nat, q9 ∉ ([3] : List Nat) → sa s9 q9 = sa s9 q9 := fun _ _ _ => rfl
  refine Met.ofW (cc := cX8_enter) (maxL := 6) (ret := none) (by decide) rfl ?_
  intro p e9 s m args below meth c s₁ B hml hv
  obtain ⟨rfl, hsz, hP, hK, hD0, hN⟩ := hv
  have hx := B.exec
  have hb := B.bytes
  have hr := B.returns
  have hts := atoms_spec (ws := wq_y_enter) B.pre
  have hown : s.vm.findClass RX8 = some m.cls := findClass_of_methodNamed B.named
  have hlocks := B.notSynchronized
  subst hsz
  have hD := hD0.self (sz := s.heap.size)
  generalize hAe : va_A (xW h a e cI cJ cO cE L I M J n cap fE sd si sa dl) s.heap.size = A at hD ⊢
  have hA : ∀ q : Nat, s.heap.size ≤ q → A q := fun q h => by rw [← hAe]; exact Or.inr h
  have hS : va_S A s.heap s.heap [] := va_S.rf
  have hl := lv_entry ([.ref h, .int (nI sv), .int (nI tv)]) (n := 6) (Nat.le_of_ble_eq_true rfl)
  rw [lg_entry_eq]
  generalize (lg_sl ([.ref h, .int (nI sv), .int (nI tv)]) ++ List.replicate (6 - (lg_sl ([.ref h, .int (nI sv), .int (nI tv)])).length) Slot.unset).toArray = ls at hl ⊢
  have hl : lv_has ls 6 [(0, .ref h), (1, .int (nI sv)), (2, .int (nI tv))] := hl
  obtain ⟨RES, hR0⟩ : ∃ R9, R9 = f_y_enter n dl sv tv L I M si sa := ⟨_, rfl⟩
  have hZ9 := hR0
  unfold f_y_enter at hZ9
  refine lv_aload_n hx hb dX8_enter_0 rfl (lv_at hl 0 rfl) ?_
  refine va_get (D := (dC, dI)) (ci := 9) (v := .ref (a 0)) (C := RX8) (T := TX8) (N := 14) hx hb hts in_y_enter_X8 hown hK hP 0 rfl rfl 0 (by decide) (hts (.fieldLink RX8 10 "ServiceTree" "services" "Ljava/util/ArrayList;") (by decide +kernel)) (fun _ h9 => h9) rfl dX8_enter_1 ?_
  refine lv_iload_n hx hb dX8_enter_4 rfl (lv_at hl 1 rfl) ?_
  have hFc := mw_free hD hS hA
  refine va_callr (va_runV (As := [.int (nI sv)]) (rest := []) ⟨hx, hb, hml, hown, hts⟩ (c_x_get l dC dI h a e cI cJ cO cE L I M J n cap fE sd si sa dl (b) sv s.heap.size hX (by omega) (by omega)) (cwV 1 hts wc_y_enter_x_get_86 rfl rfl rfl (by decide +kernel) ⟨Nat.le_of_ble_eq_true rfl, Nat.le_of_ble_eq_true rfl⟩) ⟨fun a9 U g mk q => by obtain ⟨q0, q1, qP, qK, qD, qN⟩ := q; exact ⟨q0, q1, qP, va_K.moved (u := U) (U := U.calling g mk a9) (Vm.Alike.refl U.vm) qK, qD, pw_N.same (u := U) (U := U.calling g mk a9) rfl qN⟩, va_recv hK hP (ci := 0) (q0 := 1) rfl rfl, fun U hU hW => ⟨rfl, by rw [hU], by rw [hU]; exact hP, va_K.moved hW.alike hK, hD.weaken (fun _ _ _ _ => trivial), pw_N.warm hW hN⟩⟩ rfl rfl hl.1 rfl (lv_room (Nat.le_of_ble_eq_true rfl)) dX8_enter_5 ⟨Nat.le_of_ble_eq_true rfl, Nat.le_of_ble_eq_true rfl⟩) hS (fun q _ h => hFc q h) hFc (fun u r1 t H1 locs ht hvm hw hB hz1 hk1 hS => ?_)
  obtain ⟨hra, hB⟩ := hB
  replace hP := hB.1
  rw [ht] at hP
  replace hD : va_D A (xW h a e cI cJ cO cE L I M J n cap fE sd si sa dl) := hB.2.weaken (fun _ q _ h9 => hFc q.1 h9)
  clear hB
  generalize H1 = H at hP hS ⊢
  replace hP : va_P (dC, dI) vwCl (xW h a e cI cJ cO cE L I M J n cap fE sd si sa dl) H := hP
  subst hra
  refine va_castS hx hb hown (hts (.classLink RX8 65 RX7) (by decide +kernel)) (hK.1 8 _ rfl).2 (va_recv hK hP (ci := 8) (q0 := (22 + (6 * sv + 0))) rfl (xAt_0 h a e cI cJ cO cE L I M J n cap fE sd si sa dl (s := sv) (by omega))) dX8_enter_8 ?_
  refine lv_astore_n (lv' := [(3, .ref (sd sv 0)), (0, .ref h), (1, .int (nI sv)), (2, .int (nI tv))]) hx hb dX8_enter_11 rfl hl (by decide) rfl (fun ls hl => ?_)
  refine lv_iload_n hx hb dX8_enter_12 rfl (lv_at hl 2 rfl) ?_
  have hFc := mw_free hD hS hA
  refine va_calll (va_runS (As := [.int (nI sv)]) (rest := []) ⟨hx, hb, hml, hown, hts⟩ (c_y_only l dC dI h a e cI cJ cO cE L I M J n cap fE sd si sa dl (b) sv H.size hX (by omega) ) (va_cwS 1 hts wc_y_enter_y_only_78 rfl rfl rfl (by decide +kernel) ⟨Nat.le_of_ble_eq_true rfl, Nat.le_of_ble_eq_true rfl⟩) ⟨fun a9 U g mk q => by obtain ⟨q0, q1, qP, qK, qD, qN⟩ := q; exact ⟨q0, q1, qP, va_K.moved (u := U) (U := U.calling g mk a9) (Vm.Alike.refl U.vm) qK, qD, pw_N.same (u := U) (U := U.calling g mk a9) rfl qN⟩, fun U hU hW => ⟨rfl, by rw [hU], by rw [hU]; exact hP, va_K.moved hW.alike hK, hD.weaken (fun _ _ _ _ => trivial), pw_N.warm hW hN⟩⟩ rfl rfl hl.1 rfl (lv_room (Nat.le_of_ble_eq_true rfl)) dX8_enter_13 ⟨Nat.le_of_ble_eq_true rfl, Nat.le_of_ble_eq_true rfl⟩) hS (fun q _ h => hFc q h) hFc (fun r2 u t H1 locs ht hvm hw hB hz1 hk1 hS => ?_)
  replace hP := hB.1
  rw [ht] at hP
  replace hD : va_D A (xW h a e cI cJ cO cE L I M J n cap fE sd si sa dl) := hB.2.weaken (fun _ q _ h9 => hFc q.1 h9)
  clear hB
  generalize H1 = H at hP hS ⊢
  replace hP : va_P (dC, dI) vwCl (xW h a e cI cJ cO cE L I M J n cap fE sd si sa dl) H := hP
  replace hw : r2 = f_y_only n dl sv  := hw
  replace hZ9 := bnd_s hZ9 hw
  refine lv_lstore (lv' := [(4, .long r2), (3, .ref (sd sv 0)), (0, .ref h), (1, .int (nI sv)), (2, .int (nI tv))]) hx hb dX8_enter_16 hl (by decide) rfl (fun ls hl => ?_)
  refine lv_aload_n hx hb dX8_enter_18 rfl (lv_at hl 2 rfl) ?_
  refine va_get (D := (dC, dI)) (ci := 9) (v := .ref (a 6)) (C := RX8) (T := TX8) (N := 14) hx hb hts in_y_enter_X8 hown hK hP 0 rfl rfl 6 (by decide) (hts (.fieldLink RX8 53 "ServiceTree" "inState" "[J") (by decide +kernel)) (fun _ h9 => h9) rfl dX8_enter_19 ?_
  refine lv_aload_n hx hb dX8_enter_22 rfl (lv_at hl 1 rfl) ?_
  refine va_getN (D := (dC, dI)) (ci := 8) (v := .int (si sv 6)) (C := RX7) (T := TX7) (N := 12) hx hb hts in_y_enter_X7 hown hK hP (22 + (6 * sv + 0)) (xAt_0 h a e cI cJ cO cE L I M J n cap fE sd si sa dl (s := sv) (by omega)) rfl 6 (by decide) (va_Nw.use rfl (hN (.fieldLinkNest RX8 162 "ServiceTree$Service" "state" "I" "ServiceTree") (by decide +kernel))) (fun _ h9 => h9) rfl dX8_enter_23 ?_
  obtain ⟨z3, hz3, ez3⟩ := hX.2.2.2.1 sv
  refine p1_topr (v := .int (nI z3)) (congrArg Value.int ez3) ?_
  replace hZ9 := bnd_s hZ9 (show z3 = (si sv 6).toNatClampNeg by rw [ez3, nI_clamp (by omega)])
  refine lv_dup2_11 hx hb dX8_enter_26 rfl rfl ?_
  refine va_lald (n := 6) (f := M 9) hx hb hK hP 21 1 rfl rfl (vp_in_nI (n := z3) (by omega) (by omega)) dX8_enter_27 ?_
  refine lv_topl (fun x4 ex4 => ?_)
  replace hZ9 := bnd_s hZ9 ex4
  refine lv_lload hx hb dX8_enter_28 (lv_at hl 0 rfl) ?_
  refine lv_ldc2 (v := (-1)) hx hb hown (hts (.constantLong RX8 238 (-1)) (by decide +kernel)) dX8_enter_30 ?_
  refine lv_lxor hx hb dX8_enter_33 ?_
  refine lv_topl (fun x5 ex5 => ?_)
  replace hZ9 := bnd_s hZ9 ex5
  refine lv_land hx hb dX8_enter_34 ?_
  refine lv_topl (fun x6 ex6 => ?_)
  replace hZ9 := bnd_s hZ9 ex6
  refine va_last (n := 6) (f := M 9) hx hb hK hP hD hS 21 1 rfl rfl (vp_in_nI (n := z3) (by omega) (by omega)) dX8_enter_35 (fun H locs hP hD hS => ?_)
  rw [xM_9] at hP hD
  obtain ⟨M7, eM7⟩ : ∃ f9 : Nat → Nat → Int64, f9 = va_up M 9 (vp_updL (M 9) (nI z3).toNatClampNeg x6) := ⟨_, rfl⟩
  rw [← eM7] at hP hD
  replace hZ9 := bnd_s hZ9 eM7
  replace hUM : ∀ j9 : Nat, j9 ∉ ([8, 9] : List Nat) → M7 j9 = M j9 := by rw [eM7]; exact mw_up (by decide) hUM
  refine lv_aload_n hx hb dX8_enter_36 rfl (lv_at hl 2 rfl) ?_
  refine va_get (D := (dC, dI)) (ci := 9) (v := .ref (a 6)) (C := RX8) (T := TX8) (N := 14) hx hb hts in_y_enter_X8 hown hK hP 0 rfl rfl 6 (by decide) (hts (.fieldLink RX8 53 "ServiceTree" "inState" "[J") (by decide +kernel)) (fun _ h9 => h9) rfl dX8_enter_37 ?_
  refine lv_iload_n hx hb dX8_enter_40 rfl (lv_at hl 4 rfl) ?_
  refine lv_dup2_11 hx hb dX8_enter_41 rfl rfl ?_
  refine va_lald (n := 6) (f := M7 9) hx hb hK hP 21 1 rfl rfl (vp_in_nI (n := tv) (by omega) (by omega)) dX8_enter_42 ?_
  refine lv_topl (fun x8 ex8 => ?_)
  replace hZ9 := bnd_s hZ9 ex8
  refine lv_lload hx hb dX8_enter_43 (lv_at hl 0 rfl) ?_
  refine lv_lor hx hb dX8_enter_45 ?_
  refine lv_topl (fun x9 ex9 => ?_)
  replace hZ9 := bnd_s hZ9 ex9
  refine va_last (n := 6) (f := M7 9) hx hb hK hP hD hS 21 1 rfl rfl (vp_in_nI (n := tv) (by omega) (by omega)) dX8_enter_46 (fun H locs hP hD hS => ?_)
  rw [xM_9] at hP hD
  obtain ⟨M10, eM10⟩ : ∃ f9 : Nat → Nat → Int64, f9 = va_up M7 9 (vp_updL (M7 9) (nI tv).toNatClampNeg x9) := ⟨_, rfl⟩
  rw [← eM10] at hP hD
  replace hZ9 := bnd_s hZ9 eM10
  replace hUM : ∀ j9 : Nat, j9 ∉ ([8, 9] : List Nat) → M10 j9 = M j9 := by rw [eM10]; exact mw_up (by decide) hUM
  refine lv_aload_n hx hb dX8_enter_47 rfl (lv_at hl 1 rfl) ?_
  refine lv_iload_n hx hb dX8_enter_48 rfl (lv_at hl 4 rfl) ?_
  refine lv_aload_n hx hb dX8_enter_49 rfl (lv_at hl 2 rfl) ?_
  refine va_get (D := (dC, dI)) (ci := 9) (v := .int (I 0)) (C := RX8) (T := TX8) (N := 14) hx hb hts in_y_enter_X8 hown hK hP 0 rfl rfl 9 (by decide) (hts (.fieldLink RX8 67 "ServiceTree" "now" "I") (by decide +kernel)) (fun _ h9 => h9) rfl dX8_enter_50 ?_
  refine lv_topi (fun x11 ex11 => ?_)
  replace hZ9 := bnd_s hZ9 ex11
  have hFc := mw_free hD hS hA
  refine va_callv (va_runV (As := [.int (nI tv), .int x11]) (rest := []) ⟨hx, hb, hml, hown, hts⟩ (c_y_senter l dC dI h a e cI cJ cO cE L I M10 J n cap fE sd si sa dl (b) sv tv x11 H.size hX (by omega) (by omega) (by omega)) (cwV 2 hts wc_y_enter_y_senter_341 rfl rfl rfl (by decide +kernel) ⟨Nat.le_of_ble_eq_true rfl, Nat.le_of_ble_eq_true rfl⟩) ⟨fun a9 U g mk q => by obtain ⟨q0, q1, qP, qK, qD, qN⟩ := q; exact ⟨q0, q1, qP, va_K.moved (u := U) (U := U.calling g mk a9) (Vm.Alike.refl U.vm) qK, qD, pw_N.same (u := U) (U := U.calling g mk a9) rfl qN⟩, va_recv hK hP (ci := 8) (q0 := (22 + (6 * sv + 0))) rfl (xAt_0 h a e cI cJ cO cE L I M10 J n cap fE sd si sa dl (s := sv) (by omega)), fun U hU hW => ⟨rfl, by rw [hU], by rw [hU]; exact hP, va_K.moved hW.alike hK, hD.weaken (fun _ _ _ _ => trivial), pw_N.warm hW hN⟩⟩ rfl rfl hl.1 rfl (lv_room (Nat.le_of_ble_eq_true rfl)) dX8_enter_53 ⟨Nat.le_of_ble_eq_true rfl, Nat.le_of_ble_eq_true rfl⟩) hS (fun q _ h => hFc q h) hFc (fun u t H1 locs ht hvm hw hB hz1 hk1 hS => ?_)
  obtain ⟨si13, sa14⟩ := u
  replace hP := hB.1
  rw [ht] at hP
  replace hD : va_D A (xW h a e cI cJ cO cE L I M10 J n cap fE sd si13 sa14 dl) := hB.2.weaken (fun _ q _ h9 => hFc q.1 h9)
  clear hB
  generalize H1 = H at hP hS ⊢
  replace hP : va_P (dC, dI) vwCl (xW h a e cI cJ cO cE L I M10 J n cap fE sd si13 sa14 dl) H := hP
  obtain ⟨hwX, whUsi, whUsa, hw⟩ := hw
  replace hX : InvX n cap fE sd dl (b) I J si13 := hwX
  replace hUsi : ∀ s9 q9 : Nat, q9 ∉ ([6, 7, 8, 9, 10, 11, 21, 22] : List Nat) → si13 s9 q9 = si s9 q9 := xw_tr2 (by decide) whUsi hUsi
  replace hUsa : ∀ s9 q9 : Nat, q9 ∉ ([3] : List Nat) → sa14 s9 q9 = sa s9 q9 := xw_tr2 (by decide) whUsa hUsa
  replace hw : (si13, sa14) = f_y_senter n dl sv tv x11 si sa := hw
  replace hZ9 := bn2_s hZ9 hw
  refine lv_aload_n hx hb dX8_enter_56 rfl (lv_at hl 1 rfl) ?_
  refine va_getN (D := (dC, dI)) (ci := 8) (v := .int (si13 sv 10)) (C := RX7) (T := TX7) (N := 12) hx hb hts in_y_enter_X7 hown hK hP (22 + (6 * sv + 0)) (xAt_0 h a e cI cJ cO cE L I M10 J n cap fE sd si13 sa14 dl (s := sv) (by omega)) rfl 10 (by decide) (va_Nw.use rfl (hN (.fieldLinkNest RX8 342 "ServiceTree$Service" "life" "I" "ServiceTree") (by decide +kernel))) (fun _ h9 => h9) rfl dX8_enter_57 ?_
  refine lv_topi (fun x15 ex15 => ?_)
  replace hZ9 := bnd_s hZ9 ex15
  refine lv_if_le (tgt := 77) hx hb dX8_enter_60 (by decide) (fun c16 => ?_) (fun c16 => ?_)
  · replace hZ9 := ite_t hZ9 c16
    refine lv_aload_n hx hb dX8_enter_77 rfl (lv_at hl 2 rfl) ?_
    refine lv_dup hx hb dX8_enter_78 rfl ?_
    refine va_get (D := (dC, dI)) (ci := 9) (v := .long (L 0)) (C := RX8) (T := TX8) (N := 14) hx hb hts in_y_enter_X8 hown hK hP 0 rfl rfl 7 (by decide) (hts (.fieldLink RX8 311 "ServiceTree" "living" "J") (by decide +kernel)) (fun _ h9 => h9) rfl dX8_enter_79 ?_
    refine lv_topl (fun x17 ex17 => ?_)
    replace hZ9 := bnd_s hZ9 ex17
    refine lv_lload hx hb dX8_enter_82 (lv_at hl 0 rfl) ?_
    refine lv_ldc2 (v := (-1)) hx hb hown (hts (.constantLong RX8 238 (-1)) (by decide +kernel)) dX8_enter_84 ?_
    refine lv_lxor hx hb dX8_enter_87 ?_
    refine lv_topl (fun x18 ex18 => ?_)
    replace hZ9 := bnd_s hZ9 ex18
    refine lv_land hx hb dX8_enter_88 ?_
    refine lv_topl (fun x19 ex19 => ?_)
    replace hZ9 := bnd_s hZ9 ex19
    refine va_put (D := (dC, dI)) (ci := 9) (fs := [.ref (a 0), .ref (a 1), .ref (a 2), .ref (a 3), .ref (a 4), .ref (a 5), .ref (a 6), .long (L 0), .long (L 1), .int (I 0), .int (I 1), .int (I 2), .int (I 3), .int (I 4)]) (v := .long x19) (ty := .long) (C := RX8) (T := TX8) (N := 14) hx hb hts in_y_enter_X8 tyX8 tyX8_ok nmX8 hown hK hP hD hS 0 rfl rfl 7 (by decide) (hts (.fieldLink RX8 311 "ServiceTree" "living" "J") (by decide +kernel)) (fun _ h9 => h9) rfl (by decide +kernel) rfl rfl (Nat.le_of_ble_eq_true rfl) dX8_enter_89 (fun H locs hP hD hS => ?_)
    replace hP : va_P (dC, dI) vwCl ((xW h a e cI cJ cO cE L I M10 J n cap fE sd si13 sa14 dl).set 0 (h, .inr (9, [.ref (a 0), .ref (a 1), .ref (a 2), .ref (a 3), .ref (a 4), .ref (a 5), .ref (a 6), .long x19, .long (L 1), .int (I 0), .int (I 1), .int (I 2), .int (I 3), .int (I 4)]))) H := hP
    replace hD : va_D A ((xW h a e cI cJ cO cE L I M10 J n cap fE sd si13 sa14 dl).set 0 (h, .inr (9, [.ref (a 0), .ref (a 1), .ref (a 2), .ref (a 3), .ref (a 4), .ref (a 5), .ref (a 6), .long x19, .long (L 1), .int (I 0), .int (I 1), .int (I 2), .int (I 3), .int (I 4)]))) := hD
    rw [xF_L0] at hP hD
    obtain ⟨L20, eL20⟩ : ∃ f9 : Nat → Int64, f9 = va_up L 0 x19 := ⟨_, rfl⟩
    rw [← eL20] at hP hD
    replace hZ9 := bnd_s hZ9 eL20
    replace hUL : ∀ j9 : Nat, j9 ∉ ([0, 5, 6, 7] : List Nat) → L20 j9 = L j9 := by rw [eL20]; exact mw_up (by decide) hUL
    refine lv_aload_n hx hb dX8_enter_92 rfl (lv_at hl 2 rfl) ?_
    refine va_get (D := (dC, dI)) (ci := 9) (v := .ref (a 5)) (C := RX8) (T := TX8) (N := 14) hx hb hts in_y_enter_X8 hown hK hP 0 rfl rfl 5 (by decide) (hts (.fieldLink RX8 49 "ServiceTree" "history" "LServiceTree$History;") (by decide +kernel)) (fun _ h9 => h9) rfl dX8_enter_93 ?_
    refine lv_aload_n hx hb dX8_enter_96 rfl (lv_at hl 2 rfl) ?_
    refine va_get (D := (dC, dI)) (ci := 9) (v := .int (I 0)) (C := RX8) (T := TX8) (N := 14) hx hb hts in_y_enter_X8 hown hK hP 0 rfl rfl 9 (by decide) (hts (.fieldLink RX8 67 "ServiceTree" "now" "I") (by decide +kernel)) (fun _ h9 => h9) rfl dX8_enter_97 ?_
    refine p1_topr (v := .int x11) (congrArg Value.int ex11.symm) ?_
    refine lv_iload_n hx hb dX8_enter_100 rfl (lv_at hl 3 rfl) ?_
    refine lv_iload_n hx hb dX8_enter_101 rfl (lv_at hl 4 rfl) ?_
    have hFc := mw_free hD hS hA
    refine va_callv (va_runV (As := [.int x11, .int (nI sv), .int (nI tv)]) (rest := []) ⟨hx, hb, hml, hown, hts⟩ (c_y_hadd l dC dI h a e cI cJ cO cE L20 I M10 J n cap fE sd si13 sa14 dl (b) x11 sv tv H.size hX (by omega) ) (cwV 3 hts wc_y_enter_y_hadd_345 rfl rfl rfl (by decide +kernel) ⟨Nat.le_of_ble_eq_true rfl, Nat.le_of_ble_eq_true rfl⟩) ⟨fun a9 U g mk q => by obtain ⟨q0, q1, qP, qK, qD, qN⟩ := q; exact ⟨q0, q1, qP, va_K.moved (u := U) (U := U.calling g mk a9) (Vm.Alike.refl U.vm) qK, qD, pw_N.same (u := U) (U := U.calling g mk a9) rfl qN⟩, va_recv hK hP (ci := 3) (q0 := 19) rfl rfl, fun U hU hW => ⟨rfl, by rw [hU], by rw [hU]; exact hP, va_K.moved hW.alike hK, hD.weaken (fun _ _ _ _ => trivial), pw_N.warm hW hN⟩⟩ rfl rfl hl.1 rfl (lv_room (Nat.le_of_ble_eq_true rfl)) dX8_enter_102 ⟨Nat.le_of_ble_eq_true rfl, Nat.le_of_ble_eq_true rfl⟩) hS (fun q _ h => hFc q h) hFc (fun u t H1 locs ht hvm hw hB hz1 hk1 hS => ?_)
    obtain ⟨I22, M23⟩ := u
    replace hP := hB.1
    rw [ht] at hP
    replace hD : va_D A (xW h a e cI cJ cO cE L20 I22 M23 J n cap fE sd si13 sa14 dl) := hB.2.weaken (fun _ q _ h9 => hFc q.1 h9)
    clear hB
    generalize H1 = H at hP hS ⊢
    replace hP : va_P (dC, dI) vwCl (xW h a e cI cJ cO cE L20 I22 M23 J n cap fE sd si13 sa14 dl) H := hP
    obtain ⟨hwX, whUI, whUM, hw⟩ := hw
    replace hX : InvX n cap fE sd dl (b + 1) I22 J si13 := hwX
    replace hUI : ∀ j9 : Nat, j9 ∉ ([12] : List Nat) → I22 j9 = I j9 := mw_tr (by decide) whUI hUI
    replace hUM : ∀ j9 : Nat, j9 ∉ ([8, 9] : List Nat) → M23 j9 = M j9 := mw_tr (by decide) whUM hUM
    replace hw : (I22, M23) = f_y_hadd n dl x11 sv tv I M10 := hw
    replace hZ9 := bn2_s hZ9 hw
    refine lv_aload_n hx hb dX8_enter_105 rfl (lv_at hl 2 rfl) ?_
    refine va_get (D := (dC, dI)) (ci := 9) (v := .ref (a 3)) (C := RX8) (T := TX8) (N := 14) hx hb hts in_y_enter_X8 hown hK hP 0 rfl rfl 3 (by decide) (hts (.fieldLink RX8 35 "ServiceTree" "jobs" "LServiceTree$Jobs;") (by decide +kernel)) (fun _ h9 => h9) rfl dX8_enter_106 ?_
    refine lv_iload_n hx hb dX8_enter_109 rfl (lv_at hl 3 rfl) ?_
    refine lv_iload_n hx hb dX8_enter_110 rfl (lv_at hl 4 rfl) ?_
    have hFc := mw_free hD hS hA
    refine va_callv (va_runV (As := [.int (nI sv), .int (nI tv)]) (rest := []) ⟨hx, hb, hml, hown, hts⟩ (c_y_noteState l dC dI h a e cI cJ cO cE L20 I22 M23 J n cap fE sd si13 sa14 dl (b + 1) sv tv H.size hX (by omega) (by omega)) (cwV 2 hts wc_y_enter_y_noteState_346 rfl rfl rfl (by decide +kernel) ⟨Nat.le_of_ble_eq_true rfl, Nat.le_of_ble_eq_true rfl⟩) ⟨fun a9 U g mk q => by obtain ⟨q0, q1, qP, qK, qD, qN⟩ := q; exact ⟨q0, q1, qP, va_K.moved (u := U) (U := U.calling g mk a9) (Vm.Alike.refl U.vm) qK, qD, pw_N.same (u := U) (U := U.calling g mk a9) rfl qN⟩, va_recv hK hP (ci := 4) (q0 := 14) rfl rfl, fun U hU hW => ⟨rfl, by rw [hU], by rw [hU]; exact hP, va_K.moved hW.alike hK, hD.weaken (fun _ _ _ _ => trivial), pw_N.warm hW hN⟩⟩ rfl rfl hl.1 rfl (lv_room (Nat.le_of_ble_eq_true rfl)) dX8_enter_111 ⟨Nat.le_of_ble_eq_true rfl, Nat.le_of_ble_eq_true rfl⟩) hS (fun q _ h => hFc q h) hFc (fun u t H1 locs ht hvm hw hB hz1 hk1 hS => ?_)
    obtain ⟨L25, rfl⟩ : ∃ z9, z9 = u := ⟨_, rfl⟩
    replace hP := hB.1
    rw [ht] at hP
    replace hD : va_D A (xW h a e cI cJ cO cE L25 I22 M23 J n cap fE sd si13 sa14 dl) := hB.2.weaken (fun _ q _ h9 => hFc q.1 h9)
    clear hB
    generalize H1 = H at hP hS ⊢
    replace hP : va_P (dC, dI) vwCl (xW h a e cI cJ cO cE L25 I22 M23 J n cap fE sd si13 sa14 dl) H := hP
    obtain ⟨hwX, whUL, hw⟩ := hw
    replace hX : InvX n cap fE sd dl (b + 1) I22 J si13 := hwX
    replace hUL : ∀ j9 : Nat, j9 ∉ ([0, 5, 6, 7] : List Nat) → L25 j9 = L j9 := mw_tr (by decide) whUL hUL
    replace hw : L25 = f_y_noteState n dl sv tv L20 := hw
    replace hZ9 := bnd_s hZ9 hw
    exact W.vret hx hb hr (fun t ht hW => ⟨⟨(L25, I22, M23, si13, sa14), rfl, ⟨hX.mono (by omega), hUL, hUI, hUM, hUsi, hUsa, hZ9.symm.trans hR0⟩, by rw [ht]; exact hP, hD⟩, hS.F ht⟩) hS.2.2 dX8_enter_114
  · replace hZ9 := ite_f hZ9 c16
    refine lv_aload_n hx hb dX8_enter_63 rfl (lv_at hl 2 rfl) ?_
    refine lv_dup hx hb dX8_enter_64 rfl ?_
    refine va_get (D := (dC, dI)) (ci := 9) (v := .long (L 0)) (C := RX8) (T := TX8) (N := 14) hx hb hts in_y_enter_X8 hown hK hP 0 rfl rfl 7 (by decide) (hts (.fieldLink RX8 311 "ServiceTree" "living" "J") (by decide +kernel)) (fun _ h9 => h9) rfl dX8_enter_65 ?_
    refine lv_topl (fun x26 ex26 => ?_)
    replace hZ9 := bnd_s hZ9 ex26
    refine lv_lload hx hb dX8_enter_68 (lv_at hl 0 rfl) ?_
    refine lv_lor hx hb dX8_enter_70 ?_
    refine lv_topl (fun x27 ex27 => ?_)
    replace hZ9 := bnd_s hZ9 ex27
    refine va_put (D := (dC, dI)) (ci := 9) (fs := [.ref (a 0), .ref (a 1), .ref (a 2), .ref (a 3), .ref (a 4), .ref (a 5), .ref (a 6), .long (L 0), .long (L 1), .int (I 0), .int (I 1), .int (I 2), .int (I 3), .int (I 4)]) (v := .long x27) (ty := .long) (C := RX8) (T := TX8) (N := 14) hx hb hts in_y_enter_X8 tyX8 tyX8_ok nmX8 hown hK hP hD hS 0 rfl rfl 7 (by decide) (hts (.fieldLink RX8 311 "ServiceTree" "living" "J") (by decide +kernel)) (fun _ h9 => h9) rfl (by decide +kernel) rfl rfl (Nat.le_of_ble_eq_true rfl) dX8_enter_71 (fun H locs hP hD hS => ?_)
    replace hP : va_P (dC, dI) vwCl ((xW h a e cI cJ cO cE L I M10 J n cap fE sd si13 sa14 dl).set 0 (h, .inr (9, [.ref (a 0), .ref (a 1), .ref (a 2), .ref (a 3), .ref (a 4), .ref (a 5), .ref (a 6), .long x27, .long (L 1), .int (I 0), .int (I 1), .int (I 2), .int (I 3), .int (I 4)]))) H := hP
    replace hD : va_D A ((xW h a e cI cJ cO cE L I M10 J n cap fE sd si13 sa14 dl).set 0 (h, .inr (9, [.ref (a 0), .ref (a 1), .ref (a 2), .ref (a 3), .ref (a 4), .ref (a 5), .ref (a 6), .long x27, .long (L 1), .int (I 0), .int (I 1), .int (I 2), .int (I 3), .int (I 4)]))) := hD
    rw [xF_L0] at hP hD
    obtain ⟨L28, eL28⟩ : ∃ f9 : Nat → Int64, f9 = va_up L 0 x27 := ⟨_, rfl⟩
    rw [← eL28] at hP hD
    replace hZ9 := bnd_s hZ9 eL28
    replace hUL : ∀ j9 : Nat, j9 ∉ ([0, 5, 6, 7] : List Nat) → L28 j9 = L j9 := by rw [eL28]; exact mw_up (by decide) hUL
    refine lv_goto (tgt := 92) hx hb dX8_enter_74 (by decide) ?_
    refine lv_aload_n hx hb dX8_enter_92 rfl (lv_at hl 2 rfl) ?_
    refine va_get (D := (dC, dI)) (ci := 9) (v := .ref (a 5)) (C := RX8) (T := TX8) (N := 14) hx hb hts in_y_enter_X8 hown hK hP 0 rfl rfl 5 (by decide) (hts (.fieldLink RX8 49 "ServiceTree" "history" "LServiceTree$History;") (by decide +kernel)) (fun _ h9 => h9) rfl dX8_enter_93 ?_
    refine lv_aload_n hx hb dX8_enter_96 rfl (lv_at hl 2 rfl) ?_
    refine va_get (D := (dC, dI)) (ci := 9) (v := .int (I 0)) (C := RX8) (T := TX8) (N := 14) hx hb hts in_y_enter_X8 hown hK hP 0 rfl rfl 9 (by decide) (hts (.fieldLink RX8 67 "ServiceTree" "now" "I") (by decide +kernel)) (fun _ h9 => h9) rfl dX8_enter_97 ?_
    refine p1_topr (v := .int x11) (congrArg Value.int ex11.symm) ?_
    refine lv_iload_n hx hb dX8_enter_100 rfl (lv_at hl 3 rfl) ?_
    refine lv_iload_n hx hb dX8_enter_101 rfl (lv_at hl 4 rfl) ?_
    have hFc := mw_free hD hS hA
    refine va_callv (va_runV (As := [.int x11, .int (nI sv), .int (nI tv)]) (rest := []) ⟨hx, hb, hml, hown, hts⟩ (c_y_hadd l dC dI h a e cI cJ cO cE L28 I M10 J n cap fE sd si13 sa14 dl (b) x11 sv tv H.size hX (by omega) ) (cwV 3 hts wc_y_enter_y_hadd_345 rfl rfl rfl (by decide +kernel) ⟨Nat.le_of_ble_eq_true rfl, Nat.le_of_ble_eq_true rfl⟩) ⟨fun a9 U g mk q => by obtain ⟨q0, q1, qP, qK, qD, qN⟩ := q; exact ⟨q0, q1, qP, va_K.moved (u := U) (U := U.calling g mk a9) (Vm.Alike.refl U.vm) qK, qD, pw_N.same (u := U) (U := U.calling g mk a9) rfl qN⟩, va_recv hK hP (ci := 3) (q0 := 19) rfl rfl, fun U hU hW => ⟨rfl, by rw [hU], by rw [hU]; exact hP, va_K.moved hW.alike hK, hD.weaken (fun _ _ _ _ => trivial), pw_N.warm hW hN⟩⟩ rfl rfl hl.1 rfl (lv_room (Nat.le_of_ble_eq_true rfl)) dX8_enter_102 ⟨Nat.le_of_ble_eq_true rfl, Nat.le_of_ble_eq_true rfl⟩) hS (fun q _ h => hFc q h) hFc (fun u t H1 locs ht hvm hw hB hz1 hk1 hS => ?_)
    obtain ⟨I30, M31⟩ := u
    replace hP := hB.1
    rw [ht] at hP
    replace hD : va_D A (xW h a e cI cJ cO cE L28 I30 M31 J n cap fE sd si13 sa14 dl) := hB.2.weaken (fun _ q _ h9 => hFc q.1 h9)
    clear hB
    generalize H1 = H at hP hS ⊢
    replace hP : va_P (dC, dI) vwCl (xW h a e cI cJ cO cE L28 I30 M31 J n cap fE sd si13 sa14 dl) H := hP
    obtain ⟨hwX, whUI, whUM, hw⟩ := hw
    replace hX : InvX n cap fE sd dl (b + 1) I30 J si13 := hwX
    replace hUI : ∀ j9 : Nat, j9 ∉ ([12] : List Nat) → I30 j9 = I j9 := mw_tr (by decide) whUI hUI
    replace hUM : ∀ j9 : Nat, j9 ∉ ([8, 9] : List Nat) → M31 j9 = M j9 := mw_tr (by decide) whUM hUM
    replace hw : (I30, M31) = f_y_hadd n dl x11 sv tv I M10 := hw
    replace hZ9 := bn2_s hZ9 hw
    refine lv_aload_n hx hb dX8_enter_105 rfl (lv_at hl 2 rfl) ?_
    refine va_get (D := (dC, dI)) (ci := 9) (v := .ref (a 3)) (C := RX8) (T := TX8) (N := 14) hx hb hts in_y_enter_X8 hown hK hP 0 rfl rfl 3 (by decide) (hts (.fieldLink RX8 35 "ServiceTree" "jobs" "LServiceTree$Jobs;") (by decide +kernel)) (fun _ h9 => h9) rfl dX8_enter_106 ?_
    refine lv_iload_n hx hb dX8_enter_109 rfl (lv_at hl 3 rfl) ?_
    refine lv_iload_n hx hb dX8_enter_110 rfl (lv_at hl 4 rfl) ?_
    have hFc := mw_free hD hS hA
    refine va_callv (va_runV (As := [.int (nI sv), .int (nI tv)]) (rest := []) ⟨hx, hb, hml, hown, hts⟩ (c_y_noteState l dC dI h a e cI cJ cO cE L28 I30 M31 J n cap fE sd si13 sa14 dl (b + 1) sv tv H.size hX (by omega) (by omega)) (cwV 2 hts wc_y_enter_y_noteState_346 rfl rfl rfl (by decide +kernel) ⟨Nat.le_of_ble_eq_true rfl, Nat.le_of_ble_eq_true rfl⟩) ⟨fun a9 U g mk q => by obtain ⟨q0, q1, qP, qK, qD, qN⟩ := q; exact ⟨q0, q1, qP, va_K.moved (u := U) (U := U.calling g mk a9) (Vm.Alike.refl U.vm) qK, qD, pw_N.same (u := U) (U := U.calling g mk a9) rfl qN⟩, va_recv hK hP (ci := 4) (q0 := 14) rfl rfl, fun U hU hW => ⟨rfl, by rw [hU], by rw [hU]; exact hP, va_K.moved hW.alike hK, hD.weaken (fun _ _ _ _ => trivial), pw_N.warm hW hN⟩⟩ rfl rfl hl.1 rfl (lv_room (Nat.le_of_ble_eq_true rfl)) dX8_enter_111 ⟨Nat.le_of_ble_eq_true rfl, Nat.le_of_ble_eq_true rfl⟩) hS (fun q _ h => hFc q h) hFc (fun u t H1 locs ht hvm hw hB hz1 hk1 hS => ?_)
    obtain ⟨L33, rfl⟩ : ∃ z9, z9 = u := ⟨_, rfl⟩
    replace hP := hB.1
    rw [ht] at hP
    replace hD : va_D A (xW h a e cI cJ cO cE L33 I30 M31 J n cap fE sd si13 sa14 dl) := hB.2.weaken (fun _ q _ h9 => hFc q.1 h9)
    clear hB
    generalize H1 = H at hP hS ⊢
    replace hP : va_P (dC, dI) vwCl (xW h a e cI cJ cO cE L33 I30 M31 J n cap fE sd si13 sa14 dl) H := hP
    obtain ⟨hwX, whUL, hw⟩ := hw
    replace hX : InvX n cap fE sd dl (b + 1) I30 J si13 := hwX
    replace hUL : ∀ j9 : Nat, j9 ∉ ([0, 5, 6, 7] : List Nat) → L33 j9 = L j9 := mw_tr (by decide) whUL hUL
    replace hw : L33 = f_y_noteState n dl sv tv L28 := hw
    replace hZ9 := bnd_s hZ9 hw
    exact W.vret hx hb hr (fun t ht hW => ⟨⟨(L33, I30, M31, si13, sa14), rfl, ⟨hX.mono (by omega), hUL, hUI, hUM, hUsi, hUsa, hZ9.symm.trans hR0⟩, by rw [ht]; exact hP, hD⟩, hS.F ht⟩) hS.2.2 dX8_enter_114
def f_y_beginStart (n : Nat) (dl : Nat → Nat) (sv : Nat) (L : Nat → Int64) (I : Nat → Int32) (M : Nat → Nat → Int64) (si : Nat → Nat → Int32) (sa : Nat → Nat → Nat → Int32) : (Nat → Int64) × (Nat → Int32) × (Nat → Nat → Int64) × (Nat → Nat → Int32) × (Nat → Nat → Nat → Int32) := bnd (f_y_hasItsNeeds n dl sv M) (fun (r1 : Int32) => if r1 = (0 : Int32) then (bnd (f_y_jend n dl sv L) (fun (L15 : Nat → Int64) => (L15, I, M, si, sa))) else (bnd (f_y_jbegin n dl sv L) (fun (L4 : Nat → Int64) => bnd (f_y_fss n dl sv si) (fun (r6 : Int32) => bnd (r6.toNatClampNeg) (fun (j7 : Nat) => bn5 (f_y_enter n dl sv j7 L4 I M si sa) (fun (L9 : Nat → Int64) (I10 : Nat → Int32) (M11 : Nat → Nat → Int64) (si12 : Nat → Nat → Int32) (sa13 : Nat → Nat → Nat → Int32) => (L9, I10, M11, si12, sa13)))))))
def wq_y_beginStart : List Cond := ([.code yX8_beginStart cX8_beginStart 2 none, .fieldLink RX8 35 "ServiceTree" "jobs" "LServiceTree$Jobs;", .fieldLink RX8 10 "ServiceTree" "services" "Ljava/util/ArrayList;", .classLink RX8 65 RX7, .methodLink RX8 231 yX8_hasItsNeeds, .instanceMethod yX8_hasItsNeeds, .selects RX8 yX8_hasItsNeeds yX8_hasItsNeeds, .initialized RX8, .methodLink RX8 302 yX3_begin, .instanceMethod yX3_begin, .selects RX3 yX3_begin yX3_begin, .initialized RX3, .methodLink RX8 86 yJx4a65c_get_915e3, .instanceMethod yJx4a65c_get_915e3, .selects RJx4a65c yJx4a65c_get_915e3 yJx4a65c_get_915e3, .initialized RJx4a65c, .methodLink RX8 305 yX7_firstStateOfStart, .instanceMethod yX7_firstStateOfStart, .selects RX7 yX7_firstStateOfStart yX7_firstStateOfStart, .initialized RX7, .methodLink RX8 249 yX8_enter, .instanceMethod yX8_enter, .selects RX8 yX8_enter yX8_enter, .methodLink RX8 299 yX3_end, .instanceMethod yX3_end, .selects RX3 yX3_end yX3_end] : List Cond) ++ (wsX80 ++ (wq_y_hasItsNeeds ++ (wq_y_jbegin ++ (wq_x_get ++ (wq_y_fss ++ (wq_y_enter ++ (wq_y_jend)))))))
theorem in_y_beginStart_X8 : ∀ w ∈ wsX80, w ∈ wq_y_beginStart := fun _ h => List.mem_append_right _ (List.mem_append_left _ (h))
set_option maxRecDepth 20000 in
theorem wi_y_beginStart : ∀ w ∈ wq_y_beginStart, w ∈ lw_tbl := List.forall_mem_append.mpr ⟨(wix [650, 227, 224, 278, 651, 653, 17, 60, 660, 661, 662, 66, 453, 454, 455, 63, 665, 666, 667, 70, 593, 595, 14, 659, 622, 623] rfl), List.forall_mem_append.mpr ⟨inKX8, List.forall_mem_append.mpr ⟨wi_y_hasItsNeeds, List.forall_mem_append.mpr ⟨wi_y_jbegin, List.forall_mem_append.mpr ⟨wi_x_get, List.forall_mem_append.mpr ⟨wi_y_fss, List.forall_mem_append.mpr ⟨wi_y_enter, wi_y_jend⟩⟩⟩⟩⟩⟩⟩
set_option maxRecDepth 20000 in
theorem wg_y_beginStart : GoodIn wq_y_beginStart wq_y_beginStart := goodIn_sub (fun _ h => h) (by decide +kernel)
set_option maxRecDepth 20000 in
theorem wc_y_beginStart_y_hasItsNeeds_231 : GoodIn wq_y_beginStart (wsV RX8 231 RX8 yX8_hasItsNeeds wq_y_hasItsNeeds) := goodIn_app (goodIn_of _ (by decide +kernel)) (fun w h => ⟨List.mem_append_right _ (List.mem_append_right _ (List.mem_append_left _ (h))), (wg_y_hasItsNeeds w h).2⟩)
set_option maxRecDepth 20000 in
theorem wc_y_beginStart_y_jbegin_302 : GoodIn wq_y_beginStart (wsV RX8 302 RX3 yX3_begin wq_y_jbegin) := goodIn_app (goodIn_of _ (by decide +kernel)) (fun w h => ⟨List.mem_append_right _ (List.mem_append_right _ (List.mem_append_right _ (List.mem_append_left _ (h)))), (wg_y_jbegin w h).2⟩)
set_option maxRecDepth 20000 in
theorem wc_y_beginStart_x_get_86 : GoodIn wq_y_beginStart (wsV RX8 86 RJx4a65c yJx4a65c_get_915e3 wq_x_get) := goodIn_app (goodIn_of _ (by decide +kernel)) (fun w h => ⟨List.mem_append_right _ (List.mem_append_right _ (List.mem_append_right _ (List.mem_append_right _ (List.mem_append_left _ (h))))), (wg_x_get w h).2⟩)
set_option maxRecDepth 20000 in
theorem wc_y_beginStart_y_fss_305 : GoodIn wq_y_beginStart (wsV RX8 305 RX7 yX7_firstStateOfStart wq_y_fss) := goodIn_app (goodIn_of _ (by decide +kernel)) (fun w h => ⟨List.mem_append_right _ (List.mem_append_right _ (List.mem_append_right _ (List.mem_append_right _ (List.mem_append_right _ (List.mem_append_left _ (h)))))), (wg_y_fss w h).2⟩)
set_option maxRecDepth 20000 in
theorem wc_y_beginStart_y_enter_249 : GoodIn wq_y_beginStart (wsV RX8 249 RX8 yX8_enter wq_y_enter) := goodIn_app (goodIn_of _ (by decide +kernel)) (fun w h => ⟨List.mem_append_right _ (List.mem_append_right _ (List.mem_append_right _ (List.mem_append_right _ (List.mem_append_right _ (List.mem_append_right _ (List.mem_append_left _ (h))))))), (wg_y_enter w h).2⟩)
set_option maxRecDepth 20000 in
theorem wc_y_beginStart_y_jend_299 : GoodIn wq_y_beginStart (wsV RX8 299 RX3 yX3_end wq_y_jend) := goodIn_app (goodIn_of _ (by decide +kernel)) (fun w h => ⟨List.mem_append_right _ (List.mem_append_right _ (List.mem_append_right _ (List.mem_append_right _ (List.mem_append_right _ (List.mem_append_right _ (List.mem_append_right _ (h))))))), (wg_y_jend w h).2⟩)
def rm_y_beginStart : Room := { frames := 4, cells := 0, slots := 0, locals := 89 }
set_option maxHeartbeats 4000000 in
set_option maxRecDepth 100000 in
theorem c_y_beginStart (l : Launch) (dC : Nat → ClassId) (dI : Nat → Nat → Nat) (h : Nat) (a : Nat → Nat) (e : Nat) (cI cJ cO cE : ClassId) (L : Nat → Int64) (I : Nat → Int32) (M : Nat → Nat → Int64) (J : Nat → Nat → Int32) (n cap : Nat) (fE : Nat → Option Nat) (sd : Nat → Nat → Nat) (si : Nat → Nat → Int32) (sa : Nat → Nat → Nat → Int32) (dl : Nat → Nat) (b : Nat) (sv : Nat) (sz : Nat) (hX0 : InvX n cap fE sd dl b I J si) (hb0 : b + 1 < 2147483648) (hp0 : sv < n) : Met l yX8_beginStart wq_y_beginStart rm_y_beginStart (va_Pc [.ref h, .int (nI sv)] (fun U => U.heap.size = sz ∧ va_P (dC, dI) vwCl (xW h a e cI cJ cO cE L I M J n cap fE sd si sa dl) U.heap ∧ va_K (dC, dI) vwCl (xT cI cJ cO cE) U ∧ va_D (fun _ => True) (xW h a e cI cJ cO cE L I M J n cap fE sd si sa dl) ∧ pw_N U)) (va_Qv (fun (u : (Nat → Int64) × (Nat → Int32) × (Nat → Nat → Int64) × (Nat → Nat → Int32) × (Nat → Nat → Nat → Int32)) => InvX n cap fE sd dl (b + 1) u.2.1 J u.2.2.2.1 ∧ (∀ j9 : Nat, j9 ∉ ([0, 5, 6, 7] : List Nat) → u.1 j9 = L j9) ∧ (∀ j9 : Nat, j9 ∉ ([12] : List Nat) → u.2.1 j9 = I j9) ∧ (∀ j9 : Nat, j9 ∉ ([8, 9] : List Nat) → u.2.2.1 j9 = M j9) ∧ (∀ s9 q9 : Nat, q9 ∉ ([6, 7, 8, 9, 10, 11, 21, 22] : List Nat) → u.2.2.2.1 s9 q9 = si s9 q9) ∧ (∀ s9 q9 : Nat, q9 ∉ ([3] : List Nat) → u.2.2.2.2 s9 q9 = sa s9 q9) ∧ (u = f_y_beginStart n dl sv L I M si sa)) (fun (u : (Nat → Int64) × (Nat → Int32) × (Nat → Nat → Int64) × (Nat → Nat → Int32) × (Nat → Nat → Nat → Int32)) (t : State) => va_P (dC, dI) vwCl (xW h a e cI cJ cO cE u.1 u.2.1 u.2.2.1 J n cap fE sd u.2.2.2.1 u.2.2.2.2 dl) t.heap ∧ va_D (va_A (xW h a e cI cJ cO cE L I M J n cap fE sd si sa dl) sz) (xW h a e cI cJ cO cE u.1 u.2.1 u.2.2.1 J n cap fE sd u.2.2.2.1 u.2.2.2.2 dl)) (va_A (xW h a e cI cJ cO cE L I M J n cap fE sd si sa dl) sz)) 0 0 (va_A (xW h a e cI cJ cO cE L I M J n cap fE sd si sa dl) sz) := by
  have hn : n ≤ 40 := hX0.1.1
  have hX := hX0
  have hUL : ∀ j9 : Nat, j9 ∉ ([0, 5, 6, 7] : List Nat) → L j9 = L j9 := fun _ _ => rfl
  have hUI : ∀ j9 : Nat, j9 ∉ ([12] : List Nat) → I j9 = I j9 := fun _ _ => rfl
  have hUM : ∀ j9 : Nat, j9 ∉ ([8, 9] : List Nat) → M j9 = M j9 := fun _ _ => rfl
  have hUsi : ∀ s9 q9 : Nat, q9 ∉ ([6, 7, 8, 9, 10, 11, 21, 22] : List Nat) → si s9 q9 = si s9 q9 := fun _ _ _ => rfl
  have hUsa : ∀ s9 q9 : Nat, q9 ∉ ([3] : List Nat) → sa s9 q9 = sa s9 q9 := fun _ _ _ => rfl
  refine Met.ofW (cc := cX8_beginStart) (maxL := 2) (ret := none) (by decide) rfl ?_
  intro p e9 s m args below meth c s₁ B hml hv
  obtain ⟨rfl, hsz, hP, hK, hD0, hN⟩ := hv
  have hx := B.exec
  have hb := B.bytes
  have hr := B.returns
  have hts := atoms_spec (ws := wq_y_beginStart) B.pre
  have hown : s.vm.findClass RX8 = some m.cls := findClass_of_methodNamed B.named
  have hlocks := B.notSynchronized
  subst hsz
  have hD := hD0.self (sz := s.heap.size)
  generalize hAe : va_A (xW h a e cI cJ cO cE L I M J n cap fE sd si sa dl) s.heap.size = A at hD ⊢
  have hA : ∀ q : Nat, s.heap.size ≤ q → A q := fun q h => by rw [← hAe]; exact Or.inr h
  have hS : va_S A s.heap s.heap [] := va_S.rf
  have hl := lv_entry ([.ref h, .int (nI sv)]) (n := 2) (Nat.le_of_ble_eq_true rfl)
  rw [lg_entry_eq]
  generalize (lg_sl ([.ref h, .int (nI sv)]) ++ List.replicate (2 - (lg_sl ([.ref h, .int (nI sv)])).length) Slot.unset).toArray = ls at hl ⊢
  have hl : lv_has ls 2 [(0, .ref h), (1, .int (nI sv))] := hl
  obtain ⟨RES, hR0⟩ : ∃ R9, R9 = f_y_beginStart n dl sv L I M si sa := ⟨_, rfl⟩
  have hZ9 := hR0
  unfold f_y_beginStart at hZ9
  refine lv_aload_n hx hb dX8_beginStart_0 rfl (lv_at hl 0 rfl) ?_
  refine lv_iload_n hx hb dX8_beginStart_1 rfl (lv_at hl 1 rfl) ?_
  have hFc := mw_free hD hS hA
  refine va_calli (va_runV (As := [.int (nI sv)]) (rest := []) ⟨hx, hb, hml, hown, hts⟩ (c_y_hasItsNeeds l dC dI h a e cI cJ cO cE L I M J n cap fE sd si sa dl (b) sv s.heap.size hX (by omega) (by omega)) (cwV 1 hts wc_y_beginStart_y_hasItsNeeds_231 rfl rfl rfl (by decide +kernel) ⟨Nat.le_of_ble_eq_true rfl, Nat.le_of_ble_eq_true rfl⟩) ⟨fun a9 U g mk q => by obtain ⟨q0, q1, qP, qK, qD, qN⟩ := q; exact ⟨q0, q1, qP, va_K.moved (u := U) (U := U.calling g mk a9) (Vm.Alike.refl U.vm) qK, qD, pw_N.same (u := U) (U := U.calling g mk a9) rfl qN⟩, va_recv hK hP (ci := 9) (q0 := 0) rfl rfl, fun U hU hW => ⟨rfl, by rw [hU], by rw [hU]; exact hP, va_K.moved hW.alike hK, hD.weaken (fun _ _ _ _ => trivial), pw_N.warm hW hN⟩⟩ rfl rfl hl.1 rfl (lv_room (Nat.le_of_ble_eq_true rfl)) dX8_beginStart_2 ⟨Nat.le_of_ble_eq_true rfl, Nat.le_of_ble_eq_true rfl⟩) hS (fun q _ h => hFc q h) hFc (fun r1 u t H1 locs ht hvm hw hB hz1 hk1 hS => ?_)
  replace hP := hB.1
  rw [ht] at hP
  replace hD : va_D A (xW h a e cI cJ cO cE L I M J n cap fE sd si sa dl) := hB.2.weaken (fun _ q _ h9 => hFc q.1 h9)
  clear hB
  generalize H1 = H at hP hS ⊢
  replace hP : va_P (dC, dI) vwCl (xW h a e cI cJ cO cE L I M J n cap fE sd si sa dl) H := hP
  obtain ⟨hw, hwe⟩ := hw
  replace hw : r1 = f_y_hasItsNeeds n dl sv M := hw
  replace hZ9 := bnd_s hZ9 hw
  have br1 := hwe
  refine lv_if_ne (tgt := 17) hx hb dX8_beginStart_5 (by decide) (fun c2 => ?_) (fun c2 => ?_)
  · replace hZ9 := ite_f hZ9 c2
    refine lv_aload_n hx hb dX8_beginStart_17 rfl (lv_at hl 0 rfl) ?_
    refine va_get (D := (dC, dI)) (ci := 9) (v := .ref (a 3)) (C := RX8) (T := TX8) (N := 14) hx hb hts in_y_beginStart_X8 hown hK hP 0 rfl rfl 3 (by decide) (hts (.fieldLink RX8 35 "ServiceTree" "jobs" "LServiceTree$Jobs;") (by decide +kernel)) (fun _ h9 => h9) rfl dX8_beginStart_18 ?_
    refine lv_iload_n hx hb dX8_beginStart_21 rfl (lv_at hl 1 rfl) ?_
    have hFc := mw_free hD hS hA
    refine va_callv (va_runV (As := [.int (nI sv)]) (rest := []) ⟨hx, hb, hml, hown, hts⟩ (c_y_jbegin l dC dI h a e cI cJ cO cE L I M J n cap fE sd si sa dl (b) sv H.size hX (by omega) ) (cwV 1 hts wc_y_beginStart_y_jbegin_302 rfl rfl rfl (by decide +kernel) ⟨Nat.le_of_ble_eq_true rfl, Nat.le_of_ble_eq_true rfl⟩) ⟨fun a9 U g mk q => by obtain ⟨q0, q1, qP, qK, qD, qN⟩ := q; exact ⟨q0, q1, qP, va_K.moved (u := U) (U := U.calling g mk a9) (Vm.Alike.refl U.vm) qK, qD, pw_N.same (u := U) (U := U.calling g mk a9) rfl qN⟩, va_recv hK hP (ci := 4) (q0 := 14) rfl rfl, fun U hU hW => ⟨rfl, by rw [hU], by rw [hU]; exact hP, va_K.moved hW.alike hK, hD.weaken (fun _ _ _ _ => trivial), pw_N.warm hW hN⟩⟩ rfl rfl hl.1 rfl (lv_room (Nat.le_of_ble_eq_true rfl)) dX8_beginStart_22 ⟨Nat.le_of_ble_eq_true rfl, Nat.le_of_ble_eq_true rfl⟩) hS (fun q _ h => hFc q h) hFc (fun u t H1 locs ht hvm hw hB hz1 hk1 hS => ?_)
    obtain ⟨L4, rfl⟩ : ∃ z9, z9 = u := ⟨_, rfl⟩
    replace hP := hB.1
    rw [ht] at hP
    replace hD : va_D A (xW h a e cI cJ cO cE L4 I M J n cap fE sd si sa dl) := hB.2.weaken (fun _ q _ h9 => hFc q.1 h9)
    clear hB
    generalize H1 = H at hP hS ⊢
    replace hP : va_P (dC, dI) vwCl (xW h a e cI cJ cO cE L4 I M J n cap fE sd si sa dl) H := hP
    obtain ⟨hwX, whUL, hw⟩ := hw
    replace hX : InvX n cap fE sd dl (b) I J si := hwX
    replace hUL : ∀ j9 : Nat, j9 ∉ ([0, 5, 6, 7] : List Nat) → L4 j9 = L j9 := mw_tr (by decide) whUL hUL
    replace hw : L4 = f_y_jbegin n dl sv L := hw
    replace hZ9 := bnd_s hZ9 hw
    refine lv_aload_n hx hb dX8_beginStart_25 rfl (lv_at hl 0 rfl) ?_
    refine lv_iload_n hx hb dX8_beginStart_26 rfl (lv_at hl 1 rfl) ?_
    refine lv_aload_n hx hb dX8_beginStart_27 rfl (lv_at hl 0 rfl) ?_
    refine va_get (D := (dC, dI)) (ci := 9) (v := .ref (a 0)) (C := RX8) (T := TX8) (N := 14) hx hb hts in_y_beginStart_X8 hown hK hP 0 rfl rfl 0 (by decide) (hts (.fieldLink RX8 10 "ServiceTree" "services" "Ljava/util/ArrayList;") (by decide +kernel)) (fun _ h9 => h9) rfl dX8_beginStart_28 ?_
    refine lv_iload_n hx hb dX8_beginStart_31 rfl (lv_at hl 1 rfl) ?_
    have hFc := mw_free hD hS hA
    refine va_callr (va_runV (As := [.int (nI sv)]) (rest := [.int (nI sv), .ref h]) ⟨hx, hb, hml, hown, hts⟩ (c_x_get l dC dI h a e cI cJ cO cE L4 I M J n cap fE sd si sa dl (b) sv H.size hX (by omega) (by omega)) (cwV 1 hts wc_y_beginStart_x_get_86 rfl rfl rfl (by decide +kernel) ⟨Nat.le_of_ble_eq_true rfl, Nat.le_of_ble_eq_true rfl⟩) ⟨fun a9 U g mk q => by obtain ⟨q0, q1, qP, qK, qD, qN⟩ := q; exact ⟨q0, q1, qP, va_K.moved (u := U) (U := U.calling g mk a9) (Vm.Alike.refl U.vm) qK, qD, pw_N.same (u := U) (U := U.calling g mk a9) rfl qN⟩, va_recv hK hP (ci := 0) (q0 := 1) rfl rfl, fun U hU hW => ⟨rfl, by rw [hU], by rw [hU]; exact hP, va_K.moved hW.alike hK, hD.weaken (fun _ _ _ _ => trivial), pw_N.warm hW hN⟩⟩ rfl rfl hl.1 rfl (lv_room (Nat.le_of_ble_eq_true rfl)) dX8_beginStart_32 ⟨Nat.le_of_ble_eq_true rfl, Nat.le_of_ble_eq_true rfl⟩) hS (fun q _ h => hFc q h) hFc (fun u r5 t H1 locs ht hvm hw hB hz1 hk1 hS => ?_)
    obtain ⟨hra, hB⟩ := hB
    replace hP := hB.1
    rw [ht] at hP
    replace hD : va_D A (xW h a e cI cJ cO cE L4 I M J n cap fE sd si sa dl) := hB.2.weaken (fun _ q _ h9 => hFc q.1 h9)
    clear hB
    generalize H1 = H at hP hS ⊢
    replace hP : va_P (dC, dI) vwCl (xW h a e cI cJ cO cE L4 I M J n cap fE sd si sa dl) H := hP
    subst hra
    refine va_castS hx hb hown (hts (.classLink RX8 65 RX7) (by decide +kernel)) (hK.1 8 _ rfl).2 (va_recv hK hP (ci := 8) (q0 := (22 + (6 * sv + 0))) rfl (xAt_0 h a e cI cJ cO cE L4 I M J n cap fE sd si sa dl (s := sv) (by omega))) dX8_beginStart_35 ?_
    have hFc := mw_free hD hS hA
    refine va_calli (va_runV (As := []) (rest := [.int (nI sv), .ref h]) ⟨hx, hb, hml, hown, hts⟩ (c_y_fss l dC dI h a e cI cJ cO cE L4 I M J n cap fE sd si sa dl (b) sv H.size hX (by omega) (by omega)) (cwV 0 hts wc_y_beginStart_y_fss_305 rfl rfl rfl (by decide +kernel) ⟨Nat.le_of_ble_eq_true rfl, Nat.le_of_ble_eq_true rfl⟩) ⟨fun a9 U g mk q => by obtain ⟨q0, q1, qP, qK, qD, qN⟩ := q; exact ⟨q0, q1, qP, va_K.moved (u := U) (U := U.calling g mk a9) (Vm.Alike.refl U.vm) qK, qD, pw_N.same (u := U) (U := U.calling g mk a9) rfl qN⟩, va_recv hK hP (ci := 8) (q0 := (22 + (6 * sv + 0))) rfl (xAt_0 h a e cI cJ cO cE L4 I M J n cap fE sd si sa dl (s := sv) (by omega)), fun U hU hW => ⟨rfl, by rw [hU], by rw [hU]; exact hP, va_K.moved hW.alike hK, hD.weaken (fun _ _ _ _ => trivial), pw_N.warm hW hN⟩⟩ rfl rfl hl.1 rfl (lv_room (Nat.le_of_ble_eq_true rfl)) dX8_beginStart_38 ⟨Nat.le_of_ble_eq_true rfl, Nat.le_of_ble_eq_true rfl⟩) hS (fun q _ h => hFc q h) hFc (fun r6 u t H1 locs ht hvm hw hB hz1 hk1 hS => ?_)
    replace hP := hB.1
    rw [ht] at hP
    replace hD : va_D A (xW h a e cI cJ cO cE L4 I M J n cap fE sd si sa dl) := hB.2.weaken (fun _ q _ h9 => hFc q.1 h9)
    clear hB
    generalize H1 = H at hP hS ⊢
    replace hP : va_P (dC, dI) vwCl (xW h a e cI cJ cO cE L4 I M J n cap fE sd si sa dl) H := hP
    obtain ⟨hw, hwe⟩ := hw
    replace hw : r6 = f_y_fss n dl sv si := hw
    replace hZ9 := bnd_s hZ9 hw
    obtain ⟨j7, hj7, ej7⟩ := hwe
    replace hZ9 := bnd_s hZ9 (show j7 = r6.toNatClampNeg by rw [ej7, nI_clamp (by omega)])
    subst ej7
    have hFc := mw_free hD hS hA
    refine va_callv (va_runV (As := [.int (nI sv), .int (nI j7)]) (rest := []) ⟨hx, hb, hml, hown, hts⟩ (c_y_enter l dC dI h a e cI cJ cO cE L4 I M J n cap fE sd si sa dl (b) sv j7 H.size hX (by omega) (by omega) (by omega)) (cwV 2 hts wc_y_beginStart_y_enter_249 rfl rfl rfl (by decide +kernel) ⟨Nat.le_of_ble_eq_true rfl, Nat.le_of_ble_eq_true rfl⟩) ⟨fun a9 U g mk q => by obtain ⟨q0, q1, qP, qK, qD, qN⟩ := q; exact ⟨q0, q1, qP, va_K.moved (u := U) (U := U.calling g mk a9) (Vm.Alike.refl U.vm) qK, qD, pw_N.same (u := U) (U := U.calling g mk a9) rfl qN⟩, va_recv hK hP (ci := 9) (q0 := 0) rfl rfl, fun U hU hW => ⟨rfl, by rw [hU], by rw [hU]; exact hP, va_K.moved hW.alike hK, hD.weaken (fun _ _ _ _ => trivial), pw_N.warm hW hN⟩⟩ rfl rfl hl.1 rfl (lv_room (Nat.le_of_ble_eq_true rfl)) dX8_beginStart_41 ⟨Nat.le_of_ble_eq_true rfl, Nat.le_of_ble_eq_true rfl⟩) hS (fun q _ h => hFc q h) hFc (fun u t H1 locs ht hvm hw hB hz1 hk1 hS => ?_)
    obtain ⟨L9, I10, M11, si12, sa13⟩ := u
    replace hP := hB.1
    rw [ht] at hP
    replace hD : va_D A (xW h a e cI cJ cO cE L9 I10 M11 J n cap fE sd si12 sa13 dl) := hB.2.weaken (fun _ q _ h9 => hFc q.1 h9)
    clear hB
    generalize H1 = H at hP hS ⊢
    replace hP : va_P (dC, dI) vwCl (xW h a e cI cJ cO cE L9 I10 M11 J n cap fE sd si12 sa13 dl) H := hP
    obtain ⟨hwX, whUL, whUI, whUM, whUsi, whUsa, hw⟩ := hw
    replace hX : InvX n cap fE sd dl (b + 1) I10 J si12 := hwX
    replace hUL : ∀ j9 : Nat, j9 ∉ ([0, 5, 6, 7] : List Nat) → L9 j9 = L j9 := mw_tr (by decide) whUL hUL
    replace hUI : ∀ j9 : Nat, j9 ∉ ([12] : List Nat) → I10 j9 = I j9 := mw_tr (by decide) whUI hUI
    replace hUM : ∀ j9 : Nat, j9 ∉ ([8, 9] : List Nat) → M11 j9 = M j9 := mw_tr (by decide) whUM hUM
    replace hUsi : ∀ s9 q9 : Nat, q9 ∉ ([6, 7, 8, 9, 10, 11, 21, 22] : List Nat) → si12 s9 q9 = si s9 q9 := xw_tr2 (by decide) whUsi hUsi
    replace hUsa : ∀ s9 q9 : Nat, q9 ∉ ([3] : List Nat) → sa13 s9 q9 = sa s9 q9 := xw_tr2 (by decide) whUsa hUsa
    replace hw : (L9, I10, M11, si12, sa13) = f_y_enter n dl sv j7 L4 I M si sa := hw
    replace hZ9 := bn5_s hZ9 hw
    exact W.vret hx hb hr (fun t ht hW => ⟨⟨(L9, I10, M11, si12, sa13), rfl, ⟨hX.mono (by omega), hUL, hUI, hUM, hUsi, hUsa, hZ9.symm.trans hR0⟩, by rw [ht]; exact hP, hD⟩, hS.F ht⟩) hS.2.2 dX8_beginStart_44
  · replace hZ9 := ite_t hZ9 c2
    refine lv_aload_n hx hb dX8_beginStart_8 rfl (lv_at hl 0 rfl) ?_
    refine va_get (D := (dC, dI)) (ci := 9) (v := .ref (a 3)) (C := RX8) (T := TX8) (N := 14) hx hb hts in_y_beginStart_X8 hown hK hP 0 rfl rfl 3 (by decide) (hts (.fieldLink RX8 35 "ServiceTree" "jobs" "LServiceTree$Jobs;") (by decide +kernel)) (fun _ h9 => h9) rfl dX8_beginStart_9 ?_
    refine lv_iload_n hx hb dX8_beginStart_12 rfl (lv_at hl 1 rfl) ?_
    have hFc := mw_free hD hS hA
    refine va_callv (va_runV (As := [.int (nI sv)]) (rest := []) ⟨hx, hb, hml, hown, hts⟩ (c_y_jend l dC dI h a e cI cJ cO cE L I M J n cap fE sd si sa dl (b) sv H.size hX (by omega) ) (cwV 1 hts wc_y_beginStart_y_jend_299 rfl rfl rfl (by decide +kernel) ⟨Nat.le_of_ble_eq_true rfl, Nat.le_of_ble_eq_true rfl⟩) ⟨fun a9 U g mk q => by obtain ⟨q0, q1, qP, qK, qD, qN⟩ := q; exact ⟨q0, q1, qP, va_K.moved (u := U) (U := U.calling g mk a9) (Vm.Alike.refl U.vm) qK, qD, pw_N.same (u := U) (U := U.calling g mk a9) rfl qN⟩, va_recv hK hP (ci := 4) (q0 := 14) rfl rfl, fun U hU hW => ⟨rfl, by rw [hU], by rw [hU]; exact hP, va_K.moved hW.alike hK, hD.weaken (fun _ _ _ _ => trivial), pw_N.warm hW hN⟩⟩ rfl rfl hl.1 rfl (lv_room (Nat.le_of_ble_eq_true rfl)) dX8_beginStart_13 ⟨Nat.le_of_ble_eq_true rfl, Nat.le_of_ble_eq_true rfl⟩) hS (fun q _ h => hFc q h) hFc (fun u t H1 locs ht hvm hw hB hz1 hk1 hS => ?_)
    obtain ⟨L15, rfl⟩ : ∃ z9, z9 = u := ⟨_, rfl⟩
    replace hP := hB.1
    rw [ht] at hP
    replace hD : va_D A (xW h a e cI cJ cO cE L15 I M J n cap fE sd si sa dl) := hB.2.weaken (fun _ q _ h9 => hFc q.1 h9)
    clear hB
    generalize H1 = H at hP hS ⊢
    replace hP : va_P (dC, dI) vwCl (xW h a e cI cJ cO cE L15 I M J n cap fE sd si sa dl) H := hP
    obtain ⟨hwX, whUL, hw⟩ := hw
    replace hX : InvX n cap fE sd dl (b) I J si := hwX
    replace hUL : ∀ j9 : Nat, j9 ∉ ([0, 5, 6, 7] : List Nat) → L15 j9 = L j9 := mw_tr (by decide) whUL hUL
    replace hw : L15 = f_y_jend n dl sv L := hw
    replace hZ9 := bnd_s hZ9 hw
    exact W.vret hx hb hr (fun t ht hW => ⟨⟨(L15, I, M, si, sa), rfl, ⟨hX.mono (by omega), hUL, hUI, hUM, hUsi, hUsa, hZ9.symm.trans hR0⟩, by rw [ht]; exact hP, hD⟩, hS.F ht⟩) hS.2.2 dX8_beginStart_16
def f_y_beginStop (n : Nat) (dl : Nat → Nat) (sv : Nat) (L : Nat → Int64) (I : Nat → Int32) (M : Nat → Nat → Int64) (si : Nat → Nat → Int32) (sa : Nat → Nat → Nat → Int32) : (Nat → Int64) × (Nat → Int32) × (Nat → Nat → Int64) × (Nat → Nat → Int32) × (Nat → Nat → Nat → Int32) := bnd ((si sv 6).toNatClampNeg) (fun (z2 : Nat) => if z2 = 0 then (bnd (f_y_jend n dl sv L) (fun (L5 : Nat → Int64) => (L5, I, M, si, sa))) else (if z2 = 4 then (bnd (f_y_jend n dl sv L) (fun (L26 : Nat → Int64) => (L26, I, M, si, sa))) else (bnd (f_y_jbegin n dl sv L) (fun (L8 : Nat → Int64) => if z2 = 3 then ((L8, I, M, si, sa)) else (if z2 = 5 then (bn5 (f_y_enter n dl sv 0 L8 I M si sa) (fun (L20 : Nat → Int64) (I21 : Nat → Int32) (M22 : Nat → Nat → Int64) (si23 : Nat → Nat → Int32) (sa24 : Nat → Nat → Nat → Int32) => (L20, I21, M22, si23, sa24))) else (bnd (f_y_fsp n dl sv si) (fun (r11 : Int32) => bnd (r11.toNatClampNeg) (fun (j12 : Nat) => bn5 (f_y_enter n dl sv j12 L8 I M si sa) (fun (L14 : Nat → Int64) (I15 : Nat → Int32) (M16 : Nat → Nat → Int64) (si17 : Nat → Nat → Int32) (sa18 : Nat → Nat → Nat → Int32) => (L14, I15, M16, si17, sa18))))))))))
def wq_y_beginStop : List Cond := ([.code yX8_beginStop cX8_beginStop 3 none, .fieldLink RX8 10 "ServiceTree" "services" "Ljava/util/ArrayList;", .classLink RX8 65 RX7, .fieldLink RX8 35 "ServiceTree" "jobs" "LServiceTree$Jobs;", .methodLink RX8 86 yJx4a65c_get_915e3, .instanceMethod yJx4a65c_get_915e3, .selects RJx4a65c yJx4a65c_get_915e3 yJx4a65c_get_915e3, .initialized RJx4a65c, .methodLink RX8 299 yX3_end, .instanceMethod yX3_end, .selects RX3 yX3_end yX3_end, .initialized RX3, .methodLink RX8 302 yX3_begin, .instanceMethod yX3_begin, .selects RX3 yX3_begin yX3_begin, .methodLink RX8 308 yX7_firstStateOfStop, .instanceMethod yX7_firstStateOfStop, .selects RX7 yX7_firstStateOfStop yX7_firstStateOfStop, .initialized RX7, .methodLink RX8 249 yX8_enter, .instanceMethod yX8_enter, .selects RX8 yX8_enter yX8_enter, .initialized RX8] : List Cond) ++ (wsX70 ++ (wsX80 ++ (wq_x_get ++ (wq_y_jend ++ (wq_y_jbegin ++ (wq_y_fsp ++ (wq_y_enter)))))))
theorem in_y_beginStop_X7 : ∀ w ∈ wsX70, w ∈ wq_y_beginStop := fun _ h => List.mem_append_right _ (List.mem_append_left _ (h))
theorem in_y_beginStop_X8 : ∀ w ∈ wsX80, w ∈ wq_y_beginStop := fun _ h => List.mem_append_right _ (List.mem_append_right _ (List.mem_append_left _ (h)))
set_option maxRecDepth 20000 in
theorem wi_y_beginStop : ∀ w ∈ wq_y_beginStop, w ∈ lw_tbl := List.forall_mem_append.mpr ⟨(wix [672, 224, 278, 227, 453, 454, 455, 63, 659, 622, 623, 66, 660, 661, 662, 673, 674, 675, 70, 593, 595, 14, 60] rfl), List.forall_mem_append.mpr ⟨inKX7, List.forall_mem_append.mpr ⟨inKX8, List.forall_mem_append.mpr ⟨wi_x_get, List.forall_mem_append.mpr ⟨wi_y_jend, List.forall_mem_append.mpr ⟨wi_y_jbegin, List.forall_mem_append.mpr ⟨wi_y_fsp, wi_y_enter⟩⟩⟩⟩⟩⟩⟩
set_option maxRecDepth 20000 in
theorem wg_y_beginStop : GoodIn wq_y_beginStop wq_y_beginStop := goodIn_sub (fun _ h => h) (by decide +kernel)
set_option maxRecDepth 20000 in
theorem wc_y_beginStop_x_get_86 : GoodIn wq_y_beginStop (wsV RX8 86 RJx4a65c yJx4a65c_get_915e3 wq_x_get) := goodIn_app (goodIn_of _ (by decide +kernel)) (fun w h => ⟨List.mem_append_right _ (List.mem_append_right _ (List.mem_append_right _ (List.mem_append_left _ (h)))), (wg_x_get w h).2⟩)
set_option maxRecDepth 20000 in
theorem wc_y_beginStop_y_jend_299 : GoodIn wq_y_beginStop (wsV RX8 299 RX3 yX3_end wq_y_jend) := goodIn_app (goodIn_of _ (by decide +kernel)) (fun w h => ⟨List.mem_append_right _ (List.mem_append_right _ (List.mem_append_right _ (List.mem_append_right _ (List.mem_append_left _ (h))))), (wg_y_jend w h).2⟩)
set_option maxRecDepth 20000 in
theorem wc_y_beginStop_y_jbegin_302 : GoodIn wq_y_beginStop (wsV RX8 302 RX3 yX3_begin wq_y_jbegin) := goodIn_app (goodIn_of _ (by decide +kernel)) (fun w h => ⟨List.mem_append_right _ (List.mem_append_right _ (List.mem_append_right _ (List.mem_append_right _ (List.mem_append_right _ (List.mem_append_left _ (h)))))), (wg_y_jbegin w h).2⟩)
set_option maxRecDepth 20000 in
theorem wc_y_beginStop_y_fsp_308 : GoodIn wq_y_beginStop (wsV RX8 308 RX7 yX7_firstStateOfStop wq_y_fsp) := goodIn_app (goodIn_of _ (by decide +kernel)) (fun w h => ⟨List.mem_append_right _ (List.mem_append_right _ (List.mem_append_right _ (List.mem_append_right _ (List.mem_append_right _ (List.mem_append_right _ (List.mem_append_left _ (h))))))), (wg_y_fsp w h).2⟩)
set_option maxRecDepth 20000 in
theorem wc_y_beginStop_y_enter_249 : GoodIn wq_y_beginStop (wsV RX8 249 RX8 yX8_enter wq_y_enter) := goodIn_app (goodIn_of _ (by decide +kernel)) (fun w h => ⟨List.mem_append_right _ (List.mem_append_right _ (List.mem_append_right _ (List.mem_append_right _ (List.mem_append_right _ (List.mem_append_right _ (List.mem_append_right _ (h))))))), (wg_y_enter w h).2⟩)
def rm_y_beginStop : Room := { frames := 4, cells := 0, slots := 0, locals := 89 }
set_option maxHeartbeats 4000000 in
set_option maxRecDepth 100000 in
theorem c_y_beginStop (l : Launch) (dC : Nat → ClassId) (dI : Nat → Nat → Nat) (h : Nat) (a : Nat → Nat) (e : Nat) (cI cJ cO cE : ClassId) (L : Nat → Int64) (I : Nat → Int32) (M : Nat → Nat → Int64) (J : Nat → Nat → Int32) (n cap : Nat) (fE : Nat → Option Nat) (sd : Nat → Nat → Nat) (si : Nat → Nat → Int32) (sa : Nat → Nat → Nat → Int32) (dl : Nat → Nat) (b : Nat) (sv : Nat) (sz : Nat) (hX0 : InvX n cap fE sd dl b I J si) (hb0 : b + 1 < 2147483648) (hp0 : sv < n) : Met l yX8_beginStop wq_y_beginStop rm_y_beginStop (va_Pc [.ref h, .int (nI sv)] (fun U => U.heap.size = sz ∧ va_P (dC, dI) vwCl (xW h a e cI cJ cO cE L I M J n cap fE sd si sa dl) U.heap ∧ va_K (dC, dI) vwCl (xT cI cJ cO cE) U ∧ va_D (fun _ => True) (xW h a e cI cJ cO cE L I M J n cap fE sd si sa dl) ∧ pw_N U)) (va_Qv (fun (u : (Nat → Int64) × (Nat → Int32) × (Nat → Nat → Int64) × (Nat → Nat → Int32) × (Nat → Nat → Nat → Int32)) => InvX n cap fE sd dl (b + 1) u.2.1 J u.2.2.2.1 ∧ (∀ j9 : Nat, j9 ∉ ([0, 5, 6, 7] : List Nat) → u.1 j9 = L j9) ∧ (∀ j9 : Nat, j9 ∉ ([12] : List Nat) → u.2.1 j9 = I j9) ∧ (∀ j9 : Nat, j9 ∉ ([8, 9] : List Nat) → u.2.2.1 j9 = M j9) ∧ (∀ s9 q9 : Nat, q9 ∉ ([6, 7, 8, 9, 10, 11, 21, 22] : List Nat) → u.2.2.2.1 s9 q9 = si s9 q9) ∧ (∀ s9 q9 : Nat, q9 ∉ ([3] : List Nat) → u.2.2.2.2 s9 q9 = sa s9 q9) ∧ (u = f_y_beginStop n dl sv L I M si sa)) (fun (u : (Nat → Int64) × (Nat → Int32) × (Nat → Nat → Int64) × (Nat → Nat → Int32) × (Nat → Nat → Nat → Int32)) (t : State) => va_P (dC, dI) vwCl (xW h a e cI cJ cO cE u.1 u.2.1 u.2.2.1 J n cap fE sd u.2.2.2.1 u.2.2.2.2 dl) t.heap ∧ va_D (va_A (xW h a e cI cJ cO cE L I M J n cap fE sd si sa dl) sz) (xW h a e cI cJ cO cE u.1 u.2.1 u.2.2.1 J n cap fE sd u.2.2.2.1 u.2.2.2.2 dl)) (va_A (xW h a e cI cJ cO cE L I M J n cap fE sd si sa dl) sz)) 0 0 (va_A (xW h a e cI cJ cO cE L I M J n cap fE sd si sa dl) sz) := by
  have hn : n ≤ 40 := hX0.1.1
  have hX := hX0
  have hUL : ∀ j9 : Nat, j9 ∉ ([0, 5, 6, 7] : List Nat) → L j9 = L j9 := fun _ _ => rfl
  have hUI : ∀ j9 : Nat, j9 ∉ ([12] : List Nat) → I j9 = I j9 := fun _ _ => rfl
  have hUM : ∀ j9 : Nat, j9 ∉ ([8, 9] : List Nat) → M j9 = M j9 := fun _ _ => rfl
  have hUsi : ∀ s9 q9 : Nat, q9 ∉ ([6, 7, 8, 9, 10, 11, 21, 22] : List Nat) → si s9 q9 = si s9 q9 := fun _ _ _ => rfl
  have hUsa : ∀ s9 q9 : Nat, q9 ∉ ([3] : List Nat) → sa s9 q9 = sa s9 q9 := fun _ _ _ => rfl
  refine Met.ofW (cc := cX8_beginStop) (maxL := 3) (ret := none) (by decide) rfl ?_
  intro p e9 s m args below meth c s₁ B hml hv
  obtain ⟨rfl, hsz, hP, hK, hD0, hN⟩ := hv
  have hx := B.exec
  have hb := B.bytes
  have hr := B.returns
  have hts := atoms_spec (ws := wq_y_beginStop) B.pre
  have hown : s.vm.findClass RX8 = some m.cls := findClass_of_methodNamed B.named
  have hlocks := B.notSynchronized
  subst hsz
  have hD := hD0.self (sz := s.heap.size)
  generalize hAe : va_A (xW h a e cI cJ cO cE L I M J n cap fE sd si sa dl) s.heap.size = A at hD ⊢
  have hA : ∀ q : Nat, s.heap.size ≤ q → A q := fun q h => by rw [← hAe]; exact Or.inr h
  have hS : va_S A s.heap s.heap [] := va_S.rf
  have hl := lv_entry ([.ref h, .int (nI sv)]) (n := 3) (Nat.le_of_ble_eq_true rfl)
  rw [lg_entry_eq]
  generalize (lg_sl ([.ref h, .int (nI sv)]) ++ List.replicate (3 - (lg_sl ([.ref h, .int (nI sv)])).length) Slot.unset).toArray = ls at hl ⊢
  have hl : lv_has ls 3 [(0, .ref h), (1, .int (nI sv))] := hl
  obtain ⟨RES, hR0⟩ : ∃ R9, R9 = f_y_beginStop n dl sv L I M si sa := ⟨_, rfl⟩
  have hZ9 := hR0
  unfold f_y_beginStop at hZ9
  refine lv_aload_n hx hb dX8_beginStop_0 rfl (lv_at hl 0 rfl) ?_
  refine va_get (D := (dC, dI)) (ci := 9) (v := .ref (a 0)) (C := RX8) (T := TX8) (N := 14) hx hb hts in_y_beginStop_X8 hown hK hP 0 rfl rfl 0 (by decide) (hts (.fieldLink RX8 10 "ServiceTree" "services" "Ljava/util/ArrayList;") (by decide +kernel)) (fun _ h9 => h9) rfl dX8_beginStop_1 ?_
  refine lv_iload_n hx hb dX8_beginStop_4 rfl (lv_at hl 1 rfl) ?_
  have hFc := mw_free hD hS hA
  refine va_callr (va_runV (As := [.int (nI sv)]) (rest := []) ⟨hx, hb, hml, hown, hts⟩ (c_x_get l dC dI h a e cI cJ cO cE L I M J n cap fE sd si sa dl (b) sv s.heap.size hX (by omega) (by omega)) (cwV 1 hts wc_y_beginStop_x_get_86 rfl rfl rfl (by decide +kernel) ⟨Nat.le_of_ble_eq_true rfl, Nat.le_of_ble_eq_true rfl⟩) ⟨fun a9 U g mk q => by obtain ⟨q0, q1, qP, qK, qD, qN⟩ := q; exact ⟨q0, q1, qP, va_K.moved (u := U) (U := U.calling g mk a9) (Vm.Alike.refl U.vm) qK, qD, pw_N.same (u := U) (U := U.calling g mk a9) rfl qN⟩, va_recv hK hP (ci := 0) (q0 := 1) rfl rfl, fun U hU hW => ⟨rfl, by rw [hU], by rw [hU]; exact hP, va_K.moved hW.alike hK, hD.weaken (fun _ _ _ _ => trivial), pw_N.warm hW hN⟩⟩ rfl rfl hl.1 rfl (lv_room (Nat.le_of_ble_eq_true rfl)) dX8_beginStop_5 ⟨Nat.le_of_ble_eq_true rfl, Nat.le_of_ble_eq_true rfl⟩) hS (fun q _ h => hFc q h) hFc (fun u r1 t H1 locs ht hvm hw hB hz1 hk1 hS => ?_)
  obtain ⟨hra, hB⟩ := hB
  replace hP := hB.1
  rw [ht] at hP
  replace hD : va_D A (xW h a e cI cJ cO cE L I M J n cap fE sd si sa dl) := hB.2.weaken (fun _ q _ h9 => hFc q.1 h9)
  clear hB
  generalize H1 = H at hP hS ⊢
  replace hP : va_P (dC, dI) vwCl (xW h a e cI cJ cO cE L I M J n cap fE sd si sa dl) H := hP
  subst hra
  refine va_castS hx hb hown (hts (.classLink RX8 65 RX7) (by decide +kernel)) (hK.1 8 _ rfl).2 (va_recv hK hP (ci := 8) (q0 := (22 + (6 * sv + 0))) rfl (xAt_0 h a e cI cJ cO cE L I M J n cap fE sd si sa dl (s := sv) (by omega))) dX8_beginStop_8 ?_
  refine lv_astore_n (lv' := [(2, .ref (sd sv 0)), (0, .ref h), (1, .int (nI sv))]) hx hb dX8_beginStop_11 rfl hl (by decide) rfl (fun ls hl => ?_)
  refine lv_aload_n hx hb dX8_beginStop_12 rfl (lv_at hl 0 rfl) ?_
  refine va_getN (D := (dC, dI)) (ci := 8) (v := .int (si sv 6)) (C := RX7) (T := TX7) (N := 12) hx hb hts in_y_beginStop_X7 hown hK hP (22 + (6 * sv + 0)) (xAt_0 h a e cI cJ cO cE L I M J n cap fE sd si sa dl (s := sv) (by omega)) rfl 6 (by decide) (va_Nw.use rfl (hN (.fieldLinkNest RX8 162 "ServiceTree$Service" "state" "I" "ServiceTree") (by decide +kernel))) (fun _ h9 => h9) rfl dX8_beginStop_13 ?_
  obtain ⟨z2, hz2, ez2⟩ := hX.2.2.2.1 sv
  refine p1_topr (v := .int (nI z2)) (congrArg Value.int ez2) ?_
  replace hZ9 := bnd_s hZ9 (show z2 = (si sv 6).toNatClampNeg by rw [ez2, nI_clamp (by omega)])
  refine lv_if_eq (tgt := 27) hx hb dX8_beginStop_16 (by decide) (fun c3 => ?_) (fun c3 => ?_)
  · replace c3 : z2 = 0 := (nI_eq (a := z2) (b := 0) (by omega) (by omega)).mp c3
    replace hZ9 := ite_t hZ9 c3
    refine lv_aload_n hx hb dX8_beginStop_27 rfl (lv_at hl 1 rfl) ?_
    refine va_get (D := (dC, dI)) (ci := 9) (v := .ref (a 3)) (C := RX8) (T := TX8) (N := 14) hx hb hts in_y_beginStop_X8 hown hK hP 0 rfl rfl 3 (by decide) (hts (.fieldLink RX8 35 "ServiceTree" "jobs" "LServiceTree$Jobs;") (by decide +kernel)) (fun _ h9 => h9) rfl dX8_beginStop_28 ?_
    refine lv_iload_n hx hb dX8_beginStop_31 rfl (lv_at hl 2 rfl) ?_
    have hFc := mw_free hD hS hA
    refine va_callv (va_runV (As := [.int (nI sv)]) (rest := []) ⟨hx, hb, hml, hown, hts⟩ (c_y_jend l dC dI h a e cI cJ cO cE L I M J n cap fE sd si sa dl (b) sv H.size hX (by omega) ) (cwV 1 hts wc_y_beginStop_y_jend_299 rfl rfl rfl (by decide +kernel) ⟨Nat.le_of_ble_eq_true rfl, Nat.le_of_ble_eq_true rfl⟩) ⟨fun a9 U g mk q => by obtain ⟨q0, q1, qP, qK, qD, qN⟩ := q; exact ⟨q0, q1, qP, va_K.moved (u := U) (U := U.calling g mk a9) (Vm.Alike.refl U.vm) qK, qD, pw_N.same (u := U) (U := U.calling g mk a9) rfl qN⟩, va_recv hK hP (ci := 4) (q0 := 14) rfl rfl, fun U hU hW => ⟨rfl, by rw [hU], by rw [hU]; exact hP, va_K.moved hW.alike hK, hD.weaken (fun _ _ _ _ => trivial), pw_N.warm hW hN⟩⟩ rfl rfl hl.1 rfl (lv_room (Nat.le_of_ble_eq_true rfl)) dX8_beginStop_32 ⟨Nat.le_of_ble_eq_true rfl, Nat.le_of_ble_eq_true rfl⟩) hS (fun q _ h => hFc q h) hFc (fun u t H1 locs ht hvm hw hB hz1 hk1 hS => ?_)
    obtain ⟨L5, rfl⟩ : ∃ z9, z9 = u := ⟨_, rfl⟩
    replace hP := hB.1
    rw [ht] at hP
    replace hD : va_D A (xW h a e cI cJ cO cE L5 I M J n cap fE sd si sa dl) := hB.2.weaken (fun _ q _ h9 => hFc q.1 h9)
    clear hB
    generalize H1 = H at hP hS ⊢
    replace hP : va_P (dC, dI) vwCl (xW h a e cI cJ cO cE L5 I M J n cap fE sd si sa dl) H := hP
    obtain ⟨hwX, whUL, hw⟩ := hw
    replace hX : InvX n cap fE sd dl (b) I J si := hwX
    replace hUL : ∀ j9 : Nat, j9 ∉ ([0, 5, 6, 7] : List Nat) → L5 j9 = L j9 := mw_tr (by decide) whUL hUL
    replace hw : L5 = f_y_jend n dl sv L := hw
    replace hZ9 := bnd_s hZ9 hw
    exact W.vret hx hb hr (fun t ht hW => ⟨⟨(L5, I, M, si, sa), rfl, ⟨hX.mono (by omega), hUL, hUI, hUM, hUsi, hUsa, hZ9.symm.trans hR0⟩, by rw [ht]; exact hP, hD⟩, hS.F ht⟩) hS.2.2 dX8_beginStop_35
  · replace c3 : ¬ (z2 = 0) := fun q9 => c3 ((nI_eq (a := z2) (b := 0) (by omega) (by omega)).mpr q9)
    replace hZ9 := ite_f hZ9 c3
    refine lv_aload_n hx hb dX8_beginStop_19 rfl (lv_at hl 0 rfl) ?_
    refine va_getN (D := (dC, dI)) (ci := 8) (v := .int (si sv 6)) (C := RX7) (T := TX7) (N := 12) hx hb hts in_y_beginStop_X7 hown hK hP (22 + (6 * sv + 0)) (xAt_0 h a e cI cJ cO cE L I M J n cap fE sd si sa dl (s := sv) (by omega)) rfl 6 (by decide) (va_Nw.use rfl (hN (.fieldLinkNest RX8 162 "ServiceTree$Service" "state" "I" "ServiceTree") (by decide +kernel))) (fun _ h9 => h9) rfl dX8_beginStop_20 ?_
    refine p1_topr (v := .int (nI z2)) (congrArg Value.int ez2) ?_
    refine lv_iconst (v := 4) hx hb dX8_beginStop_23 (by decide) ?_
    refine lv_icmp_ne (tgt := 36) hx hb dX8_beginStop_24 (by decide) (fun c6 => ?_) (fun c6 => ?_)
    · replace c6 : ¬ (z2 = 4) := fun q9 => c6 ((nI_eq (a := z2) (b := 4) (by omega) (by omega)).mpr q9)
      replace hZ9 := ite_f hZ9 c6
      refine lv_aload_n hx hb dX8_beginStop_36 rfl (lv_at hl 1 rfl) ?_
      refine va_get (D := (dC, dI)) (ci := 9) (v := .ref (a 3)) (C := RX8) (T := TX8) (N := 14) hx hb hts in_y_beginStop_X8 hown hK hP 0 rfl rfl 3 (by decide) (hts (.fieldLink RX8 35 "ServiceTree" "jobs" "LServiceTree$Jobs;") (by decide +kernel)) (fun _ h9 => h9) rfl dX8_beginStop_37 ?_
      refine lv_iload_n hx hb dX8_beginStop_40 rfl (lv_at hl 2 rfl) ?_
      have hFc := mw_free hD hS hA
      refine va_callv (va_runV (As := [.int (nI sv)]) (rest := []) ⟨hx, hb, hml, hown, hts⟩ (c_y_jbegin l dC dI h a e cI cJ cO cE L I M J n cap fE sd si sa dl (b) sv H.size hX (by omega) ) (cwV 1 hts wc_y_beginStop_y_jbegin_302 rfl rfl rfl (by decide +kernel) ⟨Nat.le_of_ble_eq_true rfl, Nat.le_of_ble_eq_true rfl⟩) ⟨fun a9 U g mk q => by obtain ⟨q0, q1, qP, qK, qD, qN⟩ := q; exact ⟨q0, q1, qP, va_K.moved (u := U) (U := U.calling g mk a9) (Vm.Alike.refl U.vm) qK, qD, pw_N.same (u := U) (U := U.calling g mk a9) rfl qN⟩, va_recv hK hP (ci := 4) (q0 := 14) rfl rfl, fun U hU hW => ⟨rfl, by rw [hU], by rw [hU]; exact hP, va_K.moved hW.alike hK, hD.weaken (fun _ _ _ _ => trivial), pw_N.warm hW hN⟩⟩ rfl rfl hl.1 rfl (lv_room (Nat.le_of_ble_eq_true rfl)) dX8_beginStop_41 ⟨Nat.le_of_ble_eq_true rfl, Nat.le_of_ble_eq_true rfl⟩) hS (fun q _ h => hFc q h) hFc (fun u t H1 locs ht hvm hw hB hz1 hk1 hS => ?_)
      obtain ⟨L8, rfl⟩ : ∃ z9, z9 = u := ⟨_, rfl⟩
      replace hP := hB.1
      rw [ht] at hP
      replace hD : va_D A (xW h a e cI cJ cO cE L8 I M J n cap fE sd si sa dl) := hB.2.weaken (fun _ q _ h9 => hFc q.1 h9)
      clear hB
      generalize H1 = H at hP hS ⊢
      replace hP : va_P (dC, dI) vwCl (xW h a e cI cJ cO cE L8 I M J n cap fE sd si sa dl) H := hP
      obtain ⟨hwX, whUL, hw⟩ := hw
      replace hX : InvX n cap fE sd dl (b) I J si := hwX
      replace hUL : ∀ j9 : Nat, j9 ∉ ([0, 5, 6, 7] : List Nat) → L8 j9 = L j9 := mw_tr (by decide) whUL hUL
      replace hw : L8 = f_y_jbegin n dl sv L := hw
      replace hZ9 := bnd_s hZ9 hw
      refine lv_aload_n hx hb dX8_beginStop_44 rfl (lv_at hl 0 rfl) ?_
      refine va_getN (D := (dC, dI)) (ci := 8) (v := .int (si sv 6)) (C := RX7) (T := TX7) (N := 12) hx hb hts in_y_beginStop_X7 hown hK hP (22 + (6 * sv + 0)) (xAt_0 h a e cI cJ cO cE L8 I M J n cap fE sd si sa dl (s := sv) (by omega)) rfl 6 (by decide) (va_Nw.use rfl (hN (.fieldLinkNest RX8 162 "ServiceTree$Service" "state" "I" "ServiceTree") (by decide +kernel))) (fun _ h9 => h9) rfl dX8_beginStop_45 ?_
      refine p1_topr (v := .int (nI z2)) (congrArg Value.int ez2) ?_
      refine lv_iconst (v := 3) hx hb dX8_beginStop_48 (by decide) ?_
      refine lv_icmp_ne (tgt := 53) hx hb dX8_beginStop_49 (by decide) (fun c9 => ?_) (fun c9 => ?_)
      · replace c9 : ¬ (z2 = 3) := fun q9 => c9 ((nI_eq (a := z2) (b := 3) (by omega) (by omega)).mpr q9)
        replace hZ9 := ite_f hZ9 c9
        refine lv_aload_n hx hb dX8_beginStop_53 rfl (lv_at hl 1 rfl) ?_
        refine lv_iload_n hx hb dX8_beginStop_54 rfl (lv_at hl 2 rfl) ?_
        refine lv_aload_n hx hb dX8_beginStop_55 rfl (lv_at hl 0 rfl) ?_
        refine va_getN (D := (dC, dI)) (ci := 8) (v := .int (si sv 6)) (C := RX7) (T := TX7) (N := 12) hx hb hts in_y_beginStop_X7 hown hK hP (22 + (6 * sv + 0)) (xAt_0 h a e cI cJ cO cE L8 I M J n cap fE sd si sa dl (s := sv) (by omega)) rfl 6 (by decide) (va_Nw.use rfl (hN (.fieldLinkNest RX8 162 "ServiceTree$Service" "state" "I" "ServiceTree") (by decide +kernel))) (fun _ h9 => h9) rfl dX8_beginStop_56 ?_
        refine p1_topr (v := .int (nI z2)) (congrArg Value.int ez2) ?_
        refine lv_iconst (v := 5) hx hb dX8_beginStop_59 (by decide) ?_
        refine lv_icmp_ne (tgt := 67) hx hb dX8_beginStop_60 (by decide) (fun c10 => ?_) (fun c10 => ?_)
        · replace c10 : ¬ (z2 = 5) := fun q9 => c10 ((nI_eq (a := z2) (b := 5) (by omega) (by omega)).mpr q9)
          replace hZ9 := ite_f hZ9 c10
          refine lv_aload_n hx hb dX8_beginStop_67 rfl (lv_at hl 0 rfl) ?_
          have hFc := mw_free hD hS hA
          refine va_calli (va_runV (As := []) (rest := [.int (nI sv), .ref h]) ⟨hx, hb, hml, hown, hts⟩ (c_y_fsp l dC dI h a e cI cJ cO cE L8 I M J n cap fE sd si sa dl (b) sv H.size hX (by omega) (by omega)) (cwV 0 hts wc_y_beginStop_y_fsp_308 rfl rfl rfl (by decide +kernel) ⟨Nat.le_of_ble_eq_true rfl, Nat.le_of_ble_eq_true rfl⟩) ⟨fun a9 U g mk q => by obtain ⟨q0, q1, qP, qK, qD, qN⟩ := q; exact ⟨q0, q1, qP, va_K.moved (u := U) (U := U.calling g mk a9) (Vm.Alike.refl U.vm) qK, qD, pw_N.same (u := U) (U := U.calling g mk a9) rfl qN⟩, va_recv hK hP (ci := 8) (q0 := (22 + (6 * sv + 0))) rfl (xAt_0 h a e cI cJ cO cE L8 I M J n cap fE sd si sa dl (s := sv) (by omega)), fun U hU hW => ⟨rfl, by rw [hU], by rw [hU]; exact hP, va_K.moved hW.alike hK, hD.weaken (fun _ _ _ _ => trivial), pw_N.warm hW hN⟩⟩ rfl rfl hl.1 rfl (lv_room (Nat.le_of_ble_eq_true rfl)) dX8_beginStop_68 ⟨Nat.le_of_ble_eq_true rfl, Nat.le_of_ble_eq_true rfl⟩) hS (fun q _ h => hFc q h) hFc (fun r11 u t H1 locs ht hvm hw hB hz1 hk1 hS => ?_)
          replace hP := hB.1
          rw [ht] at hP
          replace hD : va_D A (xW h a e cI cJ cO cE L8 I M J n cap fE sd si sa dl) := hB.2.weaken (fun _ q _ h9 => hFc q.1 h9)
          clear hB
          generalize H1 = H at hP hS ⊢
          replace hP : va_P (dC, dI) vwCl (xW h a e cI cJ cO cE L8 I M J n cap fE sd si sa dl) H := hP
          obtain ⟨hw, hwe⟩ := hw
          replace hw : r11 = f_y_fsp n dl sv si := hw
          replace hZ9 := bnd_s hZ9 hw
          obtain ⟨j12, hj12, ej12⟩ := hwe
          replace hZ9 := bnd_s hZ9 (show j12 = r11.toNatClampNeg by rw [ej12, nI_clamp (by omega)])
          subst ej12
          have hFc := mw_free hD hS hA
          refine va_callv (va_runV (As := [.int (nI sv), .int (nI j12)]) (rest := []) ⟨hx, hb, hml, hown, hts⟩ (c_y_enter l dC dI h a e cI cJ cO cE L8 I M J n cap fE sd si sa dl (b) sv j12 H.size hX (by omega) (by omega) (by omega)) (cwV 2 hts wc_y_beginStop_y_enter_249 rfl rfl rfl (by decide +kernel) ⟨Nat.le_of_ble_eq_true rfl, Nat.le_of_ble_eq_true rfl⟩) ⟨fun a9 U g mk q => by obtain ⟨q0, q1, qP, qK, qD, qN⟩ := q; exact ⟨q0, q1, qP, va_K.moved (u := U) (U := U.calling g mk a9) (Vm.Alike.refl U.vm) qK, qD, pw_N.same (u := U) (U := U.calling g mk a9) rfl qN⟩, va_recv hK hP (ci := 9) (q0 := 0) rfl rfl, fun U hU hW => ⟨rfl, by rw [hU], by rw [hU]; exact hP, va_K.moved hW.alike hK, hD.weaken (fun _ _ _ _ => trivial), pw_N.warm hW hN⟩⟩ rfl rfl hl.1 rfl (lv_room (Nat.le_of_ble_eq_true rfl)) dX8_beginStop_71 ⟨Nat.le_of_ble_eq_true rfl, Nat.le_of_ble_eq_true rfl⟩) hS (fun q _ h => hFc q h) hFc (fun u t H1 locs ht hvm hw hB hz1 hk1 hS => ?_)
          obtain ⟨L14, I15, M16, si17, sa18⟩ := u
          replace hP := hB.1
          rw [ht] at hP
          replace hD : va_D A (xW h a e cI cJ cO cE L14 I15 M16 J n cap fE sd si17 sa18 dl) := hB.2.weaken (fun _ q _ h9 => hFc q.1 h9)
          clear hB
          generalize H1 = H at hP hS ⊢
          replace hP : va_P (dC, dI) vwCl (xW h a e cI cJ cO cE L14 I15 M16 J n cap fE sd si17 sa18 dl) H := hP
          obtain ⟨hwX, whUL, whUI, whUM, whUsi, whUsa, hw⟩ := hw
          replace hX : InvX n cap fE sd dl (b + 1) I15 J si17 := hwX
          replace hUL : ∀ j9 : Nat, j9 ∉ ([0, 5, 6, 7] : List Nat) → L14 j9 = L j9 := mw_tr (by decide) whUL hUL
          replace hUI : ∀ j9 : Nat, j9 ∉ ([12] : List Nat) → I15 j9 = I j9 := mw_tr (by decide) whUI hUI
          replace hUM : ∀ j9 : Nat, j9 ∉ ([8, 9] : List Nat) → M16 j9 = M j9 := mw_tr (by decide) whUM hUM
          replace hUsi : ∀ s9 q9 : Nat, q9 ∉ ([6, 7, 8, 9, 10, 11, 21, 22] : List Nat) → si17 s9 q9 = si s9 q9 := xw_tr2 (by decide) whUsi hUsi
          replace hUsa : ∀ s9 q9 : Nat, q9 ∉ ([3] : List Nat) → sa18 s9 q9 = sa s9 q9 := xw_tr2 (by decide) whUsa hUsa
          replace hw : (L14, I15, M16, si17, sa18) = f_y_enter n dl sv j12 L8 I M si sa := hw
          replace hZ9 := bn5_s hZ9 hw
          exact W.vret hx hb hr (fun t ht hW => ⟨⟨(L14, I15, M16, si17, sa18), rfl, ⟨hX.mono (by omega), hUL, hUI, hUM, hUsi, hUsa, hZ9.symm.trans hR0⟩, by rw [ht]; exact hP, hD⟩, hS.F ht⟩) hS.2.2 dX8_beginStop_74
        · replace c10 : z2 = 5 := (nI_eq (a := z2) (b := 5) (by omega) (by omega)).mp c10
          replace hZ9 := ite_t hZ9 c10
          refine lv_iconst (v := 0) hx hb dX8_beginStop_63 (by decide) ?_
          refine lv_goto (tgt := 71) hx hb dX8_beginStop_64 (by decide) ?_
          have hFc := mw_free hD hS hA
          refine va_callv (va_runV (As := [.int (nI sv), .int 0]) (rest := []) ⟨hx, hb, hml, hown, hts⟩ (c_y_enter l dC dI h a e cI cJ cO cE L8 I M J n cap fE sd si sa dl (b) sv 0 H.size hX (by omega) (by omega) (by omega)) (cwV 2 hts wc_y_beginStop_y_enter_249 rfl rfl rfl (by decide +kernel) ⟨Nat.le_of_ble_eq_true rfl, Nat.le_of_ble_eq_true rfl⟩) ⟨fun a9 U g mk q => by obtain ⟨q0, q1, qP, qK, qD, qN⟩ := q; exact ⟨q0, q1, qP, va_K.moved (u := U) (U := U.calling g mk a9) (Vm.Alike.refl U.vm) qK, qD, pw_N.same (u := U) (U := U.calling g mk a9) rfl qN⟩, va_recv hK hP (ci := 9) (q0 := 0) rfl rfl, fun U hU hW => ⟨rfl, by rw [hU], by rw [hU]; exact hP, va_K.moved hW.alike hK, hD.weaken (fun _ _ _ _ => trivial), pw_N.warm hW hN⟩⟩ rfl rfl hl.1 rfl (lv_room (Nat.le_of_ble_eq_true rfl)) dX8_beginStop_71 ⟨Nat.le_of_ble_eq_true rfl, Nat.le_of_ble_eq_true rfl⟩) hS (fun q _ h => hFc q h) hFc (fun u t H1 locs ht hvm hw hB hz1 hk1 hS => ?_)
          obtain ⟨L20, I21, M22, si23, sa24⟩ := u
          replace hP := hB.1
          rw [ht] at hP
          replace hD : va_D A (xW h a e cI cJ cO cE L20 I21 M22 J n cap fE sd si23 sa24 dl) := hB.2.weaken (fun _ q _ h9 => hFc q.1 h9)
          clear hB
          generalize H1 = H at hP hS ⊢
          replace hP : va_P (dC, dI) vwCl (xW h a e cI cJ cO cE L20 I21 M22 J n cap fE sd si23 sa24 dl) H := hP
          obtain ⟨hwX, whUL, whUI, whUM, whUsi, whUsa, hw⟩ := hw
          replace hX : InvX n cap fE sd dl (b + 1) I21 J si23 := hwX
          replace hUL : ∀ j9 : Nat, j9 ∉ ([0, 5, 6, 7] : List Nat) → L20 j9 = L j9 := mw_tr (by decide) whUL hUL
          replace hUI : ∀ j9 : Nat, j9 ∉ ([12] : List Nat) → I21 j9 = I j9 := mw_tr (by decide) whUI hUI
          replace hUM : ∀ j9 : Nat, j9 ∉ ([8, 9] : List Nat) → M22 j9 = M j9 := mw_tr (by decide) whUM hUM
          replace hUsi : ∀ s9 q9 : Nat, q9 ∉ ([6, 7, 8, 9, 10, 11, 21, 22] : List Nat) → si23 s9 q9 = si s9 q9 := xw_tr2 (by decide) whUsi hUsi
          replace hUsa : ∀ s9 q9 : Nat, q9 ∉ ([3] : List Nat) → sa24 s9 q9 = sa s9 q9 := xw_tr2 (by decide) whUsa hUsa
          replace hw : (L20, I21, M22, si23, sa24) = f_y_enter n dl sv 0 L8 I M si sa := hw
          replace hZ9 := bn5_s hZ9 hw
          exact W.vret hx hb hr (fun t ht hW => ⟨⟨(L20, I21, M22, si23, sa24), rfl, ⟨hX.mono (by omega), hUL, hUI, hUM, hUsi, hUsa, hZ9.symm.trans hR0⟩, by rw [ht]; exact hP, hD⟩, hS.F ht⟩) hS.2.2 dX8_beginStop_74
      · replace c9 : z2 = 3 := (nI_eq (a := z2) (b := 3) (by omega) (by omega)).mp c9
        replace hZ9 := ite_t hZ9 c9
        exact W.vret hx hb hr (fun t ht hW => ⟨⟨(L8, I, M, si, sa), rfl, ⟨hX.mono (by omega), hUL, hUI, hUM, hUsi, hUsa, hZ9.symm.trans hR0⟩, by rw [ht]; exact hP, hD⟩, hS.F ht⟩) hS.2.2 dX8_beginStop_52
    · replace c6 : z2 = 4 := (nI_eq (a := z2) (b := 4) (by omega) (by omega)).mp c6
      replace hZ9 := ite_t hZ9 c6
      refine lv_aload_n hx hb dX8_beginStop_27 rfl (lv_at hl 1 rfl) ?_
      refine va_get (D := (dC, dI)) (ci := 9) (v := .ref (a 3)) (C := RX8) (T := TX8) (N := 14) hx hb hts in_y_beginStop_X8 hown hK hP 0 rfl rfl 3 (by decide) (hts (.fieldLink RX8 35 "ServiceTree" "jobs" "LServiceTree$Jobs;") (by decide +kernel)) (fun _ h9 => h9) rfl dX8_beginStop_28 ?_
      refine lv_iload_n hx hb dX8_beginStop_31 rfl (lv_at hl 2 rfl) ?_
      have hFc := mw_free hD hS hA
      refine va_callv (va_runV (As := [.int (nI sv)]) (rest := []) ⟨hx, hb, hml, hown, hts⟩ (c_y_jend l dC dI h a e cI cJ cO cE L I M J n cap fE sd si sa dl (b) sv H.size hX (by omega) ) (cwV 1 hts wc_y_beginStop_y_jend_299 rfl rfl rfl (by decide +kernel) ⟨Nat.le_of_ble_eq_true rfl, Nat.le_of_ble_eq_true rfl⟩) ⟨fun a9 U g mk q => by obtain ⟨q0, q1, qP, qK, qD, qN⟩ := q; exact ⟨q0, q1, qP, va_K.moved (u := U) (U := U.calling g mk a9) (Vm.Alike.refl U.vm) qK, qD, pw_N.same (u := U) (U := U.calling g mk a9) rfl qN⟩, va_recv hK hP (ci := 4) (q0 := 14) rfl rfl, fun U hU hW => ⟨rfl, by rw [hU], by rw [hU]; exact hP, va_K.moved hW.alike hK, hD.weaken (fun _ _ _ _ => trivial), pw_N.warm hW hN⟩⟩ rfl rfl hl.1 rfl (lv_room (Nat.le_of_ble_eq_true rfl)) dX8_beginStop_32 ⟨Nat.le_of_ble_eq_true rfl, Nat.le_of_ble_eq_true rfl⟩) hS (fun q _ h => hFc q h) hFc (fun u t H1 locs ht hvm hw hB hz1 hk1 hS => ?_)
      obtain ⟨L26, rfl⟩ : ∃ z9, z9 = u := ⟨_, rfl⟩
      replace hP := hB.1
      rw [ht] at hP
      replace hD : va_D A (xW h a e cI cJ cO cE L26 I M J n cap fE sd si sa dl) := hB.2.weaken (fun _ q _ h9 => hFc q.1 h9)
      clear hB
      generalize H1 = H at hP hS ⊢
      replace hP : va_P (dC, dI) vwCl (xW h a e cI cJ cO cE L26 I M J n cap fE sd si sa dl) H := hP
      obtain ⟨hwX, whUL, hw⟩ := hw
      replace hX : InvX n cap fE sd dl (b) I J si := hwX
      replace hUL : ∀ j9 : Nat, j9 ∉ ([0, 5, 6, 7] : List Nat) → L26 j9 = L j9 := mw_tr (by decide) whUL hUL
      replace hw : L26 = f_y_jend n dl sv L := hw
      replace hZ9 := bnd_s hZ9 hw
      exact W.vret hx hb hr (fun t ht hW => ⟨⟨(L26, I, M, si, sa), rfl, ⟨hX.mono (by omega), hUL, hUI, hUM, hUsi, hUsa, hZ9.symm.trans hR0⟩, by rw [ht]; exact hP, hD⟩, hS.F ht⟩) hS.2.2 dX8_beginStop_35
def f_y_beginJobs_15 (n : Nat) (dl : Nat → Nat)  : Nat → Nat → (Nat → Int64) → (Nat → Int32) → (Nat → Nat → Int64) → (Nat → Nat → Int32) → (Nat → Nat → Nat → Int32) → (Nat → (Nat → Int64) → (Nat → Int32) → (Nat → Nat → Int64) → (Nat → Nat → Int32) → (Nat → Nat → Nat → Int32) → (Nat → Int64) × (Nat → Int32) × (Nat → Nat → Int64) × (Nat → Nat → Int32) × (Nat → Nat → Nat → Int32)) → (Nat → Int64) × (Nat → Int32) × (Nat → Nat → Int64) × (Nat → Nat → Int32) × (Nat → Nat → Nat → Int32)
  | 0, i4, L8, I9, M10, si11, sa12, K9_15 => K9_15 i4  L8 I9 M10 si11 sa12
  | fu5 + 1, i4, L8, I9, M10, si11, sa12, K9_15 => if 40 ≤ i4 then (K9_15 i4 L8 I9 M10 si11 sa12) else (bnd (f_y_leastReady n dl  L8 M10) (fun (r14 : Int32) => if (0 : Int32) ≤ r14 ∧ r14 < nI n then (bnd (r14.toNatClampNeg) (fun (j16 : Nat) => bnd (L8 5) (fun (x17 : Int64) => bnd (f_y_holds n dl x17 j16 ) (fun (r18 : Int32) => if r18 = (0 : Int32) then (bn5 (f_y_beginStop n dl j16 L8 I9 M10 si11 sa12) (fun (L21 : Nat → Int64) (I22 : Nat → Int32) (M23 : Nat → Nat → Int64) (si24 : Nat → Nat → Int32) (sa25 : Nat → Nat → Nat → Int32) => f_y_beginJobs_15 n dl  fu5 (i4 + 1)  L21 I22 M23 si24 sa25 K9_15)) else (bn5 (f_y_beginStart n dl j16 L8 I9 M10 si11 sa12) (fun (L27 : Nat → Int64) (I28 : Nat → Int32) (M29 : Nat → Nat → Int64) (si30 : Nat → Nat → Int32) (sa31 : Nat → Nat → Nat → Int32) => f_y_beginJobs_15 n dl  fu5 (i4 + 1)  L27 I28 M29 si30 sa31 K9_15)))))) else ((L8, I9, M10, si11, sa12))))
def f_y_beginJobs (n : Nat) (dl : Nat → Nat)  (L : Nat → Int64) (I : Nat → Int32) (M : Nat → Nat → Int64) (si : Nat → Nat → Int32) (sa : Nat → Nat → Nat → Int32) : (Nat → Int64) × (Nat → Int32) × (Nat → Nat → Int64) × (Nat → Nat → Int32) × (Nat → Nat → Nat → Int32) := bnd (f_y_left n dl  L) (fun (r1 : Int64) => bnd (lg_cmp r1 (0 : Int64)) (fun (x2 : Int32) => if x2 = (0 : Int32) then ((L, I, M, si, sa)) else (f_y_beginJobs_15 n dl  (40 + 1) 0  L I M si sa (fun (i4 : Nat) (L8 : Nat → Int64) (I9 : Nat → Int32) (M10 : Nat → Nat → Int64) (si11 : Nat → Nat → Int32) (sa12 : Nat → Nat → Nat → Int32) => (L8, I9, M10, si11, sa12)))))
def wq_y_beginJobs : List Cond := ([.code yX8_beginJobs cX8_beginJobs 3 none, .fieldLink RX8 35 "ServiceTree" "jobs" "LServiceTree$Jobs;", .methodLink RX8 110 yX3_left, .instanceMethod yX3_left, .selects RX3 yX3_left yX3_left, .initialized RX3, .methodLink RX8 289 yX3_leastReady, .instanceMethod yX3_leastReady, .selects RX3 yX3_leastReady yX3_leastReady, .methodLink RX8 82 yX8_exists, .instanceMethod yX8_exists, .selects RX8 yX8_exists yX8_exists, .initialized RX8, .methodLink RX8 114 yX8_holds, .static yX8_holds, .methodLink RX8 296 yX8_beginStop, .instanceMethod yX8_beginStop, .selects RX8 yX8_beginStop yX8_beginStop, .methodLink RX8 293 yX8_beginStart, .instanceMethod yX8_beginStart, .selects RX8 yX8_beginStart yX8_beginStart] : List Cond) ++ (wsX30 ++ (wsX80 ++ (wq_y_left ++ (wq_y_leastReady ++ (wq_y_exists ++ (wq_y_holds ++ (wq_y_beginStop ++ (wq_y_beginStart))))))))
theorem in_y_beginJobs_X3 : ∀ w ∈ wsX30, w ∈ wq_y_beginJobs := fun _ h => List.mem_append_right _ (List.mem_append_left _ (h))
theorem in_y_beginJobs_X8 : ∀ w ∈ wsX80, w ∈ wq_y_beginJobs := fun _ h => List.mem_append_right _ (List.mem_append_right _ (List.mem_append_left _ (h)))
set_option maxRecDepth 20000 in
theorem wi_y_beginJobs : ∀ w ∈ wq_y_beginJobs, w ∈ lw_tbl := List.forall_mem_append.mpr ⟨(wix [633, 227, 483, 484, 485, 66, 634, 635, 636, 449, 451, 3, 60, 487, 488, 669, 671, 18, 647, 649, 16] rfl), List.forall_mem_append.mpr ⟨inKX3, List.forall_mem_append.mpr ⟨inKX8, List.forall_mem_append.mpr ⟨wi_y_left, List.forall_mem_append.mpr ⟨wi_y_leastReady, List.forall_mem_append.mpr ⟨wi_y_exists, List.forall_mem_append.mpr ⟨wi_y_holds, List.forall_mem_append.mpr ⟨wi_y_beginStop, wi_y_beginStart⟩⟩⟩⟩⟩⟩⟩⟩
set_option maxRecDepth 20000 in
theorem wg_y_beginJobs : GoodIn wq_y_beginJobs wq_y_beginJobs := goodIn_sub (fun _ h => h) (by decide +kernel)
set_option maxRecDepth 20000 in
theorem wc_y_beginJobs_y_left_110 : GoodIn wq_y_beginJobs (wsV RX8 110 RX3 yX3_left wq_y_left) := goodIn_app (goodIn_of _ (by decide +kernel)) (fun w h => ⟨List.mem_append_right _ (List.mem_append_right _ (List.mem_append_right _ (List.mem_append_left _ (h)))), (wg_y_left w h).2⟩)
set_option maxRecDepth 20000 in
theorem wc_y_beginJobs_y_leastReady_289 : GoodIn wq_y_beginJobs (wsV RX8 289 RX3 yX3_leastReady wq_y_leastReady) := goodIn_app (goodIn_of _ (by decide +kernel)) (fun w h => ⟨List.mem_append_right _ (List.mem_append_right _ (List.mem_append_right _ (List.mem_append_right _ (List.mem_append_left _ (h))))), (wg_y_leastReady w h).2⟩)
set_option maxRecDepth 20000 in
theorem wc_y_beginJobs_y_exists_82 : GoodIn wq_y_beginJobs (wsV RX8 82 RX8 yX8_exists wq_y_exists) := goodIn_app (goodIn_of _ (by decide +kernel)) (fun w h => ⟨List.mem_append_right _ (List.mem_append_right _ (List.mem_append_right _ (List.mem_append_right _ (List.mem_append_right _ (List.mem_append_left _ (h)))))), (wg_y_exists w h).2⟩)
set_option maxRecDepth 20000 in
theorem wc_y_beginJobs_y_holds_114 : GoodIn wq_y_beginJobs (va_wsS RX8 114 yX8_holds wq_y_holds) := goodIn_app (goodIn_of _ (by decide +kernel)) (fun w h => ⟨List.mem_append_right _ (List.mem_append_right _ (List.mem_append_right _ (List.mem_append_right _ (List.mem_append_right _ (List.mem_append_right _ (List.mem_append_left _ (h))))))), (wg_y_holds w h).2⟩)
set_option maxRecDepth 20000 in
theorem wc_y_beginJobs_y_beginStop_296 : GoodIn wq_y_beginJobs (wsV RX8 296 RX8 yX8_beginStop wq_y_beginStop) := goodIn_app (goodIn_of _ (by decide +kernel)) (fun w h => ⟨List.mem_append_right _ (List.mem_append_right _ (List.mem_append_right _ (List.mem_append_right _ (List.mem_append_right _ (List.mem_append_right _ (List.mem_append_right _ (List.mem_append_left _ (h)))))))), (wg_y_beginStop w h).2⟩)
set_option maxRecDepth 20000 in
theorem wc_y_beginJobs_y_beginStart_293 : GoodIn wq_y_beginJobs (wsV RX8 293 RX8 yX8_beginStart wq_y_beginStart) := goodIn_app (goodIn_of _ (by decide +kernel)) (fun w h => ⟨List.mem_append_right _ (List.mem_append_right _ (List.mem_append_right _ (List.mem_append_right _ (List.mem_append_right _ (List.mem_append_right _ (List.mem_append_right _ (List.mem_append_right _ (h)))))))), (wg_y_beginStart w h).2⟩)
def rm_y_beginJobs : Room := { frames := 5, cells := 0, slots := 0, locals := 111 }
set_option maxHeartbeats 4000000 in
set_option maxRecDepth 100000 in
theorem c_y_beginJobs (l : Launch) (dC : Nat → ClassId) (dI : Nat → Nat → Nat) (h : Nat) (a : Nat → Nat) (e : Nat) (cI cJ cO cE : ClassId) (L : Nat → Int64) (I : Nat → Int32) (M : Nat → Nat → Int64) (J : Nat → Nat → Int32) (n cap : Nat) (fE : Nat → Option Nat) (sd : Nat → Nat → Nat) (si : Nat → Nat → Int32) (sa : Nat → Nat → Nat → Int32) (dl : Nat → Nat) (b : Nat)  (sz : Nat) (hX0 : InvX n cap fE sd dl b I J si) (hb0 : b + 40 < 2147483648)  : Met l yX8_beginJobs wq_y_beginJobs rm_y_beginJobs (va_Pc [.ref h] (fun U => U.heap.size = sz ∧ va_P (dC, dI) vwCl (xW h a e cI cJ cO cE L I M J n cap fE sd si sa dl) U.heap ∧ va_K (dC, dI) vwCl (xT cI cJ cO cE) U ∧ va_D (fun _ => True) (xW h a e cI cJ cO cE L I M J n cap fE sd si sa dl) ∧ pw_N U)) (va_Qv (fun (u : (Nat → Int64) × (Nat → Int32) × (Nat → Nat → Int64) × (Nat → Nat → Int32) × (Nat → Nat → Nat → Int32)) => InvX n cap fE sd dl (b + 40) u.2.1 J u.2.2.2.1 ∧ (∀ j9 : Nat, j9 ∉ ([0, 5, 6, 7] : List Nat) → u.1 j9 = L j9) ∧ (∀ j9 : Nat, j9 ∉ ([12] : List Nat) → u.2.1 j9 = I j9) ∧ (∀ j9 : Nat, j9 ∉ ([8, 9] : List Nat) → u.2.2.1 j9 = M j9) ∧ (∀ s9 q9 : Nat, q9 ∉ ([6, 7, 8, 9, 10, 11, 21, 22] : List Nat) → u.2.2.2.1 s9 q9 = si s9 q9) ∧ (∀ s9 q9 : Nat, q9 ∉ ([3] : List Nat) → u.2.2.2.2 s9 q9 = sa s9 q9) ∧ (u = f_y_beginJobs n dl  L I M si sa)) (fun (u : (Nat → Int64) × (Nat → Int32) × (Nat → Nat → Int64) × (Nat → Nat → Int32) × (Nat → Nat → Nat → Int32)) (t : State) => va_P (dC, dI) vwCl (xW h a e cI cJ cO cE u.1 u.2.1 u.2.2.1 J n cap fE sd u.2.2.2.1 u.2.2.2.2 dl) t.heap ∧ va_D (va_A (xW h a e cI cJ cO cE L I M J n cap fE sd si sa dl) sz) (xW h a e cI cJ cO cE u.1 u.2.1 u.2.2.1 J n cap fE sd u.2.2.2.1 u.2.2.2.2 dl)) (va_A (xW h a e cI cJ cO cE L I M J n cap fE sd si sa dl) sz)) 0 0 (va_A (xW h a e cI cJ cO cE L I M J n cap fE sd si sa dl) sz) := by
  have hn : n ≤ 40 := hX0.1.1
  have hX := hX0
  have hUL : ∀ j9 : Nat, j9 ∉ ([0, 5, 6, 7] : List Nat) → L j9 = L j9 := fun _ _ => rfl
  have hUI : ∀ j9 : Nat, j9 ∉ ([12] : List Nat) → I j9 = I j9 := fun _ _ => rfl
  have hUM : ∀ j9 : Nat, j9 ∉ ([8, 9] : List Nat) → M j9 = M j9 := fun _ _ => rfl
  have hUsi : ∀ s9 q9 : Nat, q9 ∉ ([6, 7, 8, 9, 10, 11, 21, 22] : List Nat) → si s9 q9 = si s9 q9 := fun _ _ _ => rfl
  have hUsa : ∀ s9 q9 : Nat, q9 ∉ ([3] : List Nat) → sa s9 q9 = sa s9 q9 := fun _ _ _ => rfl
  refine Met.ofW (cc := cX8_beginJobs) (maxL := 3) (ret := none) (by decide) rfl ?_
  intro p e9 s m args below meth c s₁ B hml hv
  obtain ⟨rfl, hsz, hP, hK, hD0, hN⟩ := hv
  have hx := B.exec
  have hb := B.bytes
  have hr := B.returns
  have hts := atoms_spec (ws := wq_y_beginJobs) B.pre
  have hown : s.vm.findClass RX8 = some m.cls := findClass_of_methodNamed B.named
  have hlocks := B.notSynchronized
  subst hsz
  have hD := hD0.self (sz := s.heap.size)
  generalize hAe : va_A (xW h a e cI cJ cO cE L I M J n cap fE sd si sa dl) s.heap.size = A at hD ⊢
  have hA : ∀ q : Nat, s.heap.size ≤ q → A q := fun q h => by rw [← hAe]; exact Or.inr h
  have hS : va_S A s.heap s.heap [] := va_S.rf
  have hl := lv_entry ([.ref h]) (n := 3) (Nat.le_of_ble_eq_true rfl)
  rw [lg_entry_eq]
  generalize (lg_sl ([.ref h]) ++ List.replicate (3 - (lg_sl ([.ref h])).length) Slot.unset).toArray = ls at hl ⊢
  have hl : lv_has ls 3 [(0, .ref h)] := hl
  refine mw_Q (fun Q0 hQ => ?_)
  obtain ⟨RES, hR0⟩ : ∃ R9, R9 = f_y_beginJobs n dl  L I M si sa := ⟨_, rfl⟩
  have hZ9 := hR0
  unfold f_y_beginJobs at hZ9
  refine lv_aload_n hx hb dX8_beginJobs_0 rfl (lv_at hl 0 rfl) ?_
  refine va_get (D := (dC, dI)) (ci := 9) (v := .ref (a 3)) (C := RX8) (T := TX8) (N := 14) hx hb hts in_y_beginJobs_X8 hown hK hP 0 rfl rfl 3 (by decide) (hts (.fieldLink RX8 35 "ServiceTree" "jobs" "LServiceTree$Jobs;") (by decide +kernel)) (fun _ h9 => h9) rfl dX8_beginJobs_1 ?_
  have hFc := mw_free hD hS hA
  refine va_calll (va_runV (As := []) (rest := []) ⟨hx, hb, hml, hown, hts⟩ (c_y_left l dC dI h a e cI cJ cO cE L I M J n cap fE sd si sa dl (b)  s.heap.size hX (by omega) ) (cwV 0 hts wc_y_beginJobs_y_left_110 rfl rfl rfl (by decide +kernel) ⟨Nat.le_of_ble_eq_true rfl, Nat.le_of_ble_eq_true rfl⟩) ⟨fun a9 U g mk q => by obtain ⟨q0, q1, qP, qK, qD, qN⟩ := q; exact ⟨q0, q1, qP, va_K.moved (u := U) (U := U.calling g mk a9) (Vm.Alike.refl U.vm) qK, qD, pw_N.same (u := U) (U := U.calling g mk a9) rfl qN⟩, va_recv hK hP (ci := 4) (q0 := 14) rfl rfl, fun U hU hW => ⟨rfl, by rw [hU], by rw [hU]; exact hP, va_K.moved hW.alike hK, hD.weaken (fun _ _ _ _ => trivial), pw_N.warm hW hN⟩⟩ rfl rfl hl.1 rfl (lv_room (Nat.le_of_ble_eq_true rfl)) dX8_beginJobs_4 ⟨Nat.le_of_ble_eq_true rfl, Nat.le_of_ble_eq_true rfl⟩) hS (fun q _ h => hFc q h) hFc (fun r1 u t H1 locs ht hvm hw hB hz1 hk1 hS => ?_)
  replace hP := hB.1
  rw [ht] at hP
  replace hD : va_D A (xW h a e cI cJ cO cE L I M J n cap fE sd si sa dl) := hB.2.weaken (fun _ q _ h9 => hFc q.1 h9)
  clear hB
  generalize H1 = H at hP hS ⊢
  replace hP : va_P (dC, dI) vwCl (xW h a e cI cJ cO cE L I M J n cap fE sd si sa dl) H := hP
  replace hw : r1 = f_y_left n dl  L := hw
  replace hZ9 := bnd_s hZ9 hw
  refine lv_lconst (v := 0) hx hb dX8_beginJobs_7 (by decide) ?_
  refine W.lcmp hx hb dX8_beginJobs_8 ?_
  refine lv_topi (fun x2 ex2 => ?_)
  replace hZ9 := bnd_s hZ9 ex2
  refine lv_if_ne (tgt := 13) hx hb dX8_beginJobs_9 (by decide) (fun c3 => ?_) (fun c3 => ?_)
  · replace hZ9 := ite_f hZ9 c3
    refine lv_iconst (v := 0) hx hb dX8_beginJobs_13 (by decide) ?_
    refine lv_istore_n (lv' := [(1, .int 0), (0, .ref h)]) hx hb dX8_beginJobs_14 rfl hl (by decide) rfl (fun ls hl => ?_)
    obtain ⟨K9_15, hK9_15, hZ9⟩ := lp_gen hZ9
    have lp7 : ∀ (fu5 i4 : Nat)  (L8 : Nat → Int64) (I9 : Nat → Int32) (M10 : Nat → Nat → Int64) (si11 : Nat → Nat → Int32) (sa12 : Nat → Nat → Nat → Int32) (H : Heap) (locs : List Loc) (ls : Array Slot), 40 < i4 + fu5 → i4 ≤ 40 → InvX n cap fE sd dl (b + 1 * i4) I9 J si11 → (∀ j9 : Nat, j9 ∉ ([0, 5, 6, 7] : List Nat) → L8 j9 = L j9) → (∀ j9 : Nat, j9 ∉ ([12] : List Nat) → I9 j9 = I j9) → (∀ j9 : Nat, j9 ∉ ([8, 9] : List Nat) → M10 j9 = M j9) → (∀ s9 q9 : Nat, q9 ∉ ([6, 7, 8, 9, 10, 11, 21, 22] : List Nat) → si11 s9 q9 = si s9 q9) → (∀ s9 q9 : Nat, q9 ∉ ([3] : List Nat) → sa12 s9 q9 = sa s9 q9) → RES = f_y_beginJobs_15 n dl  fu5 i4  L8 I9 M10 si11 sa12 K9_15 → va_P (dC, dI) vwCl (xW h a e cI cJ cO cE L8 I9 M10 J n cap fE sd si11 sa12 dl) H → va_D A (xW h a e cI cJ cO cE L8 I9 M10 J n cap fE sd si11 sa12 dl) → va_S A s.heap H locs → lv_has ls 3 [(1, .int (nI i4)), (0, .ref h)] → W p l e9 (headSpec wq_y_beginJobs rm_y_beginJobs).room s m ([.ref h] : List Value).toArray below meth c H locs 0 0 Q0 (F0 m 15 ls []) := by
      intro fu5
      induction fu5 with
      | zero =>
        intro i4  L8 I9 M10 si11 sa12 H locs ls hf hi
        exact absurd hf (by omega)
      | succ fu5 ih6 =>
        intro i4  L8 I9 M10 si11 sa12 H locs ls hfi4 hii4 hX hUL hUI hUM hUsi hUsa hZ9 hP hD hS hl
        rw [f_y_beginJobs_15] at hZ9
        refine lv_iload_n hx hb dX8_beginJobs_15 rfl (lv_at hl 0 rfl) ?_
        refine lv_bipush (v := 40) hx hb dX8_beginJobs_16 (by decide) ?_
        refine lv_icmp_ge (tgt := 71) hx hb dX8_beginJobs_18 (by decide) (fun c13 => ?_) (fun c13 => ?_)
        · replace c13 : 40 ≤ i4 := (nI_leI (a := 40) (b := i4) (by omega) (by omega)).mp c13
          replace hZ9 := ite_t hZ9 c13
          replace hZ9 := lp_app6 hK9_15 hZ9
          rw [hQ]
          exact W.vret hx hb hr (fun t ht hW => ⟨⟨(L8, I9, M10, si11, sa12), rfl, ⟨hX.mono (by omega), hUL, hUI, hUM, hUsi, hUsa, hZ9.symm.trans hR0⟩, by rw [ht]; exact hP, hD⟩, hS.F ht⟩) hS.2.2 dX8_beginJobs_71
        · replace c13 : ¬ (40 ≤ i4) := fun q9 => c13 ((nI_leI (a := 40) (b := i4) (by omega) (by omega)).mpr q9)
          replace hZ9 := ite_f hZ9 c13
          refine lv_aload_n hx hb dX8_beginJobs_21 rfl (lv_at hl 1 rfl) ?_
          refine va_get (D := (dC, dI)) (ci := 9) (v := .ref (a 3)) (C := RX8) (T := TX8) (N := 14) hx hb hts in_y_beginJobs_X8 hown hK hP 0 rfl rfl 3 (by decide) (hts (.fieldLink RX8 35 "ServiceTree" "jobs" "LServiceTree$Jobs;") (by decide +kernel)) (fun _ h9 => h9) rfl dX8_beginJobs_22 ?_
          have hFc := mw_free hD hS hA
          refine va_calli (va_runV (As := []) (rest := []) ⟨hx, hb, hml, hown, hts⟩ (c_y_leastReady l dC dI h a e cI cJ cO cE L8 I9 M10 J n cap fE sd si11 sa12 dl (b + 1 * i4)  H.size hX (by omega) ) (cwV 0 hts wc_y_beginJobs_y_leastReady_289 rfl rfl rfl (by decide +kernel) ⟨Nat.le_of_ble_eq_true rfl, Nat.le_of_ble_eq_true rfl⟩) ⟨fun a9 U g mk q => by obtain ⟨q0, q1, qP, qK, qD, qN⟩ := q; exact ⟨q0, q1, qP, va_K.moved (u := U) (U := U.calling g mk a9) (Vm.Alike.refl U.vm) qK, qD, pw_N.same (u := U) (U := U.calling g mk a9) rfl qN⟩, va_recv hK hP (ci := 4) (q0 := 14) rfl rfl, fun U hU hW => ⟨rfl, by rw [hU], by rw [hU]; exact hP, va_K.moved hW.alike hK, hD.weaken (fun _ _ _ _ => trivial), pw_N.warm hW hN⟩⟩ rfl rfl hl.1 rfl (lv_room (Nat.le_of_ble_eq_true rfl)) dX8_beginJobs_25 ⟨Nat.le_of_ble_eq_true rfl, Nat.le_of_ble_eq_true rfl⟩) hS (fun q _ h => hFc q h) hFc (fun r14 u t H1 locs ht hvm hw hB hz1 hk1 hS => ?_)
          replace hP := hB.1
          rw [ht] at hP
          replace hD : va_D A (xW h a e cI cJ cO cE L8 I9 M10 J n cap fE sd si11 sa12 dl) := hB.2.weaken (fun _ q _ h9 => hFc q.1 h9)
          clear hB
          generalize H1 = H at hP hS ⊢
          replace hP : va_P (dC, dI) vwCl (xW h a e cI cJ cO cE L8 I9 M10 J n cap fE sd si11 sa12 dl) H := hP
          replace hw : r14 = f_y_leastReady n dl  L8 M10 := hw
          replace hZ9 := bnd_s hZ9 hw
          refine lv_istore_n (lv' := [(2, .int r14), (1, .int (nI i4)), (0, .ref h)]) hx hb dX8_beginJobs_28 rfl hl (by decide) rfl (fun ls hl => ?_)
          refine lv_aload_n hx hb dX8_beginJobs_29 rfl (lv_at hl 2 rfl) ?_
          refine lv_iload_n hx hb dX8_beginJobs_30 rfl (lv_at hl 0 rfl) ?_
          have hFc := mw_free hD hS hA
          refine va_calli (va_runV (As := [.int r14]) (rest := []) ⟨hx, hb, hml, hown, hts⟩ (c_y_exists l dC dI h a e cI cJ cO cE L8 I9 M10 J n cap fE sd si11 sa12 dl (b + 1 * i4) r14 H.size hX (by omega) ) (cwV 1 hts wc_y_beginJobs_y_exists_82 rfl rfl rfl (by decide +kernel) ⟨Nat.le_of_ble_eq_true rfl, Nat.le_of_ble_eq_true rfl⟩) ⟨fun a9 U g mk q => by obtain ⟨q0, q1, qP, qK, qD, qN⟩ := q; exact ⟨q0, q1, qP, va_K.moved (u := U) (U := U.calling g mk a9) (Vm.Alike.refl U.vm) qK, qD, pw_N.same (u := U) (U := U.calling g mk a9) rfl qN⟩, va_recv hK hP (ci := 9) (q0 := 0) rfl rfl, fun U hU hW => ⟨rfl, by rw [hU], by rw [hU]; exact hP, va_K.moved hW.alike hK, hD.weaken (fun _ _ _ _ => trivial), pw_N.warm hW hN⟩⟩ rfl rfl hl.1 rfl (lv_room (Nat.le_of_ble_eq_true rfl)) dX8_beginJobs_31 ⟨Nat.le_of_ble_eq_true rfl, Nat.le_of_ble_eq_true rfl⟩) hS (fun q _ h => hFc q h) hFc (fun r15 u t H1 locs ht hvm hw hB hz1 hk1 hS => ?_)
          replace hP := hB.1
          rw [ht] at hP
          replace hD : va_D A (xW h a e cI cJ cO cE L8 I9 M10 J n cap fE sd si11 sa12 dl) := hB.2.weaken (fun _ q _ h9 => hFc q.1 h9)
          clear hB
          generalize H1 = H at hP hS ⊢
          replace hP : va_P (dC, dI) vwCl (xW h a e cI cJ cO cE L8 I9 M10 J n cap fE sd si11 sa12 dl) H := hP
          rcases hw with ⟨rfl, j16, hj16, ej16⟩ | ⟨rfl, noj16⟩
          · replace hZ9 := ite_t hZ9 (show (0 : Int32) ≤ r14 ∧ r14 < nI n by rw [ej16]; exact ⟨nI_pos' (by omega), nI_lt hj16 (by omega)⟩)
            replace hZ9 := bnd_s hZ9 (show j16 = r14.toNatClampNeg by rw [ej16, nI_clamp (by omega)])
            subst ej16
            refine lv_if_ne (tgt := 38) hx hb dX8_beginJobs_34 (by decide) (fun _ => ?_) (fun c9 => absurd c9 (by decide))
            refine lv_aload_n hx hb dX8_beginJobs_38 rfl (lv_at hl 2 rfl) ?_
            refine va_get (D := (dC, dI)) (ci := 9) (v := .ref (a 3)) (C := RX8) (T := TX8) (N := 14) hx hb hts in_y_beginJobs_X8 hown hK hP 0 rfl rfl 3 (by decide) (hts (.fieldLink RX8 35 "ServiceTree" "jobs" "LServiceTree$Jobs;") (by decide +kernel)) (fun _ h9 => h9) rfl dX8_beginJobs_39 ?_
            refine va_getN (D := (dC, dI)) (ci := 4) (v := .long (L8 5)) (C := RX3) (T := TX3) (N := 4) hx hb hts in_y_beginJobs_X3 hown hK hP 14 rfl rfl 1 (by decide) (va_Nw.use rfl (hN (.fieldLinkNest RX8 292 "ServiceTree$Jobs" "starts" "J" "ServiceTree") (by decide +kernel))) (fun _ h9 => h9) rfl dX8_beginJobs_42 ?_
            refine lv_topl (fun x17 ex17 => ?_)
            replace hZ9 := bnd_s hZ9 ex17
            refine lv_iload_n hx hb dX8_beginJobs_45 rfl (lv_at hl 0 rfl) ?_
            have hFc := mw_free hD hS hA
            refine va_calli (va_runS (As := [.long x17, .int (nI j16)]) (rest := []) ⟨hx, hb, hml, hown, hts⟩ (c_y_holds l dC dI h a e cI cJ cO cE L8 I9 M10 J n cap fE sd si11 sa12 dl (b + 1 * i4) x17 j16 H.size hX (by omega) ) (va_cwS 2 hts wc_y_beginJobs_y_holds_114 rfl rfl rfl (by decide +kernel) ⟨Nat.le_of_ble_eq_true rfl, Nat.le_of_ble_eq_true rfl⟩) ⟨fun a9 U g mk q => by obtain ⟨q0, q1, qP, qK, qD, qN⟩ := q; exact ⟨q0, q1, qP, va_K.moved (u := U) (U := U.calling g mk a9) (Vm.Alike.refl U.vm) qK, qD, pw_N.same (u := U) (U := U.calling g mk a9) rfl qN⟩, fun U hU hW => ⟨rfl, by rw [hU], by rw [hU]; exact hP, va_K.moved hW.alike hK, hD.weaken (fun _ _ _ _ => trivial), pw_N.warm hW hN⟩⟩ rfl rfl hl.1 rfl (lv_room (Nat.le_of_ble_eq_true rfl)) dX8_beginJobs_46 ⟨Nat.le_of_ble_eq_true rfl, Nat.le_of_ble_eq_true rfl⟩) hS (fun q _ h => hFc q h) hFc (fun r18 u t H1 locs ht hvm hw hB hz1 hk1 hS => ?_)
            replace hP := hB.1
            rw [ht] at hP
            replace hD : va_D A (xW h a e cI cJ cO cE L8 I9 M10 J n cap fE sd si11 sa12 dl) := hB.2.weaken (fun _ q _ h9 => hFc q.1 h9)
            clear hB
            generalize H1 = H at hP hS ⊢
            replace hP : va_P (dC, dI) vwCl (xW h a e cI cJ cO cE L8 I9 M10 J n cap fE sd si11 sa12 dl) H := hP
            obtain ⟨hw, hwe⟩ := hw
            replace hw : r18 = f_y_holds n dl x17 j16  := hw
            replace hZ9 := bnd_s hZ9 hw
            have br18 := hwe
            refine lv_if_eq (tgt := 60) hx hb dX8_beginJobs_49 (by decide) (fun c19 => ?_) (fun c19 => ?_)
            · replace hZ9 := ite_t hZ9 c19
              refine lv_aload_n hx hb dX8_beginJobs_60 rfl (lv_at hl 2 rfl) ?_
              refine lv_iload_n hx hb dX8_beginJobs_61 rfl (lv_at hl 0 rfl) ?_
              have hFc := mw_free hD hS hA
              refine va_callv (va_runV (As := [.int (nI j16)]) (rest := []) ⟨hx, hb, hml, hown, hts⟩ (c_y_beginStop l dC dI h a e cI cJ cO cE L8 I9 M10 J n cap fE sd si11 sa12 dl (b + 1 * i4) j16 H.size hX (by omega) (by omega)) (cwV 1 hts wc_y_beginJobs_y_beginStop_296 rfl rfl rfl (by decide +kernel) ⟨Nat.le_of_ble_eq_true rfl, Nat.le_of_ble_eq_true rfl⟩) ⟨fun a9 U g mk q => by obtain ⟨q0, q1, qP, qK, qD, qN⟩ := q; exact ⟨q0, q1, qP, va_K.moved (u := U) (U := U.calling g mk a9) (Vm.Alike.refl U.vm) qK, qD, pw_N.same (u := U) (U := U.calling g mk a9) rfl qN⟩, va_recv hK hP (ci := 9) (q0 := 0) rfl rfl, fun U hU hW => ⟨rfl, by rw [hU], by rw [hU]; exact hP, va_K.moved hW.alike hK, hD.weaken (fun _ _ _ _ => trivial), pw_N.warm hW hN⟩⟩ rfl rfl hl.1 rfl (lv_room (Nat.le_of_ble_eq_true rfl)) dX8_beginJobs_62 ⟨Nat.le_of_ble_eq_true rfl, Nat.le_of_ble_eq_true rfl⟩) hS (fun q _ h => hFc q h) hFc (fun u t H1 locs ht hvm hw hB hz1 hk1 hS => ?_)
              obtain ⟨L21, I22, M23, si24, sa25⟩ := u
              replace hP := hB.1
              rw [ht] at hP
              replace hD : va_D A (xW h a e cI cJ cO cE L21 I22 M23 J n cap fE sd si24 sa25 dl) := hB.2.weaken (fun _ q _ h9 => hFc q.1 h9)
              clear hB
              generalize H1 = H at hP hS ⊢
              replace hP : va_P (dC, dI) vwCl (xW h a e cI cJ cO cE L21 I22 M23 J n cap fE sd si24 sa25 dl) H := hP
              obtain ⟨hwX, whUL, whUI, whUM, whUsi, whUsa, hw⟩ := hw
              replace hX : InvX n cap fE sd dl (b + 1 * i4 + 1) I22 J si24 := hwX
              replace hUL : ∀ j9 : Nat, j9 ∉ ([0, 5, 6, 7] : List Nat) → L21 j9 = L j9 := mw_tr (by decide) whUL hUL
              replace hUI : ∀ j9 : Nat, j9 ∉ ([12] : List Nat) → I22 j9 = I j9 := mw_tr (by decide) whUI hUI
              replace hUM : ∀ j9 : Nat, j9 ∉ ([8, 9] : List Nat) → M23 j9 = M j9 := mw_tr (by decide) whUM hUM
              replace hUsi : ∀ s9 q9 : Nat, q9 ∉ ([6, 7, 8, 9, 10, 11, 21, 22] : List Nat) → si24 s9 q9 = si s9 q9 := xw_tr2 (by decide) whUsi hUsi
              replace hUsa : ∀ s9 q9 : Nat, q9 ∉ ([3] : List Nat) → sa25 s9 q9 = sa s9 q9 := xw_tr2 (by decide) whUsa hUsa
              replace hw : (L21, I22, M23, si24, sa25) = f_y_beginStop n dl j16 L8 I9 M10 si11 sa12 := hw
              replace hZ9 := bn5_s hZ9 hw
              refine lv_iinc (v := (nI (i4 + 1))) (lv' := [(1, .int (nI (i4 + 1))), (2, .int (nI j16)), (0, .ref h)]) hx hb dX8_beginJobs_65 hl (k := 1) rfl (nI_add i4 1) (by decide) rfl (fun ls hl => ?_)
              refine lv_goto (tgt := 15) hx hb dX8_beginJobs_68 (by decide) ?_
              exact ih6 (i4 + 1)  L21 I22 M23 si24 sa25 _ _ _ (by omega) (by omega) (hX.mono (by omega)) hUL hUI hUM hUsi hUsa  hZ9 hP hD hS (lv_sub hl [0, 2] rfl)
            · replace hZ9 := ite_f hZ9 c19
              refine lv_aload_n hx hb dX8_beginJobs_52 rfl (lv_at hl 2 rfl) ?_
              refine lv_iload_n hx hb dX8_beginJobs_53 rfl (lv_at hl 0 rfl) ?_
              have hFc := mw_free hD hS hA
              refine va_callv (va_runV (As := [.int (nI j16)]) (rest := []) ⟨hx, hb, hml, hown, hts⟩ (c_y_beginStart l dC dI h a e cI cJ cO cE L8 I9 M10 J n cap fE sd si11 sa12 dl (b + 1 * i4) j16 H.size hX (by omega) (by omega)) (cwV 1 hts wc_y_beginJobs_y_beginStart_293 rfl rfl rfl (by decide +kernel) ⟨Nat.le_of_ble_eq_true rfl, Nat.le_of_ble_eq_true rfl⟩) ⟨fun a9 U g mk q => by obtain ⟨q0, q1, qP, qK, qD, qN⟩ := q; exact ⟨q0, q1, qP, va_K.moved (u := U) (U := U.calling g mk a9) (Vm.Alike.refl U.vm) qK, qD, pw_N.same (u := U) (U := U.calling g mk a9) rfl qN⟩, va_recv hK hP (ci := 9) (q0 := 0) rfl rfl, fun U hU hW => ⟨rfl, by rw [hU], by rw [hU]; exact hP, va_K.moved hW.alike hK, hD.weaken (fun _ _ _ _ => trivial), pw_N.warm hW hN⟩⟩ rfl rfl hl.1 rfl (lv_room (Nat.le_of_ble_eq_true rfl)) dX8_beginJobs_54 ⟨Nat.le_of_ble_eq_true rfl, Nat.le_of_ble_eq_true rfl⟩) hS (fun q _ h => hFc q h) hFc (fun u t H1 locs ht hvm hw hB hz1 hk1 hS => ?_)
              obtain ⟨L27, I28, M29, si30, sa31⟩ := u
              replace hP := hB.1
              rw [ht] at hP
              replace hD : va_D A (xW h a e cI cJ cO cE L27 I28 M29 J n cap fE sd si30 sa31 dl) := hB.2.weaken (fun _ q _ h9 => hFc q.1 h9)
              clear hB
              generalize H1 = H at hP hS ⊢
              replace hP : va_P (dC, dI) vwCl (xW h a e cI cJ cO cE L27 I28 M29 J n cap fE sd si30 sa31 dl) H := hP
              obtain ⟨hwX, whUL, whUI, whUM, whUsi, whUsa, hw⟩ := hw
              replace hX : InvX n cap fE sd dl (b + 1 * i4 + 1) I28 J si30 := hwX
              replace hUL : ∀ j9 : Nat, j9 ∉ ([0, 5, 6, 7] : List Nat) → L27 j9 = L j9 := mw_tr (by decide) whUL hUL
              replace hUI : ∀ j9 : Nat, j9 ∉ ([12] : List Nat) → I28 j9 = I j9 := mw_tr (by decide) whUI hUI
              replace hUM : ∀ j9 : Nat, j9 ∉ ([8, 9] : List Nat) → M29 j9 = M j9 := mw_tr (by decide) whUM hUM
              replace hUsi : ∀ s9 q9 : Nat, q9 ∉ ([6, 7, 8, 9, 10, 11, 21, 22] : List Nat) → si30 s9 q9 = si s9 q9 := xw_tr2 (by decide) whUsi hUsi
              replace hUsa : ∀ s9 q9 : Nat, q9 ∉ ([3] : List Nat) → sa31 s9 q9 = sa s9 q9 := xw_tr2 (by decide) whUsa hUsa
              replace hw : (L27, I28, M29, si30, sa31) = f_y_beginStart n dl j16 L8 I9 M10 si11 sa12 := hw
              replace hZ9 := bn5_s hZ9 hw
              refine lv_goto (tgt := 65) hx hb dX8_beginJobs_57 (by decide) ?_
              refine lv_iinc (v := (nI (i4 + 1))) (lv' := [(1, .int (nI (i4 + 1))), (2, .int (nI j16)), (0, .ref h)]) hx hb dX8_beginJobs_65 hl (k := 1) rfl (nI_add i4 1) (by decide) rfl (fun ls hl => ?_)
              refine lv_goto (tgt := 15) hx hb dX8_beginJobs_68 (by decide) ?_
              exact ih6 (i4 + 1)  L27 I28 M29 si30 sa31 _ _ _ (by omega) (by omega) (hX.mono (by omega)) hUL hUI hUM hUsi hUsa  hZ9 hP hD hS (lv_sub hl [0, 2] rfl)
          · replace hZ9 := ite_f hZ9 noj16
            refine lv_if_ne (tgt := 38) hx hb dX8_beginJobs_34 (by decide) (fun c9 => absurd (by decide) c9) (fun _ => ?_)
            rw [hQ]
            exact W.vret hx hb hr (fun t ht hW => ⟨⟨(L8, I9, M10, si11, sa12), rfl, ⟨hX.mono (by omega), hUL, hUI, hUM, hUsi, hUsa, hZ9.symm.trans hR0⟩, by rw [ht]; exact hP, hD⟩, hS.F ht⟩) hS.2.2 dX8_beginJobs_37
    exact lp7 (40 + 1) 0  L I M si sa _ _ _ (by omega) (by omega) (hX.mono (by omega)) hUL hUI hUM hUsi hUsa  hZ9 hP hD hS hl
  · replace hZ9 := ite_t hZ9 c3
    rw [hQ]
    exact W.vret hx hb hr (fun t ht hW => ⟨⟨(L, I, M, si, sa), rfl, ⟨hX.mono (by omega), hUL, hUI, hUM, hUsi, hUsa, hZ9.symm.trans hR0⟩, by rw [ht]; exact hP, hD⟩, hS.F ht⟩) hS.2.2 dX8_beginJobs_12
def f_y_carryOutDraft_17 (n : Nat) (dl : Nat → Nat) (x3 : Int64) : Nat → Nat → (Nat → Int64) → (Nat → Int32) → (Nat → Nat → Int64) → (Nat → Nat → Int32) → (Nat → Nat → Nat → Int32) → (Nat → (Nat → Int64) → (Nat → Int32) → (Nat → Nat → Int64) → (Nat → Nat → Int32) → (Nat → Nat → Nat → Int32) → (Nat → Int64) × (Nat → Int32) × (Nat → Nat → Int64) × (Nat → Nat → Int32) × (Nat → Nat → Nat → Int32)) → (Nat → Int64) × (Nat → Int32) × (Nat → Nat → Int64) × (Nat → Nat → Int32) × (Nat → Nat → Nat → Int32)
  | 0, i4, L8, I9, M10, si11, sa12, K9_17 => K9_17 i4  L8 I9 M10 si11 sa12
  | fu5 + 1, i4, L8, I9, M10, si11, sa12, K9_17 => if n ≤ i4 then (K9_17 i4 L8 I9 M10 si11 sa12) else (bnd (f_y_holds n dl x3 i4 ) (fun (r25 : Int32) => if r25 = (0 : Int32) then (f_y_carryOutDraft_17 n dl x3 fu5 (i4 + 1)  L8 I9 M10 si11 sa12 K9_17) else (bn5 (f_y_enter n dl i4 0 L8 I9 M10 si11 sa12) (fun (L28 : Nat → Int64) (I29 : Nat → Int32) (M30 : Nat → Nat → Int64) (si31 : Nat → Nat → Int32) (sa32 : Nat → Nat → Nat → Int32) => f_y_carryOutDraft_17 n dl x3 fu5 (i4 + 1)  L28 I29 M30 si31 sa32 K9_17))))
def f_y_carryOutDraft (n : Nat) (dl : Nat → Nat)  (L : Nat → Int64) (I : Nat → Int32) (M : Nat → Nat → Int64) (si : Nat → Nat → Int32) (sa : Nat → Nat → Nat → Int32) : (Nat → Int64) × (Nat → Int32) × (Nat → Nat → Int64) × (Nat → Nat → Int32) × (Nat → Nat → Nat → Int32) := bnd (L 3) (fun (x1 : Int64) => bnd (M 9 (nI 5).toNatClampNeg) (fun (x2 : Int64) => bnd (x1 &&& x2) (fun (x3 : Int64) => f_y_carryOutDraft_17 n dl x3 (n + 1) 0  L I M si sa (fun (i4 : Nat) (L8 : Nat → Int64) (I9 : Nat → Int32) (M10 : Nat → Nat → Int64) (si11 : Nat → Nat → Int32) (sa12 : Nat → Nat → Nat → Int32) => bnd (L8 3) (fun (x15 : Int64) => bnd (L8 4) (fun (x16 : Int64) => bnd (f_y_take n dl x15 x16 L8) (fun (L18 : Nat → Int64) => bn5 (f_y_beginJobs n dl  L18 I9 M10 si11 sa12) (fun (L20 : Nat → Int64) (I21 : Nat → Int32) (M22 : Nat → Nat → Int64) (si23 : Nat → Nat → Int32) (sa24 : Nat → Nat → Nat → Int32) => (L20, I21, M22, si23, sa24)))))))))
def wq_y_carryOutDraft : List Cond := ([.code yX8_carryOutDraft cX8_carryOutDraft 4 none, .fieldLink RX8 28 "ServiceTree" "draft" "LServiceTree$Draft;", .fieldLink RX8 53 "ServiceTree" "inState" "[J", .fieldLink RX8 10 "ServiceTree" "services" "Ljava/util/ArrayList;", .fieldLink RX8 35 "ServiceTree" "jobs" "LServiceTree$Jobs;", .methodLink RX8 61 yJx4a65c_size_8abf5, .instanceMethod yJx4a65c_size_8abf5, .selects RJx4a65c yJx4a65c_size_8abf5 yJx4a65c_size_8abf5, .initialized RJx4a65c, .methodLink RX8 256 yX3_take, .instanceMethod yX3_take, .selects RX3 yX3_take yX3_take, .initialized RX3, .methodLink RX8 260 yX8_beginJobs, .instanceMethod yX8_beginJobs, .selects RX8 yX8_beginJobs yX8_beginJobs, .initialized RX8, .methodLink RX8 114 yX8_holds, .static yX8_holds, .methodLink RX8 249 yX8_enter, .instanceMethod yX8_enter, .selects RX8 yX8_enter yX8_enter] : List Cond) ++ (wsX10 ++ (wsX80 ++ (wq_y_size ++ (wq_y_take ++ (wq_y_beginJobs ++ (wq_y_holds ++ (wq_y_enter)))))))
theorem in_y_carryOutDraft_X1 : ∀ w ∈ wsX10, w ∈ wq_y_carryOutDraft := fun _ h => List.mem_append_right _ (List.mem_append_left _ (h))
theorem in_y_carryOutDraft_X8 : ∀ w ∈ wsX80, w ∈ wq_y_carryOutDraft := fun _ h => List.mem_append_right _ (List.mem_append_right _ (List.mem_append_left _ (h)))
set_option maxRecDepth 20000 in
theorem wi_y_carryOutDraft : ∀ w ∈ wq_y_carryOutDraft, w ∈ lw_tbl := List.forall_mem_append.mpr ⟨(wix [592, 226, 230, 224, 227, 274, 275, 276, 63, 626, 627, 628, 66, 630, 632, 15, 60, 487, 488, 593, 595, 14] rfl), List.forall_mem_append.mpr ⟨inKX1, List.forall_mem_append.mpr ⟨inKX8, List.forall_mem_append.mpr ⟨wi_y_size, List.forall_mem_append.mpr ⟨wi_y_take, List.forall_mem_append.mpr ⟨wi_y_beginJobs, List.forall_mem_append.mpr ⟨wi_y_holds, wi_y_enter⟩⟩⟩⟩⟩⟩⟩
set_option maxRecDepth 20000 in
theorem wg_y_carryOutDraft : GoodIn wq_y_carryOutDraft wq_y_carryOutDraft := goodIn_sub (fun _ h => h) (by decide +kernel)
set_option maxRecDepth 20000 in
theorem wc_y_carryOutDraft_y_size_61 : GoodIn wq_y_carryOutDraft (wsV RX8 61 RJx4a65c yJx4a65c_size_8abf5 wq_y_size) := goodIn_app (goodIn_of _ (by decide +kernel)) (fun w h => ⟨List.mem_append_right _ (List.mem_append_right _ (List.mem_append_right _ (List.mem_append_left _ (h)))), (wg_y_size w h).2⟩)
set_option maxRecDepth 20000 in
theorem wc_y_carryOutDraft_y_take_256 : GoodIn wq_y_carryOutDraft (wsV RX8 256 RX3 yX3_take wq_y_take) := goodIn_app (goodIn_of _ (by decide +kernel)) (fun w h => ⟨List.mem_append_right _ (List.mem_append_right _ (List.mem_append_right _ (List.mem_append_right _ (List.mem_append_left _ (h))))), (wg_y_take w h).2⟩)
set_option maxRecDepth 20000 in
theorem wc_y_carryOutDraft_y_beginJobs_260 : GoodIn wq_y_carryOutDraft (wsV RX8 260 RX8 yX8_beginJobs wq_y_beginJobs) := goodIn_app (goodIn_of _ (by decide +kernel)) (fun w h => ⟨List.mem_append_right _ (List.mem_append_right _ (List.mem_append_right _ (List.mem_append_right _ (List.mem_append_right _ (List.mem_append_left _ (h)))))), (wg_y_beginJobs w h).2⟩)
set_option maxRecDepth 20000 in
theorem wc_y_carryOutDraft_y_holds_114 : GoodIn wq_y_carryOutDraft (va_wsS RX8 114 yX8_holds wq_y_holds) := goodIn_app (goodIn_of _ (by decide +kernel)) (fun w h => ⟨List.mem_append_right _ (List.mem_append_right _ (List.mem_append_right _ (List.mem_append_right _ (List.mem_append_right _ (List.mem_append_right _ (List.mem_append_left _ (h))))))), (wg_y_holds w h).2⟩)
set_option maxRecDepth 20000 in
theorem wc_y_carryOutDraft_y_enter_249 : GoodIn wq_y_carryOutDraft (wsV RX8 249 RX8 yX8_enter wq_y_enter) := goodIn_app (goodIn_of _ (by decide +kernel)) (fun w h => ⟨List.mem_append_right _ (List.mem_append_right _ (List.mem_append_right _ (List.mem_append_right _ (List.mem_append_right _ (List.mem_append_right _ (List.mem_append_right _ (h))))))), (wg_y_enter w h).2⟩)
def rm_y_carryOutDraft : Room := { frames := 6, cells := 0, slots := 0, locals := 133 }
set_option maxHeartbeats 4000000 in
set_option maxRecDepth 100000 in
theorem c_y_carryOutDraft (l : Launch) (dC : Nat → ClassId) (dI : Nat → Nat → Nat) (h : Nat) (a : Nat → Nat) (e : Nat) (cI cJ cO cE : ClassId) (L : Nat → Int64) (I : Nat → Int32) (M : Nat → Nat → Int64) (J : Nat → Nat → Int32) (n cap : Nat) (fE : Nat → Option Nat) (sd : Nat → Nat → Nat) (si : Nat → Nat → Int32) (sa : Nat → Nat → Nat → Int32) (dl : Nat → Nat) (b : Nat)  (sz : Nat) (hX0 : InvX n cap fE sd dl b I J si) (hb0 : b + 80 < 2147483648)  : Met l yX8_carryOutDraft wq_y_carryOutDraft rm_y_carryOutDraft (va_Pc [.ref h] (fun U => U.heap.size = sz ∧ va_P (dC, dI) vwCl (xW h a e cI cJ cO cE L I M J n cap fE sd si sa dl) U.heap ∧ va_K (dC, dI) vwCl (xT cI cJ cO cE) U ∧ va_D (fun _ => True) (xW h a e cI cJ cO cE L I M J n cap fE sd si sa dl) ∧ pw_N U)) (va_Qv (fun (u : (Nat → Int64) × (Nat → Int32) × (Nat → Nat → Int64) × (Nat → Nat → Int32) × (Nat → Nat → Nat → Int32)) => InvX n cap fE sd dl (b + 80) u.2.1 J u.2.2.2.1 ∧ (∀ j9 : Nat, j9 ∉ ([0, 5, 6, 7] : List Nat) → u.1 j9 = L j9) ∧ (∀ j9 : Nat, j9 ∉ ([12] : List Nat) → u.2.1 j9 = I j9) ∧ (∀ j9 : Nat, j9 ∉ ([8, 9] : List Nat) → u.2.2.1 j9 = M j9) ∧ (∀ s9 q9 : Nat, q9 ∉ ([6, 7, 8, 9, 10, 11, 21, 22] : List Nat) → u.2.2.2.1 s9 q9 = si s9 q9) ∧ (∀ s9 q9 : Nat, q9 ∉ ([3] : List Nat) → u.2.2.2.2 s9 q9 = sa s9 q9) ∧ (u = f_y_carryOutDraft n dl  L I M si sa)) (fun (u : (Nat → Int64) × (Nat → Int32) × (Nat → Nat → Int64) × (Nat → Nat → Int32) × (Nat → Nat → Nat → Int32)) (t : State) => va_P (dC, dI) vwCl (xW h a e cI cJ cO cE u.1 u.2.1 u.2.2.1 J n cap fE sd u.2.2.2.1 u.2.2.2.2 dl) t.heap ∧ va_D (va_A (xW h a e cI cJ cO cE L I M J n cap fE sd si sa dl) sz) (xW h a e cI cJ cO cE u.1 u.2.1 u.2.2.1 J n cap fE sd u.2.2.2.1 u.2.2.2.2 dl)) (va_A (xW h a e cI cJ cO cE L I M J n cap fE sd si sa dl) sz)) 0 0 (va_A (xW h a e cI cJ cO cE L I M J n cap fE sd si sa dl) sz) := by
  have hn : n ≤ 40 := hX0.1.1
  have hX := hX0
  have hUL : ∀ j9 : Nat, j9 ∉ ([0, 5, 6, 7] : List Nat) → L j9 = L j9 := fun _ _ => rfl
  have hUI : ∀ j9 : Nat, j9 ∉ ([12] : List Nat) → I j9 = I j9 := fun _ _ => rfl
  have hUM : ∀ j9 : Nat, j9 ∉ ([8, 9] : List Nat) → M j9 = M j9 := fun _ _ => rfl
  have hUsi : ∀ s9 q9 : Nat, q9 ∉ ([6, 7, 8, 9, 10, 11, 21, 22] : List Nat) → si s9 q9 = si s9 q9 := fun _ _ _ => rfl
  have hUsa : ∀ s9 q9 : Nat, q9 ∉ ([3] : List Nat) → sa s9 q9 = sa s9 q9 := fun _ _ _ => rfl
  refine Met.ofW (cc := cX8_carryOutDraft) (maxL := 4) (ret := none) (by decide) rfl ?_
  intro p e9 s m args below meth c s₁ B hml hv
  obtain ⟨rfl, hsz, hP, hK, hD0, hN⟩ := hv
  have hx := B.exec
  have hb := B.bytes
  have hr := B.returns
  have hts := atoms_spec (ws := wq_y_carryOutDraft) B.pre
  have hown : s.vm.findClass RX8 = some m.cls := findClass_of_methodNamed B.named
  have hlocks := B.notSynchronized
  subst hsz
  have hD := hD0.self (sz := s.heap.size)
  generalize hAe : va_A (xW h a e cI cJ cO cE L I M J n cap fE sd si sa dl) s.heap.size = A at hD ⊢
  have hA : ∀ q : Nat, s.heap.size ≤ q → A q := fun q h => by rw [← hAe]; exact Or.inr h
  have hS : va_S A s.heap s.heap [] := va_S.rf
  have hl := lv_entry ([.ref h]) (n := 4) (Nat.le_of_ble_eq_true rfl)
  rw [lg_entry_eq]
  generalize (lg_sl ([.ref h]) ++ List.replicate (4 - (lg_sl ([.ref h])).length) Slot.unset).toArray = ls at hl ⊢
  have hl : lv_has ls 4 [(0, .ref h)] := hl
  refine mw_Q (fun Q0 hQ => ?_)
  obtain ⟨RES, hR0⟩ : ∃ R9, R9 = f_y_carryOutDraft n dl  L I M si sa := ⟨_, rfl⟩
  have hZ9 := hR0
  unfold f_y_carryOutDraft at hZ9
  refine lv_aload_n hx hb dX8_carryOutDraft_0 rfl (lv_at hl 0 rfl) ?_
  refine va_get (D := (dC, dI)) (ci := 9) (v := .ref (a 2)) (C := RX8) (T := TX8) (N := 14) hx hb hts in_y_carryOutDraft_X8 hown hK hP 0 rfl rfl 2 (by decide) (hts (.fieldLink RX8 28 "ServiceTree" "draft" "LServiceTree$Draft;") (by decide +kernel)) (fun _ h9 => h9) rfl dX8_carryOutDraft_1 ?_
  refine va_getN (D := (dC, dI)) (ci := 2) (v := .long (L 3)) (C := RX1) (T := TX1) (N := 5) hx hb hts in_y_carryOutDraft_X1 hown hK hP 13 rfl rfl 2 (by decide) (va_Nw.use rfl (hN (.fieldLinkNest RX8 247 "ServiceTree$Draft" "starts" "J" "ServiceTree") (by decide +kernel))) (fun _ h9 => h9) rfl dX8_carryOutDraft_4 ?_
  refine lv_topl (fun x1 ex1 => ?_)
  replace hZ9 := bnd_s hZ9 ex1
  refine lv_aload_n hx hb dX8_carryOutDraft_7 rfl (lv_at hl 0 rfl) ?_
  refine va_get (D := (dC, dI)) (ci := 9) (v := .ref (a 6)) (C := RX8) (T := TX8) (N := 14) hx hb hts in_y_carryOutDraft_X8 hown hK hP 0 rfl rfl 6 (by decide) (hts (.fieldLink RX8 53 "ServiceTree" "inState" "[J") (by decide +kernel)) (fun _ h9 => h9) rfl dX8_carryOutDraft_8 ?_
  refine lv_iconst (v := 5) hx hb dX8_carryOutDraft_11 (by decide) ?_
  refine va_lald (n := 6) (f := M 9) hx hb hK hP 21 1 rfl rfl (vp_in_nI (n := 5) (by omega) (by omega)) dX8_carryOutDraft_12 ?_
  refine lv_topl (fun x2 ex2 => ?_)
  replace hZ9 := bnd_s hZ9 ex2
  refine lv_land hx hb dX8_carryOutDraft_13 ?_
  refine lv_topl (fun x3 ex3 => ?_)
  replace hZ9 := bnd_s hZ9 ex3
  refine lv_lstore_n (lv' := [(1, .long x3), (0, .ref h)]) hx hb dX8_carryOutDraft_14 rfl hl (by decide) rfl (fun ls hl => ?_)
  refine lv_iconst (v := 0) hx hb dX8_carryOutDraft_15 (by decide) ?_
  refine lv_istore_n (lv' := [(3, .int 0), (1, .long x3), (0, .ref h)]) hx hb dX8_carryOutDraft_16 rfl hl (by decide) rfl (fun ls hl => ?_)
  obtain ⟨K9_17, hK9_17, hZ9⟩ := lp_gen hZ9
  have lp7 : ∀ (fu5 i4 : Nat)  (L8 : Nat → Int64) (I9 : Nat → Int32) (M10 : Nat → Nat → Int64) (si11 : Nat → Nat → Int32) (sa12 : Nat → Nat → Nat → Int32) (H : Heap) (locs : List Loc) (ls : Array Slot), n < i4 + fu5 → i4 ≤ n → InvX n cap fE sd dl (b + 1 * i4) I9 J si11 → (∀ j9 : Nat, j9 ∉ ([0, 5, 6, 7] : List Nat) → L8 j9 = L j9) → (∀ j9 : Nat, j9 ∉ ([12] : List Nat) → I9 j9 = I j9) → (∀ j9 : Nat, j9 ∉ ([8, 9] : List Nat) → M10 j9 = M j9) → (∀ s9 q9 : Nat, q9 ∉ ([6, 7, 8, 9, 10, 11, 21, 22] : List Nat) → si11 s9 q9 = si s9 q9) → (∀ s9 q9 : Nat, q9 ∉ ([3] : List Nat) → sa12 s9 q9 = sa s9 q9) → RES = f_y_carryOutDraft_17 n dl x3 fu5 i4  L8 I9 M10 si11 sa12 K9_17 → va_P (dC, dI) vwCl (xW h a e cI cJ cO cE L8 I9 M10 J n cap fE sd si11 sa12 dl) H → va_D A (xW h a e cI cJ cO cE L8 I9 M10 J n cap fE sd si11 sa12 dl) → va_S A s.heap H locs → lv_has ls 4 [(3, .int (nI i4)), (1, .long x3), (0, .ref h)] → W p l e9 (headSpec wq_y_carryOutDraft rm_y_carryOutDraft).room s m ([.ref h] : List Value).toArray below meth c H locs 0 0 Q0 (F0 m 17 ls []) := by
    intro fu5
    induction fu5 with
    | zero =>
      intro i4  L8 I9 M10 si11 sa12 H locs ls hf hi
      exact absurd hf (by omega)
    | succ fu5 ih6 =>
      intro i4  L8 I9 M10 si11 sa12 H locs ls hfi4 hii4 hX hUL hUI hUM hUsi hUsa hZ9 hP hD hS hl
      rw [f_y_carryOutDraft_17] at hZ9
      refine lv_iload_n hx hb dX8_carryOutDraft_17 rfl (lv_at hl 0 rfl) ?_
      refine lv_aload_n hx hb dX8_carryOutDraft_18 rfl (lv_at hl 2 rfl) ?_
      refine va_get (D := (dC, dI)) (ci := 9) (v := .ref (a 0)) (C := RX8) (T := TX8) (N := 14) hx hb hts in_y_carryOutDraft_X8 hown hK hP 0 rfl rfl 0 (by decide) (hts (.fieldLink RX8 10 "ServiceTree" "services" "Ljava/util/ArrayList;") (by decide +kernel)) (fun _ h9 => h9) rfl dX8_carryOutDraft_19 ?_
      have hFc := mw_free hD hS hA
      refine va_calli (va_runV (As := []) (rest := [.int (nI i4)]) ⟨hx, hb, hml, hown, hts⟩ (c_y_size l dC dI h a e cI cJ cO cE L8 I9 M10 J n cap fE sd si11 sa12 dl (b + 1 * i4)  H.size hX (by omega) ) (cwV 0 hts wc_y_carryOutDraft_y_size_61 rfl rfl rfl (by decide +kernel) ⟨Nat.le_of_ble_eq_true rfl, Nat.le_of_ble_eq_true rfl⟩) ⟨fun a9 U g mk q => by obtain ⟨q0, q1, qP, qK, qD, qN⟩ := q; exact ⟨q0, q1, qP, va_K.moved (u := U) (U := U.calling g mk a9) (Vm.Alike.refl U.vm) qK, qD, pw_N.same (u := U) (U := U.calling g mk a9) rfl qN⟩, va_recv hK hP (ci := 0) (q0 := 1) rfl rfl, fun U hU hW => ⟨rfl, by rw [hU], by rw [hU]; exact hP, va_K.moved hW.alike hK, hD.weaken (fun _ _ _ _ => trivial), pw_N.warm hW hN⟩⟩ rfl rfl hl.1 rfl (lv_room (Nat.le_of_ble_eq_true rfl)) dX8_carryOutDraft_22 ⟨Nat.le_of_ble_eq_true rfl, Nat.le_of_ble_eq_true rfl⟩) hS (fun q _ h => hFc q h) hFc (fun r13 u t H1 locs ht hvm hw hB hz1 hk1 hS => ?_)
      replace hP := hB.1
      rw [ht] at hP
      replace hD : va_D A (xW h a e cI cJ cO cE L8 I9 M10 J n cap fE sd si11 sa12 dl) := hB.2.weaken (fun _ q _ h9 => hFc q.1 h9)
      clear hB
      generalize H1 = H at hP hS ⊢
      replace hP : va_P (dC, dI) vwCl (xW h a e cI cJ cO cE L8 I9 M10 J n cap fE sd si11 sa12 dl) H := hP
      obtain rfl : r13 = nI n := hw
      refine lv_icmp_ge (tgt := 48) hx hb dX8_carryOutDraft_25 (by decide) (fun c14 => ?_) (fun c14 => ?_)
      · replace c14 : n ≤ i4 := (nI_leI (a := n) (b := i4) (by omega) (by omega)).mp c14
        replace hZ9 := ite_t hZ9 c14
        replace hZ9 := lp_app6 hK9_17 hZ9
        refine lv_aload_n hx hb dX8_carryOutDraft_48 rfl (lv_at hl 2 rfl) ?_
        refine va_get (D := (dC, dI)) (ci := 9) (v := .ref (a 3)) (C := RX8) (T := TX8) (N := 14) hx hb hts in_y_carryOutDraft_X8 hown hK hP 0 rfl rfl 3 (by decide) (hts (.fieldLink RX8 35 "ServiceTree" "jobs" "LServiceTree$Jobs;") (by decide +kernel)) (fun _ h9 => h9) rfl dX8_carryOutDraft_49 ?_
        refine lv_aload_n hx hb dX8_carryOutDraft_52 rfl (lv_at hl 2 rfl) ?_
        refine va_get (D := (dC, dI)) (ci := 9) (v := .ref (a 2)) (C := RX8) (T := TX8) (N := 14) hx hb hts in_y_carryOutDraft_X8 hown hK hP 0 rfl rfl 2 (by decide) (hts (.fieldLink RX8 28 "ServiceTree" "draft" "LServiceTree$Draft;") (by decide +kernel)) (fun _ h9 => h9) rfl dX8_carryOutDraft_53 ?_
        refine va_getN (D := (dC, dI)) (ci := 2) (v := .long (L8 3)) (C := RX1) (T := TX1) (N := 5) hx hb hts in_y_carryOutDraft_X1 hown hK hP 13 rfl rfl 2 (by decide) (va_Nw.use rfl (hN (.fieldLinkNest RX8 247 "ServiceTree$Draft" "starts" "J" "ServiceTree") (by decide +kernel))) (fun _ h9 => h9) rfl dX8_carryOutDraft_56 ?_
        refine lv_topl (fun x15 ex15 => ?_)
        replace hZ9 := bnd_s hZ9 ex15
        refine lv_aload_n hx hb dX8_carryOutDraft_59 rfl (lv_at hl 2 rfl) ?_
        refine va_get (D := (dC, dI)) (ci := 9) (v := .ref (a 2)) (C := RX8) (T := TX8) (N := 14) hx hb hts in_y_carryOutDraft_X8 hown hK hP 0 rfl rfl 2 (by decide) (hts (.fieldLink RX8 28 "ServiceTree" "draft" "LServiceTree$Draft;") (by decide +kernel)) (fun _ h9 => h9) rfl dX8_carryOutDraft_60 ?_
        refine va_getN (D := (dC, dI)) (ci := 2) (v := .long (L8 4)) (C := RX1) (T := TX1) (N := 5) hx hb hts in_y_carryOutDraft_X1 hown hK hP 13 rfl rfl 3 (by decide) (va_Nw.use rfl (hN (.fieldLinkNest RX8 253 "ServiceTree$Draft" "stops" "J" "ServiceTree") (by decide +kernel))) (fun _ h9 => h9) rfl dX8_carryOutDraft_63 ?_
        refine lv_topl (fun x16 ex16 => ?_)
        replace hZ9 := bnd_s hZ9 ex16
        have hFc := mw_free hD hS hA
        refine va_callv (va_runV (As := [.long x15, .long x16]) (rest := []) ⟨hx, hb, hml, hown, hts⟩ (c_y_take l dC dI h a e cI cJ cO cE L8 I9 M10 J n cap fE sd si11 sa12 dl (b + 1 * i4) x15 x16 H.size hX (by omega) ) (cwV 2 hts wc_y_carryOutDraft_y_take_256 rfl rfl rfl (by decide +kernel) ⟨Nat.le_of_ble_eq_true rfl, Nat.le_of_ble_eq_true rfl⟩) ⟨fun a9 U g mk q => by obtain ⟨q0, q1, qP, qK, qD, qN⟩ := q; exact ⟨q0, q1, qP, va_K.moved (u := U) (U := U.calling g mk a9) (Vm.Alike.refl U.vm) qK, qD, pw_N.same (u := U) (U := U.calling g mk a9) rfl qN⟩, va_recv hK hP (ci := 4) (q0 := 14) rfl rfl, fun U hU hW => ⟨rfl, by rw [hU], by rw [hU]; exact hP, va_K.moved hW.alike hK, hD.weaken (fun _ _ _ _ => trivial), pw_N.warm hW hN⟩⟩ rfl rfl hl.1 rfl (lv_room (Nat.le_of_ble_eq_true rfl)) dX8_carryOutDraft_66 ⟨Nat.le_of_ble_eq_true rfl, Nat.le_of_ble_eq_true rfl⟩) hS (fun q _ h => hFc q h) hFc (fun u t H1 locs ht hvm hw hB hz1 hk1 hS => ?_)
        obtain ⟨L18, rfl⟩ : ∃ z9, z9 = u := ⟨_, rfl⟩
        replace hP := hB.1
        rw [ht] at hP
        replace hD : va_D A (xW h a e cI cJ cO cE L18 I9 M10 J n cap fE sd si11 sa12 dl) := hB.2.weaken (fun _ q _ h9 => hFc q.1 h9)
        clear hB
        generalize H1 = H at hP hS ⊢
        replace hP : va_P (dC, dI) vwCl (xW h a e cI cJ cO cE L18 I9 M10 J n cap fE sd si11 sa12 dl) H := hP
        obtain ⟨hwX, whUL, hw⟩ := hw
        replace hX : InvX n cap fE sd dl (b + 1 * i4) I9 J si11 := hwX
        replace hUL : ∀ j9 : Nat, j9 ∉ ([0, 5, 6, 7] : List Nat) → L18 j9 = L j9 := mw_tr (by decide) whUL hUL
        replace hw : L18 = f_y_take n dl x15 x16 L8 := hw
        replace hZ9 := bnd_s hZ9 hw
        refine lv_aload_n hx hb dX8_carryOutDraft_69 rfl (lv_at hl 2 rfl) ?_
        have hFc := mw_free hD hS hA
        refine va_callv (va_runV (As := []) (rest := []) ⟨hx, hb, hml, hown, hts⟩ (c_y_beginJobs l dC dI h a e cI cJ cO cE L18 I9 M10 J n cap fE sd si11 sa12 dl (b + 1 * i4)  H.size hX (by omega) ) (cwV 0 hts wc_y_carryOutDraft_y_beginJobs_260 rfl rfl rfl (by decide +kernel) ⟨Nat.le_of_ble_eq_true rfl, Nat.le_of_ble_eq_true rfl⟩) ⟨fun a9 U g mk q => by obtain ⟨q0, q1, qP, qK, qD, qN⟩ := q; exact ⟨q0, q1, qP, va_K.moved (u := U) (U := U.calling g mk a9) (Vm.Alike.refl U.vm) qK, qD, pw_N.same (u := U) (U := U.calling g mk a9) rfl qN⟩, va_recv hK hP (ci := 9) (q0 := 0) rfl rfl, fun U hU hW => ⟨rfl, by rw [hU], by rw [hU]; exact hP, va_K.moved hW.alike hK, hD.weaken (fun _ _ _ _ => trivial), pw_N.warm hW hN⟩⟩ rfl rfl hl.1 rfl (lv_room (Nat.le_of_ble_eq_true rfl)) dX8_carryOutDraft_70 ⟨Nat.le_of_ble_eq_true rfl, Nat.le_of_ble_eq_true rfl⟩) hS (fun q _ h => hFc q h) hFc (fun u t H1 locs ht hvm hw hB hz1 hk1 hS => ?_)
        obtain ⟨L20, I21, M22, si23, sa24⟩ := u
        replace hP := hB.1
        rw [ht] at hP
        replace hD : va_D A (xW h a e cI cJ cO cE L20 I21 M22 J n cap fE sd si23 sa24 dl) := hB.2.weaken (fun _ q _ h9 => hFc q.1 h9)
        clear hB
        generalize H1 = H at hP hS ⊢
        replace hP : va_P (dC, dI) vwCl (xW h a e cI cJ cO cE L20 I21 M22 J n cap fE sd si23 sa24 dl) H := hP
        obtain ⟨hwX, whUL, whUI, whUM, whUsi, whUsa, hw⟩ := hw
        replace hX : InvX n cap fE sd dl (b + 1 * i4 + 40) I21 J si23 := hwX
        replace hUL : ∀ j9 : Nat, j9 ∉ ([0, 5, 6, 7] : List Nat) → L20 j9 = L j9 := mw_tr (by decide) whUL hUL
        replace hUI : ∀ j9 : Nat, j9 ∉ ([12] : List Nat) → I21 j9 = I j9 := mw_tr (by decide) whUI hUI
        replace hUM : ∀ j9 : Nat, j9 ∉ ([8, 9] : List Nat) → M22 j9 = M j9 := mw_tr (by decide) whUM hUM
        replace hUsi : ∀ s9 q9 : Nat, q9 ∉ ([6, 7, 8, 9, 10, 11, 21, 22] : List Nat) → si23 s9 q9 = si s9 q9 := xw_tr2 (by decide) whUsi hUsi
        replace hUsa : ∀ s9 q9 : Nat, q9 ∉ ([3] : List Nat) → sa24 s9 q9 = sa s9 q9 := xw_tr2 (by decide) whUsa hUsa
        replace hw : (L20, I21, M22, si23, sa24) = f_y_beginJobs n dl  L18 I9 M10 si11 sa12 := hw
        replace hZ9 := bn5_s hZ9 hw
        rw [hQ]
        exact W.vret hx hb hr (fun t ht hW => ⟨⟨(L20, I21, M22, si23, sa24), rfl, ⟨hX.mono (by omega), hUL, hUI, hUM, hUsi, hUsa, hZ9.symm.trans hR0⟩, by rw [ht]; exact hP, hD⟩, hS.F ht⟩) hS.2.2 dX8_carryOutDraft_73
      · replace c14 : ¬ (n ≤ i4) := fun q9 => c14 ((nI_leI (a := n) (b := i4) (by omega) (by omega)).mpr q9)
        replace hZ9 := ite_f hZ9 c14
        refine lv_lload_n hx hb dX8_carryOutDraft_28 rfl (lv_at hl 1 rfl) ?_
        refine lv_iload_n hx hb dX8_carryOutDraft_29 rfl (lv_at hl 0 rfl) ?_
        have hFc := mw_free hD hS hA
        refine va_calli (va_runS (As := [.long x3, .int (nI i4)]) (rest := []) ⟨hx, hb, hml, hown, hts⟩ (c_y_holds l dC dI h a e cI cJ cO cE L8 I9 M10 J n cap fE sd si11 sa12 dl (b + 1 * i4) x3 i4 H.size hX (by omega) ) (va_cwS 2 hts wc_y_carryOutDraft_y_holds_114 rfl rfl rfl (by decide +kernel) ⟨Nat.le_of_ble_eq_true rfl, Nat.le_of_ble_eq_true rfl⟩) ⟨fun a9 U g mk q => by obtain ⟨q0, q1, qP, qK, qD, qN⟩ := q; exact ⟨q0, q1, qP, va_K.moved (u := U) (U := U.calling g mk a9) (Vm.Alike.refl U.vm) qK, qD, pw_N.same (u := U) (U := U.calling g mk a9) rfl qN⟩, fun U hU hW => ⟨rfl, by rw [hU], by rw [hU]; exact hP, va_K.moved hW.alike hK, hD.weaken (fun _ _ _ _ => trivial), pw_N.warm hW hN⟩⟩ rfl rfl hl.1 rfl (lv_room (Nat.le_of_ble_eq_true rfl)) dX8_carryOutDraft_30 ⟨Nat.le_of_ble_eq_true rfl, Nat.le_of_ble_eq_true rfl⟩) hS (fun q _ h => hFc q h) hFc (fun r25 u t H1 locs ht hvm hw hB hz1 hk1 hS => ?_)
        replace hP := hB.1
        rw [ht] at hP
        replace hD : va_D A (xW h a e cI cJ cO cE L8 I9 M10 J n cap fE sd si11 sa12 dl) := hB.2.weaken (fun _ q _ h9 => hFc q.1 h9)
        clear hB
        generalize H1 = H at hP hS ⊢
        replace hP : va_P (dC, dI) vwCl (xW h a e cI cJ cO cE L8 I9 M10 J n cap fE sd si11 sa12 dl) H := hP
        obtain ⟨hw, hwe⟩ := hw
        replace hw : r25 = f_y_holds n dl x3 i4  := hw
        replace hZ9 := bnd_s hZ9 hw
        have br25 := hwe
        refine lv_if_eq (tgt := 42) hx hb dX8_carryOutDraft_33 (by decide) (fun c26 => ?_) (fun c26 => ?_)
        · replace hZ9 := ite_t hZ9 c26
          refine lv_iinc (v := (nI (i4 + 1))) (lv' := [(3, .int (nI (i4 + 1))), (1, .long x3), (0, .ref h)]) hx hb dX8_carryOutDraft_42 hl (k := 0) rfl (nI_add i4 1) (by decide) rfl (fun ls hl => ?_)
          refine lv_goto (tgt := 17) hx hb dX8_carryOutDraft_45 (by decide) ?_
          exact ih6 (i4 + 1)  L8 I9 M10 si11 sa12 _ _ _ (by omega) (by omega) (hX.mono (by omega)) hUL hUI hUM hUsi hUsa  hZ9 hP hD hS (lv_sub hl [0, 1, 2] rfl)
        · replace hZ9 := ite_f hZ9 c26
          refine lv_aload_n hx hb dX8_carryOutDraft_36 rfl (lv_at hl 2 rfl) ?_
          refine lv_iload_n hx hb dX8_carryOutDraft_37 rfl (lv_at hl 0 rfl) ?_
          refine lv_iconst (v := 0) hx hb dX8_carryOutDraft_38 (by decide) ?_
          have hFc := mw_free hD hS hA
          refine va_callv (va_runV (As := [.int (nI i4), .int 0]) (rest := []) ⟨hx, hb, hml, hown, hts⟩ (c_y_enter l dC dI h a e cI cJ cO cE L8 I9 M10 J n cap fE sd si11 sa12 dl (b + 1 * i4) i4 0 H.size hX (by omega) (by omega) (by omega)) (cwV 2 hts wc_y_carryOutDraft_y_enter_249 rfl rfl rfl (by decide +kernel) ⟨Nat.le_of_ble_eq_true rfl, Nat.le_of_ble_eq_true rfl⟩) ⟨fun a9 U g mk q => by obtain ⟨q0, q1, qP, qK, qD, qN⟩ := q; exact ⟨q0, q1, qP, va_K.moved (u := U) (U := U.calling g mk a9) (Vm.Alike.refl U.vm) qK, qD, pw_N.same (u := U) (U := U.calling g mk a9) rfl qN⟩, va_recv hK hP (ci := 9) (q0 := 0) rfl rfl, fun U hU hW => ⟨rfl, by rw [hU], by rw [hU]; exact hP, va_K.moved hW.alike hK, hD.weaken (fun _ _ _ _ => trivial), pw_N.warm hW hN⟩⟩ rfl rfl hl.1 rfl (lv_room (Nat.le_of_ble_eq_true rfl)) dX8_carryOutDraft_39 ⟨Nat.le_of_ble_eq_true rfl, Nat.le_of_ble_eq_true rfl⟩) hS (fun q _ h => hFc q h) hFc (fun u t H1 locs ht hvm hw hB hz1 hk1 hS => ?_)
          obtain ⟨L28, I29, M30, si31, sa32⟩ := u
          replace hP := hB.1
          rw [ht] at hP
          replace hD : va_D A (xW h a e cI cJ cO cE L28 I29 M30 J n cap fE sd si31 sa32 dl) := hB.2.weaken (fun _ q _ h9 => hFc q.1 h9)
          clear hB
          generalize H1 = H at hP hS ⊢
          replace hP : va_P (dC, dI) vwCl (xW h a e cI cJ cO cE L28 I29 M30 J n cap fE sd si31 sa32 dl) H := hP
          obtain ⟨hwX, whUL, whUI, whUM, whUsi, whUsa, hw⟩ := hw
          replace hX : InvX n cap fE sd dl (b + 1 * i4 + 1) I29 J si31 := hwX
          replace hUL : ∀ j9 : Nat, j9 ∉ ([0, 5, 6, 7] : List Nat) → L28 j9 = L j9 := mw_tr (by decide) whUL hUL
          replace hUI : ∀ j9 : Nat, j9 ∉ ([12] : List Nat) → I29 j9 = I j9 := mw_tr (by decide) whUI hUI
          replace hUM : ∀ j9 : Nat, j9 ∉ ([8, 9] : List Nat) → M30 j9 = M j9 := mw_tr (by decide) whUM hUM
          replace hUsi : ∀ s9 q9 : Nat, q9 ∉ ([6, 7, 8, 9, 10, 11, 21, 22] : List Nat) → si31 s9 q9 = si s9 q9 := xw_tr2 (by decide) whUsi hUsi
          replace hUsa : ∀ s9 q9 : Nat, q9 ∉ ([3] : List Nat) → sa32 s9 q9 = sa s9 q9 := xw_tr2 (by decide) whUsa hUsa
          replace hw : (L28, I29, M30, si31, sa32) = f_y_enter n dl i4 0 L8 I9 M10 si11 sa12 := hw
          replace hZ9 := bn5_s hZ9 hw
          refine lv_iinc (v := (nI (i4 + 1))) (lv' := [(3, .int (nI (i4 + 1))), (1, .long x3), (0, .ref h)]) hx hb dX8_carryOutDraft_42 hl (k := 0) rfl (nI_add i4 1) (by decide) rfl (fun ls hl => ?_)
          refine lv_goto (tgt := 17) hx hb dX8_carryOutDraft_45 (by decide) ?_
          exact ih6 (i4 + 1)  L28 I29 M30 si31 sa32 _ _ _ (by omega) (by omega) (hX.mono (by omega)) hUL hUI hUM hUsi hUsa  hZ9 hP hD hS (lv_sub hl [0, 1, 2] rfl)
  exact lp7 (n + 1) 0  L I M si sa _ _ _ (by omega) (by omega) (hX.mono (by omega)) hUL hUI hUM hUsi hUsa  hZ9 hP hD hS hl

end
section
def f_y_ticksToStart (n : Nat) (dl : Nat → Nat) (sv : Nat) (si : Nat → Nat → Int32) : Int32 := bnd (si sv 1) (fun (x2 : Int32) => (x2))
def wq_y_ticksToStart : List Cond := ([.code yX8_ticksToStart cX8_ticksToStart 2 (some .int), .fieldLink RX8 10 "ServiceTree" "services" "Ljava/util/ArrayList;", .classLink RX8 65 RX7, .methodLink RX8 86 yJx4a65c_get_915e3, .instanceMethod yJx4a65c_get_915e3, .selects RJx4a65c yJx4a65c_get_915e3 yJx4a65c_get_915e3, .initialized RJx4a65c] : List Cond) ++ (wsX70 ++ (wsX80 ++ (wq_x_get)))
theorem in_y_ticksToStart_X7 : ∀ w ∈ wsX70, w ∈ wq_y_ticksToStart := fun _ h => List.mem_append_right _ (List.mem_append_left _ (h))
theorem in_y_ticksToStart_X8 : ∀ w ∈ wsX80, w ∈ wq_y_ticksToStart := fun _ h => List.mem_append_right _ (List.mem_append_right _ (List.mem_append_left _ (h)))
set_option maxRecDepth 20000 in
theorem wi_y_ticksToStart : ∀ w ∈ wq_y_ticksToStart, w ∈ lw_tbl := List.forall_mem_append.mpr ⟨(wix [798, 224, 278, 453, 454, 455, 63] rfl), List.forall_mem_append.mpr ⟨inKX7, List.forall_mem_append.mpr ⟨inKX8, wi_x_get⟩⟩⟩
set_option maxRecDepth 20000 in
theorem wg_y_ticksToStart : GoodIn wq_y_ticksToStart wq_y_ticksToStart := goodIn_sub (fun _ h => h) (by decide +kernel)
set_option maxRecDepth 20000 in
theorem wc_y_ticksToStart_x_get_86 : GoodIn wq_y_ticksToStart (wsV RX8 86 RJx4a65c yJx4a65c_get_915e3 wq_x_get) := goodIn_app (goodIn_of _ (by decide +kernel)) (fun w h => ⟨List.mem_append_right _ (List.mem_append_right _ (List.mem_append_right _ (h))), (wg_x_get w h).2⟩)
def rm_y_ticksToStart : Room := { frames := 3, cells := 0, slots := 0, locals := 64 }
set_option maxHeartbeats 4000000 in
set_option maxRecDepth 100000 in
theorem c_y_ticksToStart (l : Launch) (dC : Nat → ClassId) (dI : Nat → Nat → Nat) (h : Nat) (a : Nat → Nat) (e : Nat) (cI cJ cO cE : ClassId) (L : Nat → Int64) (I : Nat → Int32) (M : Nat → Nat → Int64) (J : Nat → Nat → Int32) (n cap : Nat) (fE : Nat → Option Nat) (sd : Nat → Nat → Nat) (si : Nat → Nat → Int32) (sa : Nat → Nat → Nat → Int32) (dl : Nat → Nat) (b : Nat) (sv : Nat) (sz : Nat) (hX0 : InvX n cap fE sd dl b I J si) (hb0 : b + 0 < 2147483648) (hp0 : sv < n) : Met l yX8_ticksToStart wq_y_ticksToStart rm_y_ticksToStart (va_Pc [.ref h, .int (nI sv)] (fun U => U.heap.size = sz ∧ va_P (dC, dI) vwCl (xW h a e cI cJ cO cE L I M J n cap fE sd si sa dl) U.heap ∧ va_K (dC, dI) vwCl (xT cI cJ cO cE) U ∧ va_D (fun _ => True) (xW h a e cI cJ cO cE L I M J n cap fE sd si sa dl) ∧ pw_N U)) (va_Qi (fun (r : Int32) (u : Unit) => (r = f_y_ticksToStart n dl sv si)) (fun (u : Unit) (t : State) => va_P (dC, dI) vwCl (xW h a e cI cJ cO cE L I M J n cap fE sd si sa dl) t.heap ∧ va_D (va_A (xW h a e cI cJ cO cE L I M J n cap fE sd si sa dl) sz) (xW h a e cI cJ cO cE L I M J n cap fE sd si sa dl)) (va_A (xW h a e cI cJ cO cE L I M J n cap fE sd si sa dl) sz)) 0 0 (va_A (xW h a e cI cJ cO cE L I M J n cap fE sd si sa dl) sz) := by
  have hn : n ≤ 40 := hX0.1.1
  have hX := hX0
  refine Met.ofW (cc := cX8_ticksToStart) (maxL := 2) (ret := (some .int)) (by decide) rfl ?_
  intro p e9 s m args below meth c s₁ B hml hv
  obtain ⟨rfl, hsz, hP, hK, hD0, hN⟩ := hv
  have hx := B.exec
  have hb := B.bytes
  have hr := B.returns
  have hts := atoms_spec (ws := wq_y_ticksToStart) B.pre
  have hown : s.vm.findClass RX8 = some m.cls := findClass_of_methodNamed B.named
  have hlocks := B.notSynchronized
  subst hsz
  have hD := hD0.self (sz := s.heap.size)
  generalize hAe : va_A (xW h a e cI cJ cO cE L I M J n cap fE sd si sa dl) s.heap.size = A at hD ⊢
  have hA : ∀ q : Nat, s.heap.size ≤ q → A q := fun q h => by rw [← hAe]; exact Or.inr h
  have hS : va_S A s.heap s.heap [] := va_S.rf
  have hl := lv_entry ([.ref h, .int (nI sv)]) (n := 2) (Nat.le_of_ble_eq_true rfl)
  rw [lg_entry_eq]
  generalize (lg_sl ([.ref h, .int (nI sv)]) ++ List.replicate (2 - (lg_sl ([.ref h, .int (nI sv)])).length) Slot.unset).toArray = ls at hl ⊢
  have hl : lv_has ls 2 [(0, .ref h), (1, .int (nI sv))] := hl
  obtain ⟨RES, hR0⟩ : ∃ R9, R9 = f_y_ticksToStart n dl sv si := ⟨_, rfl⟩
  have hZ9 := hR0
  unfold f_y_ticksToStart at hZ9
  refine lv_aload_n hx hb dX8_ticksToStart_0 rfl (lv_at hl 0 rfl) ?_
  refine va_get (D := (dC, dI)) (ci := 9) (v := .ref (a 0)) (C := RX8) (T := TX8) (N := 14) hx hb hts in_y_ticksToStart_X8 hown hK hP 0 rfl rfl 0 (by decide) (hts (.fieldLink RX8 10 "ServiceTree" "services" "Ljava/util/ArrayList;") (by decide +kernel)) (fun _ h9 => h9) rfl dX8_ticksToStart_1 ?_
  refine lv_iload_n hx hb dX8_ticksToStart_4 rfl (lv_at hl 1 rfl) ?_
  have hFc := mw_free hD hS hA
  refine va_callr (va_runV (As := [.int (nI sv)]) (rest := []) ⟨hx, hb, hml, hown, hts⟩ (c_x_get l dC dI h a e cI cJ cO cE L I M J n cap fE sd si sa dl (b) sv s.heap.size hX (by omega) (by omega)) (cwV 1 hts wc_y_ticksToStart_x_get_86 rfl rfl rfl (by decide +kernel) ⟨Nat.le_of_ble_eq_true rfl, Nat.le_of_ble_eq_true rfl⟩) ⟨fun a9 U g mk q => by obtain ⟨q0, q1, qP, qK, qD, qN⟩ := q; exact ⟨q0, q1, qP, va_K.moved (u := U) (U := U.calling g mk a9) (Vm.Alike.refl U.vm) qK, qD, pw_N.same (u := U) (U := U.calling g mk a9) rfl qN⟩, va_recv hK hP (ci := 0) (q0 := 1) rfl rfl, fun U hU hW => ⟨rfl, by rw [hU], by rw [hU]; exact hP, va_K.moved hW.alike hK, hD.weaken (fun _ _ _ _ => trivial), pw_N.warm hW hN⟩⟩ rfl rfl hl.1 rfl (lv_room (Nat.le_of_ble_eq_true rfl)) dX8_ticksToStart_5 ⟨Nat.le_of_ble_eq_true rfl, Nat.le_of_ble_eq_true rfl⟩) hS (fun q _ h => hFc q h) hFc (fun u r1 t H1 locs ht hvm hw hB hz1 hk1 hS => ?_)
  obtain ⟨hra, hB⟩ := hB
  replace hP := hB.1
  rw [ht] at hP
  replace hD : va_D A (xW h a e cI cJ cO cE L I M J n cap fE sd si sa dl) := hB.2.weaken (fun _ q _ h9 => hFc q.1 h9)
  clear hB
  generalize H1 = H at hP hS ⊢
  replace hP : va_P (dC, dI) vwCl (xW h a e cI cJ cO cE L I M J n cap fE sd si sa dl) H := hP
  subst hra
  refine va_castS hx hb hown (hts (.classLink RX8 65 RX7) (by decide +kernel)) (hK.1 8 _ rfl).2 (va_recv hK hP (ci := 8) (q0 := (22 + (6 * sv + 0))) rfl (xAt_0 h a e cI cJ cO cE L I M J n cap fE sd si sa dl (s := sv) (by omega))) dX8_ticksToStart_8 ?_
  refine va_getN (D := (dC, dI)) (ci := 8) (v := .int (si sv 1)) (C := RX7) (T := TX7) (N := 12) hx hb hts in_y_ticksToStart_X7 hown hK hP (22 + (6 * sv + 0)) (xAt_0 h a e cI cJ cO cE L I M J n cap fE sd si sa dl (s := sv) (by omega)) rfl 1 (by decide) (va_Nw.use rfl (hN (.fieldLinkNest RX8 280 "ServiceTree$Service" "startTicks" "I" "ServiceTree") (by decide +kernel))) (fun _ h9 => h9) rfl dX8_ticksToStart_11 ?_
  refine lv_topi (fun x2 ex2 => ?_)
  replace hZ9 := bnd_s hZ9 ex2
  exact W.iret (v := x2) hx hb hr (fun t ht hW => ⟨⟨x2, (), rfl, hZ9.symm.trans hR0, by rw [ht]; exact hP, hD⟩, hS.F ht⟩) hS.2.2 dX8_ticksToStart_14
def f_y_ticksToStop (n : Nat) (dl : Nat → Nat) (sv : Nat) (p1 : Int32) (I : Nat → Int32) (si : Nat → Nat → Int32) : Int32 := bnd ((si sv 6).toNatClampNeg) (fun (z2 : Nat) => if z2 = 5 then (if p1 = (0 : Int32) then (((0 : Int32))) else (bnd (I 0) (fun (x6 : Int32) => bnd (x6 + p1) (fun (x7 : Int32) => bnd (f_y_isDue n dl sv x7 si) (fun (r8 : Int32) => if r8 = (0 : Int32) then (((0 : Int32))) else (bnd (si sv 2) (fun (x10 : Int32) => (x10)))))))) else (bnd (si sv 2) (fun (x4 : Int32) => (x4))))
def wq_y_ticksToStop : List Cond := ([.code yX8_ticksToStop cX8_ticksToStop 5 (some .int), .fieldLink RX8 10 "ServiceTree" "services" "Ljava/util/ArrayList;", .classLink RX8 65 RX7, .fieldLink RX8 67 "ServiceTree" "now" "I", .methodLink RX8 86 yJx4a65c_get_915e3, .instanceMethod yJx4a65c_get_915e3, .selects RJx4a65c yJx4a65c_get_915e3 yJx4a65c_get_915e3, .initialized RJx4a65c, .methodLink RX8 283 yX7_isDue, .instanceMethod yX7_isDue, .selects RX7 yX7_isDue yX7_isDue, .initialized RX7] : List Cond) ++ (wsX70 ++ (wsX80 ++ (wq_x_get ++ (wq_y_isDue))))
theorem in_y_ticksToStop_X7 : ∀ w ∈ wsX70, w ∈ wq_y_ticksToStop := fun _ h => List.mem_append_right _ (List.mem_append_left _ (h))
theorem in_y_ticksToStop_X8 : ∀ w ∈ wsX80, w ∈ wq_y_ticksToStop := fun _ h => List.mem_append_right _ (List.mem_append_right _ (List.mem_append_left _ (h)))
set_option maxRecDepth 20000 in
theorem wi_y_ticksToStop : ∀ w ∈ wq_y_ticksToStop, w ∈ lw_tbl := List.forall_mem_append.mpr ⟨(wix [802, 224, 278, 233, 453, 454, 455, 63, 685, 686, 687, 70] rfl), List.forall_mem_append.mpr ⟨inKX7, List.forall_mem_append.mpr ⟨inKX8, List.forall_mem_append.mpr ⟨wi_x_get, wi_y_isDue⟩⟩⟩⟩
set_option maxRecDepth 20000 in
theorem wg_y_ticksToStop : GoodIn wq_y_ticksToStop wq_y_ticksToStop := goodIn_sub (fun _ h => h) (by decide +kernel)
set_option maxRecDepth 20000 in
theorem wc_y_ticksToStop_x_get_86 : GoodIn wq_y_ticksToStop (wsV RX8 86 RJx4a65c yJx4a65c_get_915e3 wq_x_get) := goodIn_app (goodIn_of _ (by decide +kernel)) (fun w h => ⟨List.mem_append_right _ (List.mem_append_right _ (List.mem_append_right _ (List.mem_append_left _ (h)))), (wg_x_get w h).2⟩)
set_option maxRecDepth 20000 in
theorem wc_y_ticksToStop_y_isDue_283 : GoodIn wq_y_ticksToStop (wsV RX8 283 RX7 yX7_isDue wq_y_isDue) := goodIn_app (goodIn_of _ (by decide +kernel)) (fun w h => ⟨List.mem_append_right _ (List.mem_append_right _ (List.mem_append_right _ (List.mem_append_right _ (h)))), (wg_y_isDue w h).2⟩)
def rm_y_ticksToStop : Room := { frames := 3, cells := 0, slots := 0, locals := 64 }
set_option maxHeartbeats 4000000 in
set_option maxRecDepth 100000 in
theorem c_y_ticksToStop (l : Launch) (dC : Nat → ClassId) (dI : Nat → Nat → Nat) (h : Nat) (a : Nat → Nat) (e : Nat) (cI cJ cO cE : ClassId) (L : Nat → Int64) (I : Nat → Int32) (M : Nat → Nat → Int64) (J : Nat → Nat → Int32) (n cap : Nat) (fE : Nat → Option Nat) (sd : Nat → Nat → Nat) (si : Nat → Nat → Int32) (sa : Nat → Nat → Nat → Int32) (dl : Nat → Nat) (b : Nat) (sv : Nat) (p1 : Int32) (sz : Nat) (hX0 : InvX n cap fE sd dl b I J si) (hb0 : b + 0 < 2147483648) (hp0 : sv < n) : Met l yX8_ticksToStop wq_y_ticksToStop rm_y_ticksToStop (va_Pc [.ref h, .int (nI sv), .int p1] (fun U => U.heap.size = sz ∧ va_P (dC, dI) vwCl (xW h a e cI cJ cO cE L I M J n cap fE sd si sa dl) U.heap ∧ va_K (dC, dI) vwCl (xT cI cJ cO cE) U ∧ va_D (fun _ => True) (xW h a e cI cJ cO cE L I M J n cap fE sd si sa dl) ∧ pw_N U)) (va_Qi (fun (r : Int32) (u : Unit) => (r = f_y_ticksToStop n dl sv p1 I si)) (fun (u : Unit) (t : State) => va_P (dC, dI) vwCl (xW h a e cI cJ cO cE L I M J n cap fE sd si sa dl) t.heap ∧ va_D (va_A (xW h a e cI cJ cO cE L I M J n cap fE sd si sa dl) sz) (xW h a e cI cJ cO cE L I M J n cap fE sd si sa dl)) (va_A (xW h a e cI cJ cO cE L I M J n cap fE sd si sa dl) sz)) 0 0 (va_A (xW h a e cI cJ cO cE L I M J n cap fE sd si sa dl) sz) := by
  have hn : n ≤ 40 := hX0.1.1
  have hX := hX0
  refine Met.ofW (cc := cX8_ticksToStop) (maxL := 5) (ret := (some .int)) (by decide) rfl ?_
  intro p e9 s m args below meth c s₁ B hml hv
  obtain ⟨rfl, hsz, hP, hK, hD0, hN⟩ := hv
  have hx := B.exec
  have hb := B.bytes
  have hr := B.returns
  have hts := atoms_spec (ws := wq_y_ticksToStop) B.pre
  have hown : s.vm.findClass RX8 = some m.cls := findClass_of_methodNamed B.named
  have hlocks := B.notSynchronized
  subst hsz
  have hD := hD0.self (sz := s.heap.size)
  generalize hAe : va_A (xW h a e cI cJ cO cE L I M J n cap fE sd si sa dl) s.heap.size = A at hD ⊢
  have hA : ∀ q : Nat, s.heap.size ≤ q → A q := fun q h => by rw [← hAe]; exact Or.inr h
  have hS : va_S A s.heap s.heap [] := va_S.rf
  have hl := lv_entry ([.ref h, .int (nI sv), .int p1]) (n := 5) (Nat.le_of_ble_eq_true rfl)
  rw [lg_entry_eq]
  generalize (lg_sl ([.ref h, .int (nI sv), .int p1]) ++ List.replicate (5 - (lg_sl ([.ref h, .int (nI sv), .int p1])).length) Slot.unset).toArray = ls at hl ⊢
  have hl : lv_has ls 5 [(0, .ref h), (1, .int (nI sv)), (2, .int p1)] := hl
  obtain ⟨RES, hR0⟩ : ∃ R9, R9 = f_y_ticksToStop n dl sv p1 I si := ⟨_, rfl⟩
  have hZ9 := hR0
  unfold f_y_ticksToStop at hZ9
  refine lv_aload_n hx hb dX8_ticksToStop_0 rfl (lv_at hl 0 rfl) ?_
  refine va_get (D := (dC, dI)) (ci := 9) (v := .ref (a 0)) (C := RX8) (T := TX8) (N := 14) hx hb hts in_y_ticksToStop_X8 hown hK hP 0 rfl rfl 0 (by decide) (hts (.fieldLink RX8 10 "ServiceTree" "services" "Ljava/util/ArrayList;") (by decide +kernel)) (fun _ h9 => h9) rfl dX8_ticksToStop_1 ?_
  refine lv_iload_n hx hb dX8_ticksToStop_4 rfl (lv_at hl 1 rfl) ?_
  have hFc := mw_free hD hS hA
  refine va_callr (va_runV (As := [.int (nI sv)]) (rest := []) ⟨hx, hb, hml, hown, hts⟩ (c_x_get l dC dI h a e cI cJ cO cE L I M J n cap fE sd si sa dl (b) sv s.heap.size hX (by omega) (by omega)) (cwV 1 hts wc_y_ticksToStop_x_get_86 rfl rfl rfl (by decide +kernel) ⟨Nat.le_of_ble_eq_true rfl, Nat.le_of_ble_eq_true rfl⟩) ⟨fun a9 U g mk q => by obtain ⟨q0, q1, qP, qK, qD, qN⟩ := q; exact ⟨q0, q1, qP, va_K.moved (u := U) (U := U.calling g mk a9) (Vm.Alike.refl U.vm) qK, qD, pw_N.same (u := U) (U := U.calling g mk a9) rfl qN⟩, va_recv hK hP (ci := 0) (q0 := 1) rfl rfl, fun U hU hW => ⟨rfl, by rw [hU], by rw [hU]; exact hP, va_K.moved hW.alike hK, hD.weaken (fun _ _ _ _ => trivial), pw_N.warm hW hN⟩⟩ rfl rfl hl.1 rfl (lv_room (Nat.le_of_ble_eq_true rfl)) dX8_ticksToStop_5 ⟨Nat.le_of_ble_eq_true rfl, Nat.le_of_ble_eq_true rfl⟩) hS (fun q _ h => hFc q h) hFc (fun u r1 t H1 locs ht hvm hw hB hz1 hk1 hS => ?_)
  obtain ⟨hra, hB⟩ := hB
  replace hP := hB.1
  rw [ht] at hP
  replace hD : va_D A (xW h a e cI cJ cO cE L I M J n cap fE sd si sa dl) := hB.2.weaken (fun _ q _ h9 => hFc q.1 h9)
  clear hB
  generalize H1 = H at hP hS ⊢
  replace hP : va_P (dC, dI) vwCl (xW h a e cI cJ cO cE L I M J n cap fE sd si sa dl) H := hP
  subst hra
  refine va_castS hx hb hown (hts (.classLink RX8 65 RX7) (by decide +kernel)) (hK.1 8 _ rfl).2 (va_recv hK hP (ci := 8) (q0 := (22 + (6 * sv + 0))) rfl (xAt_0 h a e cI cJ cO cE L I M J n cap fE sd si sa dl (s := sv) (by omega))) dX8_ticksToStop_8 ?_
  refine lv_astore_n (lv' := [(3, .ref (sd sv 0)), (0, .ref h), (1, .int (nI sv)), (2, .int p1)]) hx hb dX8_ticksToStop_11 rfl hl (by decide) rfl (fun ls hl => ?_)
  refine lv_aload_n hx hb dX8_ticksToStop_12 rfl (lv_at hl 0 rfl) ?_
  refine va_getN (D := (dC, dI)) (ci := 8) (v := .int (si sv 6)) (C := RX7) (T := TX7) (N := 12) hx hb hts in_y_ticksToStop_X7 hown hK hP (22 + (6 * sv + 0)) (xAt_0 h a e cI cJ cO cE L I M J n cap fE sd si sa dl (s := sv) (by omega)) rfl 6 (by decide) (va_Nw.use rfl (hN (.fieldLinkNest RX8 162 "ServiceTree$Service" "state" "I" "ServiceTree") (by decide +kernel))) (fun _ h9 => h9) rfl dX8_ticksToStop_13 ?_
  obtain ⟨z2, hz2, ez2⟩ := hX.2.2.2.1 sv
  refine p1_topr (v := .int (nI z2)) (congrArg Value.int ez2) ?_
  replace hZ9 := bnd_s hZ9 (show z2 = (si sv 6).toNatClampNeg by rw [ez2, nI_clamp (by omega)])
  refine lv_iconst (v := 5) hx hb dX8_ticksToStop_16 (by decide) ?_
  refine lv_icmp_ne (tgt := 41) hx hb dX8_ticksToStop_17 (by decide) (fun c3 => ?_) (fun c3 => ?_)
  · replace c3 : ¬ (z2 = 5) := fun q9 => c3 ((nI_eq (a := z2) (b := 5) (by omega) (by omega)).mpr q9)
    replace hZ9 := ite_f hZ9 c3
    refine lv_iconst (v := 0) hx hb dX8_ticksToStop_41 (by decide) ?_
    refine lv_istore (lv' := [(4, .int 0), (3, .ref (sd sv 0)), (0, .ref h), (1, .int (nI sv)), (2, .int p1)]) hx hb dX8_ticksToStop_42 hl (by decide) rfl (fun ls hl => ?_)
    refine lv_iload hx hb dX8_ticksToStop_44 (lv_at hl 0 rfl) ?_
    refine lv_if_eq (tgt := 53) hx hb dX8_ticksToStop_46 (by decide) (fun _ => ?_) (fun c9 => absurd (by decide) c9)
    refine lv_aload_n hx hb dX8_ticksToStop_53 rfl (lv_at hl 1 rfl) ?_
    refine va_getN (D := (dC, dI)) (ci := 8) (v := .int (si sv 2)) (C := RX7) (T := TX7) (N := 12) hx hb hts in_y_ticksToStop_X7 hown hK hP (22 + (6 * sv + 0)) (xAt_0 h a e cI cJ cO cE L I M J n cap fE sd si sa dl (s := sv) (by omega)) rfl 2 (by decide) (va_Nw.use rfl (hN (.fieldLinkNest RX8 286 "ServiceTree$Service" "stopTicks" "I" "ServiceTree") (by decide +kernel))) (fun _ h9 => h9) rfl dX8_ticksToStop_54 ?_
    refine lv_topi (fun x4 ex4 => ?_)
    replace hZ9 := bnd_s hZ9 ex4
    exact W.iret (v := x4) hx hb hr (fun t ht hW => ⟨⟨x4, (), rfl, hZ9.symm.trans hR0, by rw [ht]; exact hP, hD⟩, hS.F ht⟩) hS.2.2 dX8_ticksToStop_57
  · replace c3 : z2 = 5 := (nI_eq (a := z2) (b := 5) (by omega) (by omega)).mp c3
    replace hZ9 := ite_t hZ9 c3
    refine lv_iload_n hx hb dX8_ticksToStop_20 rfl (lv_at hl 3 rfl) ?_
    refine lv_if_eq (tgt := 37) hx hb dX8_ticksToStop_21 (by decide) (fun c5 => ?_) (fun c5 => ?_)
    · replace hZ9 := ite_t hZ9 c5
      refine lv_iconst (v := 1) hx hb dX8_ticksToStop_37 (by decide) ?_
      refine lv_goto (tgt := 42) hx hb dX8_ticksToStop_38 (by decide) ?_
      refine lv_istore (lv' := [(4, .int 1), (3, .ref (sd sv 0)), (0, .ref h), (1, .int (nI sv)), (2, .int p1)]) hx hb dX8_ticksToStop_42 hl (by decide) rfl (fun ls hl => ?_)
      refine lv_iload hx hb dX8_ticksToStop_44 (lv_at hl 0 rfl) ?_
      refine lv_if_eq (tgt := 53) hx hb dX8_ticksToStop_46 (by decide) (fun c9 => absurd c9 (by decide)) (fun _ => ?_)
      refine lv_iconst (v := 0) hx hb dX8_ticksToStop_49 (by decide) ?_
      refine lv_goto (tgt := 57) hx hb dX8_ticksToStop_50 (by decide) ?_
      exact W.iret (v := 0) hx hb hr (fun t ht hW => ⟨⟨0, (), rfl, hZ9.symm.trans hR0, by rw [ht]; exact hP, hD⟩, hS.F ht⟩) hS.2.2 dX8_ticksToStop_57
    · replace hZ9 := ite_f hZ9 c5
      refine lv_aload_n hx hb dX8_ticksToStop_24 rfl (lv_at hl 0 rfl) ?_
      refine lv_aload_n hx hb dX8_ticksToStop_25 rfl (lv_at hl 1 rfl) ?_
      refine va_get (D := (dC, dI)) (ci := 9) (v := .int (I 0)) (C := RX8) (T := TX8) (N := 14) hx hb hts in_y_ticksToStop_X8 hown hK hP 0 rfl rfl 9 (by decide) (hts (.fieldLink RX8 67 "ServiceTree" "now" "I") (by decide +kernel)) (fun _ h9 => h9) rfl dX8_ticksToStop_26 ?_
      refine lv_topi (fun x6 ex6 => ?_)
      replace hZ9 := bnd_s hZ9 ex6
      refine lv_iload_n hx hb dX8_ticksToStop_29 rfl (lv_at hl 3 rfl) ?_
      refine lv_iadd hx hb dX8_ticksToStop_30 ?_
      refine lv_topi (fun x7 ex7 => ?_)
      replace hZ9 := bnd_s hZ9 ex7
      have hFc := mw_free hD hS hA
      refine va_calli (va_runV (As := [.int x7]) (rest := []) ⟨hx, hb, hml, hown, hts⟩ (c_y_isDue l dC dI h a e cI cJ cO cE L I M J n cap fE sd si sa dl (b) sv x7 H.size hX (by omega) (by omega)) (cwV 1 hts wc_y_ticksToStop_y_isDue_283 rfl rfl rfl (by decide +kernel) ⟨Nat.le_of_ble_eq_true rfl, Nat.le_of_ble_eq_true rfl⟩) ⟨fun a9 U g mk q => by obtain ⟨q0, q1, qP, qK, qD, qN⟩ := q; exact ⟨q0, q1, qP, va_K.moved (u := U) (U := U.calling g mk a9) (Vm.Alike.refl U.vm) qK, qD, pw_N.same (u := U) (U := U.calling g mk a9) rfl qN⟩, va_recv hK hP (ci := 8) (q0 := (22 + (6 * sv + 0))) rfl (xAt_0 h a e cI cJ cO cE L I M J n cap fE sd si sa dl (s := sv) (by omega)), fun U hU hW => ⟨rfl, by rw [hU], by rw [hU]; exact hP, va_K.moved hW.alike hK, hD.weaken (fun _ _ _ _ => trivial), pw_N.warm hW hN⟩⟩ rfl rfl hl.1 rfl (lv_room (Nat.le_of_ble_eq_true rfl)) dX8_ticksToStop_31 ⟨Nat.le_of_ble_eq_true rfl, Nat.le_of_ble_eq_true rfl⟩) hS (fun q _ h => hFc q h) hFc (fun r8 u t H1 locs ht hvm hw hB hz1 hk1 hS => ?_)
      replace hP := hB.1
      rw [ht] at hP
      replace hD : va_D A (xW h a e cI cJ cO cE L I M J n cap fE sd si sa dl) := hB.2.weaken (fun _ q _ h9 => hFc q.1 h9)
      clear hB
      generalize H1 = H at hP hS ⊢
      replace hP : va_P (dC, dI) vwCl (xW h a e cI cJ cO cE L I M J n cap fE sd si sa dl) H := hP
      obtain ⟨hw, hwe⟩ := hw
      replace hw : r8 = f_y_isDue n dl sv x7 si := hw
      replace hZ9 := bnd_s hZ9 hw
      have br8 := hwe
      refine lv_if_ne (tgt := 41) hx hb dX8_ticksToStop_34 (by decide) (fun c9 => ?_) (fun c9 => ?_)
      · replace hZ9 := ite_f hZ9 c9
        refine lv_iconst (v := 0) hx hb dX8_ticksToStop_41 (by decide) ?_
        refine lv_istore (lv' := [(4, .int 0), (3, .ref (sd sv 0)), (0, .ref h), (1, .int (nI sv)), (2, .int p1)]) hx hb dX8_ticksToStop_42 hl (by decide) rfl (fun ls hl => ?_)
        refine lv_iload hx hb dX8_ticksToStop_44 (lv_at hl 0 rfl) ?_
        refine lv_if_eq (tgt := 53) hx hb dX8_ticksToStop_46 (by decide) (fun _ => ?_) (fun c9 => absurd (by decide) c9)
        refine lv_aload_n hx hb dX8_ticksToStop_53 rfl (lv_at hl 1 rfl) ?_
        refine va_getN (D := (dC, dI)) (ci := 8) (v := .int (si sv 2)) (C := RX7) (T := TX7) (N := 12) hx hb hts in_y_ticksToStop_X7 hown hK hP (22 + (6 * sv + 0)) (xAt_0 h a e cI cJ cO cE L I M J n cap fE sd si sa dl (s := sv) (by omega)) rfl 2 (by decide) (va_Nw.use rfl (hN (.fieldLinkNest RX8 286 "ServiceTree$Service" "stopTicks" "I" "ServiceTree") (by decide +kernel))) (fun _ h9 => h9) rfl dX8_ticksToStop_54 ?_
        refine lv_topi (fun x10 ex10 => ?_)
        replace hZ9 := bnd_s hZ9 ex10
        exact W.iret (v := x10) hx hb hr (fun t ht hW => ⟨⟨x10, (), rfl, hZ9.symm.trans hR0, by rw [ht]; exact hP, hD⟩, hS.F ht⟩) hS.2.2 dX8_ticksToStop_57
      · replace hZ9 := ite_t hZ9 c9
        refine lv_iconst (v := 1) hx hb dX8_ticksToStop_37 (by decide) ?_
        refine lv_goto (tgt := 42) hx hb dX8_ticksToStop_38 (by decide) ?_
        refine lv_istore (lv' := [(4, .int 1), (3, .ref (sd sv 0)), (0, .ref h), (1, .int (nI sv)), (2, .int p1)]) hx hb dX8_ticksToStop_42 hl (by decide) rfl (fun ls hl => ?_)
        refine lv_iload hx hb dX8_ticksToStop_44 (lv_at hl 0 rfl) ?_
        refine lv_if_eq (tgt := 53) hx hb dX8_ticksToStop_46 (by decide) (fun c9 => absurd c9 (by decide)) (fun _ => ?_)
        refine lv_iconst (v := 0) hx hb dX8_ticksToStop_49 (by decide) ?_
        refine lv_goto (tgt := 57) hx hb dX8_ticksToStop_50 (by decide) ?_
        exact W.iret (v := 0) hx hb hr (fun t ht hW => ⟨⟨0, (), rfl, hZ9.symm.trans hR0, by rw [ht]; exact hP, hD⟩, hS.F ht⟩) hS.2.2 dX8_ticksToStop_57
def f_y_layOutDraft_49 (n : Nat) (dl : Nat → Nat) (M : Nat → Nat → Int64) (si : Nat → Nat → Int32) (x1 : Int64) (x2 : Int64) : Nat → Nat → Int64 → (Nat → Int32) → (Nat → Nat → Int32) → (Nat → Int64 → (Nat → Int32) → (Nat → Nat → Int32) → (Nat → Int64) × (Nat → Int32) × (Nat → Nat → Int32)) → (Nat → Int64) × (Nat → Int32) × (Nat → Nat → Int32)
  | 0, i17, y23, I21, J22, K9_49 => K9_49 i17 y23 I21 J22
  | fu18 + 1, i17, y23, I21, J22, K9_49 => if n ≤ i17 then (K9_49 i17 y23 I21 J22) else (bnd (f_y_holds n dl y23 i17 ) (fun (r26 : Int32) => if r26 = (0 : Int32) then (f_y_layOutDraft_49 n dl M si x1 x2 fu18 (i17 + 1) y23 I21 J22 K9_49) else (bnd (f_y_rawaited n dl i17 x1 x2 M) (fun (r28 : Int64) => bnd (r28 &&& y23) (fun (x29 : Int64) => bnd (lg_cmp x29 (0 : Int64)) (fun (x30 : Int32) => if x30 = (0 : Int32) then (bnd (f_y_rawaited n dl i17 x1 x2 M) (fun (r32 : Int64) => bnd (f_y_endOf n dl r32 J22) (fun (r33 : Int32) => bnd (f_y_holds n dl x1 i17 ) (fun (r34 : Int32) => if r34 = (0 : Int32) then (bnd (f_y_ticksToStop n dl i17 r33 I21 si) (fun (r36 : Int32) => bnd (r33 + r36) (fun (x37 : Int32) => bn2 (f_y_padd n dl i17 r33 x37 I21 J22) (fun (I39 : Nat → Int32) (J40 : Nat → Nat → Int32) => bnd (f_y_only n dl i17 ) (fun (r41 : Int64) => bnd (r41 ^^^ (-1 : Int64)) (fun (x42 : Int64) => bnd (y23 &&& x42) (fun (x43 : Int64) => f_y_layOutDraft_49 n dl M si x1 x2 fu18 (i17 + 1) x43 I39 J40 K9_49))))))) else (bnd (f_y_ticksToStart n dl i17 si) (fun (r44 : Int32) => bnd (r33 + r44) (fun (x45 : Int32) => bn2 (f_y_padd n dl i17 r33 x45 I21 J22) (fun (I47 : Nat → Int32) (J48 : Nat → Nat → Int32) => bnd (f_y_only n dl i17 ) (fun (r49 : Int64) => bnd (r49 ^^^ (-1 : Int64)) (fun (x50 : Int64) => bnd (y23 &&& x50) (fun (x51 : Int64) => f_y_layOutDraft_49 n dl M si x1 x2 fu18 (i17 + 1) x51 I47 J48 K9_49))))))))))) else (f_y_layOutDraft_49 n dl M si x1 x2 fu18 (i17 + 1) y23 I21 J22 K9_49)))))))
def f_y_layOutDraft_32 (n : Nat) (dl : Nat → Nat) (M : Nat → Nat → Int64) (si : Nat → Nat → Int32) (x1 : Int64) (x2 : Int64) : Nat → Nat → Int64 → (Nat → Int32) → (Nat → Nat → Int32) → (Nat → Int64 → (Nat → Int32) → (Nat → Nat → Int32) → (Nat → Int64) × (Nat → Int32) × (Nat → Nat → Int32)) → (Nat → Int64) × (Nat → Int32) × (Nat → Nat → Int32)
  | 0, i7, y13, I11, J12, K9_32 => K9_32 i7 y13 I11 J12
  | fu8 + 1, i7, y13, I11, J12, K9_32 => if 40 ≤ i7 then (K9_32 i7 y13 I11 J12) else (bnd (lg_cmp y13 (0 : Int64)) (fun (x15 : Int32) => if x15 = (0 : Int32) then (K9_32 i7 y13 I11 J12) else (f_y_layOutDraft_49 n dl M si x1 x2 (n + 1) 0 y13 I11 J12 (fun (i17 : Nat) (y23 : Int64) (I21 : Nat → Int32) (J22 : Nat → Nat → Int32) => f_y_layOutDraft_32 n dl M si x1 x2 fu8 (i7 + 1) y23 I21 J22 K9_32))))
def f_y_layOutDraft (n : Nat) (dl : Nat → Nat)  (L : Nat → Int64) (I : Nat → Int32) (M : Nat → Nat → Int64) (J : Nat → Nat → Int32) (si : Nat → Nat → Int32) : (Nat → Int64) × (Nat → Int32) × (Nat → Nat → Int32) := bnd (L 3) (fun (x1 : Int64) => bnd (L 4) (fun (x2 : Int64) => bnd (x1 ||| x2) (fun (x3 : Int64) => bn2 (f_y_planClear n dl x1 L I) (fun (L5 : Nat → Int64) (I6 : Nat → Int32) => f_y_layOutDraft_32 n dl M si x1 x2 (40 + 1) 0 x3 I6 J (fun (i7 : Nat) (y13 : Int64) (I11 : Nat → Int32) (J12 : Nat → Nat → Int32) => (L5, I11, J12))))))
def wq_y_layOutDraft : List Cond := ([.code yX8_layOutDraft cX8_layOutDraft 10 none, .fieldLink RX8 28 "ServiceTree" "draft" "LServiceTree$Draft;", .fieldLink RX8 42 "ServiceTree" "latestPlan" "LServiceTree$Plan;", .fieldLink RX8 10 "ServiceTree" "services" "Ljava/util/ArrayList;", .fieldLink RX8 19 "ServiceTree" "relations" "LServiceTree$Relations;", .constantLong RX8 238 (-1), .methodLink RX8 263 yX4_clear, .instanceMethod yX4_clear, .selects RX4 yX4_clear yX4_clear, .initialized RX4, .methodLink RX8 61 yJx4a65c_size_8abf5, .instanceMethod yJx4a65c_size_8abf5, .selects RJx4a65c yJx4a65c_size_8abf5 yJx4a65c_size_8abf5, .initialized RJx4a65c, .methodLink RX8 114 yX8_holds, .static yX8_holds, .initialized RX8, .methodLink RX8 267 yX5_awaitedBy, .instanceMethod yX5_awaitedBy, .selects RX5 yX5_awaitedBy yX5_awaitedBy, .initialized RX5, .methodLink RX8 270 yX4_endOf, .instanceMethod yX4_endOf, .selects RX4 yX4_endOf yX4_endOf, .methodLink RX8 276 yX8_ticksToStop, .instanceMethod yX8_ticksToStop, .selects RX8 yX8_ticksToStop yX8_ticksToStop, .methodLink RX8 279 yX4_add, .instanceMethod yX4_add, .selects RX4 yX4_add yX4_add, .methodLink RX8 78 yX8_only, .static yX8_only, .methodLink RX8 273 yX8_ticksToStart, .instanceMethod yX8_ticksToStart, .selects RX8 yX8_ticksToStart yX8_ticksToStart] : List Cond) ++ (wsX10 ++ (wsX80 ++ (wq_y_planClear ++ (wq_y_size ++ (wq_y_holds ++ (wq_y_rawaited ++ (wq_y_endOf ++ (wq_y_ticksToStop ++ (wq_y_padd ++ (wq_y_only ++ (wq_y_ticksToStart)))))))))))
theorem in_y_layOutDraft_X1 : ∀ w ∈ wsX10, w ∈ wq_y_layOutDraft := fun _ h => List.mem_append_right _ (List.mem_append_left _ (h))
theorem in_y_layOutDraft_X8 : ∀ w ∈ wsX80, w ∈ wq_y_layOutDraft := fun _ h => List.mem_append_right _ (List.mem_append_right _ (List.mem_append_left _ (h)))
set_option maxRecDepth 20000 in
theorem wi_y_layOutDraft : ∀ w ∈ wq_y_layOutDraft, w ∈ lw_tbl := List.forall_mem_append.mpr ⟨(wix [783, 226, 228, 224, 225, 597, 784, 785, 786, 67, 274, 275, 276, 63, 487, 488, 60, 788, 644, 645, 64, 789, 790, 791, 799, 801, 30, 803, 804, 805, 442, 443, 795, 797, 29] rfl), List.forall_mem_append.mpr ⟨inKX1, List.forall_mem_append.mpr ⟨inKX8, List.forall_mem_append.mpr ⟨wi_y_planClear, List.forall_mem_append.mpr ⟨wi_y_size, List.forall_mem_append.mpr ⟨wi_y_holds, List.forall_mem_append.mpr ⟨wi_y_rawaited, List.forall_mem_append.mpr ⟨wi_y_endOf, List.forall_mem_append.mpr ⟨wi_y_ticksToStop, List.forall_mem_append.mpr ⟨wi_y_padd, List.forall_mem_append.mpr ⟨wi_y_only, wi_y_ticksToStart⟩⟩⟩⟩⟩⟩⟩⟩⟩⟩⟩
set_option maxRecDepth 20000 in
theorem wg_y_layOutDraft : GoodIn wq_y_layOutDraft wq_y_layOutDraft := goodIn_sub (fun _ h => h) (by decide +kernel)
set_option maxRecDepth 20000 in
theorem wc_y_layOutDraft_y_planClear_263 : GoodIn wq_y_layOutDraft (wsV RX8 263 RX4 yX4_clear wq_y_planClear) := goodIn_app (goodIn_of _ (by decide +kernel)) (fun w h => ⟨List.mem_append_right _ (List.mem_append_right _ (List.mem_append_right _ (List.mem_append_left _ (h)))), (wg_y_planClear w h).2⟩)
set_option maxRecDepth 20000 in
theorem wc_y_layOutDraft_y_size_61 : GoodIn wq_y_layOutDraft (wsV RX8 61 RJx4a65c yJx4a65c_size_8abf5 wq_y_size) := goodIn_app (goodIn_of _ (by decide +kernel)) (fun w h => ⟨List.mem_append_right _ (List.mem_append_right _ (List.mem_append_right _ (List.mem_append_right _ (List.mem_append_left _ (h))))), (wg_y_size w h).2⟩)
set_option maxRecDepth 20000 in
theorem wc_y_layOutDraft_y_holds_114 : GoodIn wq_y_layOutDraft (va_wsS RX8 114 yX8_holds wq_y_holds) := goodIn_app (goodIn_of _ (by decide +kernel)) (fun w h => ⟨List.mem_append_right _ (List.mem_append_right _ (List.mem_append_right _ (List.mem_append_right _ (List.mem_append_right _ (List.mem_append_left _ (h)))))), (wg_y_holds w h).2⟩)
set_option maxRecDepth 20000 in
theorem wc_y_layOutDraft_y_rawaited_267 : GoodIn wq_y_layOutDraft (wsV RX8 267 RX5 yX5_awaitedBy wq_y_rawaited) := goodIn_app (goodIn_of _ (by decide +kernel)) (fun w h => ⟨List.mem_append_right _ (List.mem_append_right _ (List.mem_append_right _ (List.mem_append_right _ (List.mem_append_right _ (List.mem_append_right _ (List.mem_append_left _ (h))))))), (wg_y_rawaited w h).2⟩)
set_option maxRecDepth 20000 in
theorem wc_y_layOutDraft_y_endOf_270 : GoodIn wq_y_layOutDraft (wsV RX8 270 RX4 yX4_endOf wq_y_endOf) := goodIn_app (goodIn_of _ (by decide +kernel)) (fun w h => ⟨List.mem_append_right _ (List.mem_append_right _ (List.mem_append_right _ (List.mem_append_right _ (List.mem_append_right _ (List.mem_append_right _ (List.mem_append_right _ (List.mem_append_left _ (h)))))))), (wg_y_endOf w h).2⟩)
set_option maxRecDepth 20000 in
theorem wc_y_layOutDraft_y_ticksToStop_276 : GoodIn wq_y_layOutDraft (wsV RX8 276 RX8 yX8_ticksToStop wq_y_ticksToStop) := goodIn_app (goodIn_of _ (by decide +kernel)) (fun w h => ⟨List.mem_append_right _ (List.mem_append_right _ (List.mem_append_right _ (List.mem_append_right _ (List.mem_append_right _ (List.mem_append_right _ (List.mem_append_right _ (List.mem_append_right _ (List.mem_append_left _ (h))))))))), (wg_y_ticksToStop w h).2⟩)
set_option maxRecDepth 20000 in
theorem wc_y_layOutDraft_y_padd_279 : GoodIn wq_y_layOutDraft (wsV RX8 279 RX4 yX4_add wq_y_padd) := goodIn_app (goodIn_of _ (by decide +kernel)) (fun w h => ⟨List.mem_append_right _ (List.mem_append_right _ (List.mem_append_right _ (List.mem_append_right _ (List.mem_append_right _ (List.mem_append_right _ (List.mem_append_right _ (List.mem_append_right _ (List.mem_append_right _ (List.mem_append_left _ (h)))))))))), (wg_y_padd w h).2⟩)
set_option maxRecDepth 20000 in
theorem wc_y_layOutDraft_y_only_78 : GoodIn wq_y_layOutDraft (va_wsS RX8 78 yX8_only wq_y_only) := goodIn_app (goodIn_of _ (by decide +kernel)) (fun w h => ⟨List.mem_append_right _ (List.mem_append_right _ (List.mem_append_right _ (List.mem_append_right _ (List.mem_append_right _ (List.mem_append_right _ (List.mem_append_right _ (List.mem_append_right _ (List.mem_append_right _ (List.mem_append_right _ (List.mem_append_left _ (h))))))))))), (wg_y_only w h).2⟩)
set_option maxRecDepth 20000 in
theorem wc_y_layOutDraft_y_ticksToStart_273 : GoodIn wq_y_layOutDraft (wsV RX8 273 RX8 yX8_ticksToStart wq_y_ticksToStart) := goodIn_app (goodIn_of _ (by decide +kernel)) (fun w h => ⟨List.mem_append_right _ (List.mem_append_right _ (List.mem_append_right _ (List.mem_append_right _ (List.mem_append_right _ (List.mem_append_right _ (List.mem_append_right _ (List.mem_append_right _ (List.mem_append_right _ (List.mem_append_right _ (List.mem_append_right _ (h))))))))))), (wg_y_ticksToStart w h).2⟩)
def rm_y_layOutDraft : Room := { frames := 4, cells := 0, slots := 0, locals := 88 }
set_option maxHeartbeats 4000000 in
set_option maxRecDepth 100000 in
theorem c_y_layOutDraft (l : Launch) (dC : Nat → ClassId) (dI : Nat → Nat → Nat) (h : Nat) (a : Nat → Nat) (e : Nat) (cI cJ cO cE : ClassId) (L : Nat → Int64) (I : Nat → Int32) (M : Nat → Nat → Int64) (J : Nat → Nat → Int32) (n cap : Nat) (fE : Nat → Option Nat) (sd : Nat → Nat → Nat) (si : Nat → Nat → Int32) (sa : Nat → Nat → Nat → Int32) (dl : Nat → Nat) (b : Nat)  (sz : Nat) (hX0 : InvX n cap fE sd dl b I J si) (hb0 : b + 0 < 2147483648)  : Met l yX8_layOutDraft wq_y_layOutDraft rm_y_layOutDraft (va_Pc [.ref h] (fun U => U.heap.size = sz ∧ va_P (dC, dI) vwCl (xW h a e cI cJ cO cE L I M J n cap fE sd si sa dl) U.heap ∧ va_K (dC, dI) vwCl (xT cI cJ cO cE) U ∧ va_D (fun _ => True) (xW h a e cI cJ cO cE L I M J n cap fE sd si sa dl) ∧ pw_N U)) (va_Qv (fun (u : (Nat → Int64) × (Nat → Int32) × (Nat → Nat → Int32)) => InvX n cap fE sd dl (b + 0) u.2.1 u.2.2 si ∧ (∀ j9 : Nat, j9 ∉ ([8] : List Nat) → u.1 j9 = L j9) ∧ (∀ j9 : Nat, j9 ∉ ([9, 10, 11] : List Nat) → u.2.1 j9 = I j9) ∧ (∀ j9 : Nat, j9 ∉ ([0, 1, 2] : List Nat) → u.2.2 j9 = J j9) ∧ (u = f_y_layOutDraft n dl  L I M J si)) (fun (u : (Nat → Int64) × (Nat → Int32) × (Nat → Nat → Int32)) (t : State) => va_P (dC, dI) vwCl (xW h a e cI cJ cO cE u.1 u.2.1 M u.2.2 n cap fE sd si sa dl) t.heap ∧ va_D (va_A (xW h a e cI cJ cO cE L I M J n cap fE sd si sa dl) sz) (xW h a e cI cJ cO cE u.1 u.2.1 M u.2.2 n cap fE sd si sa dl)) (va_A (xW h a e cI cJ cO cE L I M J n cap fE sd si sa dl) sz)) 0 0 (va_A (xW h a e cI cJ cO cE L I M J n cap fE sd si sa dl) sz) := by
  have hn : n ≤ 40 := hX0.1.1
  have hX := hX0
  have hUL : ∀ j9 : Nat, j9 ∉ ([8] : List Nat) → L j9 = L j9 := fun _ _ => rfl
  have hUI : ∀ j9 : Nat, j9 ∉ ([9, 10, 11] : List Nat) → I j9 = I j9 := fun _ _ => rfl
  have hUJ : ∀ j9 : Nat, j9 ∉ ([0, 1, 2] : List Nat) → J j9 = J j9 := fun _ _ => rfl
  refine Met.ofW (cc := cX8_layOutDraft) (maxL := 10) (ret := none) (by decide) rfl ?_
  intro p e9 s m args below meth c s₁ B hml hv
  obtain ⟨rfl, hsz, hP, hK, hD0, hN⟩ := hv
  have hx := B.exec
  have hb := B.bytes
  have hr := B.returns
  have hts := atoms_spec (ws := wq_y_layOutDraft) B.pre
  have hown : s.vm.findClass RX8 = some m.cls := findClass_of_methodNamed B.named
  have hlocks := B.notSynchronized
  subst hsz
  have hD := hD0.self (sz := s.heap.size)
  generalize hAe : va_A (xW h a e cI cJ cO cE L I M J n cap fE sd si sa dl) s.heap.size = A at hD ⊢
  have hA : ∀ q : Nat, s.heap.size ≤ q → A q := fun q h => by rw [← hAe]; exact Or.inr h
  have hS : va_S A s.heap s.heap [] := va_S.rf
  have hl := lv_entry ([.ref h]) (n := 10) (Nat.le_of_ble_eq_true rfl)
  rw [lg_entry_eq]
  generalize (lg_sl ([.ref h]) ++ List.replicate (10 - (lg_sl ([.ref h])).length) Slot.unset).toArray = ls at hl ⊢
  have hl : lv_has ls 10 [(0, .ref h)] := hl
  refine mw_Q (fun Q0 hQ => ?_)
  obtain ⟨RES, hR0⟩ : ∃ R9, R9 = f_y_layOutDraft n dl  L I M J si := ⟨_, rfl⟩
  have hZ9 := hR0
  unfold f_y_layOutDraft at hZ9
  refine lv_aload_n hx hb dX8_layOutDraft_0 rfl (lv_at hl 0 rfl) ?_
  refine va_get (D := (dC, dI)) (ci := 9) (v := .ref (a 2)) (C := RX8) (T := TX8) (N := 14) hx hb hts in_y_layOutDraft_X8 hown hK hP 0 rfl rfl 2 (by decide) (hts (.fieldLink RX8 28 "ServiceTree" "draft" "LServiceTree$Draft;") (by decide +kernel)) (fun _ h9 => h9) rfl dX8_layOutDraft_1 ?_
  refine va_getN (D := (dC, dI)) (ci := 2) (v := .long (L 3)) (C := RX1) (T := TX1) (N := 5) hx hb hts in_y_layOutDraft_X1 hown hK hP 13 rfl rfl 2 (by decide) (va_Nw.use rfl (hN (.fieldLinkNest RX8 247 "ServiceTree$Draft" "starts" "J" "ServiceTree") (by decide +kernel))) (fun _ h9 => h9) rfl dX8_layOutDraft_4 ?_
  refine lv_topl (fun x1 ex1 => ?_)
  replace hZ9 := bnd_s hZ9 ex1
  refine lv_lstore_n (lv' := [(1, .long x1), (0, .ref h)]) hx hb dX8_layOutDraft_7 rfl hl (by decide) rfl (fun ls hl => ?_)
  refine lv_aload_n hx hb dX8_layOutDraft_8 rfl (lv_at hl 1 rfl) ?_
  refine va_get (D := (dC, dI)) (ci := 9) (v := .ref (a 2)) (C := RX8) (T := TX8) (N := 14) hx hb hts in_y_layOutDraft_X8 hown hK hP 0 rfl rfl 2 (by decide) (hts (.fieldLink RX8 28 "ServiceTree" "draft" "LServiceTree$Draft;") (by decide +kernel)) (fun _ h9 => h9) rfl dX8_layOutDraft_9 ?_
  refine va_getN (D := (dC, dI)) (ci := 2) (v := .long (L 4)) (C := RX1) (T := TX1) (N := 5) hx hb hts in_y_layOutDraft_X1 hown hK hP 13 rfl rfl 3 (by decide) (va_Nw.use rfl (hN (.fieldLinkNest RX8 253 "ServiceTree$Draft" "stops" "J" "ServiceTree") (by decide +kernel))) (fun _ h9 => h9) rfl dX8_layOutDraft_12 ?_
  refine lv_topl (fun x2 ex2 => ?_)
  replace hZ9 := bnd_s hZ9 ex2
  refine lv_lstore_n (lv' := [(3, .long x2), (1, .long x1), (0, .ref h)]) hx hb dX8_layOutDraft_15 rfl hl (by decide) rfl (fun ls hl => ?_)
  refine lv_lload_n hx hb dX8_layOutDraft_16 rfl (lv_at hl 1 rfl) ?_
  refine lv_lload_n hx hb dX8_layOutDraft_17 rfl (lv_at hl 0 rfl) ?_
  refine lv_lor hx hb dX8_layOutDraft_18 ?_
  refine lv_topl (fun x3 ex3 => ?_)
  replace hZ9 := bnd_s hZ9 ex3
  refine lv_lstore (lv' := [(5, .long x3), (3, .long x2), (1, .long x1), (0, .ref h)]) hx hb dX8_layOutDraft_19 hl (by decide) rfl (fun ls hl => ?_)
  refine lv_aload_n hx hb dX8_layOutDraft_21 rfl (lv_at hl 3 rfl) ?_
  refine va_get (D := (dC, dI)) (ci := 9) (v := .ref (a 4)) (C := RX8) (T := TX8) (N := 14) hx hb hts in_y_layOutDraft_X8 hown hK hP 0 rfl rfl 4 (by decide) (hts (.fieldLink RX8 42 "ServiceTree" "latestPlan" "LServiceTree$Plan;") (by decide +kernel)) (fun _ h9 => h9) rfl dX8_layOutDraft_22 ?_
  refine lv_lload_n hx hb dX8_layOutDraft_25 rfl (lv_at hl 2 rfl) ?_
  have hFc := mw_free hD hS hA
  refine va_callv (va_runV (As := [.long x1]) (rest := []) ⟨hx, hb, hml, hown, hts⟩ (c_y_planClear l dC dI h a e cI cJ cO cE L I M J n cap fE sd si sa dl (b) x1 s.heap.size hX (by omega) ) (cwV 1 hts wc_y_layOutDraft_y_planClear_263 rfl rfl rfl (by decide +kernel) ⟨Nat.le_of_ble_eq_true rfl, Nat.le_of_ble_eq_true rfl⟩) ⟨fun a9 U g mk q => by obtain ⟨q0, q1, qP, qK, qD, qN⟩ := q; exact ⟨q0, q1, qP, va_K.moved (u := U) (U := U.calling g mk a9) (Vm.Alike.refl U.vm) qK, qD, pw_N.same (u := U) (U := U.calling g mk a9) rfl qN⟩, va_recv hK hP (ci := 5) (q0 := 15) rfl rfl, fun U hU hW => ⟨rfl, by rw [hU], by rw [hU]; exact hP, va_K.moved hW.alike hK, hD.weaken (fun _ _ _ _ => trivial), pw_N.warm hW hN⟩⟩ rfl rfl hl.1 rfl (lv_room (Nat.le_of_ble_eq_true rfl)) dX8_layOutDraft_26 ⟨Nat.le_of_ble_eq_true rfl, Nat.le_of_ble_eq_true rfl⟩) hS (fun q _ h => hFc q h) hFc (fun u t H1 locs ht hvm hw hB hz1 hk1 hS => ?_)
  obtain ⟨L5, I6⟩ := u
  replace hP := hB.1
  rw [ht] at hP
  replace hD : va_D A (xW h a e cI cJ cO cE L5 I6 M J n cap fE sd si sa dl) := hB.2.weaken (fun _ q _ h9 => hFc q.1 h9)
  clear hB
  generalize H1 = H at hP hS ⊢
  replace hP : va_P (dC, dI) vwCl (xW h a e cI cJ cO cE L5 I6 M J n cap fE sd si sa dl) H := hP
  obtain ⟨hwX, whUL, whUI, hw⟩ := hw
  replace hX : InvX n cap fE sd dl (b) I6 J si := hwX
  replace hUL : ∀ j9 : Nat, j9 ∉ ([8] : List Nat) → L5 j9 = L j9 := mw_tr (by decide) whUL hUL
  replace hUI : ∀ j9 : Nat, j9 ∉ ([9, 10, 11] : List Nat) → I6 j9 = I j9 := mw_tr (by decide) whUI hUI
  replace hw : (L5, I6) = f_y_planClear n dl x1 L I := hw
  replace hZ9 := bn2_s hZ9 hw
  refine lv_iconst (v := 0) hx hb dX8_layOutDraft_29 (by decide) ?_
  refine lv_istore (lv' := [(7, .int 0), (5, .long x3), (3, .long x2), (1, .long x1), (0, .ref h)]) hx hb dX8_layOutDraft_30 hl (by decide) rfl (fun ls hl => ?_)
  obtain ⟨K9_32, hK9_32, hZ9⟩ := lp_gen hZ9
  have lp10 : ∀ (fu8 i7 : Nat) (y13 : Int64) (I11 : Nat → Int32) (J12 : Nat → Nat → Int32) (H : Heap) (locs : List Loc) (ls : Array Slot), 40 < i7 + fu8 → i7 ≤ 40 → InvX n cap fE sd dl (b) I11 J12 si → (∀ j9 : Nat, j9 ∉ ([9, 10, 11] : List Nat) → I11 j9 = I j9) → (∀ j9 : Nat, j9 ∉ ([0, 1, 2] : List Nat) → J12 j9 = J j9) → RES = f_y_layOutDraft_32 n dl M si x1 x2 fu8 i7 y13 I11 J12 K9_32 → va_P (dC, dI) vwCl (xW h a e cI cJ cO cE L5 I11 M J12 n cap fE sd si sa dl) H → va_D A (xW h a e cI cJ cO cE L5 I11 M J12 n cap fE sd si sa dl) → va_S A s.heap H locs → lv_has ls 10 [(7, .int (nI i7)), (5, .long y13), (3, .long x2), (1, .long x1), (0, .ref h)] → W p l e9 (headSpec wq_y_layOutDraft rm_y_layOutDraft).room s m ([.ref h] : List Value).toArray below meth c H locs 0 0 Q0 (F0 m 32 ls []) := by
    intro fu8
    induction fu8 with
    | zero =>
      intro i7 y13 I11 J12 H locs ls hf hi
      exact absurd hf (by omega)
    | succ fu8 ih9 =>
      intro i7 y13 I11 J12 H locs ls hfi7 hii7 hX hUI hUJ hZ9 hP hD hS hl
      rw [f_y_layOutDraft_32] at hZ9
      refine lv_iload hx hb dX8_layOutDraft_32 (lv_at hl 0 rfl) ?_
      refine lv_bipush (v := 40) hx hb dX8_layOutDraft_34 (by decide) ?_
      refine lv_icmp_ge (tgt := 176) hx hb dX8_layOutDraft_36 (by decide) (fun c14 => ?_) (fun c14 => ?_)
      · replace c14 : 40 ≤ i7 := (nI_leI (a := 40) (b := i7) (by omega) (by omega)).mp c14
        replace hZ9 := ite_t hZ9 c14
        replace hZ9 := lp_app4 hK9_32 hZ9
        rw [hQ]
        exact W.vret hx hb hr (fun t ht hW => ⟨⟨(L5, I11, J12), rfl, ⟨hX.mono (by omega), hUL, hUI, hUJ, hZ9.symm.trans hR0⟩, by rw [ht]; exact hP, hD⟩, hS.F ht⟩) hS.2.2 dX8_layOutDraft_176
      · replace c14 : ¬ (40 ≤ i7) := fun q9 => c14 ((nI_leI (a := 40) (b := i7) (by omega) (by omega)).mpr q9)
        replace hZ9 := ite_f hZ9 c14
        refine lv_lload hx hb dX8_layOutDraft_39 (lv_at hl 1 rfl) ?_
        refine lv_lconst (v := 0) hx hb dX8_layOutDraft_41 (by decide) ?_
        refine W.lcmp hx hb dX8_layOutDraft_42 ?_
        refine lv_topi (fun x15 ex15 => ?_)
        replace hZ9 := bnd_s hZ9 ex15
        refine lv_if_eq (tgt := 176) hx hb dX8_layOutDraft_43 (by decide) (fun c16 => ?_) (fun c16 => ?_)
        · replace hZ9 := ite_t hZ9 c16
          replace hZ9 := lp_app4 hK9_32 hZ9
          rw [hQ]
          exact W.vret hx hb hr (fun t ht hW => ⟨⟨(L5, I11, J12), rfl, ⟨hX.mono (by omega), hUL, hUI, hUJ, hZ9.symm.trans hR0⟩, by rw [ht]; exact hP, hD⟩, hS.F ht⟩) hS.2.2 dX8_layOutDraft_176
        · replace hZ9 := ite_f hZ9 c16
          refine lv_iconst (v := 0) hx hb dX8_layOutDraft_46 (by decide) ?_
          refine lv_istore (lv' := [(8, .int 0), (7, .int (nI i7)), (5, .long y13), (3, .long x2), (1, .long x1), (0, .ref h)]) hx hb dX8_layOutDraft_47 hl (by decide) rfl (fun ls hl => ?_)
          obtain ⟨K9_49, hK9_49, hZ9⟩ := lp_gen hZ9
          have lp20 : ∀ (fu18 i17 : Nat) (y23 : Int64) (I21 : Nat → Int32) (J22 : Nat → Nat → Int32) (H : Heap) (locs : List Loc) (ls : Array Slot), n < i17 + fu18 → i17 ≤ n → InvX n cap fE sd dl (b) I21 J22 si → (∀ j9 : Nat, j9 ∉ ([9, 10, 11] : List Nat) → I21 j9 = I j9) → (∀ j9 : Nat, j9 ∉ ([0, 1, 2] : List Nat) → J22 j9 = J j9) → RES = f_y_layOutDraft_49 n dl M si x1 x2 fu18 i17 y23 I21 J22 K9_49 → va_P (dC, dI) vwCl (xW h a e cI cJ cO cE L5 I21 M J22 n cap fE sd si sa dl) H → va_D A (xW h a e cI cJ cO cE L5 I21 M J22 n cap fE sd si sa dl) → va_S A s.heap H locs → lv_has ls 10 [(8, .int (nI i17)), (7, .int (nI i7)), (5, .long y23), (3, .long x2), (1, .long x1), (0, .ref h)] → W p l e9 (headSpec wq_y_layOutDraft rm_y_layOutDraft).room s m ([.ref h] : List Value).toArray below meth c H locs 0 0 Q0 (F0 m 49 ls []) := by
            intro fu18
            induction fu18 with
            | zero =>
              intro i17 y23 I21 J22 H locs ls hf hi
              exact absurd hf (by omega)
            | succ fu18 ih19 =>
              intro i17 y23 I21 J22 H locs ls hfi17 hii17 hX hUI hUJ hZ9 hP hD hS hl
              rw [f_y_layOutDraft_49] at hZ9
              refine lv_iload hx hb dX8_layOutDraft_49 (lv_at hl 0 rfl) ?_
              refine lv_aload_n hx hb dX8_layOutDraft_51 rfl (lv_at hl 5 rfl) ?_
              refine va_get (D := (dC, dI)) (ci := 9) (v := .ref (a 0)) (C := RX8) (T := TX8) (N := 14) hx hb hts in_y_layOutDraft_X8 hown hK hP 0 rfl rfl 0 (by decide) (hts (.fieldLink RX8 10 "ServiceTree" "services" "Ljava/util/ArrayList;") (by decide +kernel)) (fun _ h9 => h9) rfl dX8_layOutDraft_52 ?_
              have hFc := mw_free hD hS hA
              refine va_calli (va_runV (As := []) (rest := [.int (nI i17)]) ⟨hx, hb, hml, hown, hts⟩ (c_y_size l dC dI h a e cI cJ cO cE L5 I21 M J22 n cap fE sd si sa dl (b)  H.size hX (by omega) ) (cwV 0 hts wc_y_layOutDraft_y_size_61 rfl rfl rfl (by decide +kernel) ⟨Nat.le_of_ble_eq_true rfl, Nat.le_of_ble_eq_true rfl⟩) ⟨fun a9 U g mk q => by obtain ⟨q0, q1, qP, qK, qD, qN⟩ := q; exact ⟨q0, q1, qP, va_K.moved (u := U) (U := U.calling g mk a9) (Vm.Alike.refl U.vm) qK, qD, pw_N.same (u := U) (U := U.calling g mk a9) rfl qN⟩, va_recv hK hP (ci := 0) (q0 := 1) rfl rfl, fun U hU hW => ⟨rfl, by rw [hU], by rw [hU]; exact hP, va_K.moved hW.alike hK, hD.weaken (fun _ _ _ _ => trivial), pw_N.warm hW hN⟩⟩ rfl rfl hl.1 rfl (lv_room (Nat.le_of_ble_eq_true rfl)) dX8_layOutDraft_55 ⟨Nat.le_of_ble_eq_true rfl, Nat.le_of_ble_eq_true rfl⟩) hS (fun q _ h => hFc q h) hFc (fun r24 u t H1 locs ht hvm hw hB hz1 hk1 hS => ?_)
              replace hP := hB.1
              rw [ht] at hP
              replace hD : va_D A (xW h a e cI cJ cO cE L5 I21 M J22 n cap fE sd si sa dl) := hB.2.weaken (fun _ q _ h9 => hFc q.1 h9)
              clear hB
              generalize H1 = H at hP hS ⊢
              replace hP : va_P (dC, dI) vwCl (xW h a e cI cJ cO cE L5 I21 M J22 n cap fE sd si sa dl) H := hP
              obtain rfl : r24 = nI n := hw
              refine lv_icmp_ge (tgt := 170) hx hb dX8_layOutDraft_58 (by decide) (fun c25 => ?_) (fun c25 => ?_)
              · replace c25 : n ≤ i17 := (nI_leI (a := n) (b := i17) (by omega) (by omega)).mp c25
                replace hZ9 := ite_t hZ9 c25
                replace hZ9 := lp_app4 hK9_49 hZ9
                refine lv_iinc (v := (nI (i7 + 1))) (lv' := [(7, .int (nI (i7 + 1))), (8, .int (nI i17)), (5, .long y23), (3, .long x2), (1, .long x1), (0, .ref h)]) hx hb dX8_layOutDraft_170 hl (k := 1) rfl (nI_add i7 1) (by decide) rfl (fun ls hl => ?_)
                refine lv_goto (tgt := 32) hx hb dX8_layOutDraft_173 (by decide) ?_
                exact ih9 (i7 + 1) y23 I21 J22 _ _ _ (by omega) (by omega) (hX.mono (by omega)) hUI hUJ  hZ9 hP hD hS (lv_sub hl [0, 2, 3, 4, 5] rfl)
              · replace c25 : ¬ (n ≤ i17) := fun q9 => c25 ((nI_leI (a := n) (b := i17) (by omega) (by omega)).mpr q9)
                replace hZ9 := ite_f hZ9 c25
                refine lv_lload hx hb dX8_layOutDraft_61 (lv_at hl 2 rfl) ?_
                refine lv_iload hx hb dX8_layOutDraft_63 (lv_at hl 0 rfl) ?_
                have hFc := mw_free hD hS hA
                refine va_calli (va_runS (As := [.long y23, .int (nI i17)]) (rest := []) ⟨hx, hb, hml, hown, hts⟩ (c_y_holds l dC dI h a e cI cJ cO cE L5 I21 M J22 n cap fE sd si sa dl (b) y23 i17 H.size hX (by omega) ) (va_cwS 2 hts wc_y_layOutDraft_y_holds_114 rfl rfl rfl (by decide +kernel) ⟨Nat.le_of_ble_eq_true rfl, Nat.le_of_ble_eq_true rfl⟩) ⟨fun a9 U g mk q => by obtain ⟨q0, q1, qP, qK, qD, qN⟩ := q; exact ⟨q0, q1, qP, va_K.moved (u := U) (U := U.calling g mk a9) (Vm.Alike.refl U.vm) qK, qD, pw_N.same (u := U) (U := U.calling g mk a9) rfl qN⟩, fun U hU hW => ⟨rfl, by rw [hU], by rw [hU]; exact hP, va_K.moved hW.alike hK, hD.weaken (fun _ _ _ _ => trivial), pw_N.warm hW hN⟩⟩ rfl rfl hl.1 rfl (lv_room (Nat.le_of_ble_eq_true rfl)) dX8_layOutDraft_65 ⟨Nat.le_of_ble_eq_true rfl, Nat.le_of_ble_eq_true rfl⟩) hS (fun q _ h => hFc q h) hFc (fun r26 u t H1 locs ht hvm hw hB hz1 hk1 hS => ?_)
                replace hP := hB.1
                rw [ht] at hP
                replace hD : va_D A (xW h a e cI cJ cO cE L5 I21 M J22 n cap fE sd si sa dl) := hB.2.weaken (fun _ q _ h9 => hFc q.1 h9)
                clear hB
                generalize H1 = H at hP hS ⊢
                replace hP : va_P (dC, dI) vwCl (xW h a e cI cJ cO cE L5 I21 M J22 n cap fE sd si sa dl) H := hP
                obtain ⟨hw, hwe⟩ := hw
                replace hw : r26 = f_y_holds n dl y23 i17  := hw
                replace hZ9 := bnd_s hZ9 hw
                have br26 := hwe
                refine lv_if_eq (tgt := 164) hx hb dX8_layOutDraft_68 (by decide) (fun c27 => ?_) (fun c27 => ?_)
                · replace hZ9 := ite_t hZ9 c27
                  refine lv_iinc (v := (nI (i17 + 1))) (lv' := [(8, .int (nI (i17 + 1))), (7, .int (nI i7)), (5, .long y23), (3, .long x2), (1, .long x1), (0, .ref h)]) hx hb dX8_layOutDraft_164 hl (k := 0) rfl (nI_add i17 1) (by decide) rfl (fun ls hl => ?_)
                  refine lv_goto (tgt := 49) hx hb dX8_layOutDraft_167 (by decide) ?_
                  exact ih19 (i17 + 1) y23 I21 J22 _ _ _ (by omega) (by omega) (hX.mono (by omega)) hUI hUJ  hZ9 hP hD hS (lv_sub hl [0, 1, 2, 3, 4, 5] rfl)
                · replace hZ9 := ite_f hZ9 c27
                  refine lv_aload_n hx hb dX8_layOutDraft_71 rfl (lv_at hl 5 rfl) ?_
                  refine va_get (D := (dC, dI)) (ci := 9) (v := .ref (a 1)) (C := RX8) (T := TX8) (N := 14) hx hb hts in_y_layOutDraft_X8 hown hK hP 0 rfl rfl 1 (by decide) (hts (.fieldLink RX8 19 "ServiceTree" "relations" "LServiceTree$Relations;") (by decide +kernel)) (fun _ h9 => h9) rfl dX8_layOutDraft_72 ?_
                  refine lv_iload hx hb dX8_layOutDraft_75 (lv_at hl 0 rfl) ?_
                  refine lv_lload_n hx hb dX8_layOutDraft_77 rfl (lv_at hl 4 rfl) ?_
                  refine lv_lload_n hx hb dX8_layOutDraft_78 rfl (lv_at hl 3 rfl) ?_
                  have hFc := mw_free hD hS hA
                  refine va_calll (va_runV (As := [.int (nI i17), .long x1, .long x2]) (rest := []) ⟨hx, hb, hml, hown, hts⟩ (c_y_rawaited l dC dI h a e cI cJ cO cE L5 I21 M J22 n cap fE sd si sa dl (b) i17 x1 x2 H.size hX (by omega) (by omega)) (cwV 3 hts wc_y_layOutDraft_y_rawaited_267 rfl rfl rfl (by decide +kernel) ⟨Nat.le_of_ble_eq_true rfl, Nat.le_of_ble_eq_true rfl⟩) ⟨fun a9 U g mk q => by obtain ⟨q0, q1, qP, qK, qD, qN⟩ := q; exact ⟨q0, q1, qP, va_K.moved (u := U) (U := U.calling g mk a9) (Vm.Alike.refl U.vm) qK, qD, pw_N.same (u := U) (U := U.calling g mk a9) rfl qN⟩, va_recv hK hP (ci := 6) (q0 := 2) rfl rfl, fun U hU hW => ⟨rfl, by rw [hU], by rw [hU]; exact hP, va_K.moved hW.alike hK, hD.weaken (fun _ _ _ _ => trivial), pw_N.warm hW hN⟩⟩ rfl rfl hl.1 rfl (lv_room (Nat.le_of_ble_eq_true rfl)) dX8_layOutDraft_79 ⟨Nat.le_of_ble_eq_true rfl, Nat.le_of_ble_eq_true rfl⟩) hS (fun q _ h => hFc q h) hFc (fun r28 u t H1 locs ht hvm hw hB hz1 hk1 hS => ?_)
                  replace hP := hB.1
                  rw [ht] at hP
                  replace hD : va_D A (xW h a e cI cJ cO cE L5 I21 M J22 n cap fE sd si sa dl) := hB.2.weaken (fun _ q _ h9 => hFc q.1 h9)
                  clear hB
                  generalize H1 = H at hP hS ⊢
                  replace hP : va_P (dC, dI) vwCl (xW h a e cI cJ cO cE L5 I21 M J22 n cap fE sd si sa dl) H := hP
                  replace hw : r28 = f_y_rawaited n dl i17 x1 x2 M := hw
                  replace hZ9 := bnd_s hZ9 hw
                  refine lv_lload hx hb dX8_layOutDraft_82 (lv_at hl 2 rfl) ?_
                  refine lv_land hx hb dX8_layOutDraft_84 ?_
                  refine lv_topl (fun x29 ex29 => ?_)
                  replace hZ9 := bnd_s hZ9 ex29
                  refine lv_lconst (v := 0) hx hb dX8_layOutDraft_85 (by decide) ?_
                  refine W.lcmp hx hb dX8_layOutDraft_86 ?_
                  refine lv_topi (fun x30 ex30 => ?_)
                  replace hZ9 := bnd_s hZ9 ex30
                  refine lv_if_ne (tgt := 164) hx hb dX8_layOutDraft_87 (by decide) (fun c31 => ?_) (fun c31 => ?_)
                  · replace hZ9 := ite_f hZ9 c31
                    refine lv_iinc (v := (nI (i17 + 1))) (lv' := [(8, .int (nI (i17 + 1))), (7, .int (nI i7)), (5, .long y23), (3, .long x2), (1, .long x1), (0, .ref h)]) hx hb dX8_layOutDraft_164 hl (k := 0) rfl (nI_add i17 1) (by decide) rfl (fun ls hl => ?_)
                    refine lv_goto (tgt := 49) hx hb dX8_layOutDraft_167 (by decide) ?_
                    exact ih19 (i17 + 1) y23 I21 J22 _ _ _ (by omega) (by omega) (hX.mono (by omega)) hUI hUJ  hZ9 hP hD hS (lv_sub hl [0, 1, 2, 3, 4, 5] rfl)
                  · replace hZ9 := ite_t hZ9 c31
                    refine lv_aload_n hx hb dX8_layOutDraft_90 rfl (lv_at hl 5 rfl) ?_
                    refine va_get (D := (dC, dI)) (ci := 9) (v := .ref (a 4)) (C := RX8) (T := TX8) (N := 14) hx hb hts in_y_layOutDraft_X8 hown hK hP 0 rfl rfl 4 (by decide) (hts (.fieldLink RX8 42 "ServiceTree" "latestPlan" "LServiceTree$Plan;") (by decide +kernel)) (fun _ h9 => h9) rfl dX8_layOutDraft_91 ?_
                    refine lv_aload_n hx hb dX8_layOutDraft_94 rfl (lv_at hl 5 rfl) ?_
                    refine va_get (D := (dC, dI)) (ci := 9) (v := .ref (a 1)) (C := RX8) (T := TX8) (N := 14) hx hb hts in_y_layOutDraft_X8 hown hK hP 0 rfl rfl 1 (by decide) (hts (.fieldLink RX8 19 "ServiceTree" "relations" "LServiceTree$Relations;") (by decide +kernel)) (fun _ h9 => h9) rfl dX8_layOutDraft_95 ?_
                    refine lv_iload hx hb dX8_layOutDraft_98 (lv_at hl 0 rfl) ?_
                    refine lv_lload_n hx hb dX8_layOutDraft_100 rfl (lv_at hl 4 rfl) ?_
                    refine lv_lload_n hx hb dX8_layOutDraft_101 rfl (lv_at hl 3 rfl) ?_
                    have hFc := mw_free hD hS hA
                    refine va_calll (va_runV (As := [.int (nI i17), .long x1, .long x2]) (rest := [.ref (a 4)]) ⟨hx, hb, hml, hown, hts⟩ (c_y_rawaited l dC dI h a e cI cJ cO cE L5 I21 M J22 n cap fE sd si sa dl (b) i17 x1 x2 H.size hX (by omega) (by omega)) (cwV 3 hts wc_y_layOutDraft_y_rawaited_267 rfl rfl rfl (by decide +kernel) ⟨Nat.le_of_ble_eq_true rfl, Nat.le_of_ble_eq_true rfl⟩) ⟨fun a9 U g mk q => by obtain ⟨q0, q1, qP, qK, qD, qN⟩ := q; exact ⟨q0, q1, qP, va_K.moved (u := U) (U := U.calling g mk a9) (Vm.Alike.refl U.vm) qK, qD, pw_N.same (u := U) (U := U.calling g mk a9) rfl qN⟩, va_recv hK hP (ci := 6) (q0 := 2) rfl rfl, fun U hU hW => ⟨rfl, by rw [hU], by rw [hU]; exact hP, va_K.moved hW.alike hK, hD.weaken (fun _ _ _ _ => trivial), pw_N.warm hW hN⟩⟩ rfl rfl hl.1 rfl (lv_room (Nat.le_of_ble_eq_true rfl)) dX8_layOutDraft_102 ⟨Nat.le_of_ble_eq_true rfl, Nat.le_of_ble_eq_true rfl⟩) hS (fun q _ h => hFc q h) hFc (fun r32 u t H1 locs ht hvm hw hB hz1 hk1 hS => ?_)
                    replace hP := hB.1
                    rw [ht] at hP
                    replace hD : va_D A (xW h a e cI cJ cO cE L5 I21 M J22 n cap fE sd si sa dl) := hB.2.weaken (fun _ q _ h9 => hFc q.1 h9)
                    clear hB
                    generalize H1 = H at hP hS ⊢
                    replace hP : va_P (dC, dI) vwCl (xW h a e cI cJ cO cE L5 I21 M J22 n cap fE sd si sa dl) H := hP
                    replace hw : r32 = f_y_rawaited n dl i17 x1 x2 M := hw
                    replace hZ9 := bnd_s hZ9 hw
                    have hFc := mw_free hD hS hA
                    refine va_calli (va_runV (As := [.long r32]) (rest := []) ⟨hx, hb, hml, hown, hts⟩ (c_y_endOf l dC dI h a e cI cJ cO cE L5 I21 M J22 n cap fE sd si sa dl (b) r32 H.size hX (by omega) ) (cwV 1 hts wc_y_layOutDraft_y_endOf_270 rfl rfl rfl (by decide +kernel) ⟨Nat.le_of_ble_eq_true rfl, Nat.le_of_ble_eq_true rfl⟩) ⟨fun a9 U g mk q => by obtain ⟨q0, q1, qP, qK, qD, qN⟩ := q; exact ⟨q0, q1, qP, va_K.moved (u := U) (U := U.calling g mk a9) (Vm.Alike.refl U.vm) qK, qD, pw_N.same (u := U) (U := U.calling g mk a9) rfl qN⟩, va_recv hK hP (ci := 5) (q0 := 15) rfl rfl, fun U hU hW => ⟨rfl, by rw [hU], by rw [hU]; exact hP, va_K.moved hW.alike hK, hD.weaken (fun _ _ _ _ => trivial), pw_N.warm hW hN⟩⟩ rfl rfl hl.1 rfl (lv_room (Nat.le_of_ble_eq_true rfl)) dX8_layOutDraft_105 ⟨Nat.le_of_ble_eq_true rfl, Nat.le_of_ble_eq_true rfl⟩) hS (fun q _ h => hFc q h) hFc (fun r33 u t H1 locs ht hvm hw hB hz1 hk1 hS => ?_)
                    replace hP := hB.1
                    rw [ht] at hP
                    replace hD : va_D A (xW h a e cI cJ cO cE L5 I21 M J22 n cap fE sd si sa dl) := hB.2.weaken (fun _ q _ h9 => hFc q.1 h9)
                    clear hB
                    generalize H1 = H at hP hS ⊢
                    replace hP : va_P (dC, dI) vwCl (xW h a e cI cJ cO cE L5 I21 M J22 n cap fE sd si sa dl) H := hP
                    replace hw : r33 = f_y_endOf n dl r32 J22 := hw
                    replace hZ9 := bnd_s hZ9 hw
                    refine lv_istore (lv' := [(9, .int r33), (8, .int (nI i17)), (7, .int (nI i7)), (5, .long y23), (3, .long x2), (1, .long x1), (0, .ref h)]) hx hb dX8_layOutDraft_108 hl (by decide) rfl (fun ls hl => ?_)
                    refine lv_aload_n hx hb dX8_layOutDraft_110 rfl (lv_at hl 6 rfl) ?_
                    refine va_get (D := (dC, dI)) (ci := 9) (v := .ref (a 4)) (C := RX8) (T := TX8) (N := 14) hx hb hts in_y_layOutDraft_X8 hown hK hP 0 rfl rfl 4 (by decide) (hts (.fieldLink RX8 42 "ServiceTree" "latestPlan" "LServiceTree$Plan;") (by decide +kernel)) (fun _ h9 => h9) rfl dX8_layOutDraft_111 ?_
                    refine lv_iload hx hb dX8_layOutDraft_114 (lv_at hl 1 rfl) ?_
                    refine lv_iload hx hb dX8_layOutDraft_116 (lv_at hl 0 rfl) ?_
                    refine lv_iload hx hb dX8_layOutDraft_118 (lv_at hl 0 rfl) ?_
                    refine lv_lload_n hx hb dX8_layOutDraft_120 rfl (lv_at hl 5 rfl) ?_
                    refine lv_iload hx hb dX8_layOutDraft_121 (lv_at hl 1 rfl) ?_
                    have hFc := mw_free hD hS hA
                    refine va_calli (va_runS (As := [.long x1, .int (nI i17)]) (rest := [.int r33, .int r33, .int (nI i17), .ref (a 4)]) ⟨hx, hb, hml, hown, hts⟩ (c_y_holds l dC dI h a e cI cJ cO cE L5 I21 M J22 n cap fE sd si sa dl (b) x1 i17 H.size hX (by omega) ) (va_cwS 2 hts wc_y_layOutDraft_y_holds_114 rfl rfl rfl (by decide +kernel) ⟨Nat.le_of_ble_eq_true rfl, Nat.le_of_ble_eq_true rfl⟩) ⟨fun a9 U g mk q => by obtain ⟨q0, q1, qP, qK, qD, qN⟩ := q; exact ⟨q0, q1, qP, va_K.moved (u := U) (U := U.calling g mk a9) (Vm.Alike.refl U.vm) qK, qD, pw_N.same (u := U) (U := U.calling g mk a9) rfl qN⟩, fun U hU hW => ⟨rfl, by rw [hU], by rw [hU]; exact hP, va_K.moved hW.alike hK, hD.weaken (fun _ _ _ _ => trivial), pw_N.warm hW hN⟩⟩ rfl rfl hl.1 rfl (lv_room (Nat.le_of_ble_eq_true rfl)) dX8_layOutDraft_123 ⟨Nat.le_of_ble_eq_true rfl, Nat.le_of_ble_eq_true rfl⟩) hS (fun q _ h => hFc q h) hFc (fun r34 u t H1 locs ht hvm hw hB hz1 hk1 hS => ?_)
                    replace hP := hB.1
                    rw [ht] at hP
                    replace hD : va_D A (xW h a e cI cJ cO cE L5 I21 M J22 n cap fE sd si sa dl) := hB.2.weaken (fun _ q _ h9 => hFc q.1 h9)
                    clear hB
                    generalize H1 = H at hP hS ⊢
                    replace hP : va_P (dC, dI) vwCl (xW h a e cI cJ cO cE L5 I21 M J22 n cap fE sd si sa dl) H := hP
                    obtain ⟨hw, hwe⟩ := hw
                    replace hw : r34 = f_y_holds n dl x1 i17  := hw
                    replace hZ9 := bnd_s hZ9 hw
                    have br34 := hwe
                    refine lv_if_eq (tgt := 138) hx hb dX8_layOutDraft_126 (by decide) (fun c35 => ?_) (fun c35 => ?_)
                    · replace hZ9 := ite_t hZ9 c35
                      refine lv_aload_n hx hb dX8_layOutDraft_138 rfl (lv_at hl 6 rfl) ?_
                      refine lv_iload hx hb dX8_layOutDraft_139 (lv_at hl 1 rfl) ?_
                      refine lv_iload hx hb dX8_layOutDraft_141 (lv_at hl 0 rfl) ?_
                      have hFc := mw_free hD hS hA
                      refine va_calli (va_runV (As := [.int (nI i17), .int r33]) (rest := [.int r33, .int r33, .int (nI i17), .ref (a 4)]) ⟨hx, hb, hml, hown, hts⟩ (c_y_ticksToStop l dC dI h a e cI cJ cO cE L5 I21 M J22 n cap fE sd si sa dl (b) i17 r33 H.size hX (by omega) (by omega)) (cwV 2 hts wc_y_layOutDraft_y_ticksToStop_276 rfl rfl rfl (by decide +kernel) ⟨Nat.le_of_ble_eq_true rfl, Nat.le_of_ble_eq_true rfl⟩) ⟨fun a9 U g mk q => by obtain ⟨q0, q1, qP, qK, qD, qN⟩ := q; exact ⟨q0, q1, qP, va_K.moved (u := U) (U := U.calling g mk a9) (Vm.Alike.refl U.vm) qK, qD, pw_N.same (u := U) (U := U.calling g mk a9) rfl qN⟩, va_recv hK hP (ci := 9) (q0 := 0) rfl rfl, fun U hU hW => ⟨rfl, by rw [hU], by rw [hU]; exact hP, va_K.moved hW.alike hK, hD.weaken (fun _ _ _ _ => trivial), pw_N.warm hW hN⟩⟩ rfl rfl hl.1 rfl (lv_room (Nat.le_of_ble_eq_true rfl)) dX8_layOutDraft_143 ⟨Nat.le_of_ble_eq_true rfl, Nat.le_of_ble_eq_true rfl⟩) hS (fun q _ h => hFc q h) hFc (fun r36 u t H1 locs ht hvm hw hB hz1 hk1 hS => ?_)
                      replace hP := hB.1
                      rw [ht] at hP
                      replace hD : va_D A (xW h a e cI cJ cO cE L5 I21 M J22 n cap fE sd si sa dl) := hB.2.weaken (fun _ q _ h9 => hFc q.1 h9)
                      clear hB
                      generalize H1 = H at hP hS ⊢
                      replace hP : va_P (dC, dI) vwCl (xW h a e cI cJ cO cE L5 I21 M J22 n cap fE sd si sa dl) H := hP
                      replace hw : r36 = f_y_ticksToStop n dl i17 r33 I21 si := hw
                      replace hZ9 := bnd_s hZ9 hw
                      refine lv_iadd hx hb dX8_layOutDraft_146 ?_
                      refine lv_topi (fun x37 ex37 => ?_)
                      replace hZ9 := bnd_s hZ9 ex37
                      have hFc := mw_free hD hS hA
                      refine va_callv (va_runV (As := [.int (nI i17), .int r33, .int x37]) (rest := []) ⟨hx, hb, hml, hown, hts⟩ (c_y_padd l dC dI h a e cI cJ cO cE L5 I21 M J22 n cap fE sd si sa dl (b) i17 r33 x37 H.size hX (by omega) (by omega)) (cwV 3 hts wc_y_layOutDraft_y_padd_279 rfl rfl rfl (by decide +kernel) ⟨Nat.le_of_ble_eq_true rfl, Nat.le_of_ble_eq_true rfl⟩) ⟨fun a9 U g mk q => by obtain ⟨q0, q1, qP, qK, qD, qN⟩ := q; exact ⟨q0, q1, qP, va_K.moved (u := U) (U := U.calling g mk a9) (Vm.Alike.refl U.vm) qK, qD, pw_N.same (u := U) (U := U.calling g mk a9) rfl qN⟩, va_recv hK hP (ci := 5) (q0 := 15) rfl rfl, fun U hU hW => ⟨rfl, by rw [hU], by rw [hU]; exact hP, va_K.moved hW.alike hK, hD.weaken (fun _ _ _ _ => trivial), pw_N.warm hW hN⟩⟩ rfl rfl hl.1 rfl (lv_room (Nat.le_of_ble_eq_true rfl)) dX8_layOutDraft_147 ⟨Nat.le_of_ble_eq_true rfl, Nat.le_of_ble_eq_true rfl⟩) hS (fun q _ h => hFc q h) hFc (fun u t H1 locs ht hvm hw hB hz1 hk1 hS => ?_)
                      obtain ⟨I39, J40⟩ := u
                      replace hP := hB.1
                      rw [ht] at hP
                      replace hD : va_D A (xW h a e cI cJ cO cE L5 I39 M J40 n cap fE sd si sa dl) := hB.2.weaken (fun _ q _ h9 => hFc q.1 h9)
                      clear hB
                      generalize H1 = H at hP hS ⊢
                      replace hP : va_P (dC, dI) vwCl (xW h a e cI cJ cO cE L5 I39 M J40 n cap fE sd si sa dl) H := hP
                      obtain ⟨hwX, whUI, whUJ, hw⟩ := hw
                      replace hX : InvX n cap fE sd dl (b) I39 J40 si := hwX
                      replace hUI : ∀ j9 : Nat, j9 ∉ ([9, 10, 11] : List Nat) → I39 j9 = I j9 := mw_tr (by decide) whUI hUI
                      replace hUJ : ∀ j9 : Nat, j9 ∉ ([0, 1, 2] : List Nat) → J40 j9 = J j9 := mw_tr (by decide) whUJ hUJ
                      replace hw : (I39, J40) = f_y_padd n dl i17 r33 x37 I21 J22 := hw
                      replace hZ9 := bn2_s hZ9 hw
                      refine lv_lload hx hb dX8_layOutDraft_150 (lv_at hl 3 rfl) ?_
                      refine lv_iload hx hb dX8_layOutDraft_152 (lv_at hl 1 rfl) ?_
                      have hFc := mw_free hD hS hA
                      refine va_calll (va_runS (As := [.int (nI i17)]) (rest := [.long y23]) ⟨hx, hb, hml, hown, hts⟩ (c_y_only l dC dI h a e cI cJ cO cE L5 I39 M J40 n cap fE sd si sa dl (b) i17 H.size hX (by omega) ) (va_cwS 1 hts wc_y_layOutDraft_y_only_78 rfl rfl rfl (by decide +kernel) ⟨Nat.le_of_ble_eq_true rfl, Nat.le_of_ble_eq_true rfl⟩) ⟨fun a9 U g mk q => by obtain ⟨q0, q1, qP, qK, qD, qN⟩ := q; exact ⟨q0, q1, qP, va_K.moved (u := U) (U := U.calling g mk a9) (Vm.Alike.refl U.vm) qK, qD, pw_N.same (u := U) (U := U.calling g mk a9) rfl qN⟩, fun U hU hW => ⟨rfl, by rw [hU], by rw [hU]; exact hP, va_K.moved hW.alike hK, hD.weaken (fun _ _ _ _ => trivial), pw_N.warm hW hN⟩⟩ rfl rfl hl.1 rfl (lv_room (Nat.le_of_ble_eq_true rfl)) dX8_layOutDraft_154 ⟨Nat.le_of_ble_eq_true rfl, Nat.le_of_ble_eq_true rfl⟩) hS (fun q _ h => hFc q h) hFc (fun r41 u t H1 locs ht hvm hw hB hz1 hk1 hS => ?_)
                      replace hP := hB.1
                      rw [ht] at hP
                      replace hD : va_D A (xW h a e cI cJ cO cE L5 I39 M J40 n cap fE sd si sa dl) := hB.2.weaken (fun _ q _ h9 => hFc q.1 h9)
                      clear hB
                      generalize H1 = H at hP hS ⊢
                      replace hP : va_P (dC, dI) vwCl (xW h a e cI cJ cO cE L5 I39 M J40 n cap fE sd si sa dl) H := hP
                      replace hw : r41 = f_y_only n dl i17  := hw
                      replace hZ9 := bnd_s hZ9 hw
                      refine lv_ldc2 (v := (-1)) hx hb hown (hts (.constantLong RX8 238 (-1)) (by decide +kernel)) dX8_layOutDraft_157 ?_
                      refine lv_lxor hx hb dX8_layOutDraft_160 ?_
                      refine lv_topl (fun x42 ex42 => ?_)
                      replace hZ9 := bnd_s hZ9 ex42
                      refine lv_land hx hb dX8_layOutDraft_161 ?_
                      refine lv_topl (fun x43 ex43 => ?_)
                      replace hZ9 := bnd_s hZ9 ex43
                      refine lv_lstore (lv' := [(5, .long x43), (9, .int r33), (8, .int (nI i17)), (7, .int (nI i7)), (3, .long x2), (1, .long x1), (0, .ref h)]) hx hb dX8_layOutDraft_162 hl (by decide) rfl (fun ls hl => ?_)
                      refine lv_iinc (v := (nI (i17 + 1))) (lv' := [(8, .int (nI (i17 + 1))), (5, .long x43), (9, .int r33), (7, .int (nI i7)), (3, .long x2), (1, .long x1), (0, .ref h)]) hx hb dX8_layOutDraft_164 hl (k := 2) rfl (nI_add i17 1) (by decide) rfl (fun ls hl => ?_)
                      refine lv_goto (tgt := 49) hx hb dX8_layOutDraft_167 (by decide) ?_
                      exact ih19 (i17 + 1) x43 I39 J40 _ _ _ (by omega) (by omega) (hX.mono (by omega)) hUI hUJ  hZ9 hP hD hS (lv_sub hl [0, 3, 1, 4, 5, 6] rfl)
                    · replace hZ9 := ite_f hZ9 c35
                      refine lv_aload_n hx hb dX8_layOutDraft_129 rfl (lv_at hl 6 rfl) ?_
                      refine lv_iload hx hb dX8_layOutDraft_130 (lv_at hl 1 rfl) ?_
                      have hFc := mw_free hD hS hA
                      refine va_calli (va_runV (As := [.int (nI i17)]) (rest := [.int r33, .int r33, .int (nI i17), .ref (a 4)]) ⟨hx, hb, hml, hown, hts⟩ (c_y_ticksToStart l dC dI h a e cI cJ cO cE L5 I21 M J22 n cap fE sd si sa dl (b) i17 H.size hX (by omega) (by omega)) (cwV 1 hts wc_y_layOutDraft_y_ticksToStart_273 rfl rfl rfl (by decide +kernel) ⟨Nat.le_of_ble_eq_true rfl, Nat.le_of_ble_eq_true rfl⟩) ⟨fun a9 U g mk q => by obtain ⟨q0, q1, qP, qK, qD, qN⟩ := q; exact ⟨q0, q1, qP, va_K.moved (u := U) (U := U.calling g mk a9) (Vm.Alike.refl U.vm) qK, qD, pw_N.same (u := U) (U := U.calling g mk a9) rfl qN⟩, va_recv hK hP (ci := 9) (q0 := 0) rfl rfl, fun U hU hW => ⟨rfl, by rw [hU], by rw [hU]; exact hP, va_K.moved hW.alike hK, hD.weaken (fun _ _ _ _ => trivial), pw_N.warm hW hN⟩⟩ rfl rfl hl.1 rfl (lv_room (Nat.le_of_ble_eq_true rfl)) dX8_layOutDraft_132 ⟨Nat.le_of_ble_eq_true rfl, Nat.le_of_ble_eq_true rfl⟩) hS (fun q _ h => hFc q h) hFc (fun r44 u t H1 locs ht hvm hw hB hz1 hk1 hS => ?_)
                      replace hP := hB.1
                      rw [ht] at hP
                      replace hD : va_D A (xW h a e cI cJ cO cE L5 I21 M J22 n cap fE sd si sa dl) := hB.2.weaken (fun _ q _ h9 => hFc q.1 h9)
                      clear hB
                      generalize H1 = H at hP hS ⊢
                      replace hP : va_P (dC, dI) vwCl (xW h a e cI cJ cO cE L5 I21 M J22 n cap fE sd si sa dl) H := hP
                      replace hw : r44 = f_y_ticksToStart n dl i17 si := hw
                      replace hZ9 := bnd_s hZ9 hw
                      refine lv_goto (tgt := 146) hx hb dX8_layOutDraft_135 (by decide) ?_
                      refine lv_iadd hx hb dX8_layOutDraft_146 ?_
                      refine lv_topi (fun x45 ex45 => ?_)
                      replace hZ9 := bnd_s hZ9 ex45
                      have hFc := mw_free hD hS hA
                      refine va_callv (va_runV (As := [.int (nI i17), .int r33, .int x45]) (rest := []) ⟨hx, hb, hml, hown, hts⟩ (c_y_padd l dC dI h a e cI cJ cO cE L5 I21 M J22 n cap fE sd si sa dl (b) i17 r33 x45 H.size hX (by omega) (by omega)) (cwV 3 hts wc_y_layOutDraft_y_padd_279 rfl rfl rfl (by decide +kernel) ⟨Nat.le_of_ble_eq_true rfl, Nat.le_of_ble_eq_true rfl⟩) ⟨fun a9 U g mk q => by obtain ⟨q0, q1, qP, qK, qD, qN⟩ := q; exact ⟨q0, q1, qP, va_K.moved (u := U) (U := U.calling g mk a9) (Vm.Alike.refl U.vm) qK, qD, pw_N.same (u := U) (U := U.calling g mk a9) rfl qN⟩, va_recv hK hP (ci := 5) (q0 := 15) rfl rfl, fun U hU hW => ⟨rfl, by rw [hU], by rw [hU]; exact hP, va_K.moved hW.alike hK, hD.weaken (fun _ _ _ _ => trivial), pw_N.warm hW hN⟩⟩ rfl rfl hl.1 rfl (lv_room (Nat.le_of_ble_eq_true rfl)) dX8_layOutDraft_147 ⟨Nat.le_of_ble_eq_true rfl, Nat.le_of_ble_eq_true rfl⟩) hS (fun q _ h => hFc q h) hFc (fun u t H1 locs ht hvm hw hB hz1 hk1 hS => ?_)
                      obtain ⟨I47, J48⟩ := u
                      replace hP := hB.1
                      rw [ht] at hP
                      replace hD : va_D A (xW h a e cI cJ cO cE L5 I47 M J48 n cap fE sd si sa dl) := hB.2.weaken (fun _ q _ h9 => hFc q.1 h9)
                      clear hB
                      generalize H1 = H at hP hS ⊢
                      replace hP : va_P (dC, dI) vwCl (xW h a e cI cJ cO cE L5 I47 M J48 n cap fE sd si sa dl) H := hP
                      obtain ⟨hwX, whUI, whUJ, hw⟩ := hw
                      replace hX : InvX n cap fE sd dl (b) I47 J48 si := hwX
                      replace hUI : ∀ j9 : Nat, j9 ∉ ([9, 10, 11] : List Nat) → I47 j9 = I j9 := mw_tr (by decide) whUI hUI
                      replace hUJ : ∀ j9 : Nat, j9 ∉ ([0, 1, 2] : List Nat) → J48 j9 = J j9 := mw_tr (by decide) whUJ hUJ
                      replace hw : (I47, J48) = f_y_padd n dl i17 r33 x45 I21 J22 := hw
                      replace hZ9 := bn2_s hZ9 hw
                      refine lv_lload hx hb dX8_layOutDraft_150 (lv_at hl 3 rfl) ?_
                      refine lv_iload hx hb dX8_layOutDraft_152 (lv_at hl 1 rfl) ?_
                      have hFc := mw_free hD hS hA
                      refine va_calll (va_runS (As := [.int (nI i17)]) (rest := [.long y23]) ⟨hx, hb, hml, hown, hts⟩ (c_y_only l dC dI h a e cI cJ cO cE L5 I47 M J48 n cap fE sd si sa dl (b) i17 H.size hX (by omega) ) (va_cwS 1 hts wc_y_layOutDraft_y_only_78 rfl rfl rfl (by decide +kernel) ⟨Nat.le_of_ble_eq_true rfl, Nat.le_of_ble_eq_true rfl⟩) ⟨fun a9 U g mk q => by obtain ⟨q0, q1, qP, qK, qD, qN⟩ := q; exact ⟨q0, q1, qP, va_K.moved (u := U) (U := U.calling g mk a9) (Vm.Alike.refl U.vm) qK, qD, pw_N.same (u := U) (U := U.calling g mk a9) rfl qN⟩, fun U hU hW => ⟨rfl, by rw [hU], by rw [hU]; exact hP, va_K.moved hW.alike hK, hD.weaken (fun _ _ _ _ => trivial), pw_N.warm hW hN⟩⟩ rfl rfl hl.1 rfl (lv_room (Nat.le_of_ble_eq_true rfl)) dX8_layOutDraft_154 ⟨Nat.le_of_ble_eq_true rfl, Nat.le_of_ble_eq_true rfl⟩) hS (fun q _ h => hFc q h) hFc (fun r49 u t H1 locs ht hvm hw hB hz1 hk1 hS => ?_)
                      replace hP := hB.1
                      rw [ht] at hP
                      replace hD : va_D A (xW h a e cI cJ cO cE L5 I47 M J48 n cap fE sd si sa dl) := hB.2.weaken (fun _ q _ h9 => hFc q.1 h9)
                      clear hB
                      generalize H1 = H at hP hS ⊢
                      replace hP : va_P (dC, dI) vwCl (xW h a e cI cJ cO cE L5 I47 M J48 n cap fE sd si sa dl) H := hP
                      replace hw : r49 = f_y_only n dl i17  := hw
                      replace hZ9 := bnd_s hZ9 hw
                      refine lv_ldc2 (v := (-1)) hx hb hown (hts (.constantLong RX8 238 (-1)) (by decide +kernel)) dX8_layOutDraft_157 ?_
                      refine lv_lxor hx hb dX8_layOutDraft_160 ?_
                      refine lv_topl (fun x50 ex50 => ?_)
                      replace hZ9 := bnd_s hZ9 ex50
                      refine lv_land hx hb dX8_layOutDraft_161 ?_
                      refine lv_topl (fun x51 ex51 => ?_)
                      replace hZ9 := bnd_s hZ9 ex51
                      refine lv_lstore (lv' := [(5, .long x51), (9, .int r33), (8, .int (nI i17)), (7, .int (nI i7)), (3, .long x2), (1, .long x1), (0, .ref h)]) hx hb dX8_layOutDraft_162 hl (by decide) rfl (fun ls hl => ?_)
                      refine lv_iinc (v := (nI (i17 + 1))) (lv' := [(8, .int (nI (i17 + 1))), (5, .long x51), (9, .int r33), (7, .int (nI i7)), (3, .long x2), (1, .long x1), (0, .ref h)]) hx hb dX8_layOutDraft_164 hl (k := 2) rfl (nI_add i17 1) (by decide) rfl (fun ls hl => ?_)
                      refine lv_goto (tgt := 49) hx hb dX8_layOutDraft_167 (by decide) ?_
                      exact ih19 (i17 + 1) x51 I47 J48 _ _ _ (by omega) (by omega) (hX.mono (by omega)) hUI hUJ  hZ9 hP hD hS (lv_sub hl [0, 3, 1, 4, 5, 6] rfl)
          exact lp20 (n + 1) 0 y13 I11 J12 _ _ _ (by omega) (by omega) (hX.mono (by omega)) hUI hUJ  hZ9 hP hD hS hl
  exact lp10 (40 + 1) 0 x3 I6 J _ _ _ (by omega) (by omega) (hX.mono (by omega)) hUI hUJ  hZ9 hP hD hS hl
def f_y_canWake (n : Nat) (dl : Nat → Nat) (sv : Nat) (M : Nat → Nat → Int64) : Int32 := bnd (f_y_hasItsNeeds n dl sv M) (fun (r1 : Int32) => if r1 = (0 : Int32) then (((0 : Int32))) else (bnd (f_y_from n dl 3 sv M) (fun (r3 : Int64) => bnd (f_y_sus n dl  M) (fun (r4 : Int64) => bnd (r3 &&& r4) (fun (x5 : Int64) => bnd (lg_cmp x5 (0 : Int64)) (fun (x6 : Int32) => if x6 = (0 : Int32) then (((1 : Int32))) else (((0 : Int32)))))))))
def wq_y_canWake : List Cond := ([.code yX8_canWake cX8_canWake 2 (some .boolean), .fieldLink RX8 19 "ServiceTree" "relations" "LServiceTree$Relations;", .methodLink RX8 231 yX8_hasItsNeeds, .instanceMethod yX8_hasItsNeeds, .selects RX8 yX8_hasItsNeeds yX8_hasItsNeeds, .initialized RX8, .methodLink RX8 234 yX5_from, .instanceMethod yX5_from, .selects RX5 yX5_from yX5_from, .initialized RX5, .methodLink RX8 224 yX8_startingUpOrStopping, .instanceMethod yX8_startingUpOrStopping, .selects RX8 yX8_startingUpOrStopping yX8_startingUpOrStopping] : List Cond) ++ (wsX80 ++ (wq_y_hasItsNeeds ++ (wq_y_from ++ (wq_y_sus))))
theorem in_y_canWake_X8 : ∀ w ∈ wsX80, w ∈ wq_y_canWake := fun _ h => List.mem_append_right _ (List.mem_append_left _ (h))
set_option maxRecDepth 20000 in
theorem wi_y_canWake : ∀ w ∈ wq_y_canWake, w ∈ lw_tbl := List.forall_mem_append.mpr ⟨(wix [712, 225, 651, 653, 17, 60, 655, 656, 657, 64, 713, 715, 24] rfl), List.forall_mem_append.mpr ⟨inKX8, List.forall_mem_append.mpr ⟨wi_y_hasItsNeeds, List.forall_mem_append.mpr ⟨wi_y_from, wi_y_sus⟩⟩⟩⟩
set_option maxRecDepth 20000 in
theorem wg_y_canWake : GoodIn wq_y_canWake wq_y_canWake := goodIn_sub (fun _ h => h) (by decide +kernel)
set_option maxRecDepth 20000 in
theorem wc_y_canWake_y_hasItsNeeds_231 : GoodIn wq_y_canWake (wsV RX8 231 RX8 yX8_hasItsNeeds wq_y_hasItsNeeds) := goodIn_app (goodIn_of _ (by decide +kernel)) (fun w h => ⟨List.mem_append_right _ (List.mem_append_right _ (List.mem_append_left _ (h))), (wg_y_hasItsNeeds w h).2⟩)
set_option maxRecDepth 20000 in
theorem wc_y_canWake_y_from_234 : GoodIn wq_y_canWake (wsV RX8 234 RX5 yX5_from wq_y_from) := goodIn_app (goodIn_of _ (by decide +kernel)) (fun w h => ⟨List.mem_append_right _ (List.mem_append_right _ (List.mem_append_right _ (List.mem_append_left _ (h)))), (wg_y_from w h).2⟩)
set_option maxRecDepth 20000 in
theorem wc_y_canWake_y_sus_224 : GoodIn wq_y_canWake (wsV RX8 224 RX8 yX8_startingUpOrStopping wq_y_sus) := goodIn_app (goodIn_of _ (by decide +kernel)) (fun w h => ⟨List.mem_append_right _ (List.mem_append_right _ (List.mem_append_right _ (List.mem_append_right _ (h)))), (wg_y_sus w h).2⟩)
def rm_y_canWake : Room := { frames := 2, cells := 0, slots := 0, locals := 43 }
set_option maxHeartbeats 4000000 in
set_option maxRecDepth 100000 in
theorem c_y_canWake (l : Launch) (dC : Nat → ClassId) (dI : Nat → Nat → Nat) (h : Nat) (a : Nat → Nat) (e : Nat) (cI cJ cO cE : ClassId) (L : Nat → Int64) (I : Nat → Int32) (M : Nat → Nat → Int64) (J : Nat → Nat → Int32) (n cap : Nat) (fE : Nat → Option Nat) (sd : Nat → Nat → Nat) (si : Nat → Nat → Int32) (sa : Nat → Nat → Nat → Int32) (dl : Nat → Nat) (b : Nat) (sv : Nat) (sz : Nat) (hX0 : InvX n cap fE sd dl b I J si) (hb0 : b + 0 < 2147483648) (hp0 : sv < n) : Met l yX8_canWake wq_y_canWake rm_y_canWake (va_Pc [.ref h, .int (nI sv)] (fun U => U.heap.size = sz ∧ va_P (dC, dI) vwCl (xW h a e cI cJ cO cE L I M J n cap fE sd si sa dl) U.heap ∧ va_K (dC, dI) vwCl (xT cI cJ cO cE) U ∧ va_D (fun _ => True) (xW h a e cI cJ cO cE L I M J n cap fE sd si sa dl) ∧ pw_N U)) (va_Qi (fun (r : Int32) (u : Unit) => ((r = f_y_canWake n dl sv M) ∧ (r = 0 ∨ r = 1))) (fun (u : Unit) (t : State) => va_P (dC, dI) vwCl (xW h a e cI cJ cO cE L I M J n cap fE sd si sa dl) t.heap ∧ va_D (va_A (xW h a e cI cJ cO cE L I M J n cap fE sd si sa dl) sz) (xW h a e cI cJ cO cE L I M J n cap fE sd si sa dl)) (va_A (xW h a e cI cJ cO cE L I M J n cap fE sd si sa dl) sz)) 0 0 (va_A (xW h a e cI cJ cO cE L I M J n cap fE sd si sa dl) sz) := by
  have hn : n ≤ 40 := hX0.1.1
  have hX := hX0
  refine Met.ofW (cc := cX8_canWake) (maxL := 2) (ret := (some .boolean)) (by decide) rfl ?_
  intro p e9 s m args below meth c s₁ B hml hv
  obtain ⟨rfl, hsz, hP, hK, hD0, hN⟩ := hv
  have hx := B.exec
  have hb := B.bytes
  have hr := B.returns
  have hts := atoms_spec (ws := wq_y_canWake) B.pre
  have hown : s.vm.findClass RX8 = some m.cls := findClass_of_methodNamed B.named
  have hlocks := B.notSynchronized
  subst hsz
  have hD := hD0.self (sz := s.heap.size)
  generalize hAe : va_A (xW h a e cI cJ cO cE L I M J n cap fE sd si sa dl) s.heap.size = A at hD ⊢
  have hA : ∀ q : Nat, s.heap.size ≤ q → A q := fun q h => by rw [← hAe]; exact Or.inr h
  have hS : va_S A s.heap s.heap [] := va_S.rf
  have hl := lv_entry ([.ref h, .int (nI sv)]) (n := 2) (Nat.le_of_ble_eq_true rfl)
  rw [lg_entry_eq]
  generalize (lg_sl ([.ref h, .int (nI sv)]) ++ List.replicate (2 - (lg_sl ([.ref h, .int (nI sv)])).length) Slot.unset).toArray = ls at hl ⊢
  have hl : lv_has ls 2 [(0, .ref h), (1, .int (nI sv))] := hl
  obtain ⟨RES, hR0⟩ : ∃ R9, R9 = f_y_canWake n dl sv M := ⟨_, rfl⟩
  have hZ9 := hR0
  unfold f_y_canWake at hZ9
  refine lv_aload_n hx hb dX8_canWake_0 rfl (lv_at hl 0 rfl) ?_
  refine lv_iload_n hx hb dX8_canWake_1 rfl (lv_at hl 1 rfl) ?_
  have hFc := mw_free hD hS hA
  refine va_calli (va_runV (As := [.int (nI sv)]) (rest := []) ⟨hx, hb, hml, hown, hts⟩ (c_y_hasItsNeeds l dC dI h a e cI cJ cO cE L I M J n cap fE sd si sa dl (b) sv s.heap.size hX (by omega) (by omega)) (cwV 1 hts wc_y_canWake_y_hasItsNeeds_231 rfl rfl rfl (by decide +kernel) ⟨Nat.le_of_ble_eq_true rfl, Nat.le_of_ble_eq_true rfl⟩) ⟨fun a9 U g mk q => by obtain ⟨q0, q1, qP, qK, qD, qN⟩ := q; exact ⟨q0, q1, qP, va_K.moved (u := U) (U := U.calling g mk a9) (Vm.Alike.refl U.vm) qK, qD, pw_N.same (u := U) (U := U.calling g mk a9) rfl qN⟩, va_recv hK hP (ci := 9) (q0 := 0) rfl rfl, fun U hU hW => ⟨rfl, by rw [hU], by rw [hU]; exact hP, va_K.moved hW.alike hK, hD.weaken (fun _ _ _ _ => trivial), pw_N.warm hW hN⟩⟩ rfl rfl hl.1 rfl (lv_room (Nat.le_of_ble_eq_true rfl)) dX8_canWake_2 ⟨Nat.le_of_ble_eq_true rfl, Nat.le_of_ble_eq_true rfl⟩) hS (fun q _ h => hFc q h) hFc (fun r1 u t H1 locs ht hvm hw hB hz1 hk1 hS => ?_)
  replace hP := hB.1
  rw [ht] at hP
  replace hD : va_D A (xW h a e cI cJ cO cE L I M J n cap fE sd si sa dl) := hB.2.weaken (fun _ q _ h9 => hFc q.1 h9)
  clear hB
  generalize H1 = H at hP hS ⊢
  replace hP : va_P (dC, dI) vwCl (xW h a e cI cJ cO cE L I M J n cap fE sd si sa dl) H := hP
  obtain ⟨hw, hwe⟩ := hw
  replace hw : r1 = f_y_hasItsNeeds n dl sv M := hw
  replace hZ9 := bnd_s hZ9 hw
  have br1 := hwe
  refine lv_if_eq (tgt := 31) hx hb dX8_canWake_5 (by decide) (fun c2 => ?_) (fun c2 => ?_)
  · replace hZ9 := ite_t hZ9 c2
    refine lv_iconst (v := 0) hx hb dX8_canWake_31 (by decide) ?_
    exact W.zret (v := 0) hx hb hr (by decide) (fun t ht hW => ⟨⟨0, (), rfl, ⟨hZ9.symm.trans hR0, Or.inl rfl⟩, by rw [ht]; exact hP, hD⟩, hS.F ht⟩) hS.2.2 dX8_canWake_32
  · replace hZ9 := ite_f hZ9 c2
    refine lv_aload_n hx hb dX8_canWake_8 rfl (lv_at hl 0 rfl) ?_
    refine va_get (D := (dC, dI)) (ci := 9) (v := .ref (a 1)) (C := RX8) (T := TX8) (N := 14) hx hb hts in_y_canWake_X8 hown hK hP 0 rfl rfl 1 (by decide) (hts (.fieldLink RX8 19 "ServiceTree" "relations" "LServiceTree$Relations;") (by decide +kernel)) (fun _ h9 => h9) rfl dX8_canWake_9 ?_
    refine lv_iconst (v := 3) hx hb dX8_canWake_12 (by decide) ?_
    refine lv_iload_n hx hb dX8_canWake_13 rfl (lv_at hl 1 rfl) ?_
    have hFc := mw_free hD hS hA
    refine va_calll (va_runV (As := [.int 3, .int (nI sv)]) (rest := []) ⟨hx, hb, hml, hown, hts⟩ (c_y_from l dC dI h a e cI cJ cO cE L I M J n cap fE sd si sa dl (b) 3 sv H.size hX (by omega) (by omega) (by omega)) (cwV 2 hts wc_y_canWake_y_from_234 rfl rfl rfl (by decide +kernel) ⟨Nat.le_of_ble_eq_true rfl, Nat.le_of_ble_eq_true rfl⟩) ⟨fun a9 U g mk q => by obtain ⟨q0, q1, qP, qK, qD, qN⟩ := q; exact ⟨q0, q1, qP, va_K.moved (u := U) (U := U.calling g mk a9) (Vm.Alike.refl U.vm) qK, qD, pw_N.same (u := U) (U := U.calling g mk a9) rfl qN⟩, va_recv hK hP (ci := 6) (q0 := 2) rfl rfl, fun U hU hW => ⟨rfl, by rw [hU], by rw [hU]; exact hP, va_K.moved hW.alike hK, hD.weaken (fun _ _ _ _ => trivial), pw_N.warm hW hN⟩⟩ rfl rfl hl.1 rfl (lv_room (Nat.le_of_ble_eq_true rfl)) dX8_canWake_14 ⟨Nat.le_of_ble_eq_true rfl, Nat.le_of_ble_eq_true rfl⟩) hS (fun q _ h => hFc q h) hFc (fun r3 u t H1 locs ht hvm hw hB hz1 hk1 hS => ?_)
    replace hP := hB.1
    rw [ht] at hP
    replace hD : va_D A (xW h a e cI cJ cO cE L I M J n cap fE sd si sa dl) := hB.2.weaken (fun _ q _ h9 => hFc q.1 h9)
    clear hB
    generalize H1 = H at hP hS ⊢
    replace hP : va_P (dC, dI) vwCl (xW h a e cI cJ cO cE L I M J n cap fE sd si sa dl) H := hP
    replace hw : r3 = f_y_from n dl 3 sv M := hw
    replace hZ9 := bnd_s hZ9 hw
    refine lv_aload_n hx hb dX8_canWake_17 rfl (lv_at hl 0 rfl) ?_
    have hFc := mw_free hD hS hA
    refine va_calll (va_runV (As := []) (rest := [.long r3]) ⟨hx, hb, hml, hown, hts⟩ (c_y_sus l dC dI h a e cI cJ cO cE L I M J n cap fE sd si sa dl (b)  H.size hX (by omega) ) (cwV 0 hts wc_y_canWake_y_sus_224 rfl rfl rfl (by decide +kernel) ⟨Nat.le_of_ble_eq_true rfl, Nat.le_of_ble_eq_true rfl⟩) ⟨fun a9 U g mk q => by obtain ⟨q0, q1, qP, qK, qD, qN⟩ := q; exact ⟨q0, q1, qP, va_K.moved (u := U) (U := U.calling g mk a9) (Vm.Alike.refl U.vm) qK, qD, pw_N.same (u := U) (U := U.calling g mk a9) rfl qN⟩, va_recv hK hP (ci := 9) (q0 := 0) rfl rfl, fun U hU hW => ⟨rfl, by rw [hU], by rw [hU]; exact hP, va_K.moved hW.alike hK, hD.weaken (fun _ _ _ _ => trivial), pw_N.warm hW hN⟩⟩ rfl rfl hl.1 rfl (lv_room (Nat.le_of_ble_eq_true rfl)) dX8_canWake_18 ⟨Nat.le_of_ble_eq_true rfl, Nat.le_of_ble_eq_true rfl⟩) hS (fun q _ h => hFc q h) hFc (fun r4 u t H1 locs ht hvm hw hB hz1 hk1 hS => ?_)
    replace hP := hB.1
    rw [ht] at hP
    replace hD : va_D A (xW h a e cI cJ cO cE L I M J n cap fE sd si sa dl) := hB.2.weaken (fun _ q _ h9 => hFc q.1 h9)
    clear hB
    generalize H1 = H at hP hS ⊢
    replace hP : va_P (dC, dI) vwCl (xW h a e cI cJ cO cE L I M J n cap fE sd si sa dl) H := hP
    replace hw : r4 = f_y_sus n dl  M := hw
    replace hZ9 := bnd_s hZ9 hw
    refine lv_land hx hb dX8_canWake_21 ?_
    refine lv_topl (fun x5 ex5 => ?_)
    replace hZ9 := bnd_s hZ9 ex5
    refine lv_lconst (v := 0) hx hb dX8_canWake_22 (by decide) ?_
    refine W.lcmp hx hb dX8_canWake_23 ?_
    refine lv_topi (fun x6 ex6 => ?_)
    replace hZ9 := bnd_s hZ9 ex6
    refine lv_if_ne (tgt := 31) hx hb dX8_canWake_24 (by decide) (fun c7 => ?_) (fun c7 => ?_)
    · replace hZ9 := ite_f hZ9 c7
      refine lv_iconst (v := 0) hx hb dX8_canWake_31 (by decide) ?_
      exact W.zret (v := 0) hx hb hr (by decide) (fun t ht hW => ⟨⟨0, (), rfl, ⟨hZ9.symm.trans hR0, Or.inl rfl⟩, by rw [ht]; exact hP, hD⟩, hS.F ht⟩) hS.2.2 dX8_canWake_32
    · replace hZ9 := ite_t hZ9 c7
      refine lv_iconst (v := 1) hx hb dX8_canWake_27 (by decide) ?_
      refine lv_goto (tgt := 32) hx hb dX8_canWake_28 (by decide) ?_
      exact W.zret (v := 1) hx hb hr (by decide) (fun t ht hW => ⟨⟨1, (), rfl, ⟨hZ9.symm.trans hR0, Or.inr rfl⟩, by rw [ht]; exact hP, hD⟩, hS.F ht⟩) hS.2.2 dX8_canWake_32
def f_y_endLife (n : Nat) (dl : Nat → Nat) (sv : Nat) (L : Nat → Int64) (I : Nat → Int32) (M : Nat → Nat → Int64) (si : Nat → Nat → Int32) (sa : Nat → Nat → Nat → Int32) : (Nat → Int64) × (Nat → Int32) × (Nat → Nat → Int64) × (Nat → Nat → Int32) × (Nat → Nat → Nat → Int32) := bnd (si sv 0) (fun (x2 : Int32) => if x2 = (1 : Int32) then (bnd (f_y_endBy n dl sv si) (fun (si20 : Nat → Nat → Int32) => bnd (L 0) (fun (x21 : Int64) => bnd (f_y_only n dl sv ) (fun (r22 : Int64) => bnd (r22 ^^^ (-1 : Int64)) (fun (x23 : Int64) => bnd (x21 &&& x23) (fun (x24 : Int64) => bnd (va_up L 0 x24) (fun (L25 : Nat → Int64) => (L25, I, M, si20, sa)))))))) else (bnd (I 0) (fun (x4 : Int32) => bnd (f_y_allowed n dl sv x4 si sa) (fun (r5 : Int32) => if r5 = (0 : Int32) then (bn5 (f_y_enter n dl sv 4 L I M si sa) (fun (L8 : Nat → Int64) (I9 : Nat → Int32) (M10 : Nat → Nat → Int64) (si11 : Nat → Nat → Int32) (sa12 : Nat → Nat → Nat → Int32) => (L8, I9, M10, si11, sa12))) else (bn5 (f_y_enter n dl sv 5 L I M si sa) (fun (L14 : Nat → Int64) (I15 : Nat → Int32) (M16 : Nat → Nat → Int64) (si17 : Nat → Nat → Int32) (sa18 : Nat → Nat → Nat → Int32) => (L14, I15, M16, si17, sa18)))))))
def wq_y_endLife : List Cond := ([.code yX8_endLife cX8_endLife 3 none, .fieldLink RX8 10 "ServiceTree" "services" "Ljava/util/ArrayList;", .classLink RX8 65 RX7, .fieldLink RX8 67 "ServiceTree" "now" "I", .fieldLink RX8 311 "ServiceTree" "living" "J", .constantLong RX8 238 (-1), .methodLink RX8 86 yJx4a65c_get_915e3, .instanceMethod yJx4a65c_get_915e3, .selects RJx4a65c yJx4a65c_get_915e3 yJx4a65c_get_915e3, .initialized RJx4a65c, .methodLink RX8 332 yX6_allowed, .instanceMethod yX6_allowed, .selects RX6 yX6_allowed yX6_allowed, .initialized RX6, .methodLink RX8 249 yX8_enter, .instanceMethod yX8_enter, .selects RX8 yX8_enter yX8_enter, .initialized RX8, .methodLink RX8 329 yX7_endByItself, .instanceMethod yX7_endByItself, .selects RX7 yX7_endByItself yX7_endByItself, .initialized RX7, .methodLink RX8 78 yX8_only, .static yX8_only] : List Cond) ++ (wsX70 ++ (wsX80 ++ (wq_x_get ++ (wq_y_allowed ++ (wq_y_enter ++ (wq_y_endBy ++ (wq_y_only)))))))
theorem in_y_endLife_X7 : ∀ w ∈ wsX70, w ∈ wq_y_endLife := fun _ h => List.mem_append_right _ (List.mem_append_left _ (h))
theorem in_y_endLife_X8 : ∀ w ∈ wsX80, w ∈ wq_y_endLife := fun _ h => List.mem_append_right _ (List.mem_append_right _ (List.mem_append_left _ (h)))
set_option maxRecDepth 20000 in
theorem wi_y_endLife : ∀ w ∈ wq_y_endLife, w ∈ lw_tbl := List.forall_mem_append.mpr ⟨(wix [700, 224, 278, 233, 231, 597, 453, 454, 455, 63, 705, 706, 707, 71, 593, 595, 14, 60, 701, 702, 703, 70, 442, 443] rfl), List.forall_mem_append.mpr ⟨inKX7, List.forall_mem_append.mpr ⟨inKX8, List.forall_mem_append.mpr ⟨wi_x_get, List.forall_mem_append.mpr ⟨wi_y_allowed, List.forall_mem_append.mpr ⟨wi_y_enter, List.forall_mem_append.mpr ⟨wi_y_endBy, wi_y_only⟩⟩⟩⟩⟩⟩⟩
set_option maxRecDepth 20000 in
theorem wg_y_endLife : GoodIn wq_y_endLife wq_y_endLife := goodIn_sub (fun _ h => h) (by decide +kernel)
set_option maxRecDepth 20000 in
theorem wc_y_endLife_x_get_86 : GoodIn wq_y_endLife (wsV RX8 86 RJx4a65c yJx4a65c_get_915e3 wq_x_get) := goodIn_app (goodIn_of _ (by decide +kernel)) (fun w h => ⟨List.mem_append_right _ (List.mem_append_right _ (List.mem_append_right _ (List.mem_append_left _ (h)))), (wg_x_get w h).2⟩)
set_option maxRecDepth 20000 in
theorem wc_y_endLife_y_allowed_332 : GoodIn wq_y_endLife (wsV RX8 332 RX6 yX6_allowed wq_y_allowed) := goodIn_app (goodIn_of _ (by decide +kernel)) (fun w h => ⟨List.mem_append_right _ (List.mem_append_right _ (List.mem_append_right _ (List.mem_append_right _ (List.mem_append_left _ (h))))), (wg_y_allowed w h).2⟩)
set_option maxRecDepth 20000 in
theorem wc_y_endLife_y_enter_249 : GoodIn wq_y_endLife (wsV RX8 249 RX8 yX8_enter wq_y_enter) := goodIn_app (goodIn_of _ (by decide +kernel)) (fun w h => ⟨List.mem_append_right _ (List.mem_append_right _ (List.mem_append_right _ (List.mem_append_right _ (List.mem_append_right _ (List.mem_append_left _ (h)))))), (wg_y_enter w h).2⟩)
set_option maxRecDepth 20000 in
theorem wc_y_endLife_y_endBy_329 : GoodIn wq_y_endLife (wsV RX8 329 RX7 yX7_endByItself wq_y_endBy) := goodIn_app (goodIn_of _ (by decide +kernel)) (fun w h => ⟨List.mem_append_right _ (List.mem_append_right _ (List.mem_append_right _ (List.mem_append_right _ (List.mem_append_right _ (List.mem_append_right _ (List.mem_append_left _ (h))))))), (wg_y_endBy w h).2⟩)
set_option maxRecDepth 20000 in
theorem wc_y_endLife_y_only_78 : GoodIn wq_y_endLife (va_wsS RX8 78 yX8_only wq_y_only) := goodIn_app (goodIn_of _ (by decide +kernel)) (fun w h => ⟨List.mem_append_right _ (List.mem_append_right _ (List.mem_append_right _ (List.mem_append_right _ (List.mem_append_right _ (List.mem_append_right _ (List.mem_append_right _ (h))))))), (wg_y_only w h).2⟩)
def rm_y_endLife : Room := { frames := 4, cells := 0, slots := 0, locals := 89 }
set_option maxHeartbeats 4000000 in
set_option maxRecDepth 100000 in
theorem c_y_endLife (l : Launch) (dC : Nat → ClassId) (dI : Nat → Nat → Nat) (h : Nat) (a : Nat → Nat) (e : Nat) (cI cJ cO cE : ClassId) (L : Nat → Int64) (I : Nat → Int32) (M : Nat → Nat → Int64) (J : Nat → Nat → Int32) (n cap : Nat) (fE : Nat → Option Nat) (sd : Nat → Nat → Nat) (si : Nat → Nat → Int32) (sa : Nat → Nat → Nat → Int32) (dl : Nat → Nat) (b : Nat) (sv : Nat) (sz : Nat) (hX0 : InvX n cap fE sd dl b I J si) (hb0 : b + 1 < 2147483648) (hp0 : sv < n) : Met l yX8_endLife wq_y_endLife rm_y_endLife (va_Pc [.ref h, .int (nI sv)] (fun U => U.heap.size = sz ∧ va_P (dC, dI) vwCl (xW h a e cI cJ cO cE L I M J n cap fE sd si sa dl) U.heap ∧ va_K (dC, dI) vwCl (xT cI cJ cO cE) U ∧ va_D (fun _ => True) (xW h a e cI cJ cO cE L I M J n cap fE sd si sa dl) ∧ pw_N U)) (va_Qv (fun (u : (Nat → Int64) × (Nat → Int32) × (Nat → Nat → Int64) × (Nat → Nat → Int32) × (Nat → Nat → Nat → Int32)) => InvX n cap fE sd dl (b + 1) u.2.1 J u.2.2.2.1 ∧ (∀ j9 : Nat, j9 ∉ ([0, 5, 6, 7] : List Nat) → u.1 j9 = L j9) ∧ (∀ j9 : Nat, j9 ∉ ([12] : List Nat) → u.2.1 j9 = I j9) ∧ (∀ j9 : Nat, j9 ∉ ([8, 9] : List Nat) → u.2.2.1 j9 = M j9) ∧ (∀ s9 q9 : Nat, q9 ∉ ([6, 7, 8, 9, 10, 11, 21, 22] : List Nat) → u.2.2.2.1 s9 q9 = si s9 q9) ∧ (∀ s9 q9 : Nat, q9 ∉ ([3] : List Nat) → u.2.2.2.2 s9 q9 = sa s9 q9) ∧ (u = f_y_endLife n dl sv L I M si sa)) (fun (u : (Nat → Int64) × (Nat → Int32) × (Nat → Nat → Int64) × (Nat → Nat → Int32) × (Nat → Nat → Nat → Int32)) (t : State) => va_P (dC, dI) vwCl (xW h a e cI cJ cO cE u.1 u.2.1 u.2.2.1 J n cap fE sd u.2.2.2.1 u.2.2.2.2 dl) t.heap ∧ va_D (va_A (xW h a e cI cJ cO cE L I M J n cap fE sd si sa dl) sz) (xW h a e cI cJ cO cE u.1 u.2.1 u.2.2.1 J n cap fE sd u.2.2.2.1 u.2.2.2.2 dl)) (va_A (xW h a e cI cJ cO cE L I M J n cap fE sd si sa dl) sz)) 0 0 (va_A (xW h a e cI cJ cO cE L I M J n cap fE sd si sa dl) sz) := by
  have hn : n ≤ 40 := hX0.1.1
  have hX := hX0
  have hUL : ∀ j9 : Nat, j9 ∉ ([0, 5, 6, 7] : List Nat) → L j9 = L j9 := fun _ _ => rfl
  have hUI : ∀ j9 : Nat, j9 ∉ ([12] : List Nat) → I j9 = I j9 := fun _ _ => rfl
  have hUM : ∀ j9 : Nat, j9 ∉ ([8, 9] : List Nat) → M j9 = M j9 := fun _ _ => rfl
  have hUsi : ∀ s9 q9 : Nat, q9 ∉ ([6, 7, 8, 9, 10, 11, 21, 22] : List Nat) → si s9 q9 = si s9 q9 := fun _ _ _ => rfl
  have hUsa : ∀ s9 q9 : Nat, q9 ∉ ([3] : List Nat) → sa s9 q9 = sa s9 q9 := fun _ _ _ => rfl
  refine Met.ofW (cc := cX8_endLife) (maxL := 3) (ret := none) (by decide) rfl ?_
  intro p e9 s m args below meth c s₁ B hml hv
  obtain ⟨rfl, hsz, hP, hK, hD0, hN⟩ := hv
  have hx := B.exec
  have hb := B.bytes
  have hr := B.returns
  have hts := atoms_spec (ws := wq_y_endLife) B.pre
  have hown : s.vm.findClass RX8 = some m.cls := findClass_of_methodNamed B.named
  have hlocks := B.notSynchronized
  subst hsz
  have hD := hD0.self (sz := s.heap.size)
  generalize hAe : va_A (xW h a e cI cJ cO cE L I M J n cap fE sd si sa dl) s.heap.size = A at hD ⊢
  have hA : ∀ q : Nat, s.heap.size ≤ q → A q := fun q h => by rw [← hAe]; exact Or.inr h
  have hS : va_S A s.heap s.heap [] := va_S.rf
  have hl := lv_entry ([.ref h, .int (nI sv)]) (n := 3) (Nat.le_of_ble_eq_true rfl)
  rw [lg_entry_eq]
  generalize (lg_sl ([.ref h, .int (nI sv)]) ++ List.replicate (3 - (lg_sl ([.ref h, .int (nI sv)])).length) Slot.unset).toArray = ls at hl ⊢
  have hl : lv_has ls 3 [(0, .ref h), (1, .int (nI sv))] := hl
  obtain ⟨RES, hR0⟩ : ∃ R9, R9 = f_y_endLife n dl sv L I M si sa := ⟨_, rfl⟩
  have hZ9 := hR0
  unfold f_y_endLife at hZ9
  refine lv_aload_n hx hb dX8_endLife_0 rfl (lv_at hl 0 rfl) ?_
  refine va_get (D := (dC, dI)) (ci := 9) (v := .ref (a 0)) (C := RX8) (T := TX8) (N := 14) hx hb hts in_y_endLife_X8 hown hK hP 0 rfl rfl 0 (by decide) (hts (.fieldLink RX8 10 "ServiceTree" "services" "Ljava/util/ArrayList;") (by decide +kernel)) (fun _ h9 => h9) rfl dX8_endLife_1 ?_
  refine lv_iload_n hx hb dX8_endLife_4 rfl (lv_at hl 1 rfl) ?_
  have hFc := mw_free hD hS hA
  refine va_callr (va_runV (As := [.int (nI sv)]) (rest := []) ⟨hx, hb, hml, hown, hts⟩ (c_x_get l dC dI h a e cI cJ cO cE L I M J n cap fE sd si sa dl (b) sv s.heap.size hX (by omega) (by omega)) (cwV 1 hts wc_y_endLife_x_get_86 rfl rfl rfl (by decide +kernel) ⟨Nat.le_of_ble_eq_true rfl, Nat.le_of_ble_eq_true rfl⟩) ⟨fun a9 U g mk q => by obtain ⟨q0, q1, qP, qK, qD, qN⟩ := q; exact ⟨q0, q1, qP, va_K.moved (u := U) (U := U.calling g mk a9) (Vm.Alike.refl U.vm) qK, qD, pw_N.same (u := U) (U := U.calling g mk a9) rfl qN⟩, va_recv hK hP (ci := 0) (q0 := 1) rfl rfl, fun U hU hW => ⟨rfl, by rw [hU], by rw [hU]; exact hP, va_K.moved hW.alike hK, hD.weaken (fun _ _ _ _ => trivial), pw_N.warm hW hN⟩⟩ rfl rfl hl.1 rfl (lv_room (Nat.le_of_ble_eq_true rfl)) dX8_endLife_5 ⟨Nat.le_of_ble_eq_true rfl, Nat.le_of_ble_eq_true rfl⟩) hS (fun q _ h => hFc q h) hFc (fun u r1 t H1 locs ht hvm hw hB hz1 hk1 hS => ?_)
  obtain ⟨hra, hB⟩ := hB
  replace hP := hB.1
  rw [ht] at hP
  replace hD : va_D A (xW h a e cI cJ cO cE L I M J n cap fE sd si sa dl) := hB.2.weaken (fun _ q _ h9 => hFc q.1 h9)
  clear hB
  generalize H1 = H at hP hS ⊢
  replace hP : va_P (dC, dI) vwCl (xW h a e cI cJ cO cE L I M J n cap fE sd si sa dl) H := hP
  subst hra
  refine va_castS hx hb hown (hts (.classLink RX8 65 RX7) (by decide +kernel)) (hK.1 8 _ rfl).2 (va_recv hK hP (ci := 8) (q0 := (22 + (6 * sv + 0))) rfl (xAt_0 h a e cI cJ cO cE L I M J n cap fE sd si sa dl (s := sv) (by omega))) dX8_endLife_8 ?_
  refine lv_astore_n (lv' := [(2, .ref (sd sv 0)), (0, .ref h), (1, .int (nI sv))]) hx hb dX8_endLife_11 rfl hl (by decide) rfl (fun ls hl => ?_)
  refine lv_aload_n hx hb dX8_endLife_12 rfl (lv_at hl 0 rfl) ?_
  refine va_getN (D := (dC, dI)) (ci := 8) (v := .int (si sv 0)) (C := RX7) (T := TX7) (N := 12) hx hb hts in_y_endLife_X7 hown hK hP (22 + (6 * sv + 0)) (xAt_0 h a e cI cJ cO cE L I M J n cap fE sd si sa dl (s := sv) (by omega)) rfl 0 (by decide) (va_Nw.use rfl (hN (.fieldLinkNest RX8 90 "ServiceTree$Service" "kind" "I" "ServiceTree") (by decide +kernel))) (fun _ h9 => h9) rfl dX8_endLife_13 ?_
  refine lv_topi (fun x2 ex2 => ?_)
  replace hZ9 := bnd_s hZ9 ex2
  refine lv_iconst (v := 1) hx hb dX8_endLife_16 (by decide) ?_
  refine lv_icmp_ne (tgt := 42) hx hb dX8_endLife_17 (by decide) (fun c3 => ?_) (fun c3 => ?_)
  · replace hZ9 := ite_f hZ9 c3
    refine lv_aload_n hx hb dX8_endLife_42 rfl (lv_at hl 1 rfl) ?_
    refine lv_iload_n hx hb dX8_endLife_43 rfl (lv_at hl 2 rfl) ?_
    refine lv_aload_n hx hb dX8_endLife_44 rfl (lv_at hl 0 rfl) ?_
    refine va_getN (D := (dC, dI)) (ci := 8) (v := .ref (sd sv 2)) (C := RX7) (T := TX7) (N := 12) hx hb hts in_y_endLife_X7 hown hK hP (22 + (6 * sv + 0)) (xAt_0 h a e cI cJ cO cE L I M J n cap fE sd si sa dl (s := sv) (by omega)) rfl 4 (by decide) (va_Nw.use rfl (hN (.fieldLinkNest RX8 97 "ServiceTree$Service" "restarts" "LServiceTree$Restarts;" "ServiceTree") (by decide +kernel))) (fun _ h9 => h9) rfl dX8_endLife_45 ?_
    refine lv_aload_n hx hb dX8_endLife_48 rfl (lv_at hl 1 rfl) ?_
    refine va_get (D := (dC, dI)) (ci := 9) (v := .int (I 0)) (C := RX8) (T := TX8) (N := 14) hx hb hts in_y_endLife_X8 hown hK hP 0 rfl rfl 9 (by decide) (hts (.fieldLink RX8 67 "ServiceTree" "now" "I") (by decide +kernel)) (fun _ h9 => h9) rfl dX8_endLife_49 ?_
    refine lv_topi (fun x4 ex4 => ?_)
    replace hZ9 := bnd_s hZ9 ex4
    have hFc := mw_free hD hS hA
    refine va_calli (va_runV (As := [.int x4]) (rest := [.int (nI sv), .ref h]) ⟨hx, hb, hml, hown, hts⟩ (c_y_allowed l dC dI h a e cI cJ cO cE L I M J n cap fE sd si sa dl (b) sv x4 H.size hX (by omega) (by omega)) (cwV 1 hts wc_y_endLife_y_allowed_332 rfl rfl rfl (by decide +kernel) ⟨Nat.le_of_ble_eq_true rfl, Nat.le_of_ble_eq_true rfl⟩) ⟨fun a9 U g mk q => by obtain ⟨q0, q1, qP, qK, qD, qN⟩ := q; exact ⟨q0, q1, qP, va_K.moved (u := U) (U := U.calling g mk a9) (Vm.Alike.refl U.vm) qK, qD, pw_N.same (u := U) (U := U.calling g mk a9) rfl qN⟩, va_recv hK hP (ci := 7) (q0 := (22 + (6 * sv + 2))) rfl (xAt_2 h a e cI cJ cO cE L I M J n cap fE sd si sa dl (s := sv) (by omega)), fun U hU hW => ⟨rfl, by rw [hU], by rw [hU]; exact hP, va_K.moved hW.alike hK, hD.weaken (fun _ _ _ _ => trivial), pw_N.warm hW hN⟩⟩ rfl rfl hl.1 rfl (lv_room (Nat.le_of_ble_eq_true rfl)) dX8_endLife_52 ⟨Nat.le_of_ble_eq_true rfl, Nat.le_of_ble_eq_true rfl⟩) hS (fun q _ h => hFc q h) hFc (fun r5 u t H1 locs ht hvm hw hB hz1 hk1 hS => ?_)
    replace hP := hB.1
    rw [ht] at hP
    replace hD : va_D A (xW h a e cI cJ cO cE L I M J n cap fE sd si sa dl) := hB.2.weaken (fun _ q _ h9 => hFc q.1 h9)
    clear hB
    generalize H1 = H at hP hS ⊢
    replace hP : va_P (dC, dI) vwCl (xW h a e cI cJ cO cE L I M J n cap fE sd si sa dl) H := hP
    obtain ⟨hw, hwe⟩ := hw
    replace hw : r5 = f_y_allowed n dl sv x4 si sa := hw
    replace hZ9 := bnd_s hZ9 hw
    have br5 := hwe
    refine lv_if_eq (tgt := 62) hx hb dX8_endLife_55 (by decide) (fun c6 => ?_) (fun c6 => ?_)
    · replace hZ9 := ite_t hZ9 c6
      refine lv_iconst (v := 4) hx hb dX8_endLife_62 (by decide) ?_
      have hFc := mw_free hD hS hA
      refine va_callv (va_runV (As := [.int (nI sv), .int 4]) (rest := []) ⟨hx, hb, hml, hown, hts⟩ (c_y_enter l dC dI h a e cI cJ cO cE L I M J n cap fE sd si sa dl (b) sv 4 H.size hX (by omega) (by omega) (by omega)) (cwV 2 hts wc_y_endLife_y_enter_249 rfl rfl rfl (by decide +kernel) ⟨Nat.le_of_ble_eq_true rfl, Nat.le_of_ble_eq_true rfl⟩) ⟨fun a9 U g mk q => by obtain ⟨q0, q1, qP, qK, qD, qN⟩ := q; exact ⟨q0, q1, qP, va_K.moved (u := U) (U := U.calling g mk a9) (Vm.Alike.refl U.vm) qK, qD, pw_N.same (u := U) (U := U.calling g mk a9) rfl qN⟩, va_recv hK hP (ci := 9) (q0 := 0) rfl rfl, fun U hU hW => ⟨rfl, by rw [hU], by rw [hU]; exact hP, va_K.moved hW.alike hK, hD.weaken (fun _ _ _ _ => trivial), pw_N.warm hW hN⟩⟩ rfl rfl hl.1 rfl (lv_room (Nat.le_of_ble_eq_true rfl)) dX8_endLife_63 ⟨Nat.le_of_ble_eq_true rfl, Nat.le_of_ble_eq_true rfl⟩) hS (fun q _ h => hFc q h) hFc (fun u t H1 locs ht hvm hw hB hz1 hk1 hS => ?_)
      obtain ⟨L8, I9, M10, si11, sa12⟩ := u
      replace hP := hB.1
      rw [ht] at hP
      replace hD : va_D A (xW h a e cI cJ cO cE L8 I9 M10 J n cap fE sd si11 sa12 dl) := hB.2.weaken (fun _ q _ h9 => hFc q.1 h9)
      clear hB
      generalize H1 = H at hP hS ⊢
      replace hP : va_P (dC, dI) vwCl (xW h a e cI cJ cO cE L8 I9 M10 J n cap fE sd si11 sa12 dl) H := hP
      obtain ⟨hwX, whUL, whUI, whUM, whUsi, whUsa, hw⟩ := hw
      replace hX : InvX n cap fE sd dl (b + 1) I9 J si11 := hwX
      replace hUL : ∀ j9 : Nat, j9 ∉ ([0, 5, 6, 7] : List Nat) → L8 j9 = L j9 := mw_tr (by decide) whUL hUL
      replace hUI : ∀ j9 : Nat, j9 ∉ ([12] : List Nat) → I9 j9 = I j9 := mw_tr (by decide) whUI hUI
      replace hUM : ∀ j9 : Nat, j9 ∉ ([8, 9] : List Nat) → M10 j9 = M j9 := mw_tr (by decide) whUM hUM
      replace hUsi : ∀ s9 q9 : Nat, q9 ∉ ([6, 7, 8, 9, 10, 11, 21, 22] : List Nat) → si11 s9 q9 = si s9 q9 := xw_tr2 (by decide) whUsi hUsi
      replace hUsa : ∀ s9 q9 : Nat, q9 ∉ ([3] : List Nat) → sa12 s9 q9 = sa s9 q9 := xw_tr2 (by decide) whUsa hUsa
      replace hw : (L8, I9, M10, si11, sa12) = f_y_enter n dl sv 4 L I M si sa := hw
      replace hZ9 := bn5_s hZ9 hw
      exact W.vret hx hb hr (fun t ht hW => ⟨⟨(L8, I9, M10, si11, sa12), rfl, ⟨hX.mono (by omega), hUL, hUI, hUM, hUsi, hUsa, hZ9.symm.trans hR0⟩, by rw [ht]; exact hP, hD⟩, hS.F ht⟩) hS.2.2 dX8_endLife_66
    · replace hZ9 := ite_f hZ9 c6
      refine lv_iconst (v := 5) hx hb dX8_endLife_58 (by decide) ?_
      refine lv_goto (tgt := 63) hx hb dX8_endLife_59 (by decide) ?_
      have hFc := mw_free hD hS hA
      refine va_callv (va_runV (As := [.int (nI sv), .int 5]) (rest := []) ⟨hx, hb, hml, hown, hts⟩ (c_y_enter l dC dI h a e cI cJ cO cE L I M J n cap fE sd si sa dl (b) sv 5 H.size hX (by omega) (by omega) (by omega)) (cwV 2 hts wc_y_endLife_y_enter_249 rfl rfl rfl (by decide +kernel) ⟨Nat.le_of_ble_eq_true rfl, Nat.le_of_ble_eq_true rfl⟩) ⟨fun a9 U g mk q => by obtain ⟨q0, q1, qP, qK, qD, qN⟩ := q; exact ⟨q0, q1, qP, va_K.moved (u := U) (U := U.calling g mk a9) (Vm.Alike.refl U.vm) qK, qD, pw_N.same (u := U) (U := U.calling g mk a9) rfl qN⟩, va_recv hK hP (ci := 9) (q0 := 0) rfl rfl, fun U hU hW => ⟨rfl, by rw [hU], by rw [hU]; exact hP, va_K.moved hW.alike hK, hD.weaken (fun _ _ _ _ => trivial), pw_N.warm hW hN⟩⟩ rfl rfl hl.1 rfl (lv_room (Nat.le_of_ble_eq_true rfl)) dX8_endLife_63 ⟨Nat.le_of_ble_eq_true rfl, Nat.le_of_ble_eq_true rfl⟩) hS (fun q _ h => hFc q h) hFc (fun u t H1 locs ht hvm hw hB hz1 hk1 hS => ?_)
      obtain ⟨L14, I15, M16, si17, sa18⟩ := u
      replace hP := hB.1
      rw [ht] at hP
      replace hD : va_D A (xW h a e cI cJ cO cE L14 I15 M16 J n cap fE sd si17 sa18 dl) := hB.2.weaken (fun _ q _ h9 => hFc q.1 h9)
      clear hB
      generalize H1 = H at hP hS ⊢
      replace hP : va_P (dC, dI) vwCl (xW h a e cI cJ cO cE L14 I15 M16 J n cap fE sd si17 sa18 dl) H := hP
      obtain ⟨hwX, whUL, whUI, whUM, whUsi, whUsa, hw⟩ := hw
      replace hX : InvX n cap fE sd dl (b + 1) I15 J si17 := hwX
      replace hUL : ∀ j9 : Nat, j9 ∉ ([0, 5, 6, 7] : List Nat) → L14 j9 = L j9 := mw_tr (by decide) whUL hUL
      replace hUI : ∀ j9 : Nat, j9 ∉ ([12] : List Nat) → I15 j9 = I j9 := mw_tr (by decide) whUI hUI
      replace hUM : ∀ j9 : Nat, j9 ∉ ([8, 9] : List Nat) → M16 j9 = M j9 := mw_tr (by decide) whUM hUM
      replace hUsi : ∀ s9 q9 : Nat, q9 ∉ ([6, 7, 8, 9, 10, 11, 21, 22] : List Nat) → si17 s9 q9 = si s9 q9 := xw_tr2 (by decide) whUsi hUsi
      replace hUsa : ∀ s9 q9 : Nat, q9 ∉ ([3] : List Nat) → sa18 s9 q9 = sa s9 q9 := xw_tr2 (by decide) whUsa hUsa
      replace hw : (L14, I15, M16, si17, sa18) = f_y_enter n dl sv 5 L I M si sa := hw
      replace hZ9 := bn5_s hZ9 hw
      exact W.vret hx hb hr (fun t ht hW => ⟨⟨(L14, I15, M16, si17, sa18), rfl, ⟨hX.mono (by omega), hUL, hUI, hUM, hUsi, hUsa, hZ9.symm.trans hR0⟩, by rw [ht]; exact hP, hD⟩, hS.F ht⟩) hS.2.2 dX8_endLife_66
  · replace hZ9 := ite_t hZ9 c3
    refine lv_aload_n hx hb dX8_endLife_20 rfl (lv_at hl 0 rfl) ?_
    have hFc := mw_free hD hS hA
    refine va_callv (va_runV (As := []) (rest := []) ⟨hx, hb, hml, hown, hts⟩ (c_y_endBy l dC dI h a e cI cJ cO cE L I M J n cap fE sd si sa dl (b) sv H.size hX (by omega) (by omega)) (cwV 0 hts wc_y_endLife_y_endBy_329 rfl rfl rfl (by decide +kernel) ⟨Nat.le_of_ble_eq_true rfl, Nat.le_of_ble_eq_true rfl⟩) ⟨fun a9 U g mk q => by obtain ⟨q0, q1, qP, qK, qD, qN⟩ := q; exact ⟨q0, q1, qP, va_K.moved (u := U) (U := U.calling g mk a9) (Vm.Alike.refl U.vm) qK, qD, pw_N.same (u := U) (U := U.calling g mk a9) rfl qN⟩, va_recv hK hP (ci := 8) (q0 := (22 + (6 * sv + 0))) rfl (xAt_0 h a e cI cJ cO cE L I M J n cap fE sd si sa dl (s := sv) (by omega)), fun U hU hW => ⟨rfl, by rw [hU], by rw [hU]; exact hP, va_K.moved hW.alike hK, hD.weaken (fun _ _ _ _ => trivial), pw_N.warm hW hN⟩⟩ rfl rfl hl.1 rfl (lv_room (Nat.le_of_ble_eq_true rfl)) dX8_endLife_21 ⟨Nat.le_of_ble_eq_true rfl, Nat.le_of_ble_eq_true rfl⟩) hS (fun q _ h => hFc q h) hFc (fun u t H1 locs ht hvm hw hB hz1 hk1 hS => ?_)
    obtain ⟨si20, rfl⟩ : ∃ z9, z9 = u := ⟨_, rfl⟩
    replace hP := hB.1
    rw [ht] at hP
    replace hD : va_D A (xW h a e cI cJ cO cE L I M J n cap fE sd si20 sa dl) := hB.2.weaken (fun _ q _ h9 => hFc q.1 h9)
    clear hB
    generalize H1 = H at hP hS ⊢
    replace hP : va_P (dC, dI) vwCl (xW h a e cI cJ cO cE L I M J n cap fE sd si20 sa dl) H := hP
    obtain ⟨hwX, whUsi, hw⟩ := hw
    replace hX : InvX n cap fE sd dl (b) I J si20 := hwX
    replace hUsi : ∀ s9 q9 : Nat, q9 ∉ ([6, 7, 8, 9, 10, 11, 21, 22] : List Nat) → si20 s9 q9 = si s9 q9 := xw_tr2 (by decide) whUsi hUsi
    replace hw : si20 = f_y_endBy n dl sv si := hw
    replace hZ9 := bnd_s hZ9 hw
    refine lv_aload_n hx hb dX8_endLife_24 rfl (lv_at hl 1 rfl) ?_
    refine lv_dup hx hb dX8_endLife_25 rfl ?_
    refine va_get (D := (dC, dI)) (ci := 9) (v := .long (L 0)) (C := RX8) (T := TX8) (N := 14) hx hb hts in_y_endLife_X8 hown hK hP 0 rfl rfl 7 (by decide) (hts (.fieldLink RX8 311 "ServiceTree" "living" "J") (by decide +kernel)) (fun _ h9 => h9) rfl dX8_endLife_26 ?_
    refine lv_topl (fun x21 ex21 => ?_)
    replace hZ9 := bnd_s hZ9 ex21
    refine lv_iload_n hx hb dX8_endLife_29 rfl (lv_at hl 2 rfl) ?_
    have hFc := mw_free hD hS hA
    refine va_calll (va_runS (As := [.int (nI sv)]) (rest := [.long x21, .ref h]) ⟨hx, hb, hml, hown, hts⟩ (c_y_only l dC dI h a e cI cJ cO cE L I M J n cap fE sd si20 sa dl (b) sv H.size hX (by omega) ) (va_cwS 1 hts wc_y_endLife_y_only_78 rfl rfl rfl (by decide +kernel) ⟨Nat.le_of_ble_eq_true rfl, Nat.le_of_ble_eq_true rfl⟩) ⟨fun a9 U g mk q => by obtain ⟨q0, q1, qP, qK, qD, qN⟩ := q; exact ⟨q0, q1, qP, va_K.moved (u := U) (U := U.calling g mk a9) (Vm.Alike.refl U.vm) qK, qD, pw_N.same (u := U) (U := U.calling g mk a9) rfl qN⟩, fun U hU hW => ⟨rfl, by rw [hU], by rw [hU]; exact hP, va_K.moved hW.alike hK, hD.weaken (fun _ _ _ _ => trivial), pw_N.warm hW hN⟩⟩ rfl rfl hl.1 rfl (lv_room (Nat.le_of_ble_eq_true rfl)) dX8_endLife_30 ⟨Nat.le_of_ble_eq_true rfl, Nat.le_of_ble_eq_true rfl⟩) hS (fun q _ h => hFc q h) hFc (fun r22 u t H1 locs ht hvm hw hB hz1 hk1 hS => ?_)
    replace hP := hB.1
    rw [ht] at hP
    replace hD : va_D A (xW h a e cI cJ cO cE L I M J n cap fE sd si20 sa dl) := hB.2.weaken (fun _ q _ h9 => hFc q.1 h9)
    clear hB
    generalize H1 = H at hP hS ⊢
    replace hP : va_P (dC, dI) vwCl (xW h a e cI cJ cO cE L I M J n cap fE sd si20 sa dl) H := hP
    replace hw : r22 = f_y_only n dl sv  := hw
    replace hZ9 := bnd_s hZ9 hw
    refine lv_ldc2 (v := (-1)) hx hb hown (hts (.constantLong RX8 238 (-1)) (by decide +kernel)) dX8_endLife_33 ?_
    refine lv_lxor hx hb dX8_endLife_36 ?_
    refine lv_topl (fun x23 ex23 => ?_)
    replace hZ9 := bnd_s hZ9 ex23
    refine lv_land hx hb dX8_endLife_37 ?_
    refine lv_topl (fun x24 ex24 => ?_)
    replace hZ9 := bnd_s hZ9 ex24
    refine va_put (D := (dC, dI)) (ci := 9) (fs := [.ref (a 0), .ref (a 1), .ref (a 2), .ref (a 3), .ref (a 4), .ref (a 5), .ref (a 6), .long (L 0), .long (L 1), .int (I 0), .int (I 1), .int (I 2), .int (I 3), .int (I 4)]) (v := .long x24) (ty := .long) (C := RX8) (T := TX8) (N := 14) hx hb hts in_y_endLife_X8 tyX8 tyX8_ok nmX8 hown hK hP hD hS 0 rfl rfl 7 (by decide) (hts (.fieldLink RX8 311 "ServiceTree" "living" "J") (by decide +kernel)) (fun _ h9 => h9) rfl (by decide +kernel) rfl rfl (Nat.le_of_ble_eq_true rfl) dX8_endLife_38 (fun H locs hP hD hS => ?_)
    replace hP : va_P (dC, dI) vwCl ((xW h a e cI cJ cO cE L I M J n cap fE sd si20 sa dl).set 0 (h, .inr (9, [.ref (a 0), .ref (a 1), .ref (a 2), .ref (a 3), .ref (a 4), .ref (a 5), .ref (a 6), .long x24, .long (L 1), .int (I 0), .int (I 1), .int (I 2), .int (I 3), .int (I 4)]))) H := hP
    replace hD : va_D A ((xW h a e cI cJ cO cE L I M J n cap fE sd si20 sa dl).set 0 (h, .inr (9, [.ref (a 0), .ref (a 1), .ref (a 2), .ref (a 3), .ref (a 4), .ref (a 5), .ref (a 6), .long x24, .long (L 1), .int (I 0), .int (I 1), .int (I 2), .int (I 3), .int (I 4)]))) := hD
    rw [xF_L0] at hP hD
    obtain ⟨L25, eL25⟩ : ∃ f9 : Nat → Int64, f9 = va_up L 0 x24 := ⟨_, rfl⟩
    rw [← eL25] at hP hD
    replace hZ9 := bnd_s hZ9 eL25
    replace hUL : ∀ j9 : Nat, j9 ∉ ([0, 5, 6, 7] : List Nat) → L25 j9 = L j9 := by rw [eL25]; exact mw_up (by decide) hUL
    exact W.vret hx hb hr (fun t ht hW => ⟨⟨(L25, I, M, si20, sa), rfl, ⟨hX.mono (by omega), hUL, hUI, hUM, hUsi, hUsa, hZ9.symm.trans hR0⟩, by rw [ht]; exact hP, hD⟩, hS.F ht⟩) hS.2.2 dX8_endLife_41
def f_y_passDueTime (n : Nat) (dl : Nat → Nat) (sv : Nat) (L : Nat → Int64) (I : Nat → Int32) (M : Nat → Nat → Int64) (si : Nat → Nat → Int32) (sa : Nat → Nat → Nat → Int32) : (Nat → Int64) × (Nat → Int32) × (Nat → Nat → Int64) × (Nat → Nat → Int32) × (Nat → Nat → Nat → Int32) := bnd ((si sv 6).toNatClampNeg) (fun (z2 : Nat) => if (nI z2) = 1 then (bn5 (f_y_enter n dl sv 2 L I M si sa) (fun (L5 : Nat → Int64) (I6 : Nat → Int32) (M7 : Nat → Nat → Int64) (si8 : Nat → Nat → Int32) (sa9 : Nat → Nat → Nat → Int32) => (L5, I6, M7, si8, sa9))) else (if (nI z2) = 2 then (bn5 (f_y_endLife n dl sv L I M si sa) (fun (L12 : Nat → Int64) (I13 : Nat → Int32) (M14 : Nat → Nat → Int64) (si15 : Nat → Nat → Int32) (sa16 : Nat → Nat → Nat → Int32) => (L12, I13, M14, si15, sa16))) else (if (nI z2) = 3 then (bn5 (f_y_enter n dl sv 0 L I M si sa) (fun (L19 : Nat → Int64) (I20 : Nat → Int32) (M21 : Nat → Nat → Int64) (si22 : Nat → Nat → Int32) (sa23 : Nat → Nat → Nat → Int32) => (L19, I20, M21, si22, sa23))) else (if (nI z2) = 4 then ((L, I, M, si, sa)) else (if (nI z2) = 5 then (bnd (f_y_canWake n dl sv M) (fun (r26 : Int32) => if r26 = (0 : Int32) then (bn5 (f_y_enter n dl sv 4 L I M si sa) (fun (L29 : Nat → Int64) (I30 : Nat → Int32) (M31 : Nat → Nat → Int64) (si32 : Nat → Nat → Int32) (sa33 : Nat → Nat → Nat → Int32) => (L29, I30, M31, si32, sa33))) else (bnd (f_y_fss n dl sv si) (fun (r34 : Int32) => bnd (r34.toNatClampNeg) (fun (j35 : Nat) => bn5 (f_y_enter n dl sv j35 L I M si sa) (fun (L37 : Nat → Int64) (I38 : Nat → Int32) (M39 : Nat → Nat → Int64) (si40 : Nat → Nat → Int32) (sa41 : Nat → Nat → Nat → Int32) => (L37, I38, M39, si40, sa41))))))) else ((L, I, M, si, sa)))))))
def wq_y_passDueTime : List Cond := ([.code yX8_passDueTime cX8_passDueTime 3 none, .fieldLink RX8 10 "ServiceTree" "services" "Ljava/util/ArrayList;", .classLink RX8 65 RX7, .methodLink RX8 86 yJx4a65c_get_915e3, .instanceMethod yJx4a65c_get_915e3, .selects RJx4a65c yJx4a65c_get_915e3 yJx4a65c_get_915e3, .initialized RJx4a65c, .methodLink RX8 249 yX8_enter, .instanceMethod yX8_enter, .selects RX8 yX8_enter yX8_enter, .initialized RX8, .methodLink RX8 323 yX8_endLife, .instanceMethod yX8_endLife, .selects RX8 yX8_endLife yX8_endLife, .methodLink RX8 326 yX8_canWake, .instanceMethod yX8_canWake, .selects RX8 yX8_canWake yX8_canWake, .methodLink RX8 305 yX7_firstStateOfStart, .instanceMethod yX7_firstStateOfStart, .selects RX7 yX7_firstStateOfStart yX7_firstStateOfStart, .initialized RX7] : List Cond) ++ (wsX70 ++ (wsX80 ++ (wq_x_get ++ (wq_y_enter ++ (wq_y_endLife ++ (wq_y_canWake ++ (wq_y_fss)))))))
theorem in_y_passDueTime_X7 : ∀ w ∈ wsX70, w ∈ wq_y_passDueTime := fun _ h => List.mem_append_right _ (List.mem_append_left _ (h))
theorem in_y_passDueTime_X8 : ∀ w ∈ wsX80, w ∈ wq_y_passDueTime := fun _ h => List.mem_append_right _ (List.mem_append_right _ (List.mem_append_left _ (h)))
set_option maxRecDepth 20000 in
theorem wi_y_passDueTime : ∀ w ∈ wq_y_passDueTime, w ∈ lw_tbl := List.forall_mem_append.mpr ⟨(wix [696, 224, 278, 453, 454, 455, 63, 593, 595, 14, 60, 697, 699, 22, 709, 711, 23, 665, 666, 667, 70] rfl), List.forall_mem_append.mpr ⟨inKX7, List.forall_mem_append.mpr ⟨inKX8, List.forall_mem_append.mpr ⟨wi_x_get, List.forall_mem_append.mpr ⟨wi_y_enter, List.forall_mem_append.mpr ⟨wi_y_endLife, List.forall_mem_append.mpr ⟨wi_y_canWake, wi_y_fss⟩⟩⟩⟩⟩⟩⟩
set_option maxRecDepth 20000 in
theorem wg_y_passDueTime : GoodIn wq_y_passDueTime wq_y_passDueTime := goodIn_sub (fun _ h => h) (by decide +kernel)
set_option maxRecDepth 20000 in
theorem wc_y_passDueTime_x_get_86 : GoodIn wq_y_passDueTime (wsV RX8 86 RJx4a65c yJx4a65c_get_915e3 wq_x_get) := goodIn_app (goodIn_of _ (by decide +kernel)) (fun w h => ⟨List.mem_append_right _ (List.mem_append_right _ (List.mem_append_right _ (List.mem_append_left _ (h)))), (wg_x_get w h).2⟩)
set_option maxRecDepth 20000 in
theorem wc_y_passDueTime_y_enter_249 : GoodIn wq_y_passDueTime (wsV RX8 249 RX8 yX8_enter wq_y_enter) := goodIn_app (goodIn_of _ (by decide +kernel)) (fun w h => ⟨List.mem_append_right _ (List.mem_append_right _ (List.mem_append_right _ (List.mem_append_right _ (List.mem_append_left _ (h))))), (wg_y_enter w h).2⟩)
set_option maxRecDepth 20000 in
theorem wc_y_passDueTime_y_endLife_323 : GoodIn wq_y_passDueTime (wsV RX8 323 RX8 yX8_endLife wq_y_endLife) := goodIn_app (goodIn_of _ (by decide +kernel)) (fun w h => ⟨List.mem_append_right _ (List.mem_append_right _ (List.mem_append_right _ (List.mem_append_right _ (List.mem_append_right _ (List.mem_append_left _ (h)))))), (wg_y_endLife w h).2⟩)
set_option maxRecDepth 20000 in
theorem wc_y_passDueTime_y_canWake_326 : GoodIn wq_y_passDueTime (wsV RX8 326 RX8 yX8_canWake wq_y_canWake) := goodIn_app (goodIn_of _ (by decide +kernel)) (fun w h => ⟨List.mem_append_right _ (List.mem_append_right _ (List.mem_append_right _ (List.mem_append_right _ (List.mem_append_right _ (List.mem_append_right _ (List.mem_append_left _ (h))))))), (wg_y_canWake w h).2⟩)
set_option maxRecDepth 20000 in
theorem wc_y_passDueTime_y_fss_305 : GoodIn wq_y_passDueTime (wsV RX8 305 RX7 yX7_firstStateOfStart wq_y_fss) := goodIn_app (goodIn_of _ (by decide +kernel)) (fun w h => ⟨List.mem_append_right _ (List.mem_append_right _ (List.mem_append_right _ (List.mem_append_right _ (List.mem_append_right _ (List.mem_append_right _ (List.mem_append_right _ (h))))))), (wg_y_fss w h).2⟩)
def rm_y_passDueTime : Room := { frames := 5, cells := 0, slots := 0, locals := 111 }
set_option maxHeartbeats 4000000 in
set_option maxRecDepth 100000 in
theorem c_y_passDueTime (l : Launch) (dC : Nat → ClassId) (dI : Nat → Nat → Nat) (h : Nat) (a : Nat → Nat) (e : Nat) (cI cJ cO cE : ClassId) (L : Nat → Int64) (I : Nat → Int32) (M : Nat → Nat → Int64) (J : Nat → Nat → Int32) (n cap : Nat) (fE : Nat → Option Nat) (sd : Nat → Nat → Nat) (si : Nat → Nat → Int32) (sa : Nat → Nat → Nat → Int32) (dl : Nat → Nat) (b : Nat) (sv : Nat) (sz : Nat) (hX0 : InvX n cap fE sd dl b I J si) (hb0 : b + 1 < 2147483648) (hp0 : sv < n) : Met l yX8_passDueTime wq_y_passDueTime rm_y_passDueTime (va_Pc [.ref h, .int (nI sv)] (fun U => U.heap.size = sz ∧ va_P (dC, dI) vwCl (xW h a e cI cJ cO cE L I M J n cap fE sd si sa dl) U.heap ∧ va_K (dC, dI) vwCl (xT cI cJ cO cE) U ∧ va_D (fun _ => True) (xW h a e cI cJ cO cE L I M J n cap fE sd si sa dl) ∧ pw_N U)) (va_Qv (fun (u : (Nat → Int64) × (Nat → Int32) × (Nat → Nat → Int64) × (Nat → Nat → Int32) × (Nat → Nat → Nat → Int32)) => InvX n cap fE sd dl (b + 1) u.2.1 J u.2.2.2.1 ∧ (∀ j9 : Nat, j9 ∉ ([0, 5, 6, 7] : List Nat) → u.1 j9 = L j9) ∧ (∀ j9 : Nat, j9 ∉ ([12] : List Nat) → u.2.1 j9 = I j9) ∧ (∀ j9 : Nat, j9 ∉ ([8, 9] : List Nat) → u.2.2.1 j9 = M j9) ∧ (∀ s9 q9 : Nat, q9 ∉ ([6, 7, 8, 9, 10, 11, 21, 22] : List Nat) → u.2.2.2.1 s9 q9 = si s9 q9) ∧ (∀ s9 q9 : Nat, q9 ∉ ([3] : List Nat) → u.2.2.2.2 s9 q9 = sa s9 q9) ∧ (u = f_y_passDueTime n dl sv L I M si sa)) (fun (u : (Nat → Int64) × (Nat → Int32) × (Nat → Nat → Int64) × (Nat → Nat → Int32) × (Nat → Nat → Nat → Int32)) (t : State) => va_P (dC, dI) vwCl (xW h a e cI cJ cO cE u.1 u.2.1 u.2.2.1 J n cap fE sd u.2.2.2.1 u.2.2.2.2 dl) t.heap ∧ va_D (va_A (xW h a e cI cJ cO cE L I M J n cap fE sd si sa dl) sz) (xW h a e cI cJ cO cE u.1 u.2.1 u.2.2.1 J n cap fE sd u.2.2.2.1 u.2.2.2.2 dl)) (va_A (xW h a e cI cJ cO cE L I M J n cap fE sd si sa dl) sz)) 0 0 (va_A (xW h a e cI cJ cO cE L I M J n cap fE sd si sa dl) sz) := by
  have hn : n ≤ 40 := hX0.1.1
  have hX := hX0
  have hUL : ∀ j9 : Nat, j9 ∉ ([0, 5, 6, 7] : List Nat) → L j9 = L j9 := fun _ _ => rfl
  have hUI : ∀ j9 : Nat, j9 ∉ ([12] : List Nat) → I j9 = I j9 := fun _ _ => rfl
  have hUM : ∀ j9 : Nat, j9 ∉ ([8, 9] : List Nat) → M j9 = M j9 := fun _ _ => rfl
  have hUsi : ∀ s9 q9 : Nat, q9 ∉ ([6, 7, 8, 9, 10, 11, 21, 22] : List Nat) → si s9 q9 = si s9 q9 := fun _ _ _ => rfl
  have hUsa : ∀ s9 q9 : Nat, q9 ∉ ([3] : List Nat) → sa s9 q9 = sa s9 q9 := fun _ _ _ => rfl
  refine Met.ofW (cc := cX8_passDueTime) (maxL := 3) (ret := none) (by decide) rfl ?_
  intro p e9 s m args below meth c s₁ B hml hv
  obtain ⟨rfl, hsz, hP, hK, hD0, hN⟩ := hv
  have hx := B.exec
  have hb := B.bytes
  have hr := B.returns
  have hts := atoms_spec (ws := wq_y_passDueTime) B.pre
  have hown : s.vm.findClass RX8 = some m.cls := findClass_of_methodNamed B.named
  have hlocks := B.notSynchronized
  subst hsz
  have hD := hD0.self (sz := s.heap.size)
  generalize hAe : va_A (xW h a e cI cJ cO cE L I M J n cap fE sd si sa dl) s.heap.size = A at hD ⊢
  have hA : ∀ q : Nat, s.heap.size ≤ q → A q := fun q h => by rw [← hAe]; exact Or.inr h
  have hS : va_S A s.heap s.heap [] := va_S.rf
  have hl := lv_entry ([.ref h, .int (nI sv)]) (n := 3) (Nat.le_of_ble_eq_true rfl)
  rw [lg_entry_eq]
  generalize (lg_sl ([.ref h, .int (nI sv)]) ++ List.replicate (3 - (lg_sl ([.ref h, .int (nI sv)])).length) Slot.unset).toArray = ls at hl ⊢
  have hl : lv_has ls 3 [(0, .ref h), (1, .int (nI sv))] := hl
  obtain ⟨RES, hR0⟩ : ∃ R9, R9 = f_y_passDueTime n dl sv L I M si sa := ⟨_, rfl⟩
  have hZ9 := hR0
  unfold f_y_passDueTime at hZ9
  refine lv_aload_n hx hb dX8_passDueTime_0 rfl (lv_at hl 0 rfl) ?_
  refine va_get (D := (dC, dI)) (ci := 9) (v := .ref (a 0)) (C := RX8) (T := TX8) (N := 14) hx hb hts in_y_passDueTime_X8 hown hK hP 0 rfl rfl 0 (by decide) (hts (.fieldLink RX8 10 "ServiceTree" "services" "Ljava/util/ArrayList;") (by decide +kernel)) (fun _ h9 => h9) rfl dX8_passDueTime_1 ?_
  refine lv_iload_n hx hb dX8_passDueTime_4 rfl (lv_at hl 1 rfl) ?_
  have hFc := mw_free hD hS hA
  refine va_callr (va_runV (As := [.int (nI sv)]) (rest := []) ⟨hx, hb, hml, hown, hts⟩ (c_x_get l dC dI h a e cI cJ cO cE L I M J n cap fE sd si sa dl (b) sv s.heap.size hX (by omega) (by omega)) (cwV 1 hts wc_y_passDueTime_x_get_86 rfl rfl rfl (by decide +kernel) ⟨Nat.le_of_ble_eq_true rfl, Nat.le_of_ble_eq_true rfl⟩) ⟨fun a9 U g mk q => by obtain ⟨q0, q1, qP, qK, qD, qN⟩ := q; exact ⟨q0, q1, qP, va_K.moved (u := U) (U := U.calling g mk a9) (Vm.Alike.refl U.vm) qK, qD, pw_N.same (u := U) (U := U.calling g mk a9) rfl qN⟩, va_recv hK hP (ci := 0) (q0 := 1) rfl rfl, fun U hU hW => ⟨rfl, by rw [hU], by rw [hU]; exact hP, va_K.moved hW.alike hK, hD.weaken (fun _ _ _ _ => trivial), pw_N.warm hW hN⟩⟩ rfl rfl hl.1 rfl (lv_room (Nat.le_of_ble_eq_true rfl)) dX8_passDueTime_5 ⟨Nat.le_of_ble_eq_true rfl, Nat.le_of_ble_eq_true rfl⟩) hS (fun q _ h => hFc q h) hFc (fun u r1 t H1 locs ht hvm hw hB hz1 hk1 hS => ?_)
  obtain ⟨hra, hB⟩ := hB
  replace hP := hB.1
  rw [ht] at hP
  replace hD : va_D A (xW h a e cI cJ cO cE L I M J n cap fE sd si sa dl) := hB.2.weaken (fun _ q _ h9 => hFc q.1 h9)
  clear hB
  generalize H1 = H at hP hS ⊢
  replace hP : va_P (dC, dI) vwCl (xW h a e cI cJ cO cE L I M J n cap fE sd si sa dl) H := hP
  subst hra
  refine va_castS hx hb hown (hts (.classLink RX8 65 RX7) (by decide +kernel)) (hK.1 8 _ rfl).2 (va_recv hK hP (ci := 8) (q0 := (22 + (6 * sv + 0))) rfl (xAt_0 h a e cI cJ cO cE L I M J n cap fE sd si sa dl (s := sv) (by omega))) dX8_passDueTime_8 ?_
  refine lv_astore_n (lv' := [(2, .ref (sd sv 0)), (0, .ref h), (1, .int (nI sv))]) hx hb dX8_passDueTime_11 rfl hl (by decide) rfl (fun ls hl => ?_)
  refine lv_aload_n hx hb dX8_passDueTime_12 rfl (lv_at hl 0 rfl) ?_
  refine va_getN (D := (dC, dI)) (ci := 8) (v := .int (si sv 6)) (C := RX7) (T := TX7) (N := 12) hx hb hts in_y_passDueTime_X7 hown hK hP (22 + (6 * sv + 0)) (xAt_0 h a e cI cJ cO cE L I M J n cap fE sd si sa dl (s := sv) (by omega)) rfl 6 (by decide) (va_Nw.use rfl (hN (.fieldLinkNest RX8 162 "ServiceTree$Service" "state" "I" "ServiceTree") (by decide +kernel))) (fun _ h9 => h9) rfl dX8_passDueTime_13 ?_
  obtain ⟨z2, hz2, ez2⟩ := hX.2.2.2.1 sv
  refine p1_topr (v := .int (nI z2)) (congrArg Value.int ez2) ?_
  replace hZ9 := bnd_s hZ9 (show z2 = (si sv 6).toNatClampNeg by rw [ez2, nI_clamp (by omega)])
  rcases Classical.em (nI z2 = 1) with c3 | c3
  · replace hZ9 := ite_t hZ9 c3
    refine lv_tableIn (tgt := 52) (off := 36) hx hb dX8_passDueTime_16 (by rw [c3]; decide) (by rw [c3]; decide) (by rw [c3]; rfl) (by decide) ?_
    refine lv_aload_n hx hb dX8_passDueTime_52 rfl (lv_at hl 1 rfl) ?_
    refine lv_iload_n hx hb dX8_passDueTime_53 rfl (lv_at hl 2 rfl) ?_
    refine lv_iconst (v := 2) hx hb dX8_passDueTime_54 (by decide) ?_
    have hFc := mw_free hD hS hA
    refine va_callv (va_runV (As := [.int (nI sv), .int 2]) (rest := []) ⟨hx, hb, hml, hown, hts⟩ (c_y_enter l dC dI h a e cI cJ cO cE L I M J n cap fE sd si sa dl (b) sv 2 H.size hX (by omega) (by omega) (by omega)) (cwV 2 hts wc_y_passDueTime_y_enter_249 rfl rfl rfl (by decide +kernel) ⟨Nat.le_of_ble_eq_true rfl, Nat.le_of_ble_eq_true rfl⟩) ⟨fun a9 U g mk q => by obtain ⟨q0, q1, qP, qK, qD, qN⟩ := q; exact ⟨q0, q1, qP, va_K.moved (u := U) (U := U.calling g mk a9) (Vm.Alike.refl U.vm) qK, qD, pw_N.same (u := U) (U := U.calling g mk a9) rfl qN⟩, va_recv hK hP (ci := 9) (q0 := 0) rfl rfl, fun U hU hW => ⟨rfl, by rw [hU], by rw [hU]; exact hP, va_K.moved hW.alike hK, hD.weaken (fun _ _ _ _ => trivial), pw_N.warm hW hN⟩⟩ rfl rfl hl.1 rfl (lv_room (Nat.le_of_ble_eq_true rfl)) dX8_passDueTime_55 ⟨Nat.le_of_ble_eq_true rfl, Nat.le_of_ble_eq_true rfl⟩) hS (fun q _ h => hFc q h) hFc (fun u t H1 locs ht hvm hw hB hz1 hk1 hS => ?_)
    obtain ⟨L5, I6, M7, si8, sa9⟩ := u
    replace hP := hB.1
    rw [ht] at hP
    replace hD : va_D A (xW h a e cI cJ cO cE L5 I6 M7 J n cap fE sd si8 sa9 dl) := hB.2.weaken (fun _ q _ h9 => hFc q.1 h9)
    clear hB
    generalize H1 = H at hP hS ⊢
    replace hP : va_P (dC, dI) vwCl (xW h a e cI cJ cO cE L5 I6 M7 J n cap fE sd si8 sa9 dl) H := hP
    obtain ⟨hwX, whUL, whUI, whUM, whUsi, whUsa, hw⟩ := hw
    replace hX : InvX n cap fE sd dl (b + 1) I6 J si8 := hwX
    replace hUL : ∀ j9 : Nat, j9 ∉ ([0, 5, 6, 7] : List Nat) → L5 j9 = L j9 := mw_tr (by decide) whUL hUL
    replace hUI : ∀ j9 : Nat, j9 ∉ ([12] : List Nat) → I6 j9 = I j9 := mw_tr (by decide) whUI hUI
    replace hUM : ∀ j9 : Nat, j9 ∉ ([8, 9] : List Nat) → M7 j9 = M j9 := mw_tr (by decide) whUM hUM
    replace hUsi : ∀ s9 q9 : Nat, q9 ∉ ([6, 7, 8, 9, 10, 11, 21, 22] : List Nat) → si8 s9 q9 = si s9 q9 := xw_tr2 (by decide) whUsi hUsi
    replace hUsa : ∀ s9 q9 : Nat, q9 ∉ ([3] : List Nat) → sa9 s9 q9 = sa s9 q9 := xw_tr2 (by decide) whUsa hUsa
    replace hw : (L5, I6, M7, si8, sa9) = f_y_enter n dl sv 2 L I M si sa := hw
    replace hZ9 := bn5_s hZ9 hw
    refine lv_goto (tgt := 102) hx hb dX8_passDueTime_58 (by decide) ?_
    exact W.vret hx hb hr (fun t ht hW => ⟨⟨(L5, I6, M7, si8, sa9), rfl, ⟨hX.mono (by omega), hUL, hUI, hUM, hUsi, hUsa, hZ9.symm.trans hR0⟩, by rw [ht]; exact hP, hD⟩, hS.F ht⟩) hS.2.2 dX8_passDueTime_102
  replace hZ9 := ite_f hZ9 c3
  rcases Classical.em (nI z2 = 2) with c10 | c10
  · replace hZ9 := ite_t hZ9 c10
    refine lv_tableIn (tgt := 70) (off := 54) hx hb dX8_passDueTime_16 (by rw [c10]; decide) (by rw [c10]; decide) (by rw [c10]; rfl) (by decide) ?_
    refine lv_aload_n hx hb dX8_passDueTime_70 rfl (lv_at hl 1 rfl) ?_
    refine lv_iload_n hx hb dX8_passDueTime_71 rfl (lv_at hl 2 rfl) ?_
    have hFc := mw_free hD hS hA
    refine va_callv (va_runV (As := [.int (nI sv)]) (rest := []) ⟨hx, hb, hml, hown, hts⟩ (c_y_endLife l dC dI h a e cI cJ cO cE L I M J n cap fE sd si sa dl (b) sv H.size hX (by omega) (by omega)) (cwV 1 hts wc_y_passDueTime_y_endLife_323 rfl rfl rfl (by decide +kernel) ⟨Nat.le_of_ble_eq_true rfl, Nat.le_of_ble_eq_true rfl⟩) ⟨fun a9 U g mk q => by obtain ⟨q0, q1, qP, qK, qD, qN⟩ := q; exact ⟨q0, q1, qP, va_K.moved (u := U) (U := U.calling g mk a9) (Vm.Alike.refl U.vm) qK, qD, pw_N.same (u := U) (U := U.calling g mk a9) rfl qN⟩, va_recv hK hP (ci := 9) (q0 := 0) rfl rfl, fun U hU hW => ⟨rfl, by rw [hU], by rw [hU]; exact hP, va_K.moved hW.alike hK, hD.weaken (fun _ _ _ _ => trivial), pw_N.warm hW hN⟩⟩ rfl rfl hl.1 rfl (lv_room (Nat.le_of_ble_eq_true rfl)) dX8_passDueTime_72 ⟨Nat.le_of_ble_eq_true rfl, Nat.le_of_ble_eq_true rfl⟩) hS (fun q _ h => hFc q h) hFc (fun u t H1 locs ht hvm hw hB hz1 hk1 hS => ?_)
    obtain ⟨L12, I13, M14, si15, sa16⟩ := u
    replace hP := hB.1
    rw [ht] at hP
    replace hD : va_D A (xW h a e cI cJ cO cE L12 I13 M14 J n cap fE sd si15 sa16 dl) := hB.2.weaken (fun _ q _ h9 => hFc q.1 h9)
    clear hB
    generalize H1 = H at hP hS ⊢
    replace hP : va_P (dC, dI) vwCl (xW h a e cI cJ cO cE L12 I13 M14 J n cap fE sd si15 sa16 dl) H := hP
    obtain ⟨hwX, whUL, whUI, whUM, whUsi, whUsa, hw⟩ := hw
    replace hX : InvX n cap fE sd dl (b + 1) I13 J si15 := hwX
    replace hUL : ∀ j9 : Nat, j9 ∉ ([0, 5, 6, 7] : List Nat) → L12 j9 = L j9 := mw_tr (by decide) whUL hUL
    replace hUI : ∀ j9 : Nat, j9 ∉ ([12] : List Nat) → I13 j9 = I j9 := mw_tr (by decide) whUI hUI
    replace hUM : ∀ j9 : Nat, j9 ∉ ([8, 9] : List Nat) → M14 j9 = M j9 := mw_tr (by decide) whUM hUM
    replace hUsi : ∀ s9 q9 : Nat, q9 ∉ ([6, 7, 8, 9, 10, 11, 21, 22] : List Nat) → si15 s9 q9 = si s9 q9 := xw_tr2 (by decide) whUsi hUsi
    replace hUsa : ∀ s9 q9 : Nat, q9 ∉ ([3] : List Nat) → sa16 s9 q9 = sa s9 q9 := xw_tr2 (by decide) whUsa hUsa
    replace hw : (L12, I13, M14, si15, sa16) = f_y_endLife n dl sv L I M si sa := hw
    replace hZ9 := bn5_s hZ9 hw
    refine lv_goto (tgt := 102) hx hb dX8_passDueTime_75 (by decide) ?_
    exact W.vret hx hb hr (fun t ht hW => ⟨⟨(L12, I13, M14, si15, sa16), rfl, ⟨hX.mono (by omega), hUL, hUI, hUM, hUsi, hUsa, hZ9.symm.trans hR0⟩, by rw [ht]; exact hP, hD⟩, hS.F ht⟩) hS.2.2 dX8_passDueTime_102
  replace hZ9 := ite_f hZ9 c10
  rcases Classical.em (nI z2 = 3) with c17 | c17
  · replace hZ9 := ite_t hZ9 c17
    refine lv_tableIn (tgt := 61) (off := 45) hx hb dX8_passDueTime_16 (by rw [c17]; decide) (by rw [c17]; decide) (by rw [c17]; rfl) (by decide) ?_
    refine lv_aload_n hx hb dX8_passDueTime_61 rfl (lv_at hl 1 rfl) ?_
    refine lv_iload_n hx hb dX8_passDueTime_62 rfl (lv_at hl 2 rfl) ?_
    refine lv_iconst (v := 0) hx hb dX8_passDueTime_63 (by decide) ?_
    have hFc := mw_free hD hS hA
    refine va_callv (va_runV (As := [.int (nI sv), .int 0]) (rest := []) ⟨hx, hb, hml, hown, hts⟩ (c_y_enter l dC dI h a e cI cJ cO cE L I M J n cap fE sd si sa dl (b) sv 0 H.size hX (by omega) (by omega) (by omega)) (cwV 2 hts wc_y_passDueTime_y_enter_249 rfl rfl rfl (by decide +kernel) ⟨Nat.le_of_ble_eq_true rfl, Nat.le_of_ble_eq_true rfl⟩) ⟨fun a9 U g mk q => by obtain ⟨q0, q1, qP, qK, qD, qN⟩ := q; exact ⟨q0, q1, qP, va_K.moved (u := U) (U := U.calling g mk a9) (Vm.Alike.refl U.vm) qK, qD, pw_N.same (u := U) (U := U.calling g mk a9) rfl qN⟩, va_recv hK hP (ci := 9) (q0 := 0) rfl rfl, fun U hU hW => ⟨rfl, by rw [hU], by rw [hU]; exact hP, va_K.moved hW.alike hK, hD.weaken (fun _ _ _ _ => trivial), pw_N.warm hW hN⟩⟩ rfl rfl hl.1 rfl (lv_room (Nat.le_of_ble_eq_true rfl)) dX8_passDueTime_64 ⟨Nat.le_of_ble_eq_true rfl, Nat.le_of_ble_eq_true rfl⟩) hS (fun q _ h => hFc q h) hFc (fun u t H1 locs ht hvm hw hB hz1 hk1 hS => ?_)
    obtain ⟨L19, I20, M21, si22, sa23⟩ := u
    replace hP := hB.1
    rw [ht] at hP
    replace hD : va_D A (xW h a e cI cJ cO cE L19 I20 M21 J n cap fE sd si22 sa23 dl) := hB.2.weaken (fun _ q _ h9 => hFc q.1 h9)
    clear hB
    generalize H1 = H at hP hS ⊢
    replace hP : va_P (dC, dI) vwCl (xW h a e cI cJ cO cE L19 I20 M21 J n cap fE sd si22 sa23 dl) H := hP
    obtain ⟨hwX, whUL, whUI, whUM, whUsi, whUsa, hw⟩ := hw
    replace hX : InvX n cap fE sd dl (b + 1) I20 J si22 := hwX
    replace hUL : ∀ j9 : Nat, j9 ∉ ([0, 5, 6, 7] : List Nat) → L19 j9 = L j9 := mw_tr (by decide) whUL hUL
    replace hUI : ∀ j9 : Nat, j9 ∉ ([12] : List Nat) → I20 j9 = I j9 := mw_tr (by decide) whUI hUI
    replace hUM : ∀ j9 : Nat, j9 ∉ ([8, 9] : List Nat) → M21 j9 = M j9 := mw_tr (by decide) whUM hUM
    replace hUsi : ∀ s9 q9 : Nat, q9 ∉ ([6, 7, 8, 9, 10, 11, 21, 22] : List Nat) → si22 s9 q9 = si s9 q9 := xw_tr2 (by decide) whUsi hUsi
    replace hUsa : ∀ s9 q9 : Nat, q9 ∉ ([3] : List Nat) → sa23 s9 q9 = sa s9 q9 := xw_tr2 (by decide) whUsa hUsa
    replace hw : (L19, I20, M21, si22, sa23) = f_y_enter n dl sv 0 L I M si sa := hw
    replace hZ9 := bn5_s hZ9 hw
    refine lv_goto (tgt := 102) hx hb dX8_passDueTime_67 (by decide) ?_
    exact W.vret hx hb hr (fun t ht hW => ⟨⟨(L19, I20, M21, si22, sa23), rfl, ⟨hX.mono (by omega), hUL, hUI, hUM, hUsi, hUsa, hZ9.symm.trans hR0⟩, by rw [ht]; exact hP, hD⟩, hS.F ht⟩) hS.2.2 dX8_passDueTime_102
  replace hZ9 := ite_f hZ9 c17
  rcases Classical.em (nI z2 = 4) with c24 | c24
  · replace hZ9 := ite_t hZ9 c24
    refine lv_tableIn (tgt := 102) (off := 86) hx hb dX8_passDueTime_16 (by rw [c24]; decide) (by rw [c24]; decide) (by rw [c24]; rfl) (by decide) ?_
    exact W.vret hx hb hr (fun t ht hW => ⟨⟨(L, I, M, si, sa), rfl, ⟨hX.mono (by omega), hUL, hUI, hUM, hUsi, hUsa, hZ9.symm.trans hR0⟩, by rw [ht]; exact hP, hD⟩, hS.F ht⟩) hS.2.2 dX8_passDueTime_102
  replace hZ9 := ite_f hZ9 c24
  rcases Classical.em (nI z2 = 5) with c25 | c25
  · replace hZ9 := ite_t hZ9 c25
    refine lv_tableIn (tgt := 78) (off := 62) hx hb dX8_passDueTime_16 (by rw [c25]; decide) (by rw [c25]; decide) (by rw [c25]; rfl) (by decide) ?_
    refine lv_aload_n hx hb dX8_passDueTime_78 rfl (lv_at hl 1 rfl) ?_
    refine lv_iload_n hx hb dX8_passDueTime_79 rfl (lv_at hl 2 rfl) ?_
    refine lv_aload_n hx hb dX8_passDueTime_80 rfl (lv_at hl 1 rfl) ?_
    refine lv_iload_n hx hb dX8_passDueTime_81 rfl (lv_at hl 2 rfl) ?_
    have hFc := mw_free hD hS hA
    refine va_calli (va_runV (As := [.int (nI sv)]) (rest := [.int (nI sv), .ref h]) ⟨hx, hb, hml, hown, hts⟩ (c_y_canWake l dC dI h a e cI cJ cO cE L I M J n cap fE sd si sa dl (b) sv H.size hX (by omega) (by omega)) (cwV 1 hts wc_y_passDueTime_y_canWake_326 rfl rfl rfl (by decide +kernel) ⟨Nat.le_of_ble_eq_true rfl, Nat.le_of_ble_eq_true rfl⟩) ⟨fun a9 U g mk q => by obtain ⟨q0, q1, qP, qK, qD, qN⟩ := q; exact ⟨q0, q1, qP, va_K.moved (u := U) (U := U.calling g mk a9) (Vm.Alike.refl U.vm) qK, qD, pw_N.same (u := U) (U := U.calling g mk a9) rfl qN⟩, va_recv hK hP (ci := 9) (q0 := 0) rfl rfl, fun U hU hW => ⟨rfl, by rw [hU], by rw [hU]; exact hP, va_K.moved hW.alike hK, hD.weaken (fun _ _ _ _ => trivial), pw_N.warm hW hN⟩⟩ rfl rfl hl.1 rfl (lv_room (Nat.le_of_ble_eq_true rfl)) dX8_passDueTime_82 ⟨Nat.le_of_ble_eq_true rfl, Nat.le_of_ble_eq_true rfl⟩) hS (fun q _ h => hFc q h) hFc (fun r26 u t H1 locs ht hvm hw hB hz1 hk1 hS => ?_)
    replace hP := hB.1
    rw [ht] at hP
    replace hD : va_D A (xW h a e cI cJ cO cE L I M J n cap fE sd si sa dl) := hB.2.weaken (fun _ q _ h9 => hFc q.1 h9)
    clear hB
    generalize H1 = H at hP hS ⊢
    replace hP : va_P (dC, dI) vwCl (xW h a e cI cJ cO cE L I M J n cap fE sd si sa dl) H := hP
    obtain ⟨hw, hwe⟩ := hw
    replace hw : r26 = f_y_canWake n dl sv M := hw
    replace hZ9 := bnd_s hZ9 hw
    have br26 := hwe
    refine lv_if_eq (tgt := 95) hx hb dX8_passDueTime_85 (by decide) (fun c27 => ?_) (fun c27 => ?_)
    · replace hZ9 := ite_t hZ9 c27
      refine lv_iconst (v := 4) hx hb dX8_passDueTime_95 (by decide) ?_
      have hFc := mw_free hD hS hA
      refine va_callv (va_runV (As := [.int (nI sv), .int 4]) (rest := []) ⟨hx, hb, hml, hown, hts⟩ (c_y_enter l dC dI h a e cI cJ cO cE L I M J n cap fE sd si sa dl (b) sv 4 H.size hX (by omega) (by omega) (by omega)) (cwV 2 hts wc_y_passDueTime_y_enter_249 rfl rfl rfl (by decide +kernel) ⟨Nat.le_of_ble_eq_true rfl, Nat.le_of_ble_eq_true rfl⟩) ⟨fun a9 U g mk q => by obtain ⟨q0, q1, qP, qK, qD, qN⟩ := q; exact ⟨q0, q1, qP, va_K.moved (u := U) (U := U.calling g mk a9) (Vm.Alike.refl U.vm) qK, qD, pw_N.same (u := U) (U := U.calling g mk a9) rfl qN⟩, va_recv hK hP (ci := 9) (q0 := 0) rfl rfl, fun U hU hW => ⟨rfl, by rw [hU], by rw [hU]; exact hP, va_K.moved hW.alike hK, hD.weaken (fun _ _ _ _ => trivial), pw_N.warm hW hN⟩⟩ rfl rfl hl.1 rfl (lv_room (Nat.le_of_ble_eq_true rfl)) dX8_passDueTime_96 ⟨Nat.le_of_ble_eq_true rfl, Nat.le_of_ble_eq_true rfl⟩) hS (fun q _ h => hFc q h) hFc (fun u t H1 locs ht hvm hw hB hz1 hk1 hS => ?_)
      obtain ⟨L29, I30, M31, si32, sa33⟩ := u
      replace hP := hB.1
      rw [ht] at hP
      replace hD : va_D A (xW h a e cI cJ cO cE L29 I30 M31 J n cap fE sd si32 sa33 dl) := hB.2.weaken (fun _ q _ h9 => hFc q.1 h9)
      clear hB
      generalize H1 = H at hP hS ⊢
      replace hP : va_P (dC, dI) vwCl (xW h a e cI cJ cO cE L29 I30 M31 J n cap fE sd si32 sa33 dl) H := hP
      obtain ⟨hwX, whUL, whUI, whUM, whUsi, whUsa, hw⟩ := hw
      replace hX : InvX n cap fE sd dl (b + 1) I30 J si32 := hwX
      replace hUL : ∀ j9 : Nat, j9 ∉ ([0, 5, 6, 7] : List Nat) → L29 j9 = L j9 := mw_tr (by decide) whUL hUL
      replace hUI : ∀ j9 : Nat, j9 ∉ ([12] : List Nat) → I30 j9 = I j9 := mw_tr (by decide) whUI hUI
      replace hUM : ∀ j9 : Nat, j9 ∉ ([8, 9] : List Nat) → M31 j9 = M j9 := mw_tr (by decide) whUM hUM
      replace hUsi : ∀ s9 q9 : Nat, q9 ∉ ([6, 7, 8, 9, 10, 11, 21, 22] : List Nat) → si32 s9 q9 = si s9 q9 := xw_tr2 (by decide) whUsi hUsi
      replace hUsa : ∀ s9 q9 : Nat, q9 ∉ ([3] : List Nat) → sa33 s9 q9 = sa s9 q9 := xw_tr2 (by decide) whUsa hUsa
      replace hw : (L29, I30, M31, si32, sa33) = f_y_enter n dl sv 4 L I M si sa := hw
      replace hZ9 := bn5_s hZ9 hw
      refine lv_goto (tgt := 102) hx hb dX8_passDueTime_99 (by decide) ?_
      exact W.vret hx hb hr (fun t ht hW => ⟨⟨(L29, I30, M31, si32, sa33), rfl, ⟨hX.mono (by omega), hUL, hUI, hUM, hUsi, hUsa, hZ9.symm.trans hR0⟩, by rw [ht]; exact hP, hD⟩, hS.F ht⟩) hS.2.2 dX8_passDueTime_102
    · replace hZ9 := ite_f hZ9 c27
      refine lv_aload_n hx hb dX8_passDueTime_88 rfl (lv_at hl 0 rfl) ?_
      have hFc := mw_free hD hS hA
      refine va_calli (va_runV (As := []) (rest := [.int (nI sv), .ref h]) ⟨hx, hb, hml, hown, hts⟩ (c_y_fss l dC dI h a e cI cJ cO cE L I M J n cap fE sd si sa dl (b) sv H.size hX (by omega) (by omega)) (cwV 0 hts wc_y_passDueTime_y_fss_305 rfl rfl rfl (by decide +kernel) ⟨Nat.le_of_ble_eq_true rfl, Nat.le_of_ble_eq_true rfl⟩) ⟨fun a9 U g mk q => by obtain ⟨q0, q1, qP, qK, qD, qN⟩ := q; exact ⟨q0, q1, qP, va_K.moved (u := U) (U := U.calling g mk a9) (Vm.Alike.refl U.vm) qK, qD, pw_N.same (u := U) (U := U.calling g mk a9) rfl qN⟩, va_recv hK hP (ci := 8) (q0 := (22 + (6 * sv + 0))) rfl (xAt_0 h a e cI cJ cO cE L I M J n cap fE sd si sa dl (s := sv) (by omega)), fun U hU hW => ⟨rfl, by rw [hU], by rw [hU]; exact hP, va_K.moved hW.alike hK, hD.weaken (fun _ _ _ _ => trivial), pw_N.warm hW hN⟩⟩ rfl rfl hl.1 rfl (lv_room (Nat.le_of_ble_eq_true rfl)) dX8_passDueTime_89 ⟨Nat.le_of_ble_eq_true rfl, Nat.le_of_ble_eq_true rfl⟩) hS (fun q _ h => hFc q h) hFc (fun r34 u t H1 locs ht hvm hw hB hz1 hk1 hS => ?_)
      replace hP := hB.1
      rw [ht] at hP
      replace hD : va_D A (xW h a e cI cJ cO cE L I M J n cap fE sd si sa dl) := hB.2.weaken (fun _ q _ h9 => hFc q.1 h9)
      clear hB
      generalize H1 = H at hP hS ⊢
      replace hP : va_P (dC, dI) vwCl (xW h a e cI cJ cO cE L I M J n cap fE sd si sa dl) H := hP
      obtain ⟨hw, hwe⟩ := hw
      replace hw : r34 = f_y_fss n dl sv si := hw
      replace hZ9 := bnd_s hZ9 hw
      obtain ⟨j35, hj35, ej35⟩ := hwe
      replace hZ9 := bnd_s hZ9 (show j35 = r34.toNatClampNeg by rw [ej35, nI_clamp (by omega)])
      subst ej35
      refine lv_goto (tgt := 96) hx hb dX8_passDueTime_92 (by decide) ?_
      have hFc := mw_free hD hS hA
      refine va_callv (va_runV (As := [.int (nI sv), .int (nI j35)]) (rest := []) ⟨hx, hb, hml, hown, hts⟩ (c_y_enter l dC dI h a e cI cJ cO cE L I M J n cap fE sd si sa dl (b) sv j35 H.size hX (by omega) (by omega) (by omega)) (cwV 2 hts wc_y_passDueTime_y_enter_249 rfl rfl rfl (by decide +kernel) ⟨Nat.le_of_ble_eq_true rfl, Nat.le_of_ble_eq_true rfl⟩) ⟨fun a9 U g mk q => by obtain ⟨q0, q1, qP, qK, qD, qN⟩ := q; exact ⟨q0, q1, qP, va_K.moved (u := U) (U := U.calling g mk a9) (Vm.Alike.refl U.vm) qK, qD, pw_N.same (u := U) (U := U.calling g mk a9) rfl qN⟩, va_recv hK hP (ci := 9) (q0 := 0) rfl rfl, fun U hU hW => ⟨rfl, by rw [hU], by rw [hU]; exact hP, va_K.moved hW.alike hK, hD.weaken (fun _ _ _ _ => trivial), pw_N.warm hW hN⟩⟩ rfl rfl hl.1 rfl (lv_room (Nat.le_of_ble_eq_true rfl)) dX8_passDueTime_96 ⟨Nat.le_of_ble_eq_true rfl, Nat.le_of_ble_eq_true rfl⟩) hS (fun q _ h => hFc q h) hFc (fun u t H1 locs ht hvm hw hB hz1 hk1 hS => ?_)
      obtain ⟨L37, I38, M39, si40, sa41⟩ := u
      replace hP := hB.1
      rw [ht] at hP
      replace hD : va_D A (xW h a e cI cJ cO cE L37 I38 M39 J n cap fE sd si40 sa41 dl) := hB.2.weaken (fun _ q _ h9 => hFc q.1 h9)
      clear hB
      generalize H1 = H at hP hS ⊢
      replace hP : va_P (dC, dI) vwCl (xW h a e cI cJ cO cE L37 I38 M39 J n cap fE sd si40 sa41 dl) H := hP
      obtain ⟨hwX, whUL, whUI, whUM, whUsi, whUsa, hw⟩ := hw
      replace hX : InvX n cap fE sd dl (b + 1) I38 J si40 := hwX
      replace hUL : ∀ j9 : Nat, j9 ∉ ([0, 5, 6, 7] : List Nat) → L37 j9 = L j9 := mw_tr (by decide) whUL hUL
      replace hUI : ∀ j9 : Nat, j9 ∉ ([12] : List Nat) → I38 j9 = I j9 := mw_tr (by decide) whUI hUI
      replace hUM : ∀ j9 : Nat, j9 ∉ ([8, 9] : List Nat) → M39 j9 = M j9 := mw_tr (by decide) whUM hUM
      replace hUsi : ∀ s9 q9 : Nat, q9 ∉ ([6, 7, 8, 9, 10, 11, 21, 22] : List Nat) → si40 s9 q9 = si s9 q9 := xw_tr2 (by decide) whUsi hUsi
      replace hUsa : ∀ s9 q9 : Nat, q9 ∉ ([3] : List Nat) → sa41 s9 q9 = sa s9 q9 := xw_tr2 (by decide) whUsa hUsa
      replace hw : (L37, I38, M39, si40, sa41) = f_y_enter n dl sv j35 L I M si sa := hw
      replace hZ9 := bn5_s hZ9 hw
      refine lv_goto (tgt := 102) hx hb dX8_passDueTime_99 (by decide) ?_
      exact W.vret hx hb hr (fun t ht hW => ⟨⟨(L37, I38, M39, si40, sa41), rfl, ⟨hX.mono (by omega), hUL, hUI, hUM, hUsi, hUsa, hZ9.symm.trans hR0⟩, by rw [ht]; exact hP, hD⟩, hS.F ht⟩) hS.2.2 dX8_passDueTime_102
  replace hZ9 := ite_f hZ9 c25
  refine lv_tableOut (tgt := 102) hx hb dX8_passDueTime_16 (by have k0 := c3; have k1 := c10; have k2 := c17; have k3 := c24; have k4 := c25; simp only [p1_le, p1_lt, p1_eq, p1_m6, p1_m1, p1_0, p1_1, p1_2, p1_3, p1_4, p1_5, p1_6, p1_7, p1_8, p1_9, p1_10, p1_11, p1_12, p1_13, p1_14, p1_15, p1_16, p1_17, p1_18, p1_19, p1_20, p1_40, p1_50, p1_200, p1_1000] at k0 k1 k2 k3 k4 ⊢; omega) (by decide) ?_
  exact W.vret hx hb hr (fun t ht hW => ⟨⟨(L, I, M, si, sa), rfl, ⟨hX.mono (by omega), hUL, hUI, hUM, hUsi, hUsa, hZ9.symm.trans hR0⟩, by rw [ht]; exact hP, hD⟩, hS.F ht⟩) hS.2.2 dX8_passDueTime_102
def f_y_stopTheLacking_17 (n : Nat) (dl : Nat → Nat)  : Nat → Nat → (Nat → Int64) → (Nat → Int32) → (Nat → Nat → Int64) → (Nat → Nat → Int32) → (Nat → Nat → Nat → Int32) → (Nat → (Nat → Int64) → (Nat → Int32) → (Nat → Nat → Int64) → (Nat → Nat → Int32) → (Nat → Nat → Nat → Int32) → (Nat → Int64) × (Nat → Int32) × (Nat → Nat → Int64) × (Nat → Nat → Int32) × (Nat → Nat → Nat → Int32)) → (Nat → Int64) × (Nat → Int32) × (Nat → Nat → Int64) × (Nat → Nat → Int32) × (Nat → Nat → Nat → Int32)
  | 0, i4, L8, I9, M10, si11, sa12, K9_17 => K9_17 i4  L8 I9 M10 si11 sa12
  | fu5 + 1, i4, L8, I9, M10, si11, sa12, K9_17 => if 40 ≤ i4 then (K9_17 i4 L8 I9 M10 si11 sa12) else (bnd (f_y_leastLacking n dl  M10) (fun (r16 : Int32) => if (0 : Int32) ≤ r16 ∧ r16 < nI n then (bnd (r16.toNatClampNeg) (fun (j18 : Nat) => bnd (f_y_fsp n dl j18 si11) (fun (r20 : Int32) => bnd (r20.toNatClampNeg) (fun (j21 : Nat) => bn5 (f_y_enter n dl j18 j21 L8 I9 M10 si11 sa12) (fun (L23 : Nat → Int64) (I24 : Nat → Int32) (M25 : Nat → Nat → Int64) (si26 : Nat → Nat → Int32) (sa27 : Nat → Nat → Nat → Int32) => f_y_stopTheLacking_17 n dl  fu5 (i4 + 1)  L23 I24 M25 si26 sa27 K9_17))))) else (K9_17 i4 L8 I9 M10 si11 sa12)))
def f_y_stopTheLacking (n : Nat) (dl : Nat → Nat)  (L : Nat → Int64) (I : Nat → Int32) (M : Nat → Nat → Int64) (si : Nat → Nat → Int32) (sa : Nat → Nat → Nat → Int32) : (Nat → Int64) × (Nat → Int32) × (Nat → Nat → Int64) × (Nat → Nat → Int32) × (Nat → Nat → Nat → Int32) := bnd ((I 12).toNatClampNeg) (fun (z1 : Nat) => bnd (I 4) (fun (x2 : Int32) => if (nI z1) = x2 then ((L, I, M, si, sa)) else (f_y_stopTheLacking_17 n dl  (40 + 1) 0  L I M si sa (fun (i4 : Nat) (L8 : Nat → Int64) (I9 : Nat → Int32) (M10 : Nat → Nat → Int64) (si11 : Nat → Nat → Int32) (sa12 : Nat → Nat → Nat → Int32) => bnd ((I9 12).toNatClampNeg) (fun (z14 : Nat) => bnd (va_up I9 4 (nI z14)) (fun (I15 : Nat → Int32) => (L8, I15, M10, si11, sa12)))))))
def wq_y_stopTheLacking : List Cond := ([.code yX8_stopTheLacking cX8_stopTheLacking 3 none, .fieldLink RX8 49 "ServiceTree" "history" "LServiceTree$History;", .fieldLink RX8 335 "ServiceTree" "settledChanges" "I", .fieldLink RX8 10 "ServiceTree" "services" "Ljava/util/ArrayList;", .classLink RX8 65 RX7, .methodLink RX8 221 yX8_leastLacking, .instanceMethod yX8_leastLacking, .selects RX8 yX8_leastLacking yX8_leastLacking, .initialized RX8, .methodLink RX8 82 yX8_exists, .instanceMethod yX8_exists, .selects RX8 yX8_exists yX8_exists, .methodLink RX8 86 yJx4a65c_get_915e3, .instanceMethod yJx4a65c_get_915e3, .selects RJx4a65c yJx4a65c_get_915e3 yJx4a65c_get_915e3, .initialized RJx4a65c, .methodLink RX8 308 yX7_firstStateOfStop, .instanceMethod yX7_firstStateOfStop, .selects RX7 yX7_firstStateOfStop yX7_firstStateOfStop, .initialized RX7, .methodLink RX8 249 yX8_enter, .instanceMethod yX8_enter, .selects RX8 yX8_enter yX8_enter] : List Cond) ++ (wsX20 ++ (wsX80 ++ (wq_y_leastLacking ++ (wq_y_exists ++ (wq_x_get ++ (wq_y_fsp ++ (wq_y_enter)))))))
theorem in_y_stopTheLacking_X2 : ∀ w ∈ wsX20, w ∈ wq_y_stopTheLacking := fun _ h => List.mem_append_right _ (List.mem_append_left _ (h))
theorem in_y_stopTheLacking_X8 : ∀ w ∈ wsX80, w ∈ wq_y_stopTheLacking := fun _ h => List.mem_append_right _ (List.mem_append_right _ (List.mem_append_left _ (h)))
set_option maxRecDepth 20000 in
theorem wi_y_stopTheLacking : ∀ w ∈ wq_y_stopTheLacking, w ∈ lw_tbl := List.forall_mem_append.mpr ⟨(wix [720, 229, 237, 224, 278, 721, 723, 26, 60, 449, 451, 3, 453, 454, 455, 63, 673, 674, 675, 70, 593, 595, 14] rfl), List.forall_mem_append.mpr ⟨inKX2, List.forall_mem_append.mpr ⟨inKX8, List.forall_mem_append.mpr ⟨wi_y_leastLacking, List.forall_mem_append.mpr ⟨wi_y_exists, List.forall_mem_append.mpr ⟨wi_x_get, List.forall_mem_append.mpr ⟨wi_y_fsp, wi_y_enter⟩⟩⟩⟩⟩⟩⟩
set_option maxRecDepth 20000 in
theorem wg_y_stopTheLacking : GoodIn wq_y_stopTheLacking wq_y_stopTheLacking := goodIn_sub (fun _ h => h) (by decide +kernel)
set_option maxRecDepth 20000 in
theorem wc_y_stopTheLacking_y_leastLacking_221 : GoodIn wq_y_stopTheLacking (wsV RX8 221 RX8 yX8_leastLacking wq_y_leastLacking) := goodIn_app (goodIn_of _ (by decide +kernel)) (fun w h => ⟨List.mem_append_right _ (List.mem_append_right _ (List.mem_append_right _ (List.mem_append_left _ (h)))), (wg_y_leastLacking w h).2⟩)
set_option maxRecDepth 20000 in
theorem wc_y_stopTheLacking_y_exists_82 : GoodIn wq_y_stopTheLacking (wsV RX8 82 RX8 yX8_exists wq_y_exists) := goodIn_app (goodIn_of _ (by decide +kernel)) (fun w h => ⟨List.mem_append_right _ (List.mem_append_right _ (List.mem_append_right _ (List.mem_append_right _ (List.mem_append_left _ (h))))), (wg_y_exists w h).2⟩)
set_option maxRecDepth 20000 in
theorem wc_y_stopTheLacking_x_get_86 : GoodIn wq_y_stopTheLacking (wsV RX8 86 RJx4a65c yJx4a65c_get_915e3 wq_x_get) := goodIn_app (goodIn_of _ (by decide +kernel)) (fun w h => ⟨List.mem_append_right _ (List.mem_append_right _ (List.mem_append_right _ (List.mem_append_right _ (List.mem_append_right _ (List.mem_append_left _ (h)))))), (wg_x_get w h).2⟩)
set_option maxRecDepth 20000 in
theorem wc_y_stopTheLacking_y_fsp_308 : GoodIn wq_y_stopTheLacking (wsV RX8 308 RX7 yX7_firstStateOfStop wq_y_fsp) := goodIn_app (goodIn_of _ (by decide +kernel)) (fun w h => ⟨List.mem_append_right _ (List.mem_append_right _ (List.mem_append_right _ (List.mem_append_right _ (List.mem_append_right _ (List.mem_append_right _ (List.mem_append_left _ (h))))))), (wg_y_fsp w h).2⟩)
set_option maxRecDepth 20000 in
theorem wc_y_stopTheLacking_y_enter_249 : GoodIn wq_y_stopTheLacking (wsV RX8 249 RX8 yX8_enter wq_y_enter) := goodIn_app (goodIn_of _ (by decide +kernel)) (fun w h => ⟨List.mem_append_right _ (List.mem_append_right _ (List.mem_append_right _ (List.mem_append_right _ (List.mem_append_right _ (List.mem_append_right _ (List.mem_append_right _ (h))))))), (wg_y_enter w h).2⟩)
def rm_y_stopTheLacking : Room := { frames := 4, cells := 0, slots := 0, locals := 89 }
set_option maxHeartbeats 4000000 in
set_option maxRecDepth 100000 in
theorem c_y_stopTheLacking (l : Launch) (dC : Nat → ClassId) (dI : Nat → Nat → Nat) (h : Nat) (a : Nat → Nat) (e : Nat) (cI cJ cO cE : ClassId) (L : Nat → Int64) (I : Nat → Int32) (M : Nat → Nat → Int64) (J : Nat → Nat → Int32) (n cap : Nat) (fE : Nat → Option Nat) (sd : Nat → Nat → Nat) (si : Nat → Nat → Int32) (sa : Nat → Nat → Nat → Int32) (dl : Nat → Nat) (b : Nat)  (sz : Nat) (hX0 : InvX n cap fE sd dl b I J si) (hb0 : b + 40 < 2147483648)  : Met l yX8_stopTheLacking wq_y_stopTheLacking rm_y_stopTheLacking (va_Pc [.ref h] (fun U => U.heap.size = sz ∧ va_P (dC, dI) vwCl (xW h a e cI cJ cO cE L I M J n cap fE sd si sa dl) U.heap ∧ va_K (dC, dI) vwCl (xT cI cJ cO cE) U ∧ va_D (fun _ => True) (xW h a e cI cJ cO cE L I M J n cap fE sd si sa dl) ∧ pw_N U)) (va_Qv (fun (u : (Nat → Int64) × (Nat → Int32) × (Nat → Nat → Int64) × (Nat → Nat → Int32) × (Nat → Nat → Nat → Int32)) => InvX n cap fE sd dl (b + 40) u.2.1 J u.2.2.2.1 ∧ (∀ j9 : Nat, j9 ∉ ([0, 5, 6, 7] : List Nat) → u.1 j9 = L j9) ∧ (∀ j9 : Nat, j9 ∉ ([4, 12] : List Nat) → u.2.1 j9 = I j9) ∧ (∀ j9 : Nat, j9 ∉ ([8, 9] : List Nat) → u.2.2.1 j9 = M j9) ∧ (∀ s9 q9 : Nat, q9 ∉ ([6, 7, 8, 9, 10, 11, 21, 22] : List Nat) → u.2.2.2.1 s9 q9 = si s9 q9) ∧ (∀ s9 q9 : Nat, q9 ∉ ([3] : List Nat) → u.2.2.2.2 s9 q9 = sa s9 q9) ∧ (u = f_y_stopTheLacking n dl  L I M si sa)) (fun (u : (Nat → Int64) × (Nat → Int32) × (Nat → Nat → Int64) × (Nat → Nat → Int32) × (Nat → Nat → Nat → Int32)) (t : State) => va_P (dC, dI) vwCl (xW h a e cI cJ cO cE u.1 u.2.1 u.2.2.1 J n cap fE sd u.2.2.2.1 u.2.2.2.2 dl) t.heap ∧ va_D (va_A (xW h a e cI cJ cO cE L I M J n cap fE sd si sa dl) sz) (xW h a e cI cJ cO cE u.1 u.2.1 u.2.2.1 J n cap fE sd u.2.2.2.1 u.2.2.2.2 dl)) (va_A (xW h a e cI cJ cO cE L I M J n cap fE sd si sa dl) sz)) 0 0 (va_A (xW h a e cI cJ cO cE L I M J n cap fE sd si sa dl) sz) := by
  have hn : n ≤ 40 := hX0.1.1
  have hX := hX0
  have hUL : ∀ j9 : Nat, j9 ∉ ([0, 5, 6, 7] : List Nat) → L j9 = L j9 := fun _ _ => rfl
  have hUI : ∀ j9 : Nat, j9 ∉ ([4, 12] : List Nat) → I j9 = I j9 := fun _ _ => rfl
  have hUM : ∀ j9 : Nat, j9 ∉ ([8, 9] : List Nat) → M j9 = M j9 := fun _ _ => rfl
  have hUsi : ∀ s9 q9 : Nat, q9 ∉ ([6, 7, 8, 9, 10, 11, 21, 22] : List Nat) → si s9 q9 = si s9 q9 := fun _ _ _ => rfl
  have hUsa : ∀ s9 q9 : Nat, q9 ∉ ([3] : List Nat) → sa s9 q9 = sa s9 q9 := fun _ _ _ => rfl
  refine Met.ofW (cc := cX8_stopTheLacking) (maxL := 3) (ret := none) (by decide) rfl ?_
  intro p e9 s m args below meth c s₁ B hml hv
  obtain ⟨rfl, hsz, hP, hK, hD0, hN⟩ := hv
  have hx := B.exec
  have hb := B.bytes
  have hr := B.returns
  have hts := atoms_spec (ws := wq_y_stopTheLacking) B.pre
  have hown : s.vm.findClass RX8 = some m.cls := findClass_of_methodNamed B.named
  have hlocks := B.notSynchronized
  subst hsz
  have hD := hD0.self (sz := s.heap.size)
  generalize hAe : va_A (xW h a e cI cJ cO cE L I M J n cap fE sd si sa dl) s.heap.size = A at hD ⊢
  have hA : ∀ q : Nat, s.heap.size ≤ q → A q := fun q h => by rw [← hAe]; exact Or.inr h
  have hS : va_S A s.heap s.heap [] := va_S.rf
  have hl := lv_entry ([.ref h]) (n := 3) (Nat.le_of_ble_eq_true rfl)
  rw [lg_entry_eq]
  generalize (lg_sl ([.ref h]) ++ List.replicate (3 - (lg_sl ([.ref h])).length) Slot.unset).toArray = ls at hl ⊢
  have hl : lv_has ls 3 [(0, .ref h)] := hl
  refine mw_Q (fun Q0 hQ => ?_)
  obtain ⟨RES, hR0⟩ : ∃ R9, R9 = f_y_stopTheLacking n dl  L I M si sa := ⟨_, rfl⟩
  have hZ9 := hR0
  unfold f_y_stopTheLacking at hZ9
  refine lv_aload_n hx hb dX8_stopTheLacking_0 rfl (lv_at hl 0 rfl) ?_
  refine va_get (D := (dC, dI)) (ci := 9) (v := .ref (a 5)) (C := RX8) (T := TX8) (N := 14) hx hb hts in_y_stopTheLacking_X8 hown hK hP 0 rfl rfl 5 (by decide) (hts (.fieldLink RX8 49 "ServiceTree" "history" "LServiceTree$History;") (by decide +kernel)) (fun _ h9 => h9) rfl dX8_stopTheLacking_1 ?_
  refine va_getN (D := (dC, dI)) (ci := 3) (v := .int (I 12)) (C := RX2) (T := TX2) (N := 2) hx hb hts in_y_stopTheLacking_X2 hown hK hP 19 rfl rfl 1 (by decide) (va_Nw.use rfl (hN (.fieldLinkNest RX8 219 "ServiceTree$History" "size" "I" "ServiceTree") (by decide +kernel))) (fun _ h9 => h9) rfl dX8_stopTheLacking_4 ?_
  obtain ⟨z1, hz1, ez1⟩ := hX.2.1.2
  refine p1_topr (v := .int (nI z1)) (congrArg Value.int ez1) ?_
  replace hZ9 := bnd_s hZ9 (show z1 = (I 12).toNatClampNeg by rw [ez1, nI_clamp (by omega)])
  refine lv_aload_n hx hb dX8_stopTheLacking_7 rfl (lv_at hl 0 rfl) ?_
  refine va_get (D := (dC, dI)) (ci := 9) (v := .int (I 4)) (C := RX8) (T := TX8) (N := 14) hx hb hts in_y_stopTheLacking_X8 hown hK hP 0 rfl rfl 13 (by decide) (hts (.fieldLink RX8 335 "ServiceTree" "settledChanges" "I") (by decide +kernel)) (fun _ h9 => h9) rfl dX8_stopTheLacking_8 ?_
  refine lv_topi (fun x2 ex2 => ?_)
  replace hZ9 := bnd_s hZ9 ex2
  refine lv_icmp_ne (tgt := 15) hx hb dX8_stopTheLacking_11 (by decide) (fun c3 => ?_) (fun c3 => ?_)
  · replace hZ9 := ite_f hZ9 c3
    refine lv_iconst (v := 0) hx hb dX8_stopTheLacking_15 (by decide) ?_
    refine lv_istore_n (lv' := [(1, .int 0), (0, .ref h)]) hx hb dX8_stopTheLacking_16 rfl hl (by decide) rfl (fun ls hl => ?_)
    obtain ⟨K9_17, hK9_17, hZ9⟩ := lp_gen hZ9
    have lp7 : ∀ (fu5 i4 : Nat)  (L8 : Nat → Int64) (I9 : Nat → Int32) (M10 : Nat → Nat → Int64) (si11 : Nat → Nat → Int32) (sa12 : Nat → Nat → Nat → Int32) (H : Heap) (locs : List Loc) (ls : Array Slot), 40 < i4 + fu5 → i4 ≤ 40 → InvX n cap fE sd dl (b + 1 * i4) I9 J si11 → (∀ j9 : Nat, j9 ∉ ([0, 5, 6, 7] : List Nat) → L8 j9 = L j9) → (∀ j9 : Nat, j9 ∉ ([4, 12] : List Nat) → I9 j9 = I j9) → (∀ j9 : Nat, j9 ∉ ([8, 9] : List Nat) → M10 j9 = M j9) → (∀ s9 q9 : Nat, q9 ∉ ([6, 7, 8, 9, 10, 11, 21, 22] : List Nat) → si11 s9 q9 = si s9 q9) → (∀ s9 q9 : Nat, q9 ∉ ([3] : List Nat) → sa12 s9 q9 = sa s9 q9) → RES = f_y_stopTheLacking_17 n dl  fu5 i4  L8 I9 M10 si11 sa12 K9_17 → va_P (dC, dI) vwCl (xW h a e cI cJ cO cE L8 I9 M10 J n cap fE sd si11 sa12 dl) H → va_D A (xW h a e cI cJ cO cE L8 I9 M10 J n cap fE sd si11 sa12 dl) → va_S A s.heap H locs → lv_has ls 3 [(1, .int (nI i4)), (0, .ref h)] → W p l e9 (headSpec wq_y_stopTheLacking rm_y_stopTheLacking).room s m ([.ref h] : List Value).toArray below meth c H locs 0 0 Q0 (F0 m 17 ls []) := by
      intro fu5
      induction fu5 with
      | zero =>
        intro i4  L8 I9 M10 si11 sa12 H locs ls hf hi
        exact absurd hf (by omega)
      | succ fu5 ih6 =>
        intro i4  L8 I9 M10 si11 sa12 H locs ls hfi4 hii4 hX hUL hUI hUM hUsi hUsa hZ9 hP hD hS hl
        rw [f_y_stopTheLacking_17] at hZ9
        refine lv_iload_n hx hb dX8_stopTheLacking_17 rfl (lv_at hl 0 rfl) ?_
        refine lv_bipush (v := 40) hx hb dX8_stopTheLacking_18 (by decide) ?_
        refine lv_icmp_ge (tgt := 64) hx hb dX8_stopTheLacking_20 (by decide) (fun c13 => ?_) (fun c13 => ?_)
        · replace c13 : 40 ≤ i4 := (nI_leI (a := 40) (b := i4) (by omega) (by omega)).mp c13
          replace hZ9 := ite_t hZ9 c13
          replace hZ9 := lp_app6 hK9_17 hZ9
          refine lv_aload_n hx hb dX8_stopTheLacking_64 rfl (lv_at hl 1 rfl) ?_
          refine lv_aload_n hx hb dX8_stopTheLacking_65 rfl (lv_at hl 1 rfl) ?_
          refine va_get (D := (dC, dI)) (ci := 9) (v := .ref (a 5)) (C := RX8) (T := TX8) (N := 14) hx hb hts in_y_stopTheLacking_X8 hown hK hP 0 rfl rfl 5 (by decide) (hts (.fieldLink RX8 49 "ServiceTree" "history" "LServiceTree$History;") (by decide +kernel)) (fun _ h9 => h9) rfl dX8_stopTheLacking_66 ?_
          refine va_getN (D := (dC, dI)) (ci := 3) (v := .int (I9 12)) (C := RX2) (T := TX2) (N := 2) hx hb hts in_y_stopTheLacking_X2 hown hK hP 19 rfl rfl 1 (by decide) (va_Nw.use rfl (hN (.fieldLinkNest RX8 219 "ServiceTree$History" "size" "I" "ServiceTree") (by decide +kernel))) (fun _ h9 => h9) rfl dX8_stopTheLacking_69 ?_
          obtain ⟨z14, hz14, ez14⟩ := hX.2.1.2
          refine p1_topr (v := .int (nI z14)) (congrArg Value.int ez14) ?_
          replace hZ9 := bnd_s hZ9 (show z14 = (I9 12).toNatClampNeg by rw [ez14, nI_clamp (by omega)])
          refine va_put (D := (dC, dI)) (ci := 9) (fs := [.ref (a 0), .ref (a 1), .ref (a 2), .ref (a 3), .ref (a 4), .ref (a 5), .ref (a 6), .long (L8 0), .long (L8 1), .int (I9 0), .int (I9 1), .int (I9 2), .int (I9 3), .int (I9 4)]) (v := .int (nI z14)) (ty := .int) (C := RX8) (T := TX8) (N := 14) hx hb hts in_y_stopTheLacking_X8 tyX8 tyX8_ok nmX8 hown hK hP hD hS 0 rfl rfl 13 (by decide) (hts (.fieldLink RX8 335 "ServiceTree" "settledChanges" "I") (by decide +kernel)) (fun _ h9 => h9) rfl (by decide +kernel) rfl rfl (Nat.le_of_ble_eq_true rfl) dX8_stopTheLacking_72 (fun H locs hP hD hS => ?_)
          replace hP : va_P (dC, dI) vwCl ((xW h a e cI cJ cO cE L8 I9 M10 J n cap fE sd si11 sa12 dl).set 0 (h, .inr (9, [.ref (a 0), .ref (a 1), .ref (a 2), .ref (a 3), .ref (a 4), .ref (a 5), .ref (a 6), .long (L8 0), .long (L8 1), .int (I9 0), .int (I9 1), .int (I9 2), .int (I9 3), .int (nI z14)]))) H := hP
          replace hD : va_D A ((xW h a e cI cJ cO cE L8 I9 M10 J n cap fE sd si11 sa12 dl).set 0 (h, .inr (9, [.ref (a 0), .ref (a 1), .ref (a 2), .ref (a 3), .ref (a 4), .ref (a 5), .ref (a 6), .long (L8 0), .long (L8 1), .int (I9 0), .int (I9 1), .int (I9 2), .int (I9 3), .int (nI z14)]))) := hD
          rw [xF_I4] at hP hD
          obtain ⟨I15, eI15⟩ : ∃ f9 : Nat → Int32, f9 = va_up I9 4 (nI z14) := ⟨_, rfl⟩
          rw [← eI15] at hP hD
          replace hZ9 := bnd_s hZ9 eI15
          replace hX : InvX n cap fE sd dl (b + 1 * i4) I15 J si11 := by rw [eI15]; exact hX.setI (by decide)
          replace hUI : ∀ j9 : Nat, j9 ∉ ([4, 12] : List Nat) → I15 j9 = I j9 := by rw [eI15]; exact mw_up (by decide) hUI
          rw [hQ]
          exact W.vret hx hb hr (fun t ht hW => ⟨⟨(L8, I15, M10, si11, sa12), rfl, ⟨hX.mono (by omega), hUL, hUI, hUM, hUsi, hUsa, hZ9.symm.trans hR0⟩, by rw [ht]; exact hP, hD⟩, hS.F ht⟩) hS.2.2 dX8_stopTheLacking_75
        · replace c13 : ¬ (40 ≤ i4) := fun q9 => c13 ((nI_leI (a := 40) (b := i4) (by omega) (by omega)).mpr q9)
          replace hZ9 := ite_f hZ9 c13
          refine lv_aload_n hx hb dX8_stopTheLacking_23 rfl (lv_at hl 1 rfl) ?_
          have hFc := mw_free hD hS hA
          refine va_calli (va_runV (As := []) (rest := []) ⟨hx, hb, hml, hown, hts⟩ (c_y_leastLacking l dC dI h a e cI cJ cO cE L8 I9 M10 J n cap fE sd si11 sa12 dl (b + 1 * i4)  H.size hX (by omega) ) (cwV 0 hts wc_y_stopTheLacking_y_leastLacking_221 rfl rfl rfl (by decide +kernel) ⟨Nat.le_of_ble_eq_true rfl, Nat.le_of_ble_eq_true rfl⟩) ⟨fun a9 U g mk q => by obtain ⟨q0, q1, qP, qK, qD, qN⟩ := q; exact ⟨q0, q1, qP, va_K.moved (u := U) (U := U.calling g mk a9) (Vm.Alike.refl U.vm) qK, qD, pw_N.same (u := U) (U := U.calling g mk a9) rfl qN⟩, va_recv hK hP (ci := 9) (q0 := 0) rfl rfl, fun U hU hW => ⟨rfl, by rw [hU], by rw [hU]; exact hP, va_K.moved hW.alike hK, hD.weaken (fun _ _ _ _ => trivial), pw_N.warm hW hN⟩⟩ rfl rfl hl.1 rfl (lv_room (Nat.le_of_ble_eq_true rfl)) dX8_stopTheLacking_24 ⟨Nat.le_of_ble_eq_true rfl, Nat.le_of_ble_eq_true rfl⟩) hS (fun q _ h => hFc q h) hFc (fun r16 u t H1 locs ht hvm hw hB hz1 hk1 hS => ?_)
          replace hP := hB.1
          rw [ht] at hP
          replace hD : va_D A (xW h a e cI cJ cO cE L8 I9 M10 J n cap fE sd si11 sa12 dl) := hB.2.weaken (fun _ q _ h9 => hFc q.1 h9)
          clear hB
          generalize H1 = H at hP hS ⊢
          replace hP : va_P (dC, dI) vwCl (xW h a e cI cJ cO cE L8 I9 M10 J n cap fE sd si11 sa12 dl) H := hP
          replace hw : r16 = f_y_leastLacking n dl  M10 := hw
          replace hZ9 := bnd_s hZ9 hw
          refine lv_istore_n (lv' := [(2, .int r16), (1, .int (nI i4)), (0, .ref h)]) hx hb dX8_stopTheLacking_27 rfl hl (by decide) rfl (fun ls hl => ?_)
          refine lv_aload_n hx hb dX8_stopTheLacking_28 rfl (lv_at hl 2 rfl) ?_
          refine lv_iload_n hx hb dX8_stopTheLacking_29 rfl (lv_at hl 0 rfl) ?_
          have hFc := mw_free hD hS hA
          refine va_calli (va_runV (As := [.int r16]) (rest := []) ⟨hx, hb, hml, hown, hts⟩ (c_y_exists l dC dI h a e cI cJ cO cE L8 I9 M10 J n cap fE sd si11 sa12 dl (b + 1 * i4) r16 H.size hX (by omega) ) (cwV 1 hts wc_y_stopTheLacking_y_exists_82 rfl rfl rfl (by decide +kernel) ⟨Nat.le_of_ble_eq_true rfl, Nat.le_of_ble_eq_true rfl⟩) ⟨fun a9 U g mk q => by obtain ⟨q0, q1, qP, qK, qD, qN⟩ := q; exact ⟨q0, q1, qP, va_K.moved (u := U) (U := U.calling g mk a9) (Vm.Alike.refl U.vm) qK, qD, pw_N.same (u := U) (U := U.calling g mk a9) rfl qN⟩, va_recv hK hP (ci := 9) (q0 := 0) rfl rfl, fun U hU hW => ⟨rfl, by rw [hU], by rw [hU]; exact hP, va_K.moved hW.alike hK, hD.weaken (fun _ _ _ _ => trivial), pw_N.warm hW hN⟩⟩ rfl rfl hl.1 rfl (lv_room (Nat.le_of_ble_eq_true rfl)) dX8_stopTheLacking_30 ⟨Nat.le_of_ble_eq_true rfl, Nat.le_of_ble_eq_true rfl⟩) hS (fun q _ h => hFc q h) hFc (fun r17 u t H1 locs ht hvm hw hB hz1 hk1 hS => ?_)
          replace hP := hB.1
          rw [ht] at hP
          replace hD : va_D A (xW h a e cI cJ cO cE L8 I9 M10 J n cap fE sd si11 sa12 dl) := hB.2.weaken (fun _ q _ h9 => hFc q.1 h9)
          clear hB
          generalize H1 = H at hP hS ⊢
          replace hP : va_P (dC, dI) vwCl (xW h a e cI cJ cO cE L8 I9 M10 J n cap fE sd si11 sa12 dl) H := hP
          rcases hw with ⟨rfl, j18, hj18, ej18⟩ | ⟨rfl, noj18⟩
          · replace hZ9 := ite_t hZ9 (show (0 : Int32) ≤ r16 ∧ r16 < nI n by rw [ej18]; exact ⟨nI_pos' (by omega), nI_lt hj18 (by omega)⟩)
            replace hZ9 := bnd_s hZ9 (show j18 = r16.toNatClampNeg by rw [ej18, nI_clamp (by omega)])
            subst ej18
            refine lv_if_ne (tgt := 39) hx hb dX8_stopTheLacking_33 (by decide) (fun _ => ?_) (fun c9 => absurd c9 (by decide))
            refine lv_aload_n hx hb dX8_stopTheLacking_39 rfl (lv_at hl 2 rfl) ?_
            refine lv_iload_n hx hb dX8_stopTheLacking_40 rfl (lv_at hl 0 rfl) ?_
            refine lv_aload_n hx hb dX8_stopTheLacking_41 rfl (lv_at hl 2 rfl) ?_
            refine va_get (D := (dC, dI)) (ci := 9) (v := .ref (a 0)) (C := RX8) (T := TX8) (N := 14) hx hb hts in_y_stopTheLacking_X8 hown hK hP 0 rfl rfl 0 (by decide) (hts (.fieldLink RX8 10 "ServiceTree" "services" "Ljava/util/ArrayList;") (by decide +kernel)) (fun _ h9 => h9) rfl dX8_stopTheLacking_42 ?_
            refine lv_iload_n hx hb dX8_stopTheLacking_45 rfl (lv_at hl 0 rfl) ?_
            have hFc := mw_free hD hS hA
            refine va_callr (va_runV (As := [.int (nI j18)]) (rest := [.int (nI j18), .ref h]) ⟨hx, hb, hml, hown, hts⟩ (c_x_get l dC dI h a e cI cJ cO cE L8 I9 M10 J n cap fE sd si11 sa12 dl (b + 1 * i4) j18 H.size hX (by omega) (by omega)) (cwV 1 hts wc_y_stopTheLacking_x_get_86 rfl rfl rfl (by decide +kernel) ⟨Nat.le_of_ble_eq_true rfl, Nat.le_of_ble_eq_true rfl⟩) ⟨fun a9 U g mk q => by obtain ⟨q0, q1, qP, qK, qD, qN⟩ := q; exact ⟨q0, q1, qP, va_K.moved (u := U) (U := U.calling g mk a9) (Vm.Alike.refl U.vm) qK, qD, pw_N.same (u := U) (U := U.calling g mk a9) rfl qN⟩, va_recv hK hP (ci := 0) (q0 := 1) rfl rfl, fun U hU hW => ⟨rfl, by rw [hU], by rw [hU]; exact hP, va_K.moved hW.alike hK, hD.weaken (fun _ _ _ _ => trivial), pw_N.warm hW hN⟩⟩ rfl rfl hl.1 rfl (lv_room (Nat.le_of_ble_eq_true rfl)) dX8_stopTheLacking_46 ⟨Nat.le_of_ble_eq_true rfl, Nat.le_of_ble_eq_true rfl⟩) hS (fun q _ h => hFc q h) hFc (fun u r19 t H1 locs ht hvm hw hB hz1 hk1 hS => ?_)
            obtain ⟨hra, hB⟩ := hB
            replace hP := hB.1
            rw [ht] at hP
            replace hD : va_D A (xW h a e cI cJ cO cE L8 I9 M10 J n cap fE sd si11 sa12 dl) := hB.2.weaken (fun _ q _ h9 => hFc q.1 h9)
            clear hB
            generalize H1 = H at hP hS ⊢
            replace hP : va_P (dC, dI) vwCl (xW h a e cI cJ cO cE L8 I9 M10 J n cap fE sd si11 sa12 dl) H := hP
            subst hra
            refine va_castS hx hb hown (hts (.classLink RX8 65 RX7) (by decide +kernel)) (hK.1 8 _ rfl).2 (va_recv hK hP (ci := 8) (q0 := (22 + (6 * j18 + 0))) rfl (xAt_0 h a e cI cJ cO cE L8 I9 M10 J n cap fE sd si11 sa12 dl (s := j18) (by omega))) dX8_stopTheLacking_49 ?_
            have hFc := mw_free hD hS hA
            refine va_calli (va_runV (As := []) (rest := [.int (nI j18), .ref h]) ⟨hx, hb, hml, hown, hts⟩ (c_y_fsp l dC dI h a e cI cJ cO cE L8 I9 M10 J n cap fE sd si11 sa12 dl (b + 1 * i4) j18 H.size hX (by omega) (by omega)) (cwV 0 hts wc_y_stopTheLacking_y_fsp_308 rfl rfl rfl (by decide +kernel) ⟨Nat.le_of_ble_eq_true rfl, Nat.le_of_ble_eq_true rfl⟩) ⟨fun a9 U g mk q => by obtain ⟨q0, q1, qP, qK, qD, qN⟩ := q; exact ⟨q0, q1, qP, va_K.moved (u := U) (U := U.calling g mk a9) (Vm.Alike.refl U.vm) qK, qD, pw_N.same (u := U) (U := U.calling g mk a9) rfl qN⟩, va_recv hK hP (ci := 8) (q0 := (22 + (6 * j18 + 0))) rfl (xAt_0 h a e cI cJ cO cE L8 I9 M10 J n cap fE sd si11 sa12 dl (s := j18) (by omega)), fun U hU hW => ⟨rfl, by rw [hU], by rw [hU]; exact hP, va_K.moved hW.alike hK, hD.weaken (fun _ _ _ _ => trivial), pw_N.warm hW hN⟩⟩ rfl rfl hl.1 rfl (lv_room (Nat.le_of_ble_eq_true rfl)) dX8_stopTheLacking_52 ⟨Nat.le_of_ble_eq_true rfl, Nat.le_of_ble_eq_true rfl⟩) hS (fun q _ h => hFc q h) hFc (fun r20 u t H1 locs ht hvm hw hB hz1 hk1 hS => ?_)
            replace hP := hB.1
            rw [ht] at hP
            replace hD : va_D A (xW h a e cI cJ cO cE L8 I9 M10 J n cap fE sd si11 sa12 dl) := hB.2.weaken (fun _ q _ h9 => hFc q.1 h9)
            clear hB
            generalize H1 = H at hP hS ⊢
            replace hP : va_P (dC, dI) vwCl (xW h a e cI cJ cO cE L8 I9 M10 J n cap fE sd si11 sa12 dl) H := hP
            obtain ⟨hw, hwe⟩ := hw
            replace hw : r20 = f_y_fsp n dl j18 si11 := hw
            replace hZ9 := bnd_s hZ9 hw
            obtain ⟨j21, hj21, ej21⟩ := hwe
            replace hZ9 := bnd_s hZ9 (show j21 = r20.toNatClampNeg by rw [ej21, nI_clamp (by omega)])
            subst ej21
            have hFc := mw_free hD hS hA
            refine va_callv (va_runV (As := [.int (nI j18), .int (nI j21)]) (rest := []) ⟨hx, hb, hml, hown, hts⟩ (c_y_enter l dC dI h a e cI cJ cO cE L8 I9 M10 J n cap fE sd si11 sa12 dl (b + 1 * i4) j18 j21 H.size hX (by omega) (by omega) (by omega)) (cwV 2 hts wc_y_stopTheLacking_y_enter_249 rfl rfl rfl (by decide +kernel) ⟨Nat.le_of_ble_eq_true rfl, Nat.le_of_ble_eq_true rfl⟩) ⟨fun a9 U g mk q => by obtain ⟨q0, q1, qP, qK, qD, qN⟩ := q; exact ⟨q0, q1, qP, va_K.moved (u := U) (U := U.calling g mk a9) (Vm.Alike.refl U.vm) qK, qD, pw_N.same (u := U) (U := U.calling g mk a9) rfl qN⟩, va_recv hK hP (ci := 9) (q0 := 0) rfl rfl, fun U hU hW => ⟨rfl, by rw [hU], by rw [hU]; exact hP, va_K.moved hW.alike hK, hD.weaken (fun _ _ _ _ => trivial), pw_N.warm hW hN⟩⟩ rfl rfl hl.1 rfl (lv_room (Nat.le_of_ble_eq_true rfl)) dX8_stopTheLacking_55 ⟨Nat.le_of_ble_eq_true rfl, Nat.le_of_ble_eq_true rfl⟩) hS (fun q _ h => hFc q h) hFc (fun u t H1 locs ht hvm hw hB hz1 hk1 hS => ?_)
            obtain ⟨L23, I24, M25, si26, sa27⟩ := u
            replace hP := hB.1
            rw [ht] at hP
            replace hD : va_D A (xW h a e cI cJ cO cE L23 I24 M25 J n cap fE sd si26 sa27 dl) := hB.2.weaken (fun _ q _ h9 => hFc q.1 h9)
            clear hB
            generalize H1 = H at hP hS ⊢
            replace hP : va_P (dC, dI) vwCl (xW h a e cI cJ cO cE L23 I24 M25 J n cap fE sd si26 sa27 dl) H := hP
            obtain ⟨hwX, whUL, whUI, whUM, whUsi, whUsa, hw⟩ := hw
            replace hX : InvX n cap fE sd dl (b + 1 * i4 + 1) I24 J si26 := hwX
            replace hUL : ∀ j9 : Nat, j9 ∉ ([0, 5, 6, 7] : List Nat) → L23 j9 = L j9 := mw_tr (by decide) whUL hUL
            replace hUI : ∀ j9 : Nat, j9 ∉ ([4, 12] : List Nat) → I24 j9 = I j9 := mw_tr (by decide) whUI hUI
            replace hUM : ∀ j9 : Nat, j9 ∉ ([8, 9] : List Nat) → M25 j9 = M j9 := mw_tr (by decide) whUM hUM
            replace hUsi : ∀ s9 q9 : Nat, q9 ∉ ([6, 7, 8, 9, 10, 11, 21, 22] : List Nat) → si26 s9 q9 = si s9 q9 := xw_tr2 (by decide) whUsi hUsi
            replace hUsa : ∀ s9 q9 : Nat, q9 ∉ ([3] : List Nat) → sa27 s9 q9 = sa s9 q9 := xw_tr2 (by decide) whUsa hUsa
            replace hw : (L23, I24, M25, si26, sa27) = f_y_enter n dl j18 j21 L8 I9 M10 si11 sa12 := hw
            replace hZ9 := bn5_s hZ9 hw
            refine lv_iinc (v := (nI (i4 + 1))) (lv' := [(1, .int (nI (i4 + 1))), (2, .int (nI j18)), (0, .ref h)]) hx hb dX8_stopTheLacking_58 hl (k := 1) rfl (nI_add i4 1) (by decide) rfl (fun ls hl => ?_)
            refine lv_goto (tgt := 17) hx hb dX8_stopTheLacking_61 (by decide) ?_
            exact ih6 (i4 + 1)  L23 I24 M25 si26 sa27 _ _ _ (by omega) (by omega) (hX.mono (by omega)) hUL hUI hUM hUsi hUsa  hZ9 hP hD hS (lv_sub hl [0, 2] rfl)
          · replace hZ9 := ite_f hZ9 noj18
            refine lv_if_ne (tgt := 39) hx hb dX8_stopTheLacking_33 (by decide) (fun c9 => absurd (by decide) c9) (fun _ => ?_)
            refine lv_goto (tgt := 64) hx hb dX8_stopTheLacking_36 (by decide) ?_
            replace hZ9 := lp_app6 hK9_17 hZ9
            refine lv_aload_n hx hb dX8_stopTheLacking_64 rfl (lv_at hl 2 rfl) ?_
            refine lv_aload_n hx hb dX8_stopTheLacking_65 rfl (lv_at hl 2 rfl) ?_
            refine va_get (D := (dC, dI)) (ci := 9) (v := .ref (a 5)) (C := RX8) (T := TX8) (N := 14) hx hb hts in_y_stopTheLacking_X8 hown hK hP 0 rfl rfl 5 (by decide) (hts (.fieldLink RX8 49 "ServiceTree" "history" "LServiceTree$History;") (by decide +kernel)) (fun _ h9 => h9) rfl dX8_stopTheLacking_66 ?_
            refine va_getN (D := (dC, dI)) (ci := 3) (v := .int (I9 12)) (C := RX2) (T := TX2) (N := 2) hx hb hts in_y_stopTheLacking_X2 hown hK hP 19 rfl rfl 1 (by decide) (va_Nw.use rfl (hN (.fieldLinkNest RX8 219 "ServiceTree$History" "size" "I" "ServiceTree") (by decide +kernel))) (fun _ h9 => h9) rfl dX8_stopTheLacking_69 ?_
            obtain ⟨z28, hz28, ez28⟩ := hX.2.1.2
            refine p1_topr (v := .int (nI z28)) (congrArg Value.int ez28) ?_
            replace hZ9 := bnd_s hZ9 (show z28 = (I9 12).toNatClampNeg by rw [ez28, nI_clamp (by omega)])
            refine va_put (D := (dC, dI)) (ci := 9) (fs := [.ref (a 0), .ref (a 1), .ref (a 2), .ref (a 3), .ref (a 4), .ref (a 5), .ref (a 6), .long (L8 0), .long (L8 1), .int (I9 0), .int (I9 1), .int (I9 2), .int (I9 3), .int (I9 4)]) (v := .int (nI z28)) (ty := .int) (C := RX8) (T := TX8) (N := 14) hx hb hts in_y_stopTheLacking_X8 tyX8 tyX8_ok nmX8 hown hK hP hD hS 0 rfl rfl 13 (by decide) (hts (.fieldLink RX8 335 "ServiceTree" "settledChanges" "I") (by decide +kernel)) (fun _ h9 => h9) rfl (by decide +kernel) rfl rfl (Nat.le_of_ble_eq_true rfl) dX8_stopTheLacking_72 (fun H locs hP hD hS => ?_)
            replace hP : va_P (dC, dI) vwCl ((xW h a e cI cJ cO cE L8 I9 M10 J n cap fE sd si11 sa12 dl).set 0 (h, .inr (9, [.ref (a 0), .ref (a 1), .ref (a 2), .ref (a 3), .ref (a 4), .ref (a 5), .ref (a 6), .long (L8 0), .long (L8 1), .int (I9 0), .int (I9 1), .int (I9 2), .int (I9 3), .int (nI z28)]))) H := hP
            replace hD : va_D A ((xW h a e cI cJ cO cE L8 I9 M10 J n cap fE sd si11 sa12 dl).set 0 (h, .inr (9, [.ref (a 0), .ref (a 1), .ref (a 2), .ref (a 3), .ref (a 4), .ref (a 5), .ref (a 6), .long (L8 0), .long (L8 1), .int (I9 0), .int (I9 1), .int (I9 2), .int (I9 3), .int (nI z28)]))) := hD
            rw [xF_I4] at hP hD
            obtain ⟨I29, eI29⟩ : ∃ f9 : Nat → Int32, f9 = va_up I9 4 (nI z28) := ⟨_, rfl⟩
            rw [← eI29] at hP hD
            replace hZ9 := bnd_s hZ9 eI29
            replace hX : InvX n cap fE sd dl (b + 1 * i4) I29 J si11 := by rw [eI29]; exact hX.setI (by decide)
            replace hUI : ∀ j9 : Nat, j9 ∉ ([4, 12] : List Nat) → I29 j9 = I j9 := by rw [eI29]; exact mw_up (by decide) hUI
            rw [hQ]
            exact W.vret hx hb hr (fun t ht hW => ⟨⟨(L8, I29, M10, si11, sa12), rfl, ⟨hX.mono (by omega), hUL, hUI, hUM, hUsi, hUsa, hZ9.symm.trans hR0⟩, by rw [ht]; exact hP, hD⟩, hS.F ht⟩) hS.2.2 dX8_stopTheLacking_75
    exact lp7 (40 + 1) 0  L I M si sa _ _ _ (by omega) (by omega) (hX.mono (by omega)) hUL hUI hUM hUsi hUsa  hZ9 hP hD hS hl
  · replace hZ9 := ite_t hZ9 c3
    rw [hQ]
    exact W.vret hx hb hr (fun t ht hW => ⟨⟨(L, I, M, si, sa), rfl, ⟨hX.mono (by omega), hUL, hUI, hUM, hUsi, hUsa, hZ9.symm.trans hR0⟩, by rw [ht]; exact hP, hD⟩, hS.F ht⟩) hS.2.2 dX8_stopTheLacking_14
def f_y_readLetters_21 (n : Nat) (dl : Nat → Nat) (sa : Nat → Nat → Nat → Int32) (x3 : Int64) : Nat → Nat → (Nat → Int64) → (Nat → Int32) → (Nat → Nat → Int32) → (Nat → (Nat → Int64) → (Nat → Int32) → (Nat → Nat → Int32) → (Nat → Int64) × (Nat → Int32) × (Nat → Nat → Int32)) → (Nat → Int64) × (Nat → Int32) × (Nat → Nat → Int32)
  | 0, i6, L10, I11, si12, K9_21 => K9_21 i6  L10 I11 si12
  | fu7 + 1, i6, L10, I11, si12, K9_21 => if n ≤ i6 then (K9_21 i6 L10 I11 si12) else (bnd (f_y_holds n dl x3 i6 ) (fun (r15 : Int32) => if r15 = (0 : Int32) then (f_y_readLetters_21 n dl sa x3 fu7 (i6 + 1)  L10 I11 si12 K9_21) else (bnd (f_y_readFirst n dl i6 si12 sa) (fun (si19 : Nat → Nat → Int32) => bnd (I11 2) (fun (x20 : Int32) => bnd (x20 + (1 : Int32)) (fun (x21 : Int32) => bnd (va_up I11 2 x21) (fun (I22 : Nat → Int32) => bnd ((si19 i6 32).toNatClampNeg) (fun (z23 : Nat) => if z23 = 0 then (bnd (L10 1) (fun (x25 : Int64) => bnd (f_y_only n dl i6 ) (fun (r26 : Int64) => bnd (r26 ^^^ (-1 : Int64)) (fun (x27 : Int64) => bnd (x25 &&& x27) (fun (x28 : Int64) => bnd (va_up L10 1 x28) (fun (L29 : Nat → Int64) => f_y_readLetters_21 n dl sa x3 fu7 (i6 + 1)  L29 I22 si19 K9_21)))))) else (f_y_readLetters_21 n dl sa x3 fu7 (i6 + 1)  L10 I22 si19 K9_21)))))))))
def f_y_readLetters (n : Nat) (dl : Nat → Nat)  (L : Nat → Int64) (I : Nat → Int32) (M : Nat → Nat → Int64) (si : Nat → Nat → Int32) (sa : Nat → Nat → Nat → Int32) : (Nat → Int64) × (Nat → Int32) × (Nat → Nat → Int32) := bnd (L 1) (fun (x1 : Int64) => bnd (M 9 (nI 2).toNatClampNeg) (fun (x2 : Int64) => bnd (x1 &&& x2) (fun (x3 : Int64) => bnd (lg_cmp x3 (0 : Int64)) (fun (x4 : Int32) => if x4 = (0 : Int32) then ((L, I, si)) else (f_y_readLetters_21 n dl sa x3 (n + 1) 0  L I si (fun (i6 : Nat) (L10 : Nat → Int64) (I11 : Nat → Int32) (si12 : Nat → Nat → Int32) => (L10, I11, si12)))))))
def wq_y_readLetters : List Cond := ([.code yX8_readLetters cX8_readLetters 5 none, .fieldLink RX8 158 "ServiceTree" "withLetters" "J", .fieldLink RX8 53 "ServiceTree" "inState" "[J", .fieldLink RX8 10 "ServiceTree" "services" "Ljava/util/ArrayList;", .classLink RX8 65 RX7, .fieldLink RX8 195 "ServiceTree" "lettersRead" "I", .constantLong RX8 238 (-1), .methodLink RX8 61 yJx4a65c_size_8abf5, .instanceMethod yJx4a65c_size_8abf5, .selects RJx4a65c yJx4a65c_size_8abf5 yJx4a65c_size_8abf5, .initialized RJx4a65c, .methodLink RX8 114 yX8_holds, .static yX8_holds, .initialized RX8, .methodLink RX8 86 yJx4a65c_get_915e3, .instanceMethod yJx4a65c_get_915e3, .selects RJx4a65c yJx4a65c_get_915e3 yJx4a65c_get_915e3, .methodLink RX8 338 yX0_readFirst, .instanceMethod yX0_readFirst, .selects RX0 yX0_readFirst yX0_readFirst, .initialized RX0, .methodLink RX8 78 yX8_only, .static yX8_only] : List Cond) ++ (wsX00 ++ (wsX70 ++ (wsX80 ++ (wq_y_size ++ (wq_y_holds ++ (wq_x_get ++ (wq_y_readFirst ++ (wq_y_only))))))))
theorem in_y_readLetters_X0 : ∀ w ∈ wsX00, w ∈ wq_y_readLetters := fun _ h => List.mem_append_right _ (List.mem_append_left _ (h))
theorem in_y_readLetters_X7 : ∀ w ∈ wsX70, w ∈ wq_y_readLetters := fun _ h => List.mem_append_right _ (List.mem_append_right _ (List.mem_append_left _ (h)))
theorem in_y_readLetters_X8 : ∀ w ∈ wsX80, w ∈ wq_y_readLetters := fun _ h => List.mem_append_right _ (List.mem_append_right _ (List.mem_append_right _ (List.mem_append_left _ (h))))
set_option maxRecDepth 20000 in
theorem wi_y_readLetters : ∀ w ∈ wq_y_readLetters, w ∈ lw_tbl := List.forall_mem_append.mpr ⟨(wix [728, 232, 230, 224, 278, 235, 597, 274, 275, 276, 63, 487, 488, 60, 453, 454, 455, 729, 730, 731, 72, 442, 443] rfl), List.forall_mem_append.mpr ⟨inKX0, List.forall_mem_append.mpr ⟨inKX7, List.forall_mem_append.mpr ⟨inKX8, List.forall_mem_append.mpr ⟨wi_y_size, List.forall_mem_append.mpr ⟨wi_y_holds, List.forall_mem_append.mpr ⟨wi_x_get, List.forall_mem_append.mpr ⟨wi_y_readFirst, wi_y_only⟩⟩⟩⟩⟩⟩⟩⟩
set_option maxRecDepth 20000 in
theorem wg_y_readLetters : GoodIn wq_y_readLetters wq_y_readLetters := goodIn_sub (fun _ h => h) (by decide +kernel)
set_option maxRecDepth 20000 in
theorem wc_y_readLetters_y_size_61 : GoodIn wq_y_readLetters (wsV RX8 61 RJx4a65c yJx4a65c_size_8abf5 wq_y_size) := goodIn_app (goodIn_of _ (by decide +kernel)) (fun w h => ⟨List.mem_append_right _ (List.mem_append_right _ (List.mem_append_right _ (List.mem_append_right _ (List.mem_append_left _ (h))))), (wg_y_size w h).2⟩)
set_option maxRecDepth 20000 in
theorem wc_y_readLetters_y_holds_114 : GoodIn wq_y_readLetters (va_wsS RX8 114 yX8_holds wq_y_holds) := goodIn_app (goodIn_of _ (by decide +kernel)) (fun w h => ⟨List.mem_append_right _ (List.mem_append_right _ (List.mem_append_right _ (List.mem_append_right _ (List.mem_append_right _ (List.mem_append_left _ (h)))))), (wg_y_holds w h).2⟩)
set_option maxRecDepth 20000 in
theorem wc_y_readLetters_x_get_86 : GoodIn wq_y_readLetters (wsV RX8 86 RJx4a65c yJx4a65c_get_915e3 wq_x_get) := goodIn_app (goodIn_of _ (by decide +kernel)) (fun w h => ⟨List.mem_append_right _ (List.mem_append_right _ (List.mem_append_right _ (List.mem_append_right _ (List.mem_append_right _ (List.mem_append_right _ (List.mem_append_left _ (h))))))), (wg_x_get w h).2⟩)
set_option maxRecDepth 20000 in
theorem wc_y_readLetters_y_readFirst_338 : GoodIn wq_y_readLetters (wsV RX8 338 RX0 yX0_readFirst wq_y_readFirst) := goodIn_app (goodIn_of _ (by decide +kernel)) (fun w h => ⟨List.mem_append_right _ (List.mem_append_right _ (List.mem_append_right _ (List.mem_append_right _ (List.mem_append_right _ (List.mem_append_right _ (List.mem_append_right _ (List.mem_append_left _ (h)))))))), (wg_y_readFirst w h).2⟩)
set_option maxRecDepth 20000 in
theorem wc_y_readLetters_y_only_78 : GoodIn wq_y_readLetters (va_wsS RX8 78 yX8_only wq_y_only) := goodIn_app (goodIn_of _ (by decide +kernel)) (fun w h => ⟨List.mem_append_right _ (List.mem_append_right _ (List.mem_append_right _ (List.mem_append_right _ (List.mem_append_right _ (List.mem_append_right _ (List.mem_append_right _ (List.mem_append_right _ (h)))))))), (wg_y_only w h).2⟩)
def rm_y_readLetters : Room := { frames := 3, cells := 0, slots := 0, locals := 64 }
set_option maxHeartbeats 4000000 in
set_option maxRecDepth 100000 in
theorem c_y_readLetters (l : Launch) (dC : Nat → ClassId) (dI : Nat → Nat → Nat) (h : Nat) (a : Nat → Nat) (e : Nat) (cI cJ cO cE : ClassId) (L : Nat → Int64) (I : Nat → Int32) (M : Nat → Nat → Int64) (J : Nat → Nat → Int32) (n cap : Nat) (fE : Nat → Option Nat) (sd : Nat → Nat → Nat) (si : Nat → Nat → Int32) (sa : Nat → Nat → Nat → Int32) (dl : Nat → Nat) (b : Nat)  (sz : Nat) (hX0 : InvX n cap fE sd dl b I J si) (hb0 : b + 0 < 2147483648)  : Met l yX8_readLetters wq_y_readLetters rm_y_readLetters (va_Pc [.ref h] (fun U => U.heap.size = sz ∧ va_P (dC, dI) vwCl (xW h a e cI cJ cO cE L I M J n cap fE sd si sa dl) U.heap ∧ va_K (dC, dI) vwCl (xT cI cJ cO cE) U ∧ va_D (fun _ => True) (xW h a e cI cJ cO cE L I M J n cap fE sd si sa dl) ∧ pw_N U)) (va_Qv (fun (u : (Nat → Int64) × (Nat → Int32) × (Nat → Nat → Int32)) => InvX n cap fE sd dl (b + 0) u.2.1 J u.2.2 ∧ (∀ j9 : Nat, j9 ∉ ([1] : List Nat) → u.1 j9 = L j9) ∧ (∀ j9 : Nat, j9 ∉ ([2] : List Nat) → u.2.1 j9 = I j9) ∧ (∀ s9 q9 : Nat, q9 ∉ ([31, 32, 33, 34] : List Nat) → u.2.2 s9 q9 = si s9 q9) ∧ (u = f_y_readLetters n dl  L I M si sa)) (fun (u : (Nat → Int64) × (Nat → Int32) × (Nat → Nat → Int32)) (t : State) => va_P (dC, dI) vwCl (xW h a e cI cJ cO cE u.1 u.2.1 M J n cap fE sd u.2.2 sa dl) t.heap ∧ va_D (va_A (xW h a e cI cJ cO cE L I M J n cap fE sd si sa dl) sz) (xW h a e cI cJ cO cE u.1 u.2.1 M J n cap fE sd u.2.2 sa dl)) (va_A (xW h a e cI cJ cO cE L I M J n cap fE sd si sa dl) sz)) 0 0 (va_A (xW h a e cI cJ cO cE L I M J n cap fE sd si sa dl) sz) := by
  have hn : n ≤ 40 := hX0.1.1
  have hX := hX0
  have hUL : ∀ j9 : Nat, j9 ∉ ([1] : List Nat) → L j9 = L j9 := fun _ _ => rfl
  have hUI : ∀ j9 : Nat, j9 ∉ ([2] : List Nat) → I j9 = I j9 := fun _ _ => rfl
  have hUsi : ∀ s9 q9 : Nat, q9 ∉ ([31, 32, 33, 34] : List Nat) → si s9 q9 = si s9 q9 := fun _ _ _ => rfl
  refine Met.ofW (cc := cX8_readLetters) (maxL := 5) (ret := none) (by decide) rfl ?_
  intro p e9 s m args below meth c s₁ B hml hv
  obtain ⟨rfl, hsz, hP, hK, hD0, hN⟩ := hv
  have hx := B.exec
  have hb := B.bytes
  have hr := B.returns
  have hts := atoms_spec (ws := wq_y_readLetters) B.pre
  have hown : s.vm.findClass RX8 = some m.cls := findClass_of_methodNamed B.named
  have hlocks := B.notSynchronized
  subst hsz
  have hD := hD0.self (sz := s.heap.size)
  generalize hAe : va_A (xW h a e cI cJ cO cE L I M J n cap fE sd si sa dl) s.heap.size = A at hD ⊢
  have hA : ∀ q : Nat, s.heap.size ≤ q → A q := fun q h => by rw [← hAe]; exact Or.inr h
  have hS : va_S A s.heap s.heap [] := va_S.rf
  have hl := lv_entry ([.ref h]) (n := 5) (Nat.le_of_ble_eq_true rfl)
  rw [lg_entry_eq]
  generalize (lg_sl ([.ref h]) ++ List.replicate (5 - (lg_sl ([.ref h])).length) Slot.unset).toArray = ls at hl ⊢
  have hl : lv_has ls 5 [(0, .ref h)] := hl
  refine mw_Q (fun Q0 hQ => ?_)
  obtain ⟨RES, hR0⟩ : ∃ R9, R9 = f_y_readLetters n dl  L I M si sa := ⟨_, rfl⟩
  have hZ9 := hR0
  unfold f_y_readLetters at hZ9
  refine lv_aload_n hx hb dX8_readLetters_0 rfl (lv_at hl 0 rfl) ?_
  refine va_get (D := (dC, dI)) (ci := 9) (v := .long (L 1)) (C := RX8) (T := TX8) (N := 14) hx hb hts in_y_readLetters_X8 hown hK hP 0 rfl rfl 8 (by decide) (hts (.fieldLink RX8 158 "ServiceTree" "withLetters" "J") (by decide +kernel)) (fun _ h9 => h9) rfl dX8_readLetters_1 ?_
  refine lv_topl (fun x1 ex1 => ?_)
  replace hZ9 := bnd_s hZ9 ex1
  refine lv_aload_n hx hb dX8_readLetters_4 rfl (lv_at hl 0 rfl) ?_
  refine va_get (D := (dC, dI)) (ci := 9) (v := .ref (a 6)) (C := RX8) (T := TX8) (N := 14) hx hb hts in_y_readLetters_X8 hown hK hP 0 rfl rfl 6 (by decide) (hts (.fieldLink RX8 53 "ServiceTree" "inState" "[J") (by decide +kernel)) (fun _ h9 => h9) rfl dX8_readLetters_5 ?_
  refine lv_iconst (v := 2) hx hb dX8_readLetters_8 (by decide) ?_
  refine va_lald (n := 6) (f := M 9) hx hb hK hP 21 1 rfl rfl (vp_in_nI (n := 2) (by omega) (by omega)) dX8_readLetters_9 ?_
  refine lv_topl (fun x2 ex2 => ?_)
  replace hZ9 := bnd_s hZ9 ex2
  refine lv_land hx hb dX8_readLetters_10 ?_
  refine lv_topl (fun x3 ex3 => ?_)
  replace hZ9 := bnd_s hZ9 ex3
  refine lv_lstore_n (lv' := [(1, .long x3), (0, .ref h)]) hx hb dX8_readLetters_11 rfl hl (by decide) rfl (fun ls hl => ?_)
  refine lv_lload_n hx hb dX8_readLetters_12 rfl (lv_at hl 0 rfl) ?_
  refine lv_lconst (v := 0) hx hb dX8_readLetters_13 (by decide) ?_
  refine W.lcmp hx hb dX8_readLetters_14 ?_
  refine lv_topi (fun x4 ex4 => ?_)
  replace hZ9 := bnd_s hZ9 ex4
  refine lv_if_ne (tgt := 19) hx hb dX8_readLetters_15 (by decide) (fun c5 => ?_) (fun c5 => ?_)
  · replace hZ9 := ite_f hZ9 c5
    refine lv_iconst (v := 0) hx hb dX8_readLetters_19 (by decide) ?_
    refine lv_istore_n (lv' := [(3, .int 0), (1, .long x3), (0, .ref h)]) hx hb dX8_readLetters_20 rfl hl (by decide) rfl (fun ls hl => ?_)
    obtain ⟨K9_21, hK9_21, hZ9⟩ := lp_gen hZ9
    have lp9 : ∀ (fu7 i6 : Nat)  (L10 : Nat → Int64) (I11 : Nat → Int32) (si12 : Nat → Nat → Int32) (H : Heap) (locs : List Loc) (ls : Array Slot), n < i6 + fu7 → i6 ≤ n → InvX n cap fE sd dl (b) I11 J si12 → (∀ j9 : Nat, j9 ∉ ([1] : List Nat) → L10 j9 = L j9) → (∀ j9 : Nat, j9 ∉ ([2] : List Nat) → I11 j9 = I j9) → (∀ s9 q9 : Nat, q9 ∉ ([31, 32, 33, 34] : List Nat) → si12 s9 q9 = si s9 q9) → RES = f_y_readLetters_21 n dl sa x3 fu7 i6  L10 I11 si12 K9_21 → va_P (dC, dI) vwCl (xW h a e cI cJ cO cE L10 I11 M J n cap fE sd si12 sa dl) H → va_D A (xW h a e cI cJ cO cE L10 I11 M J n cap fE sd si12 sa dl) → va_S A s.heap H locs → lv_has ls 5 [(3, .int (nI i6)), (1, .long x3), (0, .ref h)] → W p l e9 (headSpec wq_y_readLetters rm_y_readLetters).room s m ([.ref h] : List Value).toArray below meth c H locs 0 0 Q0 (F0 m 21 ls []) := by
      intro fu7
      induction fu7 with
      | zero =>
        intro i6  L10 I11 si12 H locs ls hf hi
        exact absurd hf (by omega)
      | succ fu7 ih8 =>
        intro i6  L10 I11 si12 H locs ls hfi6 hii6 hX hUL hUI hUsi hZ9 hP hD hS hl
        rw [f_y_readLetters_21] at hZ9
        refine lv_iload_n hx hb dX8_readLetters_21 rfl (lv_at hl 0 rfl) ?_
        refine lv_aload_n hx hb dX8_readLetters_22 rfl (lv_at hl 2 rfl) ?_
        refine va_get (D := (dC, dI)) (ci := 9) (v := .ref (a 0)) (C := RX8) (T := TX8) (N := 14) hx hb hts in_y_readLetters_X8 hown hK hP 0 rfl rfl 0 (by decide) (hts (.fieldLink RX8 10 "ServiceTree" "services" "Ljava/util/ArrayList;") (by decide +kernel)) (fun _ h9 => h9) rfl dX8_readLetters_23 ?_
        have hFc := mw_free hD hS hA
        refine va_calli (va_runV (As := []) (rest := [.int (nI i6)]) ⟨hx, hb, hml, hown, hts⟩ (c_y_size l dC dI h a e cI cJ cO cE L10 I11 M J n cap fE sd si12 sa dl (b)  H.size hX (by omega) ) (cwV 0 hts wc_y_readLetters_y_size_61 rfl rfl rfl (by decide +kernel) ⟨Nat.le_of_ble_eq_true rfl, Nat.le_of_ble_eq_true rfl⟩) ⟨fun a9 U g mk q => by obtain ⟨q0, q1, qP, qK, qD, qN⟩ := q; exact ⟨q0, q1, qP, va_K.moved (u := U) (U := U.calling g mk a9) (Vm.Alike.refl U.vm) qK, qD, pw_N.same (u := U) (U := U.calling g mk a9) rfl qN⟩, va_recv hK hP (ci := 0) (q0 := 1) rfl rfl, fun U hU hW => ⟨rfl, by rw [hU], by rw [hU]; exact hP, va_K.moved hW.alike hK, hD.weaken (fun _ _ _ _ => trivial), pw_N.warm hW hN⟩⟩ rfl rfl hl.1 rfl (lv_room (Nat.le_of_ble_eq_true rfl)) dX8_readLetters_26 ⟨Nat.le_of_ble_eq_true rfl, Nat.le_of_ble_eq_true rfl⟩) hS (fun q _ h => hFc q h) hFc (fun r13 u t H1 locs ht hvm hw hB hz1 hk1 hS => ?_)
        replace hP := hB.1
        rw [ht] at hP
        replace hD : va_D A (xW h a e cI cJ cO cE L10 I11 M J n cap fE sd si12 sa dl) := hB.2.weaken (fun _ q _ h9 => hFc q.1 h9)
        clear hB
        generalize H1 = H at hP hS ⊢
        replace hP : va_P (dC, dI) vwCl (xW h a e cI cJ cO cE L10 I11 M J n cap fE sd si12 sa dl) H := hP
        obtain rfl : r13 = nI n := hw
        refine lv_icmp_ge (tgt := 102) hx hb dX8_readLetters_29 (by decide) (fun c14 => ?_) (fun c14 => ?_)
        · replace c14 : n ≤ i6 := (nI_leI (a := n) (b := i6) (by omega) (by omega)).mp c14
          replace hZ9 := ite_t hZ9 c14
          replace hZ9 := lp_app4 hK9_21 hZ9
          rw [hQ]
          exact W.vret hx hb hr (fun t ht hW => ⟨⟨(L10, I11, si12), rfl, ⟨hX.mono (by omega), hUL, hUI, hUsi, hZ9.symm.trans hR0⟩, by rw [ht]; exact hP, hD⟩, hS.F ht⟩) hS.2.2 dX8_readLetters_102
        · replace c14 : ¬ (n ≤ i6) := fun q9 => c14 ((nI_leI (a := n) (b := i6) (by omega) (by omega)).mpr q9)
          replace hZ9 := ite_f hZ9 c14
          refine lv_lload_n hx hb dX8_readLetters_32 rfl (lv_at hl 1 rfl) ?_
          refine lv_iload_n hx hb dX8_readLetters_33 rfl (lv_at hl 0 rfl) ?_
          have hFc := mw_free hD hS hA
          refine va_calli (va_runS (As := [.long x3, .int (nI i6)]) (rest := []) ⟨hx, hb, hml, hown, hts⟩ (c_y_holds l dC dI h a e cI cJ cO cE L10 I11 M J n cap fE sd si12 sa dl (b) x3 i6 H.size hX (by omega) ) (va_cwS 2 hts wc_y_readLetters_y_holds_114 rfl rfl rfl (by decide +kernel) ⟨Nat.le_of_ble_eq_true rfl, Nat.le_of_ble_eq_true rfl⟩) ⟨fun a9 U g mk q => by obtain ⟨q0, q1, qP, qK, qD, qN⟩ := q; exact ⟨q0, q1, qP, va_K.moved (u := U) (U := U.calling g mk a9) (Vm.Alike.refl U.vm) qK, qD, pw_N.same (u := U) (U := U.calling g mk a9) rfl qN⟩, fun U hU hW => ⟨rfl, by rw [hU], by rw [hU]; exact hP, va_K.moved hW.alike hK, hD.weaken (fun _ _ _ _ => trivial), pw_N.warm hW hN⟩⟩ rfl rfl hl.1 rfl (lv_room (Nat.le_of_ble_eq_true rfl)) dX8_readLetters_34 ⟨Nat.le_of_ble_eq_true rfl, Nat.le_of_ble_eq_true rfl⟩) hS (fun q _ h => hFc q h) hFc (fun r15 u t H1 locs ht hvm hw hB hz1 hk1 hS => ?_)
          replace hP := hB.1
          rw [ht] at hP
          replace hD : va_D A (xW h a e cI cJ cO cE L10 I11 M J n cap fE sd si12 sa dl) := hB.2.weaken (fun _ q _ h9 => hFc q.1 h9)
          clear hB
          generalize H1 = H at hP hS ⊢
          replace hP : va_P (dC, dI) vwCl (xW h a e cI cJ cO cE L10 I11 M J n cap fE sd si12 sa dl) H := hP
          obtain ⟨hw, hwe⟩ := hw
          replace hw : r15 = f_y_holds n dl x3 i6  := hw
          replace hZ9 := bnd_s hZ9 hw
          have br15 := hwe
          refine lv_if_eq (tgt := 96) hx hb dX8_readLetters_37 (by decide) (fun c16 => ?_) (fun c16 => ?_)
          · replace hZ9 := ite_t hZ9 c16
            refine lv_iinc (v := (nI (i6 + 1))) (lv' := [(3, .int (nI (i6 + 1))), (1, .long x3), (0, .ref h)]) hx hb dX8_readLetters_96 hl (k := 0) rfl (nI_add i6 1) (by decide) rfl (fun ls hl => ?_)
            refine lv_goto (tgt := 21) hx hb dX8_readLetters_99 (by decide) ?_
            exact ih8 (i6 + 1)  L10 I11 si12 _ _ _ (by omega) (by omega) (hX.mono (by omega)) hUL hUI hUsi  hZ9 hP hD hS (lv_sub hl [0, 1, 2] rfl)
          · replace hZ9 := ite_f hZ9 c16
            refine lv_aload_n hx hb dX8_readLetters_40 rfl (lv_at hl 2 rfl) ?_
            refine va_get (D := (dC, dI)) (ci := 9) (v := .ref (a 0)) (C := RX8) (T := TX8) (N := 14) hx hb hts in_y_readLetters_X8 hown hK hP 0 rfl rfl 0 (by decide) (hts (.fieldLink RX8 10 "ServiceTree" "services" "Ljava/util/ArrayList;") (by decide +kernel)) (fun _ h9 => h9) rfl dX8_readLetters_41 ?_
            refine lv_iload_n hx hb dX8_readLetters_44 rfl (lv_at hl 0 rfl) ?_
            have hFc := mw_free hD hS hA
            refine va_callr (va_runV (As := [.int (nI i6)]) (rest := []) ⟨hx, hb, hml, hown, hts⟩ (c_x_get l dC dI h a e cI cJ cO cE L10 I11 M J n cap fE sd si12 sa dl (b) i6 H.size hX (by omega) (by omega)) (cwV 1 hts wc_y_readLetters_x_get_86 rfl rfl rfl (by decide +kernel) ⟨Nat.le_of_ble_eq_true rfl, Nat.le_of_ble_eq_true rfl⟩) ⟨fun a9 U g mk q => by obtain ⟨q0, q1, qP, qK, qD, qN⟩ := q; exact ⟨q0, q1, qP, va_K.moved (u := U) (U := U.calling g mk a9) (Vm.Alike.refl U.vm) qK, qD, pw_N.same (u := U) (U := U.calling g mk a9) rfl qN⟩, va_recv hK hP (ci := 0) (q0 := 1) rfl rfl, fun U hU hW => ⟨rfl, by rw [hU], by rw [hU]; exact hP, va_K.moved hW.alike hK, hD.weaken (fun _ _ _ _ => trivial), pw_N.warm hW hN⟩⟩ rfl rfl hl.1 rfl (lv_room (Nat.le_of_ble_eq_true rfl)) dX8_readLetters_45 ⟨Nat.le_of_ble_eq_true rfl, Nat.le_of_ble_eq_true rfl⟩) hS (fun q _ h => hFc q h) hFc (fun u r17 t H1 locs ht hvm hw hB hz1 hk1 hS => ?_)
            obtain ⟨hra, hB⟩ := hB
            replace hP := hB.1
            rw [ht] at hP
            replace hD : va_D A (xW h a e cI cJ cO cE L10 I11 M J n cap fE sd si12 sa dl) := hB.2.weaken (fun _ q _ h9 => hFc q.1 h9)
            clear hB
            generalize H1 = H at hP hS ⊢
            replace hP : va_P (dC, dI) vwCl (xW h a e cI cJ cO cE L10 I11 M J n cap fE sd si12 sa dl) H := hP
            subst hra
            refine va_castS hx hb hown (hts (.classLink RX8 65 RX7) (by decide +kernel)) (hK.1 8 _ rfl).2 (va_recv hK hP (ci := 8) (q0 := (22 + (6 * i6 + 0))) rfl (xAt_0 h a e cI cJ cO cE L10 I11 M J n cap fE sd si12 sa dl (s := i6) (by omega))) dX8_readLetters_48 ?_
            refine va_getN (D := (dC, dI)) (ci := 8) (v := .ref (sd i6 4)) (C := RX7) (T := TX7) (N := 12) hx hb hts in_y_readLetters_X7 hown hK hP (22 + (6 * i6 + 0)) (xAt_0 h a e cI cJ cO cE L10 I11 M J n cap fE sd si12 sa dl (s := i6) (by omega)) rfl 5 (by decide) (va_Nw.use rfl (hN (.fieldLinkNest RX8 142 "ServiceTree$Service" "door" "LServiceTree$Door;" "ServiceTree") (by decide +kernel))) (fun _ h9 => h9) rfl dX8_readLetters_51 ?_
            refine lv_astore (lv' := [(4, .ref (sd i6 4)), (3, .int (nI i6)), (1, .long x3), (0, .ref h)]) hx hb dX8_readLetters_54 hl (by decide) rfl (fun ls hl => ?_)
            refine lv_aload hx hb dX8_readLetters_56 (lv_at hl 0 rfl) ?_
            have hFc := mw_free hD hS hA
            refine va_callv (va_runV (As := []) (rest := []) ⟨hx, hb, hml, hown, hts⟩ (c_y_readFirst l dC dI h a e cI cJ cO cE L10 I11 M J n cap fE sd si12 sa dl (b) i6 H.size hX (by omega) (by omega)) (cwV 0 hts wc_y_readLetters_y_readFirst_338 rfl rfl rfl (by decide +kernel) ⟨Nat.le_of_ble_eq_true rfl, Nat.le_of_ble_eq_true rfl⟩) ⟨fun a9 U g mk q => by obtain ⟨q0, q1, qP, qK, qD, qN⟩ := q; exact ⟨q0, q1, qP, va_K.moved (u := U) (U := U.calling g mk a9) (Vm.Alike.refl U.vm) qK, qD, pw_N.same (u := U) (U := U.calling g mk a9) rfl qN⟩, va_recv hK hP (ci := 1) (q0 := (22 + (6 * i6 + 4))) rfl (xAt_4 h a e cI cJ cO cE L10 I11 M J n cap fE sd si12 sa dl (s := i6) (by omega)), fun U hU hW => ⟨rfl, by rw [hU], by rw [hU]; exact hP, va_K.moved hW.alike hK, hD.weaken (fun _ _ _ _ => trivial), pw_N.warm hW hN⟩⟩ rfl rfl hl.1 rfl (lv_room (Nat.le_of_ble_eq_true rfl)) dX8_readLetters_58 ⟨Nat.le_of_ble_eq_true rfl, Nat.le_of_ble_eq_true rfl⟩) hS (fun q _ h => hFc q h) hFc (fun u t H1 locs ht hvm hw hB hz1 hk1 hS => ?_)
            obtain ⟨si19, rfl⟩ : ∃ z9, z9 = u := ⟨_, rfl⟩
            replace hP := hB.1
            rw [ht] at hP
            replace hD : va_D A (xW h a e cI cJ cO cE L10 I11 M J n cap fE sd si19 sa dl) := hB.2.weaken (fun _ q _ h9 => hFc q.1 h9)
            clear hB
            generalize H1 = H at hP hS ⊢
            replace hP : va_P (dC, dI) vwCl (xW h a e cI cJ cO cE L10 I11 M J n cap fE sd si19 sa dl) H := hP
            obtain ⟨hwX, whUsi, hw⟩ := hw
            replace hX : InvX n cap fE sd dl (b) I11 J si19 := hwX
            replace hUsi : ∀ s9 q9 : Nat, q9 ∉ ([31, 32, 33, 34] : List Nat) → si19 s9 q9 = si s9 q9 := xw_tr2 (by decide) whUsi hUsi
            replace hw : si19 = f_y_readFirst n dl i6 si12 sa := hw
            replace hZ9 := bnd_s hZ9 hw
            refine lv_aload_n hx hb dX8_readLetters_61 rfl (lv_at hl 3 rfl) ?_
            refine lv_dup hx hb dX8_readLetters_62 rfl ?_
            refine va_get (D := (dC, dI)) (ci := 9) (v := .int (I11 2)) (C := RX8) (T := TX8) (N := 14) hx hb hts in_y_readLetters_X8 hown hK hP 0 rfl rfl 11 (by decide) (hts (.fieldLink RX8 195 "ServiceTree" "lettersRead" "I") (by decide +kernel)) (fun _ h9 => h9) rfl dX8_readLetters_63 ?_
            refine lv_topi (fun x20 ex20 => ?_)
            replace hZ9 := bnd_s hZ9 ex20
            refine lv_iconst (v := 1) hx hb dX8_readLetters_66 (by decide) ?_
            refine lv_iadd hx hb dX8_readLetters_67 ?_
            refine lv_topi (fun x21 ex21 => ?_)
            replace hZ9 := bnd_s hZ9 ex21
            refine va_put (D := (dC, dI)) (ci := 9) (fs := [.ref (a 0), .ref (a 1), .ref (a 2), .ref (a 3), .ref (a 4), .ref (a 5), .ref (a 6), .long (L10 0), .long (L10 1), .int (I11 0), .int (I11 1), .int (I11 2), .int (I11 3), .int (I11 4)]) (v := .int x21) (ty := .int) (C := RX8) (T := TX8) (N := 14) hx hb hts in_y_readLetters_X8 tyX8 tyX8_ok nmX8 hown hK hP hD hS 0 rfl rfl 11 (by decide) (hts (.fieldLink RX8 195 "ServiceTree" "lettersRead" "I") (by decide +kernel)) (fun _ h9 => h9) rfl (by decide +kernel) rfl rfl (Nat.le_of_ble_eq_true rfl) dX8_readLetters_68 (fun H locs hP hD hS => ?_)
            replace hP : va_P (dC, dI) vwCl ((xW h a e cI cJ cO cE L10 I11 M J n cap fE sd si19 sa dl).set 0 (h, .inr (9, [.ref (a 0), .ref (a 1), .ref (a 2), .ref (a 3), .ref (a 4), .ref (a 5), .ref (a 6), .long (L10 0), .long (L10 1), .int (I11 0), .int (I11 1), .int x21, .int (I11 3), .int (I11 4)]))) H := hP
            replace hD : va_D A ((xW h a e cI cJ cO cE L10 I11 M J n cap fE sd si19 sa dl).set 0 (h, .inr (9, [.ref (a 0), .ref (a 1), .ref (a 2), .ref (a 3), .ref (a 4), .ref (a 5), .ref (a 6), .long (L10 0), .long (L10 1), .int (I11 0), .int (I11 1), .int x21, .int (I11 3), .int (I11 4)]))) := hD
            rw [xF_I2] at hP hD
            obtain ⟨I22, eI22⟩ : ∃ f9 : Nat → Int32, f9 = va_up I11 2 x21 := ⟨_, rfl⟩
            rw [← eI22] at hP hD
            replace hZ9 := bnd_s hZ9 eI22
            replace hX : InvX n cap fE sd dl (b) I22 J si19 := by rw [eI22]; exact hX.setI (by decide)
            replace hUI : ∀ j9 : Nat, j9 ∉ ([2] : List Nat) → I22 j9 = I j9 := by rw [eI22]; exact mw_up (by decide) hUI
            refine lv_aload hx hb dX8_readLetters_71 (lv_at hl 0 rfl) ?_
            refine va_getN (D := (dC, dI)) (ci := 1) (v := .int (si19 i6 32)) (C := RX0) (T := TX0) (N := 5) hx hb hts in_y_readLetters_X0 hown hK hP (22 + (6 * i6 + 4)) (xAt_4 h a e cI cJ cO cE L10 I22 M J n cap fE sd si19 sa dl (s := i6) (by omega)) rfl 2 (by decide) (va_Nw.use rfl (hN (.fieldLinkNest RX8 182 "ServiceTree$Door" "size" "I" "ServiceTree") (by decide +kernel))) (fun _ h9 => h9) rfl dX8_readLetters_73 ?_
            obtain ⟨hdz23, z23, hz23, ez23⟩ := hX.2.2.2.2.2.2.1 i6
            refine p1_topr (v := .int (nI z23)) (congrArg Value.int ez23) ?_
            have hdlz23 := (hX.2.2.2.2.2.2.1 i6).1
            replace hZ9 := bnd_s hZ9 (show z23 = (si19 i6 32).toNatClampNeg by rw [ez23, nI_clamp (by omega)])
            refine lv_if_ne (tgt := 96) hx hb dX8_readLetters_76 (by decide) (fun c24 => ?_) (fun c24 => ?_)
            · replace c24 : ¬ (z23 = 0) := fun q9 => c24 ((nI_eq (a := z23) (b := 0) (by omega) (by omega)).mpr q9)
              replace hZ9 := ite_f hZ9 c24
              refine lv_iinc (v := (nI (i6 + 1))) (lv' := [(3, .int (nI (i6 + 1))), (4, .ref (sd i6 4)), (1, .long x3), (0, .ref h)]) hx hb dX8_readLetters_96 hl (k := 1) rfl (nI_add i6 1) (by decide) rfl (fun ls hl => ?_)
              refine lv_goto (tgt := 21) hx hb dX8_readLetters_99 (by decide) ?_
              exact ih8 (i6 + 1)  L10 I22 si19 _ _ _ (by omega) (by omega) (hX.mono (by omega)) hUL hUI hUsi  hZ9 hP hD hS (lv_sub hl [0, 2, 3] rfl)
            · replace c24 : z23 = 0 := (nI_eq (a := z23) (b := 0) (by omega) (by omega)).mp c24
              replace hZ9 := ite_t hZ9 c24
              refine lv_aload_n hx hb dX8_readLetters_79 rfl (lv_at hl 3 rfl) ?_
              refine lv_dup hx hb dX8_readLetters_80 rfl ?_
              refine va_get (D := (dC, dI)) (ci := 9) (v := .long (L10 1)) (C := RX8) (T := TX8) (N := 14) hx hb hts in_y_readLetters_X8 hown hK hP 0 rfl rfl 8 (by decide) (hts (.fieldLink RX8 158 "ServiceTree" "withLetters" "J") (by decide +kernel)) (fun _ h9 => h9) rfl dX8_readLetters_81 ?_
              refine lv_topl (fun x25 ex25 => ?_)
              replace hZ9 := bnd_s hZ9 ex25
              refine lv_iload_n hx hb dX8_readLetters_84 rfl (lv_at hl 1 rfl) ?_
              have hFc := mw_free hD hS hA
              refine va_calll (va_runS (As := [.int (nI i6)]) (rest := [.long x25, .ref h]) ⟨hx, hb, hml, hown, hts⟩ (c_y_only l dC dI h a e cI cJ cO cE L10 I22 M J n cap fE sd si19 sa dl (b) i6 H.size hX (by omega) ) (va_cwS 1 hts wc_y_readLetters_y_only_78 rfl rfl rfl (by decide +kernel) ⟨Nat.le_of_ble_eq_true rfl, Nat.le_of_ble_eq_true rfl⟩) ⟨fun a9 U g mk q => by obtain ⟨q0, q1, qP, qK, qD, qN⟩ := q; exact ⟨q0, q1, qP, va_K.moved (u := U) (U := U.calling g mk a9) (Vm.Alike.refl U.vm) qK, qD, pw_N.same (u := U) (U := U.calling g mk a9) rfl qN⟩, fun U hU hW => ⟨rfl, by rw [hU], by rw [hU]; exact hP, va_K.moved hW.alike hK, hD.weaken (fun _ _ _ _ => trivial), pw_N.warm hW hN⟩⟩ rfl rfl hl.1 rfl (lv_room (Nat.le_of_ble_eq_true rfl)) dX8_readLetters_85 ⟨Nat.le_of_ble_eq_true rfl, Nat.le_of_ble_eq_true rfl⟩) hS (fun q _ h => hFc q h) hFc (fun r26 u t H1 locs ht hvm hw hB hz1 hk1 hS => ?_)
              replace hP := hB.1
              rw [ht] at hP
              replace hD : va_D A (xW h a e cI cJ cO cE L10 I22 M J n cap fE sd si19 sa dl) := hB.2.weaken (fun _ q _ h9 => hFc q.1 h9)
              clear hB
              generalize H1 = H at hP hS ⊢
              replace hP : va_P (dC, dI) vwCl (xW h a e cI cJ cO cE L10 I22 M J n cap fE sd si19 sa dl) H := hP
              replace hw : r26 = f_y_only n dl i6  := hw
              replace hZ9 := bnd_s hZ9 hw
              refine lv_ldc2 (v := (-1)) hx hb hown (hts (.constantLong RX8 238 (-1)) (by decide +kernel)) dX8_readLetters_88 ?_
              refine lv_lxor hx hb dX8_readLetters_91 ?_
              refine lv_topl (fun x27 ex27 => ?_)
              replace hZ9 := bnd_s hZ9 ex27
              refine lv_land hx hb dX8_readLetters_92 ?_
              refine lv_topl (fun x28 ex28 => ?_)
              replace hZ9 := bnd_s hZ9 ex28
              refine va_put (D := (dC, dI)) (ci := 9) (fs := [.ref (a 0), .ref (a 1), .ref (a 2), .ref (a 3), .ref (a 4), .ref (a 5), .ref (a 6), .long (L10 0), .long (L10 1), .int (I22 0), .int (I22 1), .int (I22 2), .int (I22 3), .int (I22 4)]) (v := .long x28) (ty := .long) (C := RX8) (T := TX8) (N := 14) hx hb hts in_y_readLetters_X8 tyX8 tyX8_ok nmX8 hown hK hP hD hS 0 rfl rfl 8 (by decide) (hts (.fieldLink RX8 158 "ServiceTree" "withLetters" "J") (by decide +kernel)) (fun _ h9 => h9) rfl (by decide +kernel) rfl rfl (Nat.le_of_ble_eq_true rfl) dX8_readLetters_93 (fun H locs hP hD hS => ?_)
              replace hP : va_P (dC, dI) vwCl ((xW h a e cI cJ cO cE L10 I22 M J n cap fE sd si19 sa dl).set 0 (h, .inr (9, [.ref (a 0), .ref (a 1), .ref (a 2), .ref (a 3), .ref (a 4), .ref (a 5), .ref (a 6), .long (L10 0), .long x28, .int (I22 0), .int (I22 1), .int (I22 2), .int (I22 3), .int (I22 4)]))) H := hP
              replace hD : va_D A ((xW h a e cI cJ cO cE L10 I22 M J n cap fE sd si19 sa dl).set 0 (h, .inr (9, [.ref (a 0), .ref (a 1), .ref (a 2), .ref (a 3), .ref (a 4), .ref (a 5), .ref (a 6), .long (L10 0), .long x28, .int (I22 0), .int (I22 1), .int (I22 2), .int (I22 3), .int (I22 4)]))) := hD
              rw [xF_L1] at hP hD
              obtain ⟨L29, eL29⟩ : ∃ f9 : Nat → Int64, f9 = va_up L10 1 x28 := ⟨_, rfl⟩
              rw [← eL29] at hP hD
              replace hZ9 := bnd_s hZ9 eL29
              replace hUL : ∀ j9 : Nat, j9 ∉ ([1] : List Nat) → L29 j9 = L j9 := by rw [eL29]; exact mw_up (by decide) hUL
              refine lv_iinc (v := (nI (i6 + 1))) (lv' := [(3, .int (nI (i6 + 1))), (4, .ref (sd i6 4)), (1, .long x3), (0, .ref h)]) hx hb dX8_readLetters_96 hl (k := 1) rfl (nI_add i6 1) (by decide) rfl (fun ls hl => ?_)
              refine lv_goto (tgt := 21) hx hb dX8_readLetters_99 (by decide) ?_
              exact ih8 (i6 + 1)  L29 I22 si19 _ _ _ (by omega) (by omega) (hX.mono (by omega)) hUL hUI hUsi  hZ9 hP hD hS (lv_sub hl [0, 2, 3] rfl)
    exact lp9 (n + 1) 0  L I si _ _ _ (by omega) (by omega) (hX.mono (by omega)) hUL hUI hUsi  hZ9 hP hD hS hl
  · replace hZ9 := ite_t hZ9 c5
    rw [hQ]
    exact W.vret hx hb hr (fun t ht hW => ⟨⟨(L, I, si), rfl, ⟨hX.mono (by omega), hUL, hUI, hUsi, hZ9.symm.trans hR0⟩, by rw [ht]; exact hP, hD⟩, hS.F ht⟩) hS.2.2 dX8_readLetters_18
def f_y_passTick_44 (n : Nat) (dl : Nat → Nat) (x10 : Int64) : Nat → Nat → (Nat → Int64) → (Nat → Int32) → (Nat → Nat → Int64) → (Nat → Nat → Int32) → (Nat → Nat → Nat → Int32) → (Nat → (Nat → Int64) → (Nat → Int32) → (Nat → Nat → Int64) → (Nat → Nat → Int32) → (Nat → Nat → Nat → Int32) → (Nat → Int64) × (Nat → Int32) × (Nat → Nat → Int64) × (Nat → Nat → Int32) × (Nat → Nat → Nat → Int32)) → (Nat → Int64) × (Nat → Int32) × (Nat → Nat → Int64) × (Nat → Nat → Int32) × (Nat → Nat → Nat → Int32)
  | 0, i29, L33, I34, M35, si36, sa37, K9_44 => K9_44 i29  L33 I34 M35 si36 sa37
  | fu30 + 1, i29, L33, I34, M35, si36, sa37, K9_44 => if n ≤ i29 then (K9_44 i29 L33 I34 M35 si36 sa37) else (bnd (f_y_holds n dl x10 i29 ) (fun (r56 : Int32) => if r56 = (0 : Int32) then (f_y_passTick_44 n dl x10 fu30 (i29 + 1)  L33 I34 M35 si36 sa37 K9_44) else (bnd (I34 0) (fun (x59 : Int32) => bnd (f_y_isDue n dl i29 x59 si36) (fun (r60 : Int32) => if r60 = (0 : Int32) then (f_y_passTick_44 n dl x10 fu30 (i29 + 1)  L33 I34 M35 si36 sa37 K9_44) else (bn5 (f_y_passDueTime n dl i29 L33 I34 M35 si36 sa37) (fun (L63 : Nat → Int64) (I64 : Nat → Int32) (M65 : Nat → Nat → Int64) (si66 : Nat → Nat → Int32) (sa67 : Nat → Nat → Nat → Int32) => f_y_passTick_44 n dl x10 fu30 (i29 + 1)  L63 I64 M65 si66 sa67 K9_44)))))))
def f_y_passTick (n : Nat) (dl : Nat → Nat)  (L : Nat → Int64) (I : Nat → Int32) (M : Nat → Nat → Int64) (si : Nat → Nat → Int32) (sa : Nat → Nat → Nat → Int32) : (Nat → Int64) × (Nat → Int32) × (Nat → Nat → Int64) × (Nat → Nat → Int32) × (Nat → Nat → Nat → Int32) := bnd (I 0) (fun (x1 : Int32) => bnd (x1 + (1 : Int32)) (fun (x2 : Int32) => bnd (va_up I 0 x2) (fun (I3 : Nat → Int32) => bnd (M 9 (nI 1).toNatClampNeg) (fun (x4 : Int64) => bnd (M 9 (nI 3).toNatClampNeg) (fun (x5 : Int64) => bnd (x4 ||| x5) (fun (x6 : Int64) => bnd (M 9 (nI 5).toNatClampNeg) (fun (x7 : Int64) => bnd (x6 ||| x7) (fun (x8 : Int64) => bnd (L 0) (fun (x9 : Int64) => bnd (x8 ||| x9) (fun (x10 : Int64) => bnd (lg_cmp x10 (0 : Int64)) (fun (x11 : Int32) => if x11 = (0 : Int32) then (bn5 (f_y_stopTheLacking n dl  L I3 M si sa) (fun (L14 : Nat → Int64) (I15 : Nat → Int32) (M16 : Nat → Nat → Int64) (si17 : Nat → Nat → Int32) (sa18 : Nat → Nat → Nat → Int32) => bn3 (f_y_readLetters n dl  L14 I15 M16 si17 sa18) (fun (L20 : Nat → Int64) (I21 : Nat → Int32) (si22 : Nat → Nat → Int32) => bn5 (f_y_beginJobs n dl  L20 I21 M16 si22 sa18) (fun (L24 : Nat → Int64) (I25 : Nat → Int32) (M26 : Nat → Nat → Int64) (si27 : Nat → Nat → Int32) (sa28 : Nat → Nat → Nat → Int32) => (L24, I25, M26, si27, sa28))))) else (f_y_passTick_44 n dl x10 (n + 1) 0  L I3 M si sa (fun (i29 : Nat) (L33 : Nat → Int64) (I34 : Nat → Int32) (M35 : Nat → Nat → Int64) (si36 : Nat → Nat → Int32) (sa37 : Nat → Nat → Nat → Int32) => bn5 (f_y_stopTheLacking n dl  L33 I34 M35 si36 sa37) (fun (L41 : Nat → Int64) (I42 : Nat → Int32) (M43 : Nat → Nat → Int64) (si44 : Nat → Nat → Int32) (sa45 : Nat → Nat → Nat → Int32) => bn3 (f_y_readLetters n dl  L41 I42 M43 si44 sa45) (fun (L47 : Nat → Int64) (I48 : Nat → Int32) (si49 : Nat → Nat → Int32) => bn5 (f_y_beginJobs n dl  L47 I48 M43 si49 sa45) (fun (L51 : Nat → Int64) (I52 : Nat → Int32) (M53 : Nat → Nat → Int64) (si54 : Nat → Nat → Int32) (sa55 : Nat → Nat → Nat → Int32) => (L51, I52, M53, si54, sa55)))))))))))))))))
def wq_y_passTick : List Cond := ([.code yX8_passTick cX8_passTick 4 none, .fieldLink RX8 67 "ServiceTree" "now" "I", .fieldLink RX8 53 "ServiceTree" "inState" "[J", .fieldLink RX8 311 "ServiceTree" "living" "J", .fieldLink RX8 10 "ServiceTree" "services" "Ljava/util/ArrayList;", .classLink RX8 65 RX7, .methodLink RX8 317 yX8_stopTheLacking, .instanceMethod yX8_stopTheLacking, .selects RX8 yX8_stopTheLacking yX8_stopTheLacking, .initialized RX8, .methodLink RX8 320 yX8_readLetters, .instanceMethod yX8_readLetters, .selects RX8 yX8_readLetters yX8_readLetters, .methodLink RX8 260 yX8_beginJobs, .instanceMethod yX8_beginJobs, .selects RX8 yX8_beginJobs yX8_beginJobs, .methodLink RX8 61 yJx4a65c_size_8abf5, .instanceMethod yJx4a65c_size_8abf5, .selects RJx4a65c yJx4a65c_size_8abf5 yJx4a65c_size_8abf5, .initialized RJx4a65c, .methodLink RX8 114 yX8_holds, .static yX8_holds, .methodLink RX8 86 yJx4a65c_get_915e3, .instanceMethod yJx4a65c_get_915e3, .selects RJx4a65c yJx4a65c_get_915e3 yJx4a65c_get_915e3, .methodLink RX8 283 yX7_isDue, .instanceMethod yX7_isDue, .selects RX7 yX7_isDue yX7_isDue, .initialized RX7, .methodLink RX8 314 yX8_passDueTime, .instanceMethod yX8_passDueTime, .selects RX8 yX8_passDueTime yX8_passDueTime] : List Cond) ++ (wsX80 ++ (wq_y_stopTheLacking ++ (wq_y_readLetters ++ (wq_y_beginJobs ++ (wq_y_size ++ (wq_y_holds ++ (wq_x_get ++ (wq_y_isDue ++ (wq_y_passDueTime)))))))))
theorem in_y_passTick_X8 : ∀ w ∈ wsX80, w ∈ wq_y_passTick := fun _ h => List.mem_append_right _ (List.mem_append_left _ (h))
set_option maxRecDepth 20000 in
theorem wi_y_passTick : ∀ w ∈ wq_y_passTick, w ∈ lw_tbl := List.forall_mem_append.mpr ⟨(wix [684, 233, 230, 231, 224, 278, 717, 719, 25, 60, 725, 727, 27, 630, 632, 15, 274, 275, 276, 63, 487, 488, 453, 454, 455, 685, 686, 687, 70, 693, 695, 21] rfl), List.forall_mem_append.mpr ⟨inKX8, List.forall_mem_append.mpr ⟨wi_y_stopTheLacking, List.forall_mem_append.mpr ⟨wi_y_readLetters, List.forall_mem_append.mpr ⟨wi_y_beginJobs, List.forall_mem_append.mpr ⟨wi_y_size, List.forall_mem_append.mpr ⟨wi_y_holds, List.forall_mem_append.mpr ⟨wi_x_get, List.forall_mem_append.mpr ⟨wi_y_isDue, wi_y_passDueTime⟩⟩⟩⟩⟩⟩⟩⟩⟩
set_option maxRecDepth 20000 in
theorem wg_y_passTick : GoodIn wq_y_passTick wq_y_passTick := goodIn_sub (fun _ h => h) (by decide +kernel)
set_option maxRecDepth 20000 in
theorem wc_y_passTick_y_stopTheLacking_317 : GoodIn wq_y_passTick (wsV RX8 317 RX8 yX8_stopTheLacking wq_y_stopTheLacking) := goodIn_app (goodIn_of _ (by decide +kernel)) (fun w h => ⟨List.mem_append_right _ (List.mem_append_right _ (List.mem_append_left _ (h))), (wg_y_stopTheLacking w h).2⟩)
set_option maxRecDepth 20000 in
theorem wc_y_passTick_y_readLetters_320 : GoodIn wq_y_passTick (wsV RX8 320 RX8 yX8_readLetters wq_y_readLetters) := goodIn_app (goodIn_of _ (by decide +kernel)) (fun w h => ⟨List.mem_append_right _ (List.mem_append_right _ (List.mem_append_right _ (List.mem_append_left _ (h)))), (wg_y_readLetters w h).2⟩)
set_option maxRecDepth 20000 in
theorem wc_y_passTick_y_beginJobs_260 : GoodIn wq_y_passTick (wsV RX8 260 RX8 yX8_beginJobs wq_y_beginJobs) := goodIn_app (goodIn_of _ (by decide +kernel)) (fun w h => ⟨List.mem_append_right _ (List.mem_append_right _ (List.mem_append_right _ (List.mem_append_right _ (List.mem_append_left _ (h))))), (wg_y_beginJobs w h).2⟩)
set_option maxRecDepth 20000 in
theorem wc_y_passTick_y_size_61 : GoodIn wq_y_passTick (wsV RX8 61 RJx4a65c yJx4a65c_size_8abf5 wq_y_size) := goodIn_app (goodIn_of _ (by decide +kernel)) (fun w h => ⟨List.mem_append_right _ (List.mem_append_right _ (List.mem_append_right _ (List.mem_append_right _ (List.mem_append_right _ (List.mem_append_left _ (h)))))), (wg_y_size w h).2⟩)
set_option maxRecDepth 20000 in
theorem wc_y_passTick_y_holds_114 : GoodIn wq_y_passTick (va_wsS RX8 114 yX8_holds wq_y_holds) := goodIn_app (goodIn_of _ (by decide +kernel)) (fun w h => ⟨List.mem_append_right _ (List.mem_append_right _ (List.mem_append_right _ (List.mem_append_right _ (List.mem_append_right _ (List.mem_append_right _ (List.mem_append_left _ (h))))))), (wg_y_holds w h).2⟩)
set_option maxRecDepth 20000 in
theorem wc_y_passTick_x_get_86 : GoodIn wq_y_passTick (wsV RX8 86 RJx4a65c yJx4a65c_get_915e3 wq_x_get) := goodIn_app (goodIn_of _ (by decide +kernel)) (fun w h => ⟨List.mem_append_right _ (List.mem_append_right _ (List.mem_append_right _ (List.mem_append_right _ (List.mem_append_right _ (List.mem_append_right _ (List.mem_append_right _ (List.mem_append_left _ (h)))))))), (wg_x_get w h).2⟩)
set_option maxRecDepth 20000 in
theorem wc_y_passTick_y_isDue_283 : GoodIn wq_y_passTick (wsV RX8 283 RX7 yX7_isDue wq_y_isDue) := goodIn_app (goodIn_of _ (by decide +kernel)) (fun w h => ⟨List.mem_append_right _ (List.mem_append_right _ (List.mem_append_right _ (List.mem_append_right _ (List.mem_append_right _ (List.mem_append_right _ (List.mem_append_right _ (List.mem_append_right _ (List.mem_append_left _ (h))))))))), (wg_y_isDue w h).2⟩)
set_option maxRecDepth 20000 in
theorem wc_y_passTick_y_passDueTime_314 : GoodIn wq_y_passTick (wsV RX8 314 RX8 yX8_passDueTime wq_y_passDueTime) := goodIn_app (goodIn_of _ (by decide +kernel)) (fun w h => ⟨List.mem_append_right _ (List.mem_append_right _ (List.mem_append_right _ (List.mem_append_right _ (List.mem_append_right _ (List.mem_append_right _ (List.mem_append_right _ (List.mem_append_right _ (List.mem_append_right _ (h))))))))), (wg_y_passDueTime w h).2⟩)
def rm_y_passTick : Room := { frames := 6, cells := 0, slots := 0, locals := 133 }
set_option maxHeartbeats 4000000 in
set_option maxRecDepth 100000 in
theorem c_y_passTick (l : Launch) (dC : Nat → ClassId) (dI : Nat → Nat → Nat) (h : Nat) (a : Nat → Nat) (e : Nat) (cI cJ cO cE : ClassId) (L : Nat → Int64) (I : Nat → Int32) (M : Nat → Nat → Int64) (J : Nat → Nat → Int32) (n cap : Nat) (fE : Nat → Option Nat) (sd : Nat → Nat → Nat) (si : Nat → Nat → Int32) (sa : Nat → Nat → Nat → Int32) (dl : Nat → Nat) (b : Nat)  (sz : Nat) (hX0 : InvX n cap fE sd dl b I J si) (hb0 : b + 120 < 2147483648)  : Met l yX8_passTick wq_y_passTick rm_y_passTick (va_Pc [.ref h] (fun U => U.heap.size = sz ∧ va_P (dC, dI) vwCl (xW h a e cI cJ cO cE L I M J n cap fE sd si sa dl) U.heap ∧ va_K (dC, dI) vwCl (xT cI cJ cO cE) U ∧ va_D (fun _ => True) (xW h a e cI cJ cO cE L I M J n cap fE sd si sa dl) ∧ pw_N U)) (va_Qv (fun (u : (Nat → Int64) × (Nat → Int32) × (Nat → Nat → Int64) × (Nat → Nat → Int32) × (Nat → Nat → Nat → Int32)) => InvX n cap fE sd dl (b + 120) u.2.1 J u.2.2.2.1 ∧ (∀ j9 : Nat, j9 ∉ ([0, 1, 5, 6, 7] : List Nat) → u.1 j9 = L j9) ∧ (∀ j9 : Nat, j9 ∉ ([0, 2, 4, 12] : List Nat) → u.2.1 j9 = I j9) ∧ (∀ j9 : Nat, j9 ∉ ([8, 9] : List Nat) → u.2.2.1 j9 = M j9) ∧ (∀ s9 q9 : Nat, q9 ∉ ([6, 7, 8, 9, 10, 11, 21, 22, 31, 32, 33, 34] : List Nat) → u.2.2.2.1 s9 q9 = si s9 q9) ∧ (∀ s9 q9 : Nat, q9 ∉ ([3] : List Nat) → u.2.2.2.2 s9 q9 = sa s9 q9) ∧ (u = f_y_passTick n dl  L I M si sa)) (fun (u : (Nat → Int64) × (Nat → Int32) × (Nat → Nat → Int64) × (Nat → Nat → Int32) × (Nat → Nat → Nat → Int32)) (t : State) => va_P (dC, dI) vwCl (xW h a e cI cJ cO cE u.1 u.2.1 u.2.2.1 J n cap fE sd u.2.2.2.1 u.2.2.2.2 dl) t.heap ∧ va_D (va_A (xW h a e cI cJ cO cE L I M J n cap fE sd si sa dl) sz) (xW h a e cI cJ cO cE u.1 u.2.1 u.2.2.1 J n cap fE sd u.2.2.2.1 u.2.2.2.2 dl)) (va_A (xW h a e cI cJ cO cE L I M J n cap fE sd si sa dl) sz)) 0 0 (va_A (xW h a e cI cJ cO cE L I M J n cap fE sd si sa dl) sz) := by
  have hn : n ≤ 40 := hX0.1.1
  have hX := hX0
  have hUL : ∀ j9 : Nat, j9 ∉ ([0, 1, 5, 6, 7] : List Nat) → L j9 = L j9 := fun _ _ => rfl
  have hUI : ∀ j9 : Nat, j9 ∉ ([0, 2, 4, 12] : List Nat) → I j9 = I j9 := fun _ _ => rfl
  have hUM : ∀ j9 : Nat, j9 ∉ ([8, 9] : List Nat) → M j9 = M j9 := fun _ _ => rfl
  have hUsi : ∀ s9 q9 : Nat, q9 ∉ ([6, 7, 8, 9, 10, 11, 21, 22, 31, 32, 33, 34] : List Nat) → si s9 q9 = si s9 q9 := fun _ _ _ => rfl
  have hUsa : ∀ s9 q9 : Nat, q9 ∉ ([3] : List Nat) → sa s9 q9 = sa s9 q9 := fun _ _ _ => rfl
  refine Met.ofW (cc := cX8_passTick) (maxL := 4) (ret := none) (by decide) rfl ?_
  intro p e9 s m args below meth c s₁ B hml hv
  obtain ⟨rfl, hsz, hP, hK, hD0, hN⟩ := hv
  have hx := B.exec
  have hb := B.bytes
  have hr := B.returns
  have hts := atoms_spec (ws := wq_y_passTick) B.pre
  have hown : s.vm.findClass RX8 = some m.cls := findClass_of_methodNamed B.named
  have hlocks := B.notSynchronized
  subst hsz
  have hD := hD0.self (sz := s.heap.size)
  generalize hAe : va_A (xW h a e cI cJ cO cE L I M J n cap fE sd si sa dl) s.heap.size = A at hD ⊢
  have hA : ∀ q : Nat, s.heap.size ≤ q → A q := fun q h => by rw [← hAe]; exact Or.inr h
  have hS : va_S A s.heap s.heap [] := va_S.rf
  have hl := lv_entry ([.ref h]) (n := 4) (Nat.le_of_ble_eq_true rfl)
  rw [lg_entry_eq]
  generalize (lg_sl ([.ref h]) ++ List.replicate (4 - (lg_sl ([.ref h])).length) Slot.unset).toArray = ls at hl ⊢
  have hl : lv_has ls 4 [(0, .ref h)] := hl
  refine mw_Q (fun Q0 hQ => ?_)
  obtain ⟨RES, hR0⟩ : ∃ R9, R9 = f_y_passTick n dl  L I M si sa := ⟨_, rfl⟩
  have hZ9 := hR0
  unfold f_y_passTick at hZ9
  refine lv_aload_n hx hb dX8_passTick_0 rfl (lv_at hl 0 rfl) ?_
  refine lv_dup hx hb dX8_passTick_1 rfl ?_
  refine va_get (D := (dC, dI)) (ci := 9) (v := .int (I 0)) (C := RX8) (T := TX8) (N := 14) hx hb hts in_y_passTick_X8 hown hK hP 0 rfl rfl 9 (by decide) (hts (.fieldLink RX8 67 "ServiceTree" "now" "I") (by decide +kernel)) (fun _ h9 => h9) rfl dX8_passTick_2 ?_
  refine lv_topi (fun x1 ex1 => ?_)
  replace hZ9 := bnd_s hZ9 ex1
  refine lv_iconst (v := 1) hx hb dX8_passTick_5 (by decide) ?_
  refine lv_iadd hx hb dX8_passTick_6 ?_
  refine lv_topi (fun x2 ex2 => ?_)
  replace hZ9 := bnd_s hZ9 ex2
  refine va_put (D := (dC, dI)) (ci := 9) (fs := [.ref (a 0), .ref (a 1), .ref (a 2), .ref (a 3), .ref (a 4), .ref (a 5), .ref (a 6), .long (L 0), .long (L 1), .int (I 0), .int (I 1), .int (I 2), .int (I 3), .int (I 4)]) (v := .int x2) (ty := .int) (C := RX8) (T := TX8) (N := 14) hx hb hts in_y_passTick_X8 tyX8 tyX8_ok nmX8 hown hK hP hD hS 0 rfl rfl 9 (by decide) (hts (.fieldLink RX8 67 "ServiceTree" "now" "I") (by decide +kernel)) (fun _ h9 => h9) rfl (by decide +kernel) rfl rfl (Nat.le_of_ble_eq_true rfl) dX8_passTick_7 (fun H locs hP hD hS => ?_)
  replace hP : va_P (dC, dI) vwCl ((xW h a e cI cJ cO cE L I M J n cap fE sd si sa dl).set 0 (h, .inr (9, [.ref (a 0), .ref (a 1), .ref (a 2), .ref (a 3), .ref (a 4), .ref (a 5), .ref (a 6), .long (L 0), .long (L 1), .int x2, .int (I 1), .int (I 2), .int (I 3), .int (I 4)]))) H := hP
  replace hD : va_D A ((xW h a e cI cJ cO cE L I M J n cap fE sd si sa dl).set 0 (h, .inr (9, [.ref (a 0), .ref (a 1), .ref (a 2), .ref (a 3), .ref (a 4), .ref (a 5), .ref (a 6), .long (L 0), .long (L 1), .int x2, .int (I 1), .int (I 2), .int (I 3), .int (I 4)]))) := hD
  rw [xF_I0] at hP hD
  obtain ⟨I3, eI3⟩ : ∃ f9 : Nat → Int32, f9 = va_up I 0 x2 := ⟨_, rfl⟩
  rw [← eI3] at hP hD
  replace hZ9 := bnd_s hZ9 eI3
  replace hX : InvX n cap fE sd dl (b) I3 J si := by rw [eI3]; exact hX.setI (by decide)
  replace hUI : ∀ j9 : Nat, j9 ∉ ([0, 2, 4, 12] : List Nat) → I3 j9 = I j9 := by rw [eI3]; exact mw_up (by decide) hUI
  refine lv_aload_n hx hb dX8_passTick_10 rfl (lv_at hl 0 rfl) ?_
  refine va_get (D := (dC, dI)) (ci := 9) (v := .ref (a 6)) (C := RX8) (T := TX8) (N := 14) hx hb hts in_y_passTick_X8 hown hK hP 0 rfl rfl 6 (by decide) (hts (.fieldLink RX8 53 "ServiceTree" "inState" "[J") (by decide +kernel)) (fun _ h9 => h9) rfl dX8_passTick_11 ?_
  refine lv_iconst (v := 1) hx hb dX8_passTick_14 (by decide) ?_
  refine va_lald (n := 6) (f := M 9) hx hb hK hP 21 1 rfl rfl (vp_in_nI (n := 1) (by omega) (by omega)) dX8_passTick_15 ?_
  refine lv_topl (fun x4 ex4 => ?_)
  replace hZ9 := bnd_s hZ9 ex4
  refine lv_aload_n hx hb dX8_passTick_16 rfl (lv_at hl 0 rfl) ?_
  refine va_get (D := (dC, dI)) (ci := 9) (v := .ref (a 6)) (C := RX8) (T := TX8) (N := 14) hx hb hts in_y_passTick_X8 hown hK hP 0 rfl rfl 6 (by decide) (hts (.fieldLink RX8 53 "ServiceTree" "inState" "[J") (by decide +kernel)) (fun _ h9 => h9) rfl dX8_passTick_17 ?_
  refine lv_iconst (v := 3) hx hb dX8_passTick_20 (by decide) ?_
  refine va_lald (n := 6) (f := M 9) hx hb hK hP 21 1 rfl rfl (vp_in_nI (n := 3) (by omega) (by omega)) dX8_passTick_21 ?_
  refine lv_topl (fun x5 ex5 => ?_)
  replace hZ9 := bnd_s hZ9 ex5
  refine lv_lor hx hb dX8_passTick_22 ?_
  refine lv_topl (fun x6 ex6 => ?_)
  replace hZ9 := bnd_s hZ9 ex6
  refine lv_aload_n hx hb dX8_passTick_23 rfl (lv_at hl 0 rfl) ?_
  refine va_get (D := (dC, dI)) (ci := 9) (v := .ref (a 6)) (C := RX8) (T := TX8) (N := 14) hx hb hts in_y_passTick_X8 hown hK hP 0 rfl rfl 6 (by decide) (hts (.fieldLink RX8 53 "ServiceTree" "inState" "[J") (by decide +kernel)) (fun _ h9 => h9) rfl dX8_passTick_24 ?_
  refine lv_iconst (v := 5) hx hb dX8_passTick_27 (by decide) ?_
  refine va_lald (n := 6) (f := M 9) hx hb hK hP 21 1 rfl rfl (vp_in_nI (n := 5) (by omega) (by omega)) dX8_passTick_28 ?_
  refine lv_topl (fun x7 ex7 => ?_)
  replace hZ9 := bnd_s hZ9 ex7
  refine lv_lor hx hb dX8_passTick_29 ?_
  refine lv_topl (fun x8 ex8 => ?_)
  replace hZ9 := bnd_s hZ9 ex8
  refine lv_aload_n hx hb dX8_passTick_30 rfl (lv_at hl 0 rfl) ?_
  refine va_get (D := (dC, dI)) (ci := 9) (v := .long (L 0)) (C := RX8) (T := TX8) (N := 14) hx hb hts in_y_passTick_X8 hown hK hP 0 rfl rfl 7 (by decide) (hts (.fieldLink RX8 311 "ServiceTree" "living" "J") (by decide +kernel)) (fun _ h9 => h9) rfl dX8_passTick_31 ?_
  refine lv_topl (fun x9 ex9 => ?_)
  replace hZ9 := bnd_s hZ9 ex9
  refine lv_lor hx hb dX8_passTick_34 ?_
  refine lv_topl (fun x10 ex10 => ?_)
  replace hZ9 := bnd_s hZ9 ex10
  refine lv_lstore_n (lv' := [(1, .long x10), (0, .ref h)]) hx hb dX8_passTick_35 rfl hl (by decide) rfl (fun ls hl => ?_)
  refine lv_lload_n hx hb dX8_passTick_36 rfl (lv_at hl 0 rfl) ?_
  refine lv_lconst (v := 0) hx hb dX8_passTick_37 (by decide) ?_
  refine W.lcmp hx hb dX8_passTick_38 ?_
  refine lv_topi (fun x11 ex11 => ?_)
  replace hZ9 := bnd_s hZ9 ex11
  refine lv_if_eq (tgt := 95) hx hb dX8_passTick_39 (by decide) (fun c12 => ?_) (fun c12 => ?_)
  · replace hZ9 := ite_t hZ9 c12
    refine lv_aload_n hx hb dX8_passTick_95 rfl (lv_at hl 1 rfl) ?_
    have hFc := mw_free hD hS hA
    refine va_callv (va_runV (As := []) (rest := []) ⟨hx, hb, hml, hown, hts⟩ (c_y_stopTheLacking l dC dI h a e cI cJ cO cE L I3 M J n cap fE sd si sa dl (b)  H.size hX (by omega) ) (cwV 0 hts wc_y_passTick_y_stopTheLacking_317 rfl rfl rfl (by decide +kernel) ⟨Nat.le_of_ble_eq_true rfl, Nat.le_of_ble_eq_true rfl⟩) ⟨fun a9 U g mk q => by obtain ⟨q0, q1, qP, qK, qD, qN⟩ := q; exact ⟨q0, q1, qP, va_K.moved (u := U) (U := U.calling g mk a9) (Vm.Alike.refl U.vm) qK, qD, pw_N.same (u := U) (U := U.calling g mk a9) rfl qN⟩, va_recv hK hP (ci := 9) (q0 := 0) rfl rfl, fun U hU hW => ⟨rfl, by rw [hU], by rw [hU]; exact hP, va_K.moved hW.alike hK, hD.weaken (fun _ _ _ _ => trivial), pw_N.warm hW hN⟩⟩ rfl rfl hl.1 rfl (lv_room (Nat.le_of_ble_eq_true rfl)) dX8_passTick_96 ⟨Nat.le_of_ble_eq_true rfl, Nat.le_of_ble_eq_true rfl⟩) hS (fun q _ h => hFc q h) hFc (fun u t H1 locs ht hvm hw hB hz1 hk1 hS => ?_)
    obtain ⟨L14, I15, M16, si17, sa18⟩ := u
    replace hP := hB.1
    rw [ht] at hP
    replace hD : va_D A (xW h a e cI cJ cO cE L14 I15 M16 J n cap fE sd si17 sa18 dl) := hB.2.weaken (fun _ q _ h9 => hFc q.1 h9)
    clear hB
    generalize H1 = H at hP hS ⊢
    replace hP : va_P (dC, dI) vwCl (xW h a e cI cJ cO cE L14 I15 M16 J n cap fE sd si17 sa18 dl) H := hP
    obtain ⟨hwX, whUL, whUI, whUM, whUsi, whUsa, hw⟩ := hw
    replace hX : InvX n cap fE sd dl (b + 40) I15 J si17 := hwX
    replace hUL : ∀ j9 : Nat, j9 ∉ ([0, 1, 5, 6, 7] : List Nat) → L14 j9 = L j9 := mw_tr (by decide) whUL hUL
    replace hUI : ∀ j9 : Nat, j9 ∉ ([0, 2, 4, 12] : List Nat) → I15 j9 = I j9 := mw_tr (by decide) whUI hUI
    replace hUM : ∀ j9 : Nat, j9 ∉ ([8, 9] : List Nat) → M16 j9 = M j9 := mw_tr (by decide) whUM hUM
    replace hUsi : ∀ s9 q9 : Nat, q9 ∉ ([6, 7, 8, 9, 10, 11, 21, 22, 31, 32, 33, 34] : List Nat) → si17 s9 q9 = si s9 q9 := xw_tr2 (by decide) whUsi hUsi
    replace hUsa : ∀ s9 q9 : Nat, q9 ∉ ([3] : List Nat) → sa18 s9 q9 = sa s9 q9 := xw_tr2 (by decide) whUsa hUsa
    replace hw : (L14, I15, M16, si17, sa18) = f_y_stopTheLacking n dl  L I3 M si sa := hw
    replace hZ9 := bn5_s hZ9 hw
    refine lv_aload_n hx hb dX8_passTick_99 rfl (lv_at hl 1 rfl) ?_
    have hFc := mw_free hD hS hA
    refine va_callv (va_runV (As := []) (rest := []) ⟨hx, hb, hml, hown, hts⟩ (c_y_readLetters l dC dI h a e cI cJ cO cE L14 I15 M16 J n cap fE sd si17 sa18 dl (b + 40)  H.size hX (by omega) ) (cwV 0 hts wc_y_passTick_y_readLetters_320 rfl rfl rfl (by decide +kernel) ⟨Nat.le_of_ble_eq_true rfl, Nat.le_of_ble_eq_true rfl⟩) ⟨fun a9 U g mk q => by obtain ⟨q0, q1, qP, qK, qD, qN⟩ := q; exact ⟨q0, q1, qP, va_K.moved (u := U) (U := U.calling g mk a9) (Vm.Alike.refl U.vm) qK, qD, pw_N.same (u := U) (U := U.calling g mk a9) rfl qN⟩, va_recv hK hP (ci := 9) (q0 := 0) rfl rfl, fun U hU hW => ⟨rfl, by rw [hU], by rw [hU]; exact hP, va_K.moved hW.alike hK, hD.weaken (fun _ _ _ _ => trivial), pw_N.warm hW hN⟩⟩ rfl rfl hl.1 rfl (lv_room (Nat.le_of_ble_eq_true rfl)) dX8_passTick_100 ⟨Nat.le_of_ble_eq_true rfl, Nat.le_of_ble_eq_true rfl⟩) hS (fun q _ h => hFc q h) hFc (fun u t H1 locs ht hvm hw hB hz1 hk1 hS => ?_)
    obtain ⟨L20, I21, si22⟩ := u
    replace hP := hB.1
    rw [ht] at hP
    replace hD : va_D A (xW h a e cI cJ cO cE L20 I21 M16 J n cap fE sd si22 sa18 dl) := hB.2.weaken (fun _ q _ h9 => hFc q.1 h9)
    clear hB
    generalize H1 = H at hP hS ⊢
    replace hP : va_P (dC, dI) vwCl (xW h a e cI cJ cO cE L20 I21 M16 J n cap fE sd si22 sa18 dl) H := hP
    obtain ⟨hwX, whUL, whUI, whUsi, hw⟩ := hw
    replace hX : InvX n cap fE sd dl (b + 40) I21 J si22 := hwX
    replace hUL : ∀ j9 : Nat, j9 ∉ ([0, 1, 5, 6, 7] : List Nat) → L20 j9 = L j9 := mw_tr (by decide) whUL hUL
    replace hUI : ∀ j9 : Nat, j9 ∉ ([0, 2, 4, 12] : List Nat) → I21 j9 = I j9 := mw_tr (by decide) whUI hUI
    replace hUsi : ∀ s9 q9 : Nat, q9 ∉ ([6, 7, 8, 9, 10, 11, 21, 22, 31, 32, 33, 34] : List Nat) → si22 s9 q9 = si s9 q9 := xw_tr2 (by decide) whUsi hUsi
    replace hw : (L20, I21, si22) = f_y_readLetters n dl  L14 I15 M16 si17 sa18 := hw
    replace hZ9 := bn3_s hZ9 hw
    refine lv_aload_n hx hb dX8_passTick_103 rfl (lv_at hl 1 rfl) ?_
    have hFc := mw_free hD hS hA
    refine va_callv (va_runV (As := []) (rest := []) ⟨hx, hb, hml, hown, hts⟩ (c_y_beginJobs l dC dI h a e cI cJ cO cE L20 I21 M16 J n cap fE sd si22 sa18 dl (b + 40)  H.size hX (by omega) ) (cwV 0 hts wc_y_passTick_y_beginJobs_260 rfl rfl rfl (by decide +kernel) ⟨Nat.le_of_ble_eq_true rfl, Nat.le_of_ble_eq_true rfl⟩) ⟨fun a9 U g mk q => by obtain ⟨q0, q1, qP, qK, qD, qN⟩ := q; exact ⟨q0, q1, qP, va_K.moved (u := U) (U := U.calling g mk a9) (Vm.Alike.refl U.vm) qK, qD, pw_N.same (u := U) (U := U.calling g mk a9) rfl qN⟩, va_recv hK hP (ci := 9) (q0 := 0) rfl rfl, fun U hU hW => ⟨rfl, by rw [hU], by rw [hU]; exact hP, va_K.moved hW.alike hK, hD.weaken (fun _ _ _ _ => trivial), pw_N.warm hW hN⟩⟩ rfl rfl hl.1 rfl (lv_room (Nat.le_of_ble_eq_true rfl)) dX8_passTick_104 ⟨Nat.le_of_ble_eq_true rfl, Nat.le_of_ble_eq_true rfl⟩) hS (fun q _ h => hFc q h) hFc (fun u t H1 locs ht hvm hw hB hz1 hk1 hS => ?_)
    obtain ⟨L24, I25, M26, si27, sa28⟩ := u
    replace hP := hB.1
    rw [ht] at hP
    replace hD : va_D A (xW h a e cI cJ cO cE L24 I25 M26 J n cap fE sd si27 sa28 dl) := hB.2.weaken (fun _ q _ h9 => hFc q.1 h9)
    clear hB
    generalize H1 = H at hP hS ⊢
    replace hP : va_P (dC, dI) vwCl (xW h a e cI cJ cO cE L24 I25 M26 J n cap fE sd si27 sa28 dl) H := hP
    obtain ⟨hwX, whUL, whUI, whUM, whUsi, whUsa, hw⟩ := hw
    replace hX : InvX n cap fE sd dl (b + 40 + 40) I25 J si27 := hwX
    replace hUL : ∀ j9 : Nat, j9 ∉ ([0, 1, 5, 6, 7] : List Nat) → L24 j9 = L j9 := mw_tr (by decide) whUL hUL
    replace hUI : ∀ j9 : Nat, j9 ∉ ([0, 2, 4, 12] : List Nat) → I25 j9 = I j9 := mw_tr (by decide) whUI hUI
    replace hUM : ∀ j9 : Nat, j9 ∉ ([8, 9] : List Nat) → M26 j9 = M j9 := mw_tr (by decide) whUM hUM
    replace hUsi : ∀ s9 q9 : Nat, q9 ∉ ([6, 7, 8, 9, 10, 11, 21, 22, 31, 32, 33, 34] : List Nat) → si27 s9 q9 = si s9 q9 := xw_tr2 (by decide) whUsi hUsi
    replace hUsa : ∀ s9 q9 : Nat, q9 ∉ ([3] : List Nat) → sa28 s9 q9 = sa s9 q9 := xw_tr2 (by decide) whUsa hUsa
    replace hw : (L24, I25, M26, si27, sa28) = f_y_beginJobs n dl  L20 I21 M16 si22 sa18 := hw
    replace hZ9 := bn5_s hZ9 hw
    rw [hQ]
    exact W.vret hx hb hr (fun t ht hW => ⟨⟨(L24, I25, M26, si27, sa28), rfl, ⟨hX.mono (by omega), hUL, hUI, hUM, hUsi, hUsa, hZ9.symm.trans hR0⟩, by rw [ht]; exact hP, hD⟩, hS.F ht⟩) hS.2.2 dX8_passTick_107
  · replace hZ9 := ite_f hZ9 c12
    refine lv_iconst (v := 0) hx hb dX8_passTick_42 (by decide) ?_
    refine lv_istore_n (lv' := [(3, .int 0), (1, .long x10), (0, .ref h)]) hx hb dX8_passTick_43 rfl hl (by decide) rfl (fun ls hl => ?_)
    obtain ⟨K9_44, hK9_44, hZ9⟩ := lp_gen hZ9
    have lp32 : ∀ (fu30 i29 : Nat)  (L33 : Nat → Int64) (I34 : Nat → Int32) (M35 : Nat → Nat → Int64) (si36 : Nat → Nat → Int32) (sa37 : Nat → Nat → Nat → Int32) (H : Heap) (locs : List Loc) (ls : Array Slot), n < i29 + fu30 → i29 ≤ n → InvX n cap fE sd dl (b + 1 * i29) I34 J si36 → (∀ j9 : Nat, j9 ∉ ([0, 1, 5, 6, 7] : List Nat) → L33 j9 = L j9) → (∀ j9 : Nat, j9 ∉ ([0, 2, 4, 12] : List Nat) → I34 j9 = I j9) → (∀ j9 : Nat, j9 ∉ ([8, 9] : List Nat) → M35 j9 = M j9) → (∀ s9 q9 : Nat, q9 ∉ ([6, 7, 8, 9, 10, 11, 21, 22, 31, 32, 33, 34] : List Nat) → si36 s9 q9 = si s9 q9) → (∀ s9 q9 : Nat, q9 ∉ ([3] : List Nat) → sa37 s9 q9 = sa s9 q9) → RES = f_y_passTick_44 n dl x10 fu30 i29  L33 I34 M35 si36 sa37 K9_44 → va_P (dC, dI) vwCl (xW h a e cI cJ cO cE L33 I34 M35 J n cap fE sd si36 sa37 dl) H → va_D A (xW h a e cI cJ cO cE L33 I34 M35 J n cap fE sd si36 sa37 dl) → va_S A s.heap H locs → lv_has ls 4 [(3, .int (nI i29)), (1, .long x10), (0, .ref h)] → W p l e9 (headSpec wq_y_passTick rm_y_passTick).room s m ([.ref h] : List Value).toArray below meth c H locs 0 0 Q0 (F0 m 44 ls []) := by
      intro fu30
      induction fu30 with
      | zero =>
        intro i29  L33 I34 M35 si36 sa37 H locs ls hf hi
        exact absurd hf (by omega)
      | succ fu30 ih31 =>
        intro i29  L33 I34 M35 si36 sa37 H locs ls hfi29 hii29 hX hUL hUI hUM hUsi hUsa hZ9 hP hD hS hl
        rw [f_y_passTick_44] at hZ9
        refine lv_iload_n hx hb dX8_passTick_44 rfl (lv_at hl 0 rfl) ?_
        refine lv_aload_n hx hb dX8_passTick_45 rfl (lv_at hl 2 rfl) ?_
        refine va_get (D := (dC, dI)) (ci := 9) (v := .ref (a 0)) (C := RX8) (T := TX8) (N := 14) hx hb hts in_y_passTick_X8 hown hK hP 0 rfl rfl 0 (by decide) (hts (.fieldLink RX8 10 "ServiceTree" "services" "Ljava/util/ArrayList;") (by decide +kernel)) (fun _ h9 => h9) rfl dX8_passTick_46 ?_
        have hFc := mw_free hD hS hA
        refine va_calli (va_runV (As := []) (rest := [.int (nI i29)]) ⟨hx, hb, hml, hown, hts⟩ (c_y_size l dC dI h a e cI cJ cO cE L33 I34 M35 J n cap fE sd si36 sa37 dl (b + 1 * i29)  H.size hX (by omega) ) (cwV 0 hts wc_y_passTick_y_size_61 rfl rfl rfl (by decide +kernel) ⟨Nat.le_of_ble_eq_true rfl, Nat.le_of_ble_eq_true rfl⟩) ⟨fun a9 U g mk q => by obtain ⟨q0, q1, qP, qK, qD, qN⟩ := q; exact ⟨q0, q1, qP, va_K.moved (u := U) (U := U.calling g mk a9) (Vm.Alike.refl U.vm) qK, qD, pw_N.same (u := U) (U := U.calling g mk a9) rfl qN⟩, va_recv hK hP (ci := 0) (q0 := 1) rfl rfl, fun U hU hW => ⟨rfl, by rw [hU], by rw [hU]; exact hP, va_K.moved hW.alike hK, hD.weaken (fun _ _ _ _ => trivial), pw_N.warm hW hN⟩⟩ rfl rfl hl.1 rfl (lv_room (Nat.le_of_ble_eq_true rfl)) dX8_passTick_49 ⟨Nat.le_of_ble_eq_true rfl, Nat.le_of_ble_eq_true rfl⟩) hS (fun q _ h => hFc q h) hFc (fun r38 u t H1 locs ht hvm hw hB hz1 hk1 hS => ?_)
        replace hP := hB.1
        rw [ht] at hP
        replace hD : va_D A (xW h a e cI cJ cO cE L33 I34 M35 J n cap fE sd si36 sa37 dl) := hB.2.weaken (fun _ q _ h9 => hFc q.1 h9)
        clear hB
        generalize H1 = H at hP hS ⊢
        replace hP : va_P (dC, dI) vwCl (xW h a e cI cJ cO cE L33 I34 M35 J n cap fE sd si36 sa37 dl) H := hP
        obtain rfl : r38 = nI n := hw
        refine lv_icmp_ge (tgt := 95) hx hb dX8_passTick_52 (by decide) (fun c39 => ?_) (fun c39 => ?_)
        · replace c39 : n ≤ i29 := (nI_leI (a := n) (b := i29) (by omega) (by omega)).mp c39
          replace hZ9 := ite_t hZ9 c39
          replace hZ9 := lp_app6 hK9_44 hZ9
          refine lv_aload_n hx hb dX8_passTick_95 rfl (lv_at hl 2 rfl) ?_
          have hFc := mw_free hD hS hA
          refine va_callv (va_runV (As := []) (rest := []) ⟨hx, hb, hml, hown, hts⟩ (c_y_stopTheLacking l dC dI h a e cI cJ cO cE L33 I34 M35 J n cap fE sd si36 sa37 dl (b + 1 * i29)  H.size hX (by omega) ) (cwV 0 hts wc_y_passTick_y_stopTheLacking_317 rfl rfl rfl (by decide +kernel) ⟨Nat.le_of_ble_eq_true rfl, Nat.le_of_ble_eq_true rfl⟩) ⟨fun a9 U g mk q => by obtain ⟨q0, q1, qP, qK, qD, qN⟩ := q; exact ⟨q0, q1, qP, va_K.moved (u := U) (U := U.calling g mk a9) (Vm.Alike.refl U.vm) qK, qD, pw_N.same (u := U) (U := U.calling g mk a9) rfl qN⟩, va_recv hK hP (ci := 9) (q0 := 0) rfl rfl, fun U hU hW => ⟨rfl, by rw [hU], by rw [hU]; exact hP, va_K.moved hW.alike hK, hD.weaken (fun _ _ _ _ => trivial), pw_N.warm hW hN⟩⟩ rfl rfl hl.1 rfl (lv_room (Nat.le_of_ble_eq_true rfl)) dX8_passTick_96 ⟨Nat.le_of_ble_eq_true rfl, Nat.le_of_ble_eq_true rfl⟩) hS (fun q _ h => hFc q h) hFc (fun u t H1 locs ht hvm hw hB hz1 hk1 hS => ?_)
          obtain ⟨L41, I42, M43, si44, sa45⟩ := u
          replace hP := hB.1
          rw [ht] at hP
          replace hD : va_D A (xW h a e cI cJ cO cE L41 I42 M43 J n cap fE sd si44 sa45 dl) := hB.2.weaken (fun _ q _ h9 => hFc q.1 h9)
          clear hB
          generalize H1 = H at hP hS ⊢
          replace hP : va_P (dC, dI) vwCl (xW h a e cI cJ cO cE L41 I42 M43 J n cap fE sd si44 sa45 dl) H := hP
          obtain ⟨hwX, whUL, whUI, whUM, whUsi, whUsa, hw⟩ := hw
          replace hX : InvX n cap fE sd dl (b + 1 * i29 + 40) I42 J si44 := hwX
          replace hUL : ∀ j9 : Nat, j9 ∉ ([0, 1, 5, 6, 7] : List Nat) → L41 j9 = L j9 := mw_tr (by decide) whUL hUL
          replace hUI : ∀ j9 : Nat, j9 ∉ ([0, 2, 4, 12] : List Nat) → I42 j9 = I j9 := mw_tr (by decide) whUI hUI
          replace hUM : ∀ j9 : Nat, j9 ∉ ([8, 9] : List Nat) → M43 j9 = M j9 := mw_tr (by decide) whUM hUM
          replace hUsi : ∀ s9 q9 : Nat, q9 ∉ ([6, 7, 8, 9, 10, 11, 21, 22, 31, 32, 33, 34] : List Nat) → si44 s9 q9 = si s9 q9 := xw_tr2 (by decide) whUsi hUsi
          replace hUsa : ∀ s9 q9 : Nat, q9 ∉ ([3] : List Nat) → sa45 s9 q9 = sa s9 q9 := xw_tr2 (by decide) whUsa hUsa
          replace hw : (L41, I42, M43, si44, sa45) = f_y_stopTheLacking n dl  L33 I34 M35 si36 sa37 := hw
          replace hZ9 := bn5_s hZ9 hw
          refine lv_aload_n hx hb dX8_passTick_99 rfl (lv_at hl 2 rfl) ?_
          have hFc := mw_free hD hS hA
          refine va_callv (va_runV (As := []) (rest := []) ⟨hx, hb, hml, hown, hts⟩ (c_y_readLetters l dC dI h a e cI cJ cO cE L41 I42 M43 J n cap fE sd si44 sa45 dl (b + 1 * i29 + 40)  H.size hX (by omega) ) (cwV 0 hts wc_y_passTick_y_readLetters_320 rfl rfl rfl (by decide +kernel) ⟨Nat.le_of_ble_eq_true rfl, Nat.le_of_ble_eq_true rfl⟩) ⟨fun a9 U g mk q => by obtain ⟨q0, q1, qP, qK, qD, qN⟩ := q; exact ⟨q0, q1, qP, va_K.moved (u := U) (U := U.calling g mk a9) (Vm.Alike.refl U.vm) qK, qD, pw_N.same (u := U) (U := U.calling g mk a9) rfl qN⟩, va_recv hK hP (ci := 9) (q0 := 0) rfl rfl, fun U hU hW => ⟨rfl, by rw [hU], by rw [hU]; exact hP, va_K.moved hW.alike hK, hD.weaken (fun _ _ _ _ => trivial), pw_N.warm hW hN⟩⟩ rfl rfl hl.1 rfl (lv_room (Nat.le_of_ble_eq_true rfl)) dX8_passTick_100 ⟨Nat.le_of_ble_eq_true rfl, Nat.le_of_ble_eq_true rfl⟩) hS (fun q _ h => hFc q h) hFc (fun u t H1 locs ht hvm hw hB hz1 hk1 hS => ?_)
          obtain ⟨L47, I48, si49⟩ := u
          replace hP := hB.1
          rw [ht] at hP
          replace hD : va_D A (xW h a e cI cJ cO cE L47 I48 M43 J n cap fE sd si49 sa45 dl) := hB.2.weaken (fun _ q _ h9 => hFc q.1 h9)
          clear hB
          generalize H1 = H at hP hS ⊢
          replace hP : va_P (dC, dI) vwCl (xW h a e cI cJ cO cE L47 I48 M43 J n cap fE sd si49 sa45 dl) H := hP
          obtain ⟨hwX, whUL, whUI, whUsi, hw⟩ := hw
          replace hX : InvX n cap fE sd dl (b + 1 * i29 + 40) I48 J si49 := hwX
          replace hUL : ∀ j9 : Nat, j9 ∉ ([0, 1, 5, 6, 7] : List Nat) → L47 j9 = L j9 := mw_tr (by decide) whUL hUL
          replace hUI : ∀ j9 : Nat, j9 ∉ ([0, 2, 4, 12] : List Nat) → I48 j9 = I j9 := mw_tr (by decide) whUI hUI
          replace hUsi : ∀ s9 q9 : Nat, q9 ∉ ([6, 7, 8, 9, 10, 11, 21, 22, 31, 32, 33, 34] : List Nat) → si49 s9 q9 = si s9 q9 := xw_tr2 (by decide) whUsi hUsi
          replace hw : (L47, I48, si49) = f_y_readLetters n dl  L41 I42 M43 si44 sa45 := hw
          replace hZ9 := bn3_s hZ9 hw
          refine lv_aload_n hx hb dX8_passTick_103 rfl (lv_at hl 2 rfl) ?_
          have hFc := mw_free hD hS hA
          refine va_callv (va_runV (As := []) (rest := []) ⟨hx, hb, hml, hown, hts⟩ (c_y_beginJobs l dC dI h a e cI cJ cO cE L47 I48 M43 J n cap fE sd si49 sa45 dl (b + 1 * i29 + 40)  H.size hX (by omega) ) (cwV 0 hts wc_y_passTick_y_beginJobs_260 rfl rfl rfl (by decide +kernel) ⟨Nat.le_of_ble_eq_true rfl, Nat.le_of_ble_eq_true rfl⟩) ⟨fun a9 U g mk q => by obtain ⟨q0, q1, qP, qK, qD, qN⟩ := q; exact ⟨q0, q1, qP, va_K.moved (u := U) (U := U.calling g mk a9) (Vm.Alike.refl U.vm) qK, qD, pw_N.same (u := U) (U := U.calling g mk a9) rfl qN⟩, va_recv hK hP (ci := 9) (q0 := 0) rfl rfl, fun U hU hW => ⟨rfl, by rw [hU], by rw [hU]; exact hP, va_K.moved hW.alike hK, hD.weaken (fun _ _ _ _ => trivial), pw_N.warm hW hN⟩⟩ rfl rfl hl.1 rfl (lv_room (Nat.le_of_ble_eq_true rfl)) dX8_passTick_104 ⟨Nat.le_of_ble_eq_true rfl, Nat.le_of_ble_eq_true rfl⟩) hS (fun q _ h => hFc q h) hFc (fun u t H1 locs ht hvm hw hB hz1 hk1 hS => ?_)
          obtain ⟨L51, I52, M53, si54, sa55⟩ := u
          replace hP := hB.1
          rw [ht] at hP
          replace hD : va_D A (xW h a e cI cJ cO cE L51 I52 M53 J n cap fE sd si54 sa55 dl) := hB.2.weaken (fun _ q _ h9 => hFc q.1 h9)
          clear hB
          generalize H1 = H at hP hS ⊢
          replace hP : va_P (dC, dI) vwCl (xW h a e cI cJ cO cE L51 I52 M53 J n cap fE sd si54 sa55 dl) H := hP
          obtain ⟨hwX, whUL, whUI, whUM, whUsi, whUsa, hw⟩ := hw
          replace hX : InvX n cap fE sd dl (b + 1 * i29 + 40 + 40) I52 J si54 := hwX
          replace hUL : ∀ j9 : Nat, j9 ∉ ([0, 1, 5, 6, 7] : List Nat) → L51 j9 = L j9 := mw_tr (by decide) whUL hUL
          replace hUI : ∀ j9 : Nat, j9 ∉ ([0, 2, 4, 12] : List Nat) → I52 j9 = I j9 := mw_tr (by decide) whUI hUI
          replace hUM : ∀ j9 : Nat, j9 ∉ ([8, 9] : List Nat) → M53 j9 = M j9 := mw_tr (by decide) whUM hUM
          replace hUsi : ∀ s9 q9 : Nat, q9 ∉ ([6, 7, 8, 9, 10, 11, 21, 22, 31, 32, 33, 34] : List Nat) → si54 s9 q9 = si s9 q9 := xw_tr2 (by decide) whUsi hUsi
          replace hUsa : ∀ s9 q9 : Nat, q9 ∉ ([3] : List Nat) → sa55 s9 q9 = sa s9 q9 := xw_tr2 (by decide) whUsa hUsa
          replace hw : (L51, I52, M53, si54, sa55) = f_y_beginJobs n dl  L47 I48 M43 si49 sa45 := hw
          replace hZ9 := bn5_s hZ9 hw
          rw [hQ]
          exact W.vret hx hb hr (fun t ht hW => ⟨⟨(L51, I52, M53, si54, sa55), rfl, ⟨hX.mono (by omega), hUL, hUI, hUM, hUsi, hUsa, hZ9.symm.trans hR0⟩, by rw [ht]; exact hP, hD⟩, hS.F ht⟩) hS.2.2 dX8_passTick_107
        · replace c39 : ¬ (n ≤ i29) := fun q9 => c39 ((nI_leI (a := n) (b := i29) (by omega) (by omega)).mpr q9)
          replace hZ9 := ite_f hZ9 c39
          refine lv_lload_n hx hb dX8_passTick_55 rfl (lv_at hl 1 rfl) ?_
          refine lv_iload_n hx hb dX8_passTick_56 rfl (lv_at hl 0 rfl) ?_
          have hFc := mw_free hD hS hA
          refine va_calli (va_runS (As := [.long x10, .int (nI i29)]) (rest := []) ⟨hx, hb, hml, hown, hts⟩ (c_y_holds l dC dI h a e cI cJ cO cE L33 I34 M35 J n cap fE sd si36 sa37 dl (b + 1 * i29) x10 i29 H.size hX (by omega) ) (va_cwS 2 hts wc_y_passTick_y_holds_114 rfl rfl rfl (by decide +kernel) ⟨Nat.le_of_ble_eq_true rfl, Nat.le_of_ble_eq_true rfl⟩) ⟨fun a9 U g mk q => by obtain ⟨q0, q1, qP, qK, qD, qN⟩ := q; exact ⟨q0, q1, qP, va_K.moved (u := U) (U := U.calling g mk a9) (Vm.Alike.refl U.vm) qK, qD, pw_N.same (u := U) (U := U.calling g mk a9) rfl qN⟩, fun U hU hW => ⟨rfl, by rw [hU], by rw [hU]; exact hP, va_K.moved hW.alike hK, hD.weaken (fun _ _ _ _ => trivial), pw_N.warm hW hN⟩⟩ rfl rfl hl.1 rfl (lv_room (Nat.le_of_ble_eq_true rfl)) dX8_passTick_57 ⟨Nat.le_of_ble_eq_true rfl, Nat.le_of_ble_eq_true rfl⟩) hS (fun q _ h => hFc q h) hFc (fun r56 u t H1 locs ht hvm hw hB hz1 hk1 hS => ?_)
          replace hP := hB.1
          rw [ht] at hP
          replace hD : va_D A (xW h a e cI cJ cO cE L33 I34 M35 J n cap fE sd si36 sa37 dl) := hB.2.weaken (fun _ q _ h9 => hFc q.1 h9)
          clear hB
          generalize H1 = H at hP hS ⊢
          replace hP : va_P (dC, dI) vwCl (xW h a e cI cJ cO cE L33 I34 M35 J n cap fE sd si36 sa37 dl) H := hP
          obtain ⟨hw, hwe⟩ := hw
          replace hw : r56 = f_y_holds n dl x10 i29  := hw
          replace hZ9 := bnd_s hZ9 hw
          have br56 := hwe
          refine lv_if_eq (tgt := 89) hx hb dX8_passTick_60 (by decide) (fun c57 => ?_) (fun c57 => ?_)
          · replace hZ9 := ite_t hZ9 c57
            refine lv_iinc (v := (nI (i29 + 1))) (lv' := [(3, .int (nI (i29 + 1))), (1, .long x10), (0, .ref h)]) hx hb dX8_passTick_89 hl (k := 0) rfl (nI_add i29 1) (by decide) rfl (fun ls hl => ?_)
            refine lv_goto (tgt := 44) hx hb dX8_passTick_92 (by decide) ?_
            exact ih31 (i29 + 1)  L33 I34 M35 si36 sa37 _ _ _ (by omega) (by omega) (hX.mono (by omega)) hUL hUI hUM hUsi hUsa  hZ9 hP hD hS (lv_sub hl [0, 1, 2] rfl)
          · replace hZ9 := ite_f hZ9 c57
            refine lv_aload_n hx hb dX8_passTick_63 rfl (lv_at hl 2 rfl) ?_
            refine va_get (D := (dC, dI)) (ci := 9) (v := .ref (a 0)) (C := RX8) (T := TX8) (N := 14) hx hb hts in_y_passTick_X8 hown hK hP 0 rfl rfl 0 (by decide) (hts (.fieldLink RX8 10 "ServiceTree" "services" "Ljava/util/ArrayList;") (by decide +kernel)) (fun _ h9 => h9) rfl dX8_passTick_64 ?_
            refine lv_iload_n hx hb dX8_passTick_67 rfl (lv_at hl 0 rfl) ?_
            have hFc := mw_free hD hS hA
            refine va_callr (va_runV (As := [.int (nI i29)]) (rest := []) ⟨hx, hb, hml, hown, hts⟩ (c_x_get l dC dI h a e cI cJ cO cE L33 I34 M35 J n cap fE sd si36 sa37 dl (b + 1 * i29) i29 H.size hX (by omega) (by omega)) (cwV 1 hts wc_y_passTick_x_get_86 rfl rfl rfl (by decide +kernel) ⟨Nat.le_of_ble_eq_true rfl, Nat.le_of_ble_eq_true rfl⟩) ⟨fun a9 U g mk q => by obtain ⟨q0, q1, qP, qK, qD, qN⟩ := q; exact ⟨q0, q1, qP, va_K.moved (u := U) (U := U.calling g mk a9) (Vm.Alike.refl U.vm) qK, qD, pw_N.same (u := U) (U := U.calling g mk a9) rfl qN⟩, va_recv hK hP (ci := 0) (q0 := 1) rfl rfl, fun U hU hW => ⟨rfl, by rw [hU], by rw [hU]; exact hP, va_K.moved hW.alike hK, hD.weaken (fun _ _ _ _ => trivial), pw_N.warm hW hN⟩⟩ rfl rfl hl.1 rfl (lv_room (Nat.le_of_ble_eq_true rfl)) dX8_passTick_68 ⟨Nat.le_of_ble_eq_true rfl, Nat.le_of_ble_eq_true rfl⟩) hS (fun q _ h => hFc q h) hFc (fun u r58 t H1 locs ht hvm hw hB hz1 hk1 hS => ?_)
            obtain ⟨hra, hB⟩ := hB
            replace hP := hB.1
            rw [ht] at hP
            replace hD : va_D A (xW h a e cI cJ cO cE L33 I34 M35 J n cap fE sd si36 sa37 dl) := hB.2.weaken (fun _ q _ h9 => hFc q.1 h9)
            clear hB
            generalize H1 = H at hP hS ⊢
            replace hP : va_P (dC, dI) vwCl (xW h a e cI cJ cO cE L33 I34 M35 J n cap fE sd si36 sa37 dl) H := hP
            subst hra
            refine va_castS hx hb hown (hts (.classLink RX8 65 RX7) (by decide +kernel)) (hK.1 8 _ rfl).2 (va_recv hK hP (ci := 8) (q0 := (22 + (6 * i29 + 0))) rfl (xAt_0 h a e cI cJ cO cE L33 I34 M35 J n cap fE sd si36 sa37 dl (s := i29) (by omega))) dX8_passTick_71 ?_
            refine lv_aload_n hx hb dX8_passTick_74 rfl (lv_at hl 2 rfl) ?_
            refine va_get (D := (dC, dI)) (ci := 9) (v := .int (I34 0)) (C := RX8) (T := TX8) (N := 14) hx hb hts in_y_passTick_X8 hown hK hP 0 rfl rfl 9 (by decide) (hts (.fieldLink RX8 67 "ServiceTree" "now" "I") (by decide +kernel)) (fun _ h9 => h9) rfl dX8_passTick_75 ?_
            refine lv_topi (fun x59 ex59 => ?_)
            replace hZ9 := bnd_s hZ9 ex59
            have hFc := mw_free hD hS hA
            refine va_calli (va_runV (As := [.int x59]) (rest := []) ⟨hx, hb, hml, hown, hts⟩ (c_y_isDue l dC dI h a e cI cJ cO cE L33 I34 M35 J n cap fE sd si36 sa37 dl (b + 1 * i29) i29 x59 H.size hX (by omega) (by omega)) (cwV 1 hts wc_y_passTick_y_isDue_283 rfl rfl rfl (by decide +kernel) ⟨Nat.le_of_ble_eq_true rfl, Nat.le_of_ble_eq_true rfl⟩) ⟨fun a9 U g mk q => by obtain ⟨q0, q1, qP, qK, qD, qN⟩ := q; exact ⟨q0, q1, qP, va_K.moved (u := U) (U := U.calling g mk a9) (Vm.Alike.refl U.vm) qK, qD, pw_N.same (u := U) (U := U.calling g mk a9) rfl qN⟩, va_recv hK hP (ci := 8) (q0 := (22 + (6 * i29 + 0))) rfl (xAt_0 h a e cI cJ cO cE L33 I34 M35 J n cap fE sd si36 sa37 dl (s := i29) (by omega)), fun U hU hW => ⟨rfl, by rw [hU], by rw [hU]; exact hP, va_K.moved hW.alike hK, hD.weaken (fun _ _ _ _ => trivial), pw_N.warm hW hN⟩⟩ rfl rfl hl.1 rfl (lv_room (Nat.le_of_ble_eq_true rfl)) dX8_passTick_78 ⟨Nat.le_of_ble_eq_true rfl, Nat.le_of_ble_eq_true rfl⟩) hS (fun q _ h => hFc q h) hFc (fun r60 u t H1 locs ht hvm hw hB hz1 hk1 hS => ?_)
            replace hP := hB.1
            rw [ht] at hP
            replace hD : va_D A (xW h a e cI cJ cO cE L33 I34 M35 J n cap fE sd si36 sa37 dl) := hB.2.weaken (fun _ q _ h9 => hFc q.1 h9)
            clear hB
            generalize H1 = H at hP hS ⊢
            replace hP : va_P (dC, dI) vwCl (xW h a e cI cJ cO cE L33 I34 M35 J n cap fE sd si36 sa37 dl) H := hP
            obtain ⟨hw, hwe⟩ := hw
            replace hw : r60 = f_y_isDue n dl i29 x59 si36 := hw
            replace hZ9 := bnd_s hZ9 hw
            have br60 := hwe
            refine lv_if_eq (tgt := 89) hx hb dX8_passTick_81 (by decide) (fun c61 => ?_) (fun c61 => ?_)
            · replace hZ9 := ite_t hZ9 c61
              refine lv_iinc (v := (nI (i29 + 1))) (lv' := [(3, .int (nI (i29 + 1))), (1, .long x10), (0, .ref h)]) hx hb dX8_passTick_89 hl (k := 0) rfl (nI_add i29 1) (by decide) rfl (fun ls hl => ?_)
              refine lv_goto (tgt := 44) hx hb dX8_passTick_92 (by decide) ?_
              exact ih31 (i29 + 1)  L33 I34 M35 si36 sa37 _ _ _ (by omega) (by omega) (hX.mono (by omega)) hUL hUI hUM hUsi hUsa  hZ9 hP hD hS (lv_sub hl [0, 1, 2] rfl)
            · replace hZ9 := ite_f hZ9 c61
              refine lv_aload_n hx hb dX8_passTick_84 rfl (lv_at hl 2 rfl) ?_
              refine lv_iload_n hx hb dX8_passTick_85 rfl (lv_at hl 0 rfl) ?_
              have hFc := mw_free hD hS hA
              refine va_callv (va_runV (As := [.int (nI i29)]) (rest := []) ⟨hx, hb, hml, hown, hts⟩ (c_y_passDueTime l dC dI h a e cI cJ cO cE L33 I34 M35 J n cap fE sd si36 sa37 dl (b + 1 * i29) i29 H.size hX (by omega) (by omega)) (cwV 1 hts wc_y_passTick_y_passDueTime_314 rfl rfl rfl (by decide +kernel) ⟨Nat.le_of_ble_eq_true rfl, Nat.le_of_ble_eq_true rfl⟩) ⟨fun a9 U g mk q => by obtain ⟨q0, q1, qP, qK, qD, qN⟩ := q; exact ⟨q0, q1, qP, va_K.moved (u := U) (U := U.calling g mk a9) (Vm.Alike.refl U.vm) qK, qD, pw_N.same (u := U) (U := U.calling g mk a9) rfl qN⟩, va_recv hK hP (ci := 9) (q0 := 0) rfl rfl, fun U hU hW => ⟨rfl, by rw [hU], by rw [hU]; exact hP, va_K.moved hW.alike hK, hD.weaken (fun _ _ _ _ => trivial), pw_N.warm hW hN⟩⟩ rfl rfl hl.1 rfl (lv_room (Nat.le_of_ble_eq_true rfl)) dX8_passTick_86 ⟨Nat.le_of_ble_eq_true rfl, Nat.le_of_ble_eq_true rfl⟩) hS (fun q _ h => hFc q h) hFc (fun u t H1 locs ht hvm hw hB hz1 hk1 hS => ?_)
              obtain ⟨L63, I64, M65, si66, sa67⟩ := u
              replace hP := hB.1
              rw [ht] at hP
              replace hD : va_D A (xW h a e cI cJ cO cE L63 I64 M65 J n cap fE sd si66 sa67 dl) := hB.2.weaken (fun _ q _ h9 => hFc q.1 h9)
              clear hB
              generalize H1 = H at hP hS ⊢
              replace hP : va_P (dC, dI) vwCl (xW h a e cI cJ cO cE L63 I64 M65 J n cap fE sd si66 sa67 dl) H := hP
              obtain ⟨hwX, whUL, whUI, whUM, whUsi, whUsa, hw⟩ := hw
              replace hX : InvX n cap fE sd dl (b + 1 * i29 + 1) I64 J si66 := hwX
              replace hUL : ∀ j9 : Nat, j9 ∉ ([0, 1, 5, 6, 7] : List Nat) → L63 j9 = L j9 := mw_tr (by decide) whUL hUL
              replace hUI : ∀ j9 : Nat, j9 ∉ ([0, 2, 4, 12] : List Nat) → I64 j9 = I j9 := mw_tr (by decide) whUI hUI
              replace hUM : ∀ j9 : Nat, j9 ∉ ([8, 9] : List Nat) → M65 j9 = M j9 := mw_tr (by decide) whUM hUM
              replace hUsi : ∀ s9 q9 : Nat, q9 ∉ ([6, 7, 8, 9, 10, 11, 21, 22, 31, 32, 33, 34] : List Nat) → si66 s9 q9 = si s9 q9 := xw_tr2 (by decide) whUsi hUsi
              replace hUsa : ∀ s9 q9 : Nat, q9 ∉ ([3] : List Nat) → sa67 s9 q9 = sa s9 q9 := xw_tr2 (by decide) whUsa hUsa
              replace hw : (L63, I64, M65, si66, sa67) = f_y_passDueTime n dl i29 L33 I34 M35 si36 sa37 := hw
              replace hZ9 := bn5_s hZ9 hw
              refine lv_iinc (v := (nI (i29 + 1))) (lv' := [(3, .int (nI (i29 + 1))), (1, .long x10), (0, .ref h)]) hx hb dX8_passTick_89 hl (k := 0) rfl (nI_add i29 1) (by decide) rfl (fun ls hl => ?_)
              refine lv_goto (tgt := 44) hx hb dX8_passTick_92 (by decide) ?_
              exact ih31 (i29 + 1)  L63 I64 M65 si66 sa67 _ _ _ (by omega) (by omega) (hX.mono (by omega)) hUL hUI hUM hUsi hUsa  hZ9 hP hD hS (lv_sub hl [0, 1, 2] rfl)
    exact lp32 (n + 1) 0  L I3 M si sa _ _ _ (by omega) (by omega) (hX.mono (by omega)) hUL hUI hUM hUsi hUsa  hZ9 hP hD hS hl

end
