section
def f_y_tick_15 (n : Nat) (dl : Nat → Nat) (j2 : Nat) : Nat → Nat → (Nat → Int64) → (Nat → Int32) → (Nat → Nat → Int64) → (Nat → Nat → Int32) → (Nat → Nat → Nat → Int32) → (Nat → (Nat → Int64) → (Nat → Int32) → (Nat → Nat → Int64) → (Nat → Nat → Int32) → (Nat → Nat → Nat → Int32) → Int32 × (Nat → Int64) × (Nat → Int32) × (Nat → Nat → Int64) × (Nat → Nat → Int32) × (Nat → Nat → Nat → Int32)) → Int32 × (Nat → Int64) × (Nat → Int32) × (Nat → Nat → Int64) × (Nat → Nat → Int32) × (Nat → Nat → Nat → Int32)
  | 0, i3, L7, I8, M9, si10, sa11, K9_15 => K9_15 i3  L7 I8 M9 si10 sa11
  | fu4 + 1, i3, L7, I8, M9, si10, sa11, K9_15 => if j2 ≤ i3 then (K9_15 i3 L7 I8 M9 si10 sa11) else (bn5 (f_y_passTick n dl  L7 I8 M9 si10 sa11) (fun (L15 : Nat → Int64) (I16 : Nat → Int32) (M17 : Nat → Nat → Int64) (si18 : Nat → Nat → Int32) (sa19 : Nat → Nat → Nat → Int32) => f_y_tick_15 n dl j2 fu4 (i3 + 1)  L15 I16 M17 si18 sa19 K9_15))
def f_y_tick (n : Nat) (dl : Nat → Nat) (p0 : Int32) (L : Nat → Int64) (I : Nat → Int32) (M : Nat → Nat → Int64) (si : Nat → Nat → Int32) (sa : Nat → Nat → Nat → Int32) : Int32 × (Nat → Int64) × (Nat → Int32) × (Nat → Nat → Int64) × (Nat → Nat → Int32) × (Nat → Nat → Nat → Int32) := if (1 : Int32) ≤ p0 ∧ p0 ≤ (1000 : Int32) then (bnd (p0.toNatClampNeg) (fun (j2 : Nat) => f_y_tick_15 n dl j2 (j2 + 1) 0  L I M si sa (fun (i3 : Nat) (L7 : Nat → Int64) (I8 : Nat → Int32) (M9 : Nat → Nat → Int64) (si10 : Nat → Nat → Int32) (sa11 : Nat → Nat → Nat → Int32) => bnd (I8 0) (fun (x13 : Int32) => (x13, L7, I8, M9, si10, sa11))))) else (((-1 : Int32), L, I, M, si, sa))
def wq_y_tick : List Cond := ([.code yX8_tick cX8_tick 3 (some .int), .fieldLink RX8 67 "ServiceTree" "now" "I", .methodLink RX8 57 yX8_within, .static yX8_within, .initialized RX8, .methodLink RX8 139 yX8_passTick, .instanceMethod yX8_passTick, .selects RX8 yX8_passTick yX8_passTick] : List Cond) ++ (wsX80 ++ (wq_y_within ++ (wq_y_passTick)))
theorem in_y_tick_X8 : ∀ w ∈ wsX80, w ∈ wq_y_tick := fun _ h => List.mem_append_right _ (List.mem_append_left _ (h))
set_option maxRecDepth 20000 in
theorem wi_y_tick : ∀ w ∈ wq_y_tick, w ∈ lw_tbl := List.forall_mem_append.mpr ⟨(wix [680, 233, 271, 272, 60, 681, 683, 19] rfl), List.forall_mem_append.mpr ⟨inKX8, List.forall_mem_append.mpr ⟨wi_y_within, wi_y_passTick⟩⟩⟩
set_option maxRecDepth 20000 in
theorem wg_y_tick : GoodIn wq_y_tick wq_y_tick := goodIn_sub (fun _ h => h) (by decide +kernel)
set_option maxRecDepth 20000 in
theorem wc_y_tick_y_within_57 : GoodIn wq_y_tick (va_wsS RX8 57 yX8_within wq_y_within) := goodIn_app (goodIn_of _ (by decide +kernel)) (fun w h => ⟨List.mem_append_right _ (List.mem_append_right _ (List.mem_append_left _ (h))), (wg_y_within w h).2⟩)
set_option maxRecDepth 20000 in
theorem wc_y_tick_y_passTick_139 : GoodIn wq_y_tick (wsV RX8 139 RX8 yX8_passTick wq_y_passTick) := goodIn_app (goodIn_of _ (by decide +kernel)) (fun w h => ⟨List.mem_append_right _ (List.mem_append_right _ (List.mem_append_right _ (h))), (wg_y_passTick w h).2⟩)
def rm_y_tick : Room := { frames := 7, cells := 0, slots := 0, locals := 156 }
set_option maxHeartbeats 4000000 in
set_option maxRecDepth 100000 in
theorem c_y_tick (l : Launch) (dC : Nat → ClassId) (dI : Nat → Nat → Nat) (h : Nat) (a : Nat → Nat) (e : Nat) (cI cJ cO cE : ClassId) (L : Nat → Int64) (I : Nat → Int32) (M : Nat → Nat → Int64) (J : Nat → Nat → Int32) (n cap : Nat) (fE : Nat → Option Nat) (sd : Nat → Nat → Nat) (si : Nat → Nat → Int32) (sa : Nat → Nat → Nat → Int32) (dl : Nat → Nat) (b : Nat) (p0 : Int32) (sz : Nat) (hX0 : InvX n cap fE sd dl b I J si) (hb0 : b + 120000 < 2147483648)  : Met l yX8_tick wq_y_tick rm_y_tick (va_Pc [.ref h, .int p0] (fun U => U.heap.size = sz ∧ va_P (dC, dI) vwCl (xW h a e cI cJ cO cE L I M J n cap fE sd si sa dl) U.heap ∧ va_K (dC, dI) vwCl (xT cI cJ cO cE) U ∧ va_D (fun _ => True) (xW h a e cI cJ cO cE L I M J n cap fE sd si sa dl) ∧ pw_N U)) (va_Qi (fun (r : Int32) (u : (Nat → Int64) × (Nat → Int32) × (Nat → Nat → Int64) × (Nat → Nat → Int32) × (Nat → Nat → Nat → Int32)) => InvX n cap fE sd dl (b + 120000) u.2.1 J u.2.2.2.1 ∧ (∀ j9 : Nat, j9 ∉ ([0, 1, 5, 6, 7] : List Nat) → u.1 j9 = L j9) ∧ (∀ j9 : Nat, j9 ∉ ([0, 2, 4, 12] : List Nat) → u.2.1 j9 = I j9) ∧ (∀ j9 : Nat, j9 ∉ ([8, 9] : List Nat) → u.2.2.1 j9 = M j9) ∧ (∀ s9 q9 : Nat, q9 ∉ ([6, 7, 8, 9, 10, 11, 21, 22, 31, 32, 33, 34] : List Nat) → u.2.2.2.1 s9 q9 = si s9 q9) ∧ (∀ s9 q9 : Nat, q9 ∉ ([3] : List Nat) → u.2.2.2.2 s9 q9 = sa s9 q9) ∧ ((r, u) = f_y_tick n dl p0 L I M si sa)) (fun (u : (Nat → Int64) × (Nat → Int32) × (Nat → Nat → Int64) × (Nat → Nat → Int32) × (Nat → Nat → Nat → Int32)) (t : State) => va_P (dC, dI) vwCl (xW h a e cI cJ cO cE u.1 u.2.1 u.2.2.1 J n cap fE sd u.2.2.2.1 u.2.2.2.2 dl) t.heap ∧ va_D (va_A (xW h a e cI cJ cO cE L I M J n cap fE sd si sa dl) sz) (xW h a e cI cJ cO cE u.1 u.2.1 u.2.2.1 J n cap fE sd u.2.2.2.1 u.2.2.2.2 dl)) (va_A (xW h a e cI cJ cO cE L I M J n cap fE sd si sa dl) sz)) 0 0 (va_A (xW h a e cI cJ cO cE L I M J n cap fE sd si sa dl) sz) := by
  have hn : n ≤ 40 := hX0.1.1
  have hX := hX0
  have hUL : ∀ j9 : Nat, j9 ∉ ([0, 1, 5, 6, 7] : List Nat) → L j9 = L j9 := fun _ _ => rfl
  have hUI : ∀ j9 : Nat, j9 ∉ ([0, 2, 4, 12] : List Nat) → I j9 = I j9 := fun _ _ => rfl
  have hUM : ∀ j9 : Nat, j9 ∉ ([8, 9] : List Nat) → M j9 = M j9 := fun _ _ => rfl
  have hUsi : ∀ s9 q9 : Nat, q9 ∉ ([6, 7, 8, 9, 10, 11, 21, 22, 31, 32, 33, 34] : List Nat) → si s9 q9 = si s9 q9 := fun _ _ _ => rfl
  have hUsa : ∀ s9 q9 : Nat, q9 ∉ ([3] : List Nat) → sa s9 q9 = sa s9 q9 := fun _ _ _ => rfl
  refine Met.ofW (cc := cX8_tick) (maxL := 3) (ret := (some .int)) (by decide) rfl ?_
  intro p e9 s m args below meth c s₁ B hml hv
  obtain ⟨rfl, hsz, hP, hK, hD0, hN⟩ := hv
  have hx := B.exec
  have hb := B.bytes
  have hr := B.returns
  have hts := atoms_spec (ws := wq_y_tick) B.pre
  have hown : s.vm.findClass RX8 = some m.cls := findClass_of_methodNamed B.named
  have hlocks := B.notSynchronized
  subst hsz
  have hD := hD0.self (sz := s.heap.size)
  generalize hAe : va_A (xW h a e cI cJ cO cE L I M J n cap fE sd si sa dl) s.heap.size = A at hD ⊢
  have hA : ∀ q : Nat, s.heap.size ≤ q → A q := fun q h => by rw [← hAe]; exact Or.inr h
  have hS : va_S A s.heap s.heap [] := va_S.rf
  have hl := lv_entry ([.ref h, .int p0]) (n := 3) (Nat.le_of_ble_eq_true rfl)
  rw [lg_entry_eq]
  generalize (lg_sl ([.ref h, .int p0]) ++ List.replicate (3 - (lg_sl ([.ref h, .int p0])).length) Slot.unset).toArray = ls at hl ⊢
  have hl : lv_has ls 3 [(0, .ref h), (1, .int p0)] := hl
  refine mw_Q (fun Q0 hQ => ?_)
  obtain ⟨RES, hR0⟩ : ∃ R9, R9 = f_y_tick n dl p0 L I M si sa := ⟨_, rfl⟩
  have hZ9 := hR0
  unfold f_y_tick at hZ9
  refine lv_iload_n hx hb dX8_tick_0 rfl (lv_at hl 1 rfl) ?_
  refine lv_iconst (v := 1) hx hb dX8_tick_1 (by decide) ?_
  refine lv_sipush (v := 1000) hx hb dX8_tick_2 (by decide) ?_
  have hFc := mw_free hD hS hA
  refine va_calli (va_runS (As := [.int p0, .int 1, .int 1000]) (rest := []) ⟨hx, hb, hml, hown, hts⟩ (c_y_within l dC dI h a e cI cJ cO cE L I M J n cap fE sd si sa dl (b) p0 1 1000 s.heap.size hX (by omega) ) (va_cwS 3 hts wc_y_tick_y_within_57 rfl rfl rfl (by decide +kernel) ⟨Nat.le_of_ble_eq_true rfl, Nat.le_of_ble_eq_true rfl⟩) ⟨fun a9 U g mk q => by obtain ⟨q0, q1, qP, qK, qD, qN⟩ := q; exact ⟨q0, q1, qP, va_K.moved (u := U) (U := U.calling g mk a9) (Vm.Alike.refl U.vm) qK, qD, pw_N.same (u := U) (U := U.calling g mk a9) rfl qN⟩, fun U hU hW => ⟨rfl, by rw [hU], by rw [hU]; exact hP, va_K.moved hW.alike hK, hD.weaken (fun _ _ _ _ => trivial), pw_N.warm hW hN⟩⟩ rfl rfl hl.1 rfl (lv_room (Nat.le_of_ble_eq_true rfl)) dX8_tick_5 ⟨Nat.le_of_ble_eq_true rfl, Nat.le_of_ble_eq_true rfl⟩) hS (fun q _ h => hFc q h) hFc (fun r1 u t H1 locs ht hvm hw hB hz1 hk1 hS => ?_)
  replace hP := hB.1
  rw [ht] at hP
  replace hD : va_D A (xW h a e cI cJ cO cE L I M J n cap fE sd si sa dl) := hB.2.weaken (fun _ q _ h9 => hFc q.1 h9)
  clear hB
  generalize H1 = H at hP hS ⊢
  replace hP : va_P (dC, dI) vwCl (xW h a e cI cJ cO cE L I M J n cap fE sd si sa dl) H := hP
  rcases hw with ⟨rfl, haj2, hbj2⟩ | ⟨rfl, noj2⟩
  · replace hZ9 := ite_t hZ9 ⟨haj2, hbj2⟩
    obtain ⟨j2, hj2, ej2⟩ := nI_of2 (n := 1000) (by decide) (xw_ge1 haj2) hbj2
    replace hZ9 := bnd_s hZ9 (show j2 = p0.toNatClampNeg by rw [ej2, nI_clamp (by omega)])
    have gj2 : 0 < j2 := xw_ge1p ej2 haj2
    subst ej2
    refine lv_if_ne (tgt := 13) hx hb dX8_tick_8 (by decide) (fun _ => ?_) (fun c9 => absurd c9 (by decide))
    refine lv_iconst (v := 0) hx hb dX8_tick_13 (by decide) ?_
    refine lv_istore_n (lv' := [(2, .int 0), (0, .ref h), (1, .int (nI j2))]) hx hb dX8_tick_14 rfl hl (by decide) rfl (fun ls hl => ?_)
    obtain ⟨K9_15, hK9_15, hZ9⟩ := lp_gen hZ9
    have lp6 : ∀ (fu4 i3 : Nat)  (L7 : Nat → Int64) (I8 : Nat → Int32) (M9 : Nat → Nat → Int64) (si10 : Nat → Nat → Int32) (sa11 : Nat → Nat → Nat → Int32) (H : Heap) (locs : List Loc) (ls : Array Slot), j2 < i3 + fu4 → i3 ≤ j2 → InvX n cap fE sd dl (b + 120 * i3) I8 J si10 → (∀ j9 : Nat, j9 ∉ ([0, 1, 5, 6, 7] : List Nat) → L7 j9 = L j9) → (∀ j9 : Nat, j9 ∉ ([0, 2, 4, 12] : List Nat) → I8 j9 = I j9) → (∀ j9 : Nat, j9 ∉ ([8, 9] : List Nat) → M9 j9 = M j9) → (∀ s9 q9 : Nat, q9 ∉ ([6, 7, 8, 9, 10, 11, 21, 22, 31, 32, 33, 34] : List Nat) → si10 s9 q9 = si s9 q9) → (∀ s9 q9 : Nat, q9 ∉ ([3] : List Nat) → sa11 s9 q9 = sa s9 q9) → RES = f_y_tick_15 n dl j2 fu4 i3  L7 I8 M9 si10 sa11 K9_15 → va_P (dC, dI) vwCl (xW h a e cI cJ cO cE L7 I8 M9 J n cap fE sd si10 sa11 dl) H → va_D A (xW h a e cI cJ cO cE L7 I8 M9 J n cap fE sd si10 sa11 dl) → va_S A s.heap H locs → lv_has ls 3 [(2, .int (nI i3)), (0, .ref h), (1, .int (nI j2))] → W p l e9 (headSpec wq_y_tick rm_y_tick).room s m ([.ref h, .int (nI j2)] : List Value).toArray below meth c H locs 0 0 Q0 (F0 m 15 ls []) := by
      intro fu4
      induction fu4 with
      | zero =>
        intro i3  L7 I8 M9 si10 sa11 H locs ls hf hi
        exact absurd hf (by omega)
      | succ fu4 ih5 =>
        intro i3  L7 I8 M9 si10 sa11 H locs ls hfi3 hii3 hX hUL hUI hUM hUsi hUsa hZ9 hP hD hS hl
        rw [f_y_tick_15] at hZ9
        refine lv_iload_n hx hb dX8_tick_15 rfl (lv_at hl 0 rfl) ?_
        refine lv_iload_n hx hb dX8_tick_16 rfl (lv_at hl 2 rfl) ?_
        refine lv_icmp_ge (tgt := 30) hx hb dX8_tick_17 (by decide) (fun c12 => ?_) (fun c12 => ?_)
        · replace c12 : j2 ≤ i3 := (nI_leI (a := j2) (b := i3) (by omega) (by omega)).mp c12
          replace hZ9 := ite_t hZ9 c12
          replace hZ9 := lp_app6 hK9_15 hZ9
          refine lv_aload_n hx hb dX8_tick_30 rfl (lv_at hl 1 rfl) ?_
          refine va_get (D := (dC, dI)) (ci := 9) (v := .int (I8 0)) (C := RX8) (T := TX8) (N := 14) hx hb hts in_y_tick_X8 hown hK hP 0 rfl rfl 9 (by decide) (hts (.fieldLink RX8 67 "ServiceTree" "now" "I") (by decide +kernel)) (fun _ h9 => h9) rfl dX8_tick_31 ?_
          refine lv_topi (fun x13 ex13 => ?_)
          replace hZ9 := bnd_s hZ9 ex13
          rw [hQ]
          exact W.iret (v := x13) hx hb hr (fun t ht hW => ⟨⟨x13, (L7, I8, M9, si10, sa11), rfl, ⟨hX.mono (by omega), hUL, hUI, hUM, hUsi, hUsa, hZ9.symm.trans hR0⟩, by rw [ht]; exact hP, hD⟩, hS.F ht⟩) hS.2.2 dX8_tick_34
        · replace c12 : ¬ (j2 ≤ i3) := fun q9 => c12 ((nI_leI (a := j2) (b := i3) (by omega) (by omega)).mpr q9)
          replace hZ9 := ite_f hZ9 c12
          refine lv_aload_n hx hb dX8_tick_20 rfl (lv_at hl 1 rfl) ?_
          have hFc := mw_free hD hS hA
          refine va_callv (va_runV (As := []) (rest := []) ⟨hx, hb, hml, hown, hts⟩ (c_y_passTick l dC dI h a e cI cJ cO cE L7 I8 M9 J n cap fE sd si10 sa11 dl (b + 120 * i3)  H.size hX (by omega) ) (cwV 0 hts wc_y_tick_y_passTick_139 rfl rfl rfl (by decide +kernel) ⟨Nat.le_of_ble_eq_true rfl, Nat.le_of_ble_eq_true rfl⟩) ⟨fun a9 U g mk q => by obtain ⟨q0, q1, qP, qK, qD, qN⟩ := q; exact ⟨q0, q1, qP, va_K.moved (u := U) (U := U.calling g mk a9) (Vm.Alike.refl U.vm) qK, qD, pw_N.same (u := U) (U := U.calling g mk a9) rfl qN⟩, va_recv hK hP (ci := 9) (q0 := 0) rfl rfl, fun U hU hW => ⟨rfl, by rw [hU], by rw [hU]; exact hP, va_K.moved hW.alike hK, hD.weaken (fun _ _ _ _ => trivial), pw_N.warm hW hN⟩⟩ rfl rfl hl.1 rfl (lv_room (Nat.le_of_ble_eq_true rfl)) dX8_tick_21 ⟨Nat.le_of_ble_eq_true rfl, Nat.le_of_ble_eq_true rfl⟩) hS (fun q _ h => hFc q h) hFc (fun u t H1 locs ht hvm hw hB hz1 hk1 hS => ?_)
          obtain ⟨L15, I16, M17, si18, sa19⟩ := u
          replace hP := hB.1
          rw [ht] at hP
          replace hD : va_D A (xW h a e cI cJ cO cE L15 I16 M17 J n cap fE sd si18 sa19 dl) := hB.2.weaken (fun _ q _ h9 => hFc q.1 h9)
          clear hB
          generalize H1 = H at hP hS ⊢
          replace hP : va_P (dC, dI) vwCl (xW h a e cI cJ cO cE L15 I16 M17 J n cap fE sd si18 sa19 dl) H := hP
          obtain ⟨hwX, whUL, whUI, whUM, whUsi, whUsa, hw⟩ := hw
          replace hX : InvX n cap fE sd dl (b + 120 * i3 + 120) I16 J si18 := hwX
          replace hUL : ∀ j9 : Nat, j9 ∉ ([0, 1, 5, 6, 7] : List Nat) → L15 j9 = L j9 := mw_tr (by decide) whUL hUL
          replace hUI : ∀ j9 : Nat, j9 ∉ ([0, 2, 4, 12] : List Nat) → I16 j9 = I j9 := mw_tr (by decide) whUI hUI
          replace hUM : ∀ j9 : Nat, j9 ∉ ([8, 9] : List Nat) → M17 j9 = M j9 := mw_tr (by decide) whUM hUM
          replace hUsi : ∀ s9 q9 : Nat, q9 ∉ ([6, 7, 8, 9, 10, 11, 21, 22, 31, 32, 33, 34] : List Nat) → si18 s9 q9 = si s9 q9 := xw_tr2 (by decide) whUsi hUsi
          replace hUsa : ∀ s9 q9 : Nat, q9 ∉ ([3] : List Nat) → sa19 s9 q9 = sa s9 q9 := xw_tr2 (by decide) whUsa hUsa
          replace hw : (L15, I16, M17, si18, sa19) = f_y_passTick n dl  L7 I8 M9 si10 sa11 := hw
          replace hZ9 := bn5_s hZ9 hw
          refine lv_iinc (v := (nI (i3 + 1))) (lv' := [(2, .int (nI (i3 + 1))), (0, .ref h), (1, .int (nI j2))]) hx hb dX8_tick_24 hl (k := 0) rfl (nI_add i3 1) (by decide) rfl (fun ls hl => ?_)
          refine lv_goto (tgt := 15) hx hb dX8_tick_27 (by decide) ?_
          exact ih5 (i3 + 1)  L15 I16 M17 si18 sa19 _ _ _ (by omega) (by omega) (hX.mono (by omega)) hUL hUI hUM hUsi hUsa  hZ9 hP hD hS (lv_sub hl [0, 1, 2] rfl)
    exact lp6 (j2 + 1) 0  L I M si sa _ _ _ (by omega) (by omega) (hX.mono (by omega)) hUL hUI hUM hUsi hUsa  hZ9 hP hD hS hl
  · replace hZ9 := ite_f hZ9 noj2
    refine lv_if_ne (tgt := 13) hx hb dX8_tick_8 (by decide) (fun c9 => absurd (by decide) c9) (fun _ => ?_)
    refine lv_iconst (v := (-1)) hx hb dX8_tick_11 (by decide) ?_
    rw [hQ]
    exact W.iret (v := (-1)) hx hb hr (fun t ht hW => ⟨⟨(-1), (L, I, M, si, sa), rfl, ⟨hX.mono (by omega), hUL, hUI, hUM, hUsi, hUsa, hZ9.symm.trans hR0⟩, by rw [ht]; exact hP, hD⟩, hS.F ht⟩) hS.2.2 dX8_tick_12
def f_y_order (n : Nat) (dl : Nat → Nat) (p0 : Int32) (p1 : Int32) (L : Nat → Int64) (I : Nat → Int32) (M : Nat → Nat → Int64) (si : Nat → Nat → Int32) (sa : Nat → Nat → Nat → Int32) : Int32 × (Nat → Int64) × (Nat → Int32) × (Nat → Nat → Int64) × (Nat → Nat → Int32) × (Nat → Nat → Nat → Int32) := bn3 (f_y_draftOrder n dl p0 p1 L I M) (fun (r1 : Int32) (L2 : Nat → Int64) (I3 : Nat → Int32) => bnd (f_y_keepRing n dl r1 I3) (fun (I5 : Nat → Int32) => if r1 < (0 : Int32) then ((r1, L2, I5, M, si, sa)) else (bn5 (f_y_carryOutDraft n dl  L2 I5 M si sa) (fun (L8 : Nat → Int64) (I9 : Nat → Int32) (M10 : Nat → Nat → Int64) (si11 : Nat → Nat → Int32) (sa12 : Nat → Nat → Nat → Int32) => (r1, L8, I9, M10, si11, sa12)))))
def wq_y_order : List Cond := ([.code yX8_order cX8_order 4 (some .int), .methodLink RX8 128 yX8_draftOrder, .instanceMethod yX8_draftOrder, .selects RX8 yX8_draftOrder yX8_draftOrder, .initialized RX8, .methodLink RX8 132 yX8_keepRing, .instanceMethod yX8_keepRing, .selects RX8 yX8_keepRing yX8_keepRing, .methodLink RX8 136 yX8_carryOutDraft, .instanceMethod yX8_carryOutDraft, .selects RX8 yX8_carryOutDraft yX8_carryOutDraft] : List Cond) ++ (wq_y_draftOrder ++ (wq_y_keepRing ++ (wq_y_carryOutDraft)))
set_option maxRecDepth 20000 in
theorem wi_y_order : ∀ w ∈ wq_y_order, w ∈ lw_tbl := List.forall_mem_append.mpr ⟨(wix [520, 521, 523, 7, 60, 585, 587, 12, 589, 591, 13] rfl), List.forall_mem_append.mpr ⟨wi_y_draftOrder, List.forall_mem_append.mpr ⟨wi_y_keepRing, wi_y_carryOutDraft⟩⟩⟩
set_option maxRecDepth 20000 in
theorem wg_y_order : GoodIn wq_y_order wq_y_order := goodIn_sub (fun _ h => h) (by decide +kernel)
set_option maxRecDepth 20000 in
theorem wc_y_order_y_draftOrder_128 : GoodIn wq_y_order (wsV RX8 128 RX8 yX8_draftOrder wq_y_draftOrder) := goodIn_app (goodIn_of _ (by decide +kernel)) (fun w h => ⟨List.mem_append_right _ (List.mem_append_left _ (h)), (wg_y_draftOrder w h).2⟩)
set_option maxRecDepth 20000 in
theorem wc_y_order_y_keepRing_132 : GoodIn wq_y_order (wsV RX8 132 RX8 yX8_keepRing wq_y_keepRing) := goodIn_app (goodIn_of _ (by decide +kernel)) (fun w h => ⟨List.mem_append_right _ (List.mem_append_right _ (List.mem_append_left _ (h))), (wg_y_keepRing w h).2⟩)
set_option maxRecDepth 20000 in
theorem wc_y_order_y_carryOutDraft_136 : GoodIn wq_y_order (wsV RX8 136 RX8 yX8_carryOutDraft wq_y_carryOutDraft) := goodIn_app (goodIn_of _ (by decide +kernel)) (fun w h => ⟨List.mem_append_right _ (List.mem_append_right _ (List.mem_append_right _ (h))), (wg_y_carryOutDraft w h).2⟩)
def rm_y_order : Room := { frames := 7, cells := 0, slots := 0, locals := 180 }
set_option maxHeartbeats 4000000 in
set_option maxRecDepth 100000 in
theorem c_y_order (l : Launch) (dC : Nat → ClassId) (dI : Nat → Nat → Nat) (h : Nat) (a : Nat → Nat) (e : Nat) (cI cJ cO cE : ClassId) (L : Nat → Int64) (I : Nat → Int32) (M : Nat → Nat → Int64) (J : Nat → Nat → Int32) (n cap : Nat) (fE : Nat → Option Nat) (sd : Nat → Nat → Nat) (si : Nat → Nat → Int32) (sa : Nat → Nat → Nat → Int32) (dl : Nat → Nat) (b : Nat) (p0 : Int32) (p1 : Int32) (sz : Nat) (hX0 : InvX n cap fE sd dl b I J si) (hb0 : b + 80 < 2147483648)  : Met l yX8_order wq_y_order rm_y_order (va_Pc [.ref h, .int p0, .int p1] (fun U => U.heap.size = sz ∧ va_P (dC, dI) vwCl (xW h a e cI cJ cO cE L I M J n cap fE sd si sa dl) U.heap ∧ va_K (dC, dI) vwCl (xT cI cJ cO cE) U ∧ va_D (fun _ => True) (xW h a e cI cJ cO cE L I M J n cap fE sd si sa dl) ∧ pw_N U)) (va_Qi (fun (r : Int32) (u : (Nat → Int64) × (Nat → Int32) × (Nat → Nat → Int64) × (Nat → Nat → Int32) × (Nat → Nat → Nat → Int32)) => InvX n cap fE sd dl (b + 80) u.2.1 J u.2.2.2.1 ∧ (∀ j9 : Nat, j9 ∉ ([0, 2, 3, 4, 5, 6, 7] : List Nat) → u.1 j9 = L j9) ∧ (∀ j9 : Nat, j9 ∉ ([3, 8, 12] : List Nat) → u.2.1 j9 = I j9) ∧ (∀ j9 : Nat, j9 ∉ ([8, 9] : List Nat) → u.2.2.1 j9 = M j9) ∧ (∀ s9 q9 : Nat, q9 ∉ ([6, 7, 8, 9, 10, 11, 21, 22] : List Nat) → u.2.2.2.1 s9 q9 = si s9 q9) ∧ (∀ s9 q9 : Nat, q9 ∉ ([3] : List Nat) → u.2.2.2.2 s9 q9 = sa s9 q9) ∧ ((r, u) = f_y_order n dl p0 p1 L I M si sa)) (fun (u : (Nat → Int64) × (Nat → Int32) × (Nat → Nat → Int64) × (Nat → Nat → Int32) × (Nat → Nat → Nat → Int32)) (t : State) => va_P (dC, dI) vwCl (xW h a e cI cJ cO cE u.1 u.2.1 u.2.2.1 J n cap fE sd u.2.2.2.1 u.2.2.2.2 dl) t.heap ∧ va_D (va_A (xW h a e cI cJ cO cE L I M J n cap fE sd si sa dl) sz) (xW h a e cI cJ cO cE u.1 u.2.1 u.2.2.1 J n cap fE sd u.2.2.2.1 u.2.2.2.2 dl)) (va_A (xW h a e cI cJ cO cE L I M J n cap fE sd si sa dl) sz)) 0 0 (va_A (xW h a e cI cJ cO cE L I M J n cap fE sd si sa dl) sz) := by
  have hn : n ≤ 40 := hX0.1.1
  have hX := hX0
  have hUL : ∀ j9 : Nat, j9 ∉ ([0, 2, 3, 4, 5, 6, 7] : List Nat) → L j9 = L j9 := fun _ _ => rfl
  have hUI : ∀ j9 : Nat, j9 ∉ ([3, 8, 12] : List Nat) → I j9 = I j9 := fun _ _ => rfl
  have hUM : ∀ j9 : Nat, j9 ∉ ([8, 9] : List Nat) → M j9 = M j9 := fun _ _ => rfl
  have hUsi : ∀ s9 q9 : Nat, q9 ∉ ([6, 7, 8, 9, 10, 11, 21, 22] : List Nat) → si s9 q9 = si s9 q9 := fun _ _ _ => rfl
  have hUsa : ∀ s9 q9 : Nat, q9 ∉ ([3] : List Nat) → sa s9 q9 = sa s9 q9 := fun _ _ _ => rfl
  refine Met.ofW (cc := cX8_order) (maxL := 4) (ret := (some .int)) (by decide) rfl ?_
  intro p e9 s m args below meth c s₁ B hml hv
  obtain ⟨rfl, hsz, hP, hK, hD0, hN⟩ := hv
  have hx := B.exec
  have hb := B.bytes
  have hr := B.returns
  have hts := atoms_spec (ws := wq_y_order) B.pre
  have hown : s.vm.findClass RX8 = some m.cls := findClass_of_methodNamed B.named
  have hlocks := B.notSynchronized
  subst hsz
  have hD := hD0.self (sz := s.heap.size)
  generalize hAe : va_A (xW h a e cI cJ cO cE L I M J n cap fE sd si sa dl) s.heap.size = A at hD ⊢
  have hA : ∀ q : Nat, s.heap.size ≤ q → A q := fun q h => by rw [← hAe]; exact Or.inr h
  have hS : va_S A s.heap s.heap [] := va_S.rf
  have hl := lv_entry ([.ref h, .int p0, .int p1]) (n := 4) (Nat.le_of_ble_eq_true rfl)
  rw [lg_entry_eq]
  generalize (lg_sl ([.ref h, .int p0, .int p1]) ++ List.replicate (4 - (lg_sl ([.ref h, .int p0, .int p1])).length) Slot.unset).toArray = ls at hl ⊢
  have hl : lv_has ls 4 [(0, .ref h), (1, .int p0), (2, .int p1)] := hl
  obtain ⟨RES, hR0⟩ : ∃ R9, R9 = f_y_order n dl p0 p1 L I M si sa := ⟨_, rfl⟩
  have hZ9 := hR0
  unfold f_y_order at hZ9
  refine lv_aload_n hx hb dX8_order_0 rfl (lv_at hl 0 rfl) ?_
  refine lv_iload_n hx hb dX8_order_1 rfl (lv_at hl 1 rfl) ?_
  refine lv_iload_n hx hb dX8_order_2 rfl (lv_at hl 2 rfl) ?_
  have hFc := mw_free hD hS hA
  refine va_calli (va_runV (As := [.int p0, .int p1]) (rest := []) ⟨hx, hb, hml, hown, hts⟩ (c_y_draftOrder l dC dI h a e cI cJ cO cE L I M J n cap fE sd si sa dl (b) p0 p1 s.heap.size hX (by omega) ) (cwV 2 hts wc_y_order_y_draftOrder_128 rfl rfl rfl (by decide +kernel) ⟨Nat.le_of_ble_eq_true rfl, Nat.le_of_ble_eq_true rfl⟩) ⟨fun a9 U g mk q => by obtain ⟨q0, q1, qP, qK, qD, qN⟩ := q; exact ⟨q0, q1, qP, va_K.moved (u := U) (U := U.calling g mk a9) (Vm.Alike.refl U.vm) qK, qD, pw_N.same (u := U) (U := U.calling g mk a9) rfl qN⟩, va_recv hK hP (ci := 9) (q0 := 0) rfl rfl, fun U hU hW => ⟨rfl, by rw [hU], by rw [hU]; exact hP, va_K.moved hW.alike hK, hD.weaken (fun _ _ _ _ => trivial), pw_N.warm hW hN⟩⟩ rfl rfl hl.1 rfl (lv_room (Nat.le_of_ble_eq_true rfl)) dX8_order_3 ⟨Nat.le_of_ble_eq_true rfl, Nat.le_of_ble_eq_true rfl⟩) hS (fun q _ h => hFc q h) hFc (fun r1 u t H1 locs ht hvm hw hB hz1 hk1 hS => ?_)
  obtain ⟨L2, I3⟩ := u
  replace hP := hB.1
  rw [ht] at hP
  replace hD : va_D A (xW h a e cI cJ cO cE L2 I3 M J n cap fE sd si sa dl) := hB.2.weaken (fun _ q _ h9 => hFc q.1 h9)
  clear hB
  generalize H1 = H at hP hS ⊢
  replace hP : va_P (dC, dI) vwCl (xW h a e cI cJ cO cE L2 I3 M J n cap fE sd si sa dl) H := hP
  obtain ⟨hwX, whUL, whUI, hw⟩ := hw
  replace hX : InvX n cap fE sd dl (b) I3 J si := hwX
  replace hUL : ∀ j9 : Nat, j9 ∉ ([0, 2, 3, 4, 5, 6, 7] : List Nat) → L2 j9 = L j9 := mw_tr (by decide) whUL hUL
  replace hUI : ∀ j9 : Nat, j9 ∉ ([3, 8, 12] : List Nat) → I3 j9 = I j9 := mw_tr (by decide) whUI hUI
  replace hw : (r1, L2, I3) = f_y_draftOrder n dl p0 p1 L I M := hw
  replace hZ9 := bn3_s hZ9 hw
  refine lv_istore_n (lv' := [(3, .int r1), (0, .ref h), (1, .int p0), (2, .int p1)]) hx hb dX8_order_6 rfl hl (by decide) rfl (fun ls hl => ?_)
  refine lv_aload_n hx hb dX8_order_7 rfl (lv_at hl 1 rfl) ?_
  refine lv_iload_n hx hb dX8_order_8 rfl (lv_at hl 0 rfl) ?_
  have hFc := mw_free hD hS hA
  refine va_callv (va_runV (As := [.int r1]) (rest := []) ⟨hx, hb, hml, hown, hts⟩ (c_y_keepRing l dC dI h a e cI cJ cO cE L2 I3 M J n cap fE sd si sa dl (b) r1 H.size hX (by omega) ) (cwV 1 hts wc_y_order_y_keepRing_132 rfl rfl rfl (by decide +kernel) ⟨Nat.le_of_ble_eq_true rfl, Nat.le_of_ble_eq_true rfl⟩) ⟨fun a9 U g mk q => by obtain ⟨q0, q1, qP, qK, qD, qN⟩ := q; exact ⟨q0, q1, qP, va_K.moved (u := U) (U := U.calling g mk a9) (Vm.Alike.refl U.vm) qK, qD, pw_N.same (u := U) (U := U.calling g mk a9) rfl qN⟩, va_recv hK hP (ci := 9) (q0 := 0) rfl rfl, fun U hU hW => ⟨rfl, by rw [hU], by rw [hU]; exact hP, va_K.moved hW.alike hK, hD.weaken (fun _ _ _ _ => trivial), pw_N.warm hW hN⟩⟩ rfl rfl hl.1 rfl (lv_room (Nat.le_of_ble_eq_true rfl)) dX8_order_9 ⟨Nat.le_of_ble_eq_true rfl, Nat.le_of_ble_eq_true rfl⟩) hS (fun q _ h => hFc q h) hFc (fun u t H1 locs ht hvm hw hB hz1 hk1 hS => ?_)
  obtain ⟨I5, rfl⟩ : ∃ z9, z9 = u := ⟨_, rfl⟩
  replace hP := hB.1
  rw [ht] at hP
  replace hD : va_D A (xW h a e cI cJ cO cE L2 I5 M J n cap fE sd si sa dl) := hB.2.weaken (fun _ q _ h9 => hFc q.1 h9)
  clear hB
  generalize H1 = H at hP hS ⊢
  replace hP : va_P (dC, dI) vwCl (xW h a e cI cJ cO cE L2 I5 M J n cap fE sd si sa dl) H := hP
  obtain ⟨hwX, whUI, hw⟩ := hw
  replace hX : InvX n cap fE sd dl (b) I5 J si := hwX
  replace hUI : ∀ j9 : Nat, j9 ∉ ([3, 8, 12] : List Nat) → I5 j9 = I j9 := mw_tr (by decide) whUI hUI
  replace hw : I5 = f_y_keepRing n dl r1 I3 := hw
  replace hZ9 := bnd_s hZ9 hw
  refine lv_iload_n hx hb dX8_order_12 rfl (lv_at hl 0 rfl) ?_
  refine lv_if_lt (tgt := 20) hx hb dX8_order_13 (by decide) (fun c6 => ?_) (fun c6 => ?_)
  · replace hZ9 := ite_t hZ9 c6
    refine lv_iload_n hx hb dX8_order_20 rfl (lv_at hl 0 rfl) ?_
    exact W.iret (v := r1) hx hb hr (fun t ht hW => ⟨⟨r1, (L2, I5, M, si, sa), rfl, ⟨hX.mono (by omega), hUL, hUI, hUM, hUsi, hUsa, hZ9.symm.trans hR0⟩, by rw [ht]; exact hP, hD⟩, hS.F ht⟩) hS.2.2 dX8_order_21
  · replace hZ9 := ite_f hZ9 c6
    refine lv_aload_n hx hb dX8_order_16 rfl (lv_at hl 1 rfl) ?_
    have hFc := mw_free hD hS hA
    refine va_callv (va_runV (As := []) (rest := []) ⟨hx, hb, hml, hown, hts⟩ (c_y_carryOutDraft l dC dI h a e cI cJ cO cE L2 I5 M J n cap fE sd si sa dl (b)  H.size hX (by omega) ) (cwV 0 hts wc_y_order_y_carryOutDraft_136 rfl rfl rfl (by decide +kernel) ⟨Nat.le_of_ble_eq_true rfl, Nat.le_of_ble_eq_true rfl⟩) ⟨fun a9 U g mk q => by obtain ⟨q0, q1, qP, qK, qD, qN⟩ := q; exact ⟨q0, q1, qP, va_K.moved (u := U) (U := U.calling g mk a9) (Vm.Alike.refl U.vm) qK, qD, pw_N.same (u := U) (U := U.calling g mk a9) rfl qN⟩, va_recv hK hP (ci := 9) (q0 := 0) rfl rfl, fun U hU hW => ⟨rfl, by rw [hU], by rw [hU]; exact hP, va_K.moved hW.alike hK, hD.weaken (fun _ _ _ _ => trivial), pw_N.warm hW hN⟩⟩ rfl rfl hl.1 rfl (lv_room (Nat.le_of_ble_eq_true rfl)) dX8_order_17 ⟨Nat.le_of_ble_eq_true rfl, Nat.le_of_ble_eq_true rfl⟩) hS (fun q _ h => hFc q h) hFc (fun u t H1 locs ht hvm hw hB hz1 hk1 hS => ?_)
    obtain ⟨L8, I9, M10, si11, sa12⟩ := u
    replace hP := hB.1
    rw [ht] at hP
    replace hD : va_D A (xW h a e cI cJ cO cE L8 I9 M10 J n cap fE sd si11 sa12 dl) := hB.2.weaken (fun _ q _ h9 => hFc q.1 h9)
    clear hB
    generalize H1 = H at hP hS ⊢
    replace hP : va_P (dC, dI) vwCl (xW h a e cI cJ cO cE L8 I9 M10 J n cap fE sd si11 sa12 dl) H := hP
    obtain ⟨hwX, whUL, whUI, whUM, whUsi, whUsa, hw⟩ := hw
    replace hX : InvX n cap fE sd dl (b + 80) I9 J si11 := hwX
    replace hUL : ∀ j9 : Nat, j9 ∉ ([0, 2, 3, 4, 5, 6, 7] : List Nat) → L8 j9 = L j9 := mw_tr (by decide) whUL hUL
    replace hUI : ∀ j9 : Nat, j9 ∉ ([3, 8, 12] : List Nat) → I9 j9 = I j9 := mw_tr (by decide) whUI hUI
    replace hUM : ∀ j9 : Nat, j9 ∉ ([8, 9] : List Nat) → M10 j9 = M j9 := mw_tr (by decide) whUM hUM
    replace hUsi : ∀ s9 q9 : Nat, q9 ∉ ([6, 7, 8, 9, 10, 11, 21, 22] : List Nat) → si11 s9 q9 = si s9 q9 := xw_tr2 (by decide) whUsi hUsi
    replace hUsa : ∀ s9 q9 : Nat, q9 ∉ ([3] : List Nat) → sa12 s9 q9 = sa s9 q9 := xw_tr2 (by decide) whUsa hUsa
    replace hw : (L8, I9, M10, si11, sa12) = f_y_carryOutDraft n dl  L2 I5 M si sa := hw
    replace hZ9 := bn5_s hZ9 hw
    refine lv_iload_n hx hb dX8_order_20 rfl (lv_at hl 0 rfl) ?_
    exact W.iret (v := r1) hx hb hr (fun t ht hW => ⟨⟨r1, (L8, I9, M10, si11, sa12), rfl, ⟨hX.mono (by omega), hUL, hUI, hUM, hUsi, hUsa, hZ9.symm.trans hR0⟩, by rw [ht]; exact hP, hD⟩, hS.F ht⟩) hS.2.2 dX8_order_21
def f_y_letter (n : Nat) (dl : Nat → Nat) (p0 : Int32) (L : Nat → Int64) (I : Nat → Int32) (M : Nat → Nat → Int64) (si : Nat → Nat → Int32) (sa : Nat → Nat → Nat → Int32) : Int32 × (Nat → Int64) × (Nat → Int32) × (Nat → Nat → Int64) × (Nat → Nat → Int32) × (Nat → Nat → Nat → Int32) := if (0 : Int32) ≤ p0 ∧ p0 < nI n then (bnd (p0.toNatClampNeg) (fun (j2 : Nat) => bnd (si j2 0) (fun (x4 : Int32) => if x4 = (2 : Int32) then (if (si j2 32).toNatClampNeg < dl j2 then (bnd ((si j2 32).toNatClampNeg) (fun (z7 : Nat) => bnd (I 1) (fun (x8 : Int32) => bnd (x8 + (1 : Int32)) (fun (x9 : Int32) => bnd (va_up I 1 x9) (fun (I10 : Nat → Int32) => bn2 (f_y_put n dl j2 x8 si sa) (fun (si12 : Nat → Nat → Int32) (sa13 : Nat → Nat → Nat → Int32) => bnd (L 1) (fun (x14 : Int64) => bnd (f_y_only n dl j2 ) (fun (r15 : Int64) => bnd (x14 ||| r15) (fun (x16 : Int64) => bnd (va_up L 1 x16) (fun (L17 : Nat → Int64) => bnd ((si12 j2 6).toNatClampNeg) (fun (z18 : Nat) => if z18 = 0 then (bn3 (f_y_draftOrder n dl 0 (nI j2) L17 I10 M) (fun (r20 : Int32) (L21 : Nat → Int64) (I22 : Nat → Int32) => if r20 < (0 : Int32) then ((x8, L21, I22, M, si12, sa13)) else (bn5 (f_y_carryOutDraft n dl  L21 I22 M si12 sa13) (fun (L25 : Nat → Int64) (I26 : Nat → Int32) (M27 : Nat → Nat → Int64) (si28 : Nat → Nat → Int32) (sa29 : Nat → Nat → Nat → Int32) => (x8, L25, I26, M27, si28, sa29))))) else ((x8, L17, I10, M, si12, sa13))))))))))))) else (((-6 : Int32), L, I, M, si, sa))) else (((-2 : Int32), L, I, M, si, sa))))) else (((-1 : Int32), L, I, M, si, sa))
def wq_y_letter : List Cond := ([.code yX8_letter cX8_letter 4 (some .int), .fieldLink RX8 10 "ServiceTree" "services" "Ljava/util/ArrayList;", .classLink RX8 65 RX7, .fieldLink RX8 152 "ServiceTree" "lettersCome" "I", .fieldLink RX8 158 "ServiceTree" "withLetters" "J", .methodLink RX8 82 yX8_exists, .instanceMethod yX8_exists, .selects RX8 yX8_exists yX8_exists, .initialized RX8, .methodLink RX8 86 yJx4a65c_get_915e3, .instanceMethod yJx4a65c_get_915e3, .selects RJx4a65c yJx4a65c_get_915e3 yJx4a65c_get_915e3, .initialized RJx4a65c, .methodLink RX8 146 yX0_isFull, .instanceMethod yX0_isFull, .selects RX0 yX0_isFull yX0_isFull, .initialized RX0, .methodLink RX8 155 yX0_put, .instanceMethod yX0_put, .selects RX0 yX0_put yX0_put, .methodLink RX8 78 yX8_only, .static yX8_only, .methodLink RX8 128 yX8_draftOrder, .instanceMethod yX8_draftOrder, .selects RX8 yX8_draftOrder yX8_draftOrder, .methodLink RX8 136 yX8_carryOutDraft, .instanceMethod yX8_carryOutDraft, .selects RX8 yX8_carryOutDraft yX8_carryOutDraft] : List Cond) ++ (wsX70 ++ (wsX80 ++ (wq_y_exists ++ (wq_x_get ++ (wq_y_isFull ++ (wq_y_put ++ (wq_y_only ++ (wq_y_draftOrder ++ (wq_y_carryOutDraft)))))))))
theorem in_y_letter_X7 : ∀ w ∈ wsX70, w ∈ wq_y_letter := fun _ h => List.mem_append_right _ (List.mem_append_left _ (h))
theorem in_y_letter_X8 : ∀ w ∈ wsX80, w ∈ wq_y_letter := fun _ h => List.mem_append_right _ (List.mem_append_right _ (List.mem_append_left _ (h)))
set_option maxRecDepth 20000 in
theorem wi_y_letter : ∀ w ∈ wq_y_letter, w ∈ lw_tbl := List.forall_mem_append.mpr ⟨(wix [736, 224, 278, 234, 232, 449, 451, 3, 60, 453, 454, 455, 63, 737, 738, 739, 72, 741, 742, 743, 442, 443, 521, 523, 7, 589, 591, 13] rfl), List.forall_mem_append.mpr ⟨inKX7, List.forall_mem_append.mpr ⟨inKX8, List.forall_mem_append.mpr ⟨wi_y_exists, List.forall_mem_append.mpr ⟨wi_x_get, List.forall_mem_append.mpr ⟨wi_y_isFull, List.forall_mem_append.mpr ⟨wi_y_put, List.forall_mem_append.mpr ⟨wi_y_only, List.forall_mem_append.mpr ⟨wi_y_draftOrder, wi_y_carryOutDraft⟩⟩⟩⟩⟩⟩⟩⟩⟩
set_option maxRecDepth 20000 in
theorem wg_y_letter : GoodIn wq_y_letter wq_y_letter := goodIn_sub (fun _ h => h) (by decide +kernel)
set_option maxRecDepth 20000 in
theorem wc_y_letter_y_exists_82 : GoodIn wq_y_letter (wsV RX8 82 RX8 yX8_exists wq_y_exists) := goodIn_app (goodIn_of _ (by decide +kernel)) (fun w h => ⟨List.mem_append_right _ (List.mem_append_right _ (List.mem_append_right _ (List.mem_append_left _ (h)))), (wg_y_exists w h).2⟩)
set_option maxRecDepth 20000 in
theorem wc_y_letter_x_get_86 : GoodIn wq_y_letter (wsV RX8 86 RJx4a65c yJx4a65c_get_915e3 wq_x_get) := goodIn_app (goodIn_of _ (by decide +kernel)) (fun w h => ⟨List.mem_append_right _ (List.mem_append_right _ (List.mem_append_right _ (List.mem_append_right _ (List.mem_append_left _ (h))))), (wg_x_get w h).2⟩)
set_option maxRecDepth 20000 in
theorem wc_y_letter_y_isFull_146 : GoodIn wq_y_letter (wsV RX8 146 RX0 yX0_isFull wq_y_isFull) := goodIn_app (goodIn_of _ (by decide +kernel)) (fun w h => ⟨List.mem_append_right _ (List.mem_append_right _ (List.mem_append_right _ (List.mem_append_right _ (List.mem_append_right _ (List.mem_append_left _ (h)))))), (wg_y_isFull w h).2⟩)
set_option maxRecDepth 20000 in
theorem wc_y_letter_y_put_155 : GoodIn wq_y_letter (wsV RX8 155 RX0 yX0_put wq_y_put) := goodIn_app (goodIn_of _ (by decide +kernel)) (fun w h => ⟨List.mem_append_right _ (List.mem_append_right _ (List.mem_append_right _ (List.mem_append_right _ (List.mem_append_right _ (List.mem_append_right _ (List.mem_append_left _ (h))))))), (wg_y_put w h).2⟩)
set_option maxRecDepth 20000 in
theorem wc_y_letter_y_only_78 : GoodIn wq_y_letter (va_wsS RX8 78 yX8_only wq_y_only) := goodIn_app (goodIn_of _ (by decide +kernel)) (fun w h => ⟨List.mem_append_right _ (List.mem_append_right _ (List.mem_append_right _ (List.mem_append_right _ (List.mem_append_right _ (List.mem_append_right _ (List.mem_append_right _ (List.mem_append_left _ (h)))))))), (wg_y_only w h).2⟩)
set_option maxRecDepth 20000 in
theorem wc_y_letter_y_draftOrder_128 : GoodIn wq_y_letter (wsV RX8 128 RX8 yX8_draftOrder wq_y_draftOrder) := goodIn_app (goodIn_of _ (by decide +kernel)) (fun w h => ⟨List.mem_append_right _ (List.mem_append_right _ (List.mem_append_right _ (List.mem_append_right _ (List.mem_append_right _ (List.mem_append_right _ (List.mem_append_right _ (List.mem_append_right _ (List.mem_append_left _ (h))))))))), (wg_y_draftOrder w h).2⟩)
set_option maxRecDepth 20000 in
theorem wc_y_letter_y_carryOutDraft_136 : GoodIn wq_y_letter (wsV RX8 136 RX8 yX8_carryOutDraft wq_y_carryOutDraft) := goodIn_app (goodIn_of _ (by decide +kernel)) (fun w h => ⟨List.mem_append_right _ (List.mem_append_right _ (List.mem_append_right _ (List.mem_append_right _ (List.mem_append_right _ (List.mem_append_right _ (List.mem_append_right _ (List.mem_append_right _ (List.mem_append_right _ (h))))))))), (wg_y_carryOutDraft w h).2⟩)
def rm_y_letter : Room := { frames := 7, cells := 0, slots := 0, locals := 180 }
set_option maxHeartbeats 4000000 in
set_option maxRecDepth 100000 in
theorem c_y_letter (l : Launch) (dC : Nat → ClassId) (dI : Nat → Nat → Nat) (h : Nat) (a : Nat → Nat) (e : Nat) (cI cJ cO cE : ClassId) (L : Nat → Int64) (I : Nat → Int32) (M : Nat → Nat → Int64) (J : Nat → Nat → Int32) (n cap : Nat) (fE : Nat → Option Nat) (sd : Nat → Nat → Nat) (si : Nat → Nat → Int32) (sa : Nat → Nat → Nat → Int32) (dl : Nat → Nat) (b : Nat) (p0 : Int32) (sz : Nat) (hX0 : InvX n cap fE sd dl b I J si) (hb0 : b + 80 < 2147483648)  : Met l yX8_letter wq_y_letter rm_y_letter (va_Pc [.ref h, .int p0] (fun U => U.heap.size = sz ∧ va_P (dC, dI) vwCl (xW h a e cI cJ cO cE L I M J n cap fE sd si sa dl) U.heap ∧ va_K (dC, dI) vwCl (xT cI cJ cO cE) U ∧ va_D (fun _ => True) (xW h a e cI cJ cO cE L I M J n cap fE sd si sa dl) ∧ pw_N U)) (va_Qi (fun (r : Int32) (u : (Nat → Int64) × (Nat → Int32) × (Nat → Nat → Int64) × (Nat → Nat → Int32) × (Nat → Nat → Nat → Int32)) => InvX n cap fE sd dl (b + 80) u.2.1 J u.2.2.2.1 ∧ (∀ j9 : Nat, j9 ∉ ([0, 1, 2, 3, 4, 5, 6, 7] : List Nat) → u.1 j9 = L j9) ∧ (∀ j9 : Nat, j9 ∉ ([1, 8, 12] : List Nat) → u.2.1 j9 = I j9) ∧ (∀ j9 : Nat, j9 ∉ ([8, 9] : List Nat) → u.2.2.1 j9 = M j9) ∧ (∀ s9 q9 : Nat, q9 ∉ ([6, 7, 8, 9, 10, 11, 21, 22, 32] : List Nat) → u.2.2.2.1 s9 q9 = si s9 q9) ∧ (∀ s9 q9 : Nat, q9 ∉ ([3, 5] : List Nat) → u.2.2.2.2 s9 q9 = sa s9 q9) ∧ ((r, u) = f_y_letter n dl p0 L I M si sa)) (fun (u : (Nat → Int64) × (Nat → Int32) × (Nat → Nat → Int64) × (Nat → Nat → Int32) × (Nat → Nat → Nat → Int32)) (t : State) => va_P (dC, dI) vwCl (xW h a e cI cJ cO cE u.1 u.2.1 u.2.2.1 J n cap fE sd u.2.2.2.1 u.2.2.2.2 dl) t.heap ∧ va_D (va_A (xW h a e cI cJ cO cE L I M J n cap fE sd si sa dl) sz) (xW h a e cI cJ cO cE u.1 u.2.1 u.2.2.1 J n cap fE sd u.2.2.2.1 u.2.2.2.2 dl)) (va_A (xW h a e cI cJ cO cE L I M J n cap fE sd si sa dl) sz)) 0 0 (va_A (xW h a e cI cJ cO cE L I M J n cap fE sd si sa dl) sz) := by
  have hn : n ≤ 40 := hX0.1.1
  have hX := hX0
  have hUL : ∀ j9 : Nat, j9 ∉ ([0, 1, 2, 3, 4, 5, 6, 7] : List Nat) → L j9 = L j9 := fun _ _ => rfl
  have hUI : ∀ j9 : Nat, j9 ∉ ([1, 8, 12] : List Nat) → I j9 = I j9 := fun _ _ => rfl
  have hUM : ∀ j9 : Nat, j9 ∉ ([8, 9] : List Nat) → M j9 = M j9 := fun _ _ => rfl
  have hUsi : ∀ s9 q9 : Nat, q9 ∉ ([6, 7, 8, 9, 10, 11, 21, 22, 32] : List Nat) → si s9 q9 = si s9 q9 := fun _ _ _ => rfl
  have hUsa : ∀ s9 q9 : Nat, q9 ∉ ([3, 5] : List Nat) → sa s9 q9 = sa s9 q9 := fun _ _ _ => rfl
  refine Met.ofW (cc := cX8_letter) (maxL := 4) (ret := (some .int)) (by decide) rfl ?_
  intro p e9 s m args below meth c s₁ B hml hv
  obtain ⟨rfl, hsz, hP, hK, hD0, hN⟩ := hv
  have hx := B.exec
  have hb := B.bytes
  have hr := B.returns
  have hts := atoms_spec (ws := wq_y_letter) B.pre
  have hown : s.vm.findClass RX8 = some m.cls := findClass_of_methodNamed B.named
  have hlocks := B.notSynchronized
  subst hsz
  have hD := hD0.self (sz := s.heap.size)
  generalize hAe : va_A (xW h a e cI cJ cO cE L I M J n cap fE sd si sa dl) s.heap.size = A at hD ⊢
  have hA : ∀ q : Nat, s.heap.size ≤ q → A q := fun q h => by rw [← hAe]; exact Or.inr h
  have hS : va_S A s.heap s.heap [] := va_S.rf
  have hl := lv_entry ([.ref h, .int p0]) (n := 4) (Nat.le_of_ble_eq_true rfl)
  rw [lg_entry_eq]
  generalize (lg_sl ([.ref h, .int p0]) ++ List.replicate (4 - (lg_sl ([.ref h, .int p0])).length) Slot.unset).toArray = ls at hl ⊢
  have hl : lv_has ls 4 [(0, .ref h), (1, .int p0)] := hl
  obtain ⟨RES, hR0⟩ : ∃ R9, R9 = f_y_letter n dl p0 L I M si sa := ⟨_, rfl⟩
  have hZ9 := hR0
  unfold f_y_letter at hZ9
  refine lv_aload_n hx hb dX8_letter_0 rfl (lv_at hl 0 rfl) ?_
  refine lv_iload_n hx hb dX8_letter_1 rfl (lv_at hl 1 rfl) ?_
  have hFc := mw_free hD hS hA
  refine va_calli (va_runV (As := [.int p0]) (rest := []) ⟨hx, hb, hml, hown, hts⟩ (c_y_exists l dC dI h a e cI cJ cO cE L I M J n cap fE sd si sa dl (b) p0 s.heap.size hX (by omega) ) (cwV 1 hts wc_y_letter_y_exists_82 rfl rfl rfl (by decide +kernel) ⟨Nat.le_of_ble_eq_true rfl, Nat.le_of_ble_eq_true rfl⟩) ⟨fun a9 U g mk q => by obtain ⟨q0, q1, qP, qK, qD, qN⟩ := q; exact ⟨q0, q1, qP, va_K.moved (u := U) (U := U.calling g mk a9) (Vm.Alike.refl U.vm) qK, qD, pw_N.same (u := U) (U := U.calling g mk a9) rfl qN⟩, va_recv hK hP (ci := 9) (q0 := 0) rfl rfl, fun U hU hW => ⟨rfl, by rw [hU], by rw [hU]; exact hP, va_K.moved hW.alike hK, hD.weaken (fun _ _ _ _ => trivial), pw_N.warm hW hN⟩⟩ rfl rfl hl.1 rfl (lv_room (Nat.le_of_ble_eq_true rfl)) dX8_letter_2 ⟨Nat.le_of_ble_eq_true rfl, Nat.le_of_ble_eq_true rfl⟩) hS (fun q _ h => hFc q h) hFc (fun r1 u t H1 locs ht hvm hw hB hz1 hk1 hS => ?_)
  replace hP := hB.1
  rw [ht] at hP
  replace hD : va_D A (xW h a e cI cJ cO cE L I M J n cap fE sd si sa dl) := hB.2.weaken (fun _ q _ h9 => hFc q.1 h9)
  clear hB
  generalize H1 = H at hP hS ⊢
  replace hP : va_P (dC, dI) vwCl (xW h a e cI cJ cO cE L I M J n cap fE sd si sa dl) H := hP
  rcases hw with ⟨rfl, j2, hj2, ej2⟩ | ⟨rfl, noj2⟩
  · replace hZ9 := ite_t hZ9 (show (0 : Int32) ≤ p0 ∧ p0 < nI n by rw [ej2]; exact ⟨nI_pos' (by omega), nI_lt hj2 (by omega)⟩)
    replace hZ9 := bnd_s hZ9 (show j2 = p0.toNatClampNeg by rw [ej2, nI_clamp (by omega)])
    subst ej2
    refine lv_if_ne (tgt := 10) hx hb dX8_letter_5 (by decide) (fun _ => ?_) (fun c9 => absurd c9 (by decide))
    refine lv_aload_n hx hb dX8_letter_10 rfl (lv_at hl 0 rfl) ?_
    refine va_get (D := (dC, dI)) (ci := 9) (v := .ref (a 0)) (C := RX8) (T := TX8) (N := 14) hx hb hts in_y_letter_X8 hown hK hP 0 rfl rfl 0 (by decide) (hts (.fieldLink RX8 10 "ServiceTree" "services" "Ljava/util/ArrayList;") (by decide +kernel)) (fun _ h9 => h9) rfl dX8_letter_11 ?_
    refine lv_iload_n hx hb dX8_letter_14 rfl (lv_at hl 1 rfl) ?_
    have hFc := mw_free hD hS hA
    refine va_callr (va_runV (As := [.int (nI j2)]) (rest := []) ⟨hx, hb, hml, hown, hts⟩ (c_x_get l dC dI h a e cI cJ cO cE L I M J n cap fE sd si sa dl (b) j2 H.size hX (by omega) (by omega)) (cwV 1 hts wc_y_letter_x_get_86 rfl rfl rfl (by decide +kernel) ⟨Nat.le_of_ble_eq_true rfl, Nat.le_of_ble_eq_true rfl⟩) ⟨fun a9 U g mk q => by obtain ⟨q0, q1, qP, qK, qD, qN⟩ := q; exact ⟨q0, q1, qP, va_K.moved (u := U) (U := U.calling g mk a9) (Vm.Alike.refl U.vm) qK, qD, pw_N.same (u := U) (U := U.calling g mk a9) rfl qN⟩, va_recv hK hP (ci := 0) (q0 := 1) rfl rfl, fun U hU hW => ⟨rfl, by rw [hU], by rw [hU]; exact hP, va_K.moved hW.alike hK, hD.weaken (fun _ _ _ _ => trivial), pw_N.warm hW hN⟩⟩ rfl rfl hl.1 rfl (lv_room (Nat.le_of_ble_eq_true rfl)) dX8_letter_15 ⟨Nat.le_of_ble_eq_true rfl, Nat.le_of_ble_eq_true rfl⟩) hS (fun q _ h => hFc q h) hFc (fun u r3 t H1 locs ht hvm hw hB hz1 hk1 hS => ?_)
    obtain ⟨hra, hB⟩ := hB
    replace hP := hB.1
    rw [ht] at hP
    replace hD : va_D A (xW h a e cI cJ cO cE L I M J n cap fE sd si sa dl) := hB.2.weaken (fun _ q _ h9 => hFc q.1 h9)
    clear hB
    generalize H1 = H at hP hS ⊢
    replace hP : va_P (dC, dI) vwCl (xW h a e cI cJ cO cE L I M J n cap fE sd si sa dl) H := hP
    subst hra
    refine va_castS hx hb hown (hts (.classLink RX8 65 RX7) (by decide +kernel)) (hK.1 8 _ rfl).2 (va_recv hK hP (ci := 8) (q0 := (22 + (6 * j2 + 0))) rfl (xAt_0 h a e cI cJ cO cE L I M J n cap fE sd si sa dl (s := j2) (by omega))) dX8_letter_18 ?_
    refine lv_astore_n (lv' := [(2, .ref (sd j2 0)), (0, .ref h), (1, .int (nI j2))]) hx hb dX8_letter_21 rfl hl (by decide) rfl (fun ls hl => ?_)
    refine lv_aload_n hx hb dX8_letter_22 rfl (lv_at hl 0 rfl) ?_
    refine va_getN (D := (dC, dI)) (ci := 8) (v := .int (si j2 0)) (C := RX7) (T := TX7) (N := 12) hx hb hts in_y_letter_X7 hown hK hP (22 + (6 * j2 + 0)) (xAt_0 h a e cI cJ cO cE L I M J n cap fE sd si sa dl (s := j2) (by omega)) rfl 0 (by decide) (va_Nw.use rfl (hN (.fieldLinkNest RX8 90 "ServiceTree$Service" "kind" "I" "ServiceTree") (by decide +kernel))) (fun _ h9 => h9) rfl dX8_letter_23 ?_
    refine lv_topi (fun x4 ex4 => ?_)
    replace hZ9 := bnd_s hZ9 ex4
    refine lv_iconst (v := 2) hx hb dX8_letter_26 (by decide) ?_
    refine lv_icmp_eq (tgt := 33) hx hb dX8_letter_27 (by decide) (fun c5 => ?_) (fun c5 => ?_)
    · replace hZ9 := ite_t hZ9 c5
      refine lv_aload_n hx hb dX8_letter_33 rfl (lv_at hl 0 rfl) ?_
      refine va_getN (D := (dC, dI)) (ci := 8) (v := .ref (sd j2 4)) (C := RX7) (T := TX7) (N := 12) hx hb hts in_y_letter_X7 hown hK hP (22 + (6 * j2 + 0)) (xAt_0 h a e cI cJ cO cE L I M J n cap fE sd si sa dl (s := j2) (by omega)) rfl 5 (by decide) (va_Nw.use rfl (hN (.fieldLinkNest RX8 142 "ServiceTree$Service" "door" "LServiceTree$Door;" "ServiceTree") (by decide +kernel))) (fun _ h9 => h9) rfl dX8_letter_34 ?_
      have hFc := mw_free hD hS hA
      refine va_calli (va_runV (As := []) (rest := []) ⟨hx, hb, hml, hown, hts⟩ (c_y_isFull l dC dI h a e cI cJ cO cE L I M J n cap fE sd si sa dl (b) j2 H.size hX (by omega) (by omega)) (cwV 0 hts wc_y_letter_y_isFull_146 rfl rfl rfl (by decide +kernel) ⟨Nat.le_of_ble_eq_true rfl, Nat.le_of_ble_eq_true rfl⟩) ⟨fun a9 U g mk q => by obtain ⟨q0, q1, qP, qK, qD, qN⟩ := q; exact ⟨q0, q1, qP, va_K.moved (u := U) (U := U.calling g mk a9) (Vm.Alike.refl U.vm) qK, qD, pw_N.same (u := U) (U := U.calling g mk a9) rfl qN⟩, va_recv hK hP (ci := 1) (q0 := (22 + (6 * j2 + 4))) rfl (xAt_4 h a e cI cJ cO cE L I M J n cap fE sd si sa dl (s := j2) (by omega)), fun U hU hW => ⟨rfl, by rw [hU], by rw [hU]; exact hP, va_K.moved hW.alike hK, hD.weaken (fun _ _ _ _ => trivial), pw_N.warm hW hN⟩⟩ rfl rfl hl.1 rfl (lv_room (Nat.le_of_ble_eq_true rfl)) dX8_letter_37 ⟨Nat.le_of_ble_eq_true rfl, Nat.le_of_ble_eq_true rfl⟩) hS (fun q _ h => hFc q h) hFc (fun r6 u t H1 locs ht hvm hw hB hz1 hk1 hS => ?_)
      replace hP := hB.1
      rw [ht] at hP
      replace hD : va_D A (xW h a e cI cJ cO cE L I M J n cap fE sd si sa dl) := hB.2.weaken (fun _ q _ h9 => hFc q.1 h9)
      clear hB
      generalize H1 = H at hP hS ⊢
      replace hP : va_P (dC, dI) vwCl (xW h a e cI cJ cO cE L I M J n cap fE sd si sa dl) H := hP
      rcases hw with ⟨rfl, noz7⟩ | ⟨rfl, z7, hz7, ez7⟩
      · replace hZ9 := ite_f hZ9 noz7
        refine lv_if_eq (tgt := 46) hx hb dX8_letter_40 (by decide) (fun c9 => absurd c9 (by decide)) (fun _ => ?_)
        refine lv_bipush (v := (-6)) hx hb dX8_letter_43 (by decide) ?_
        exact W.iret (v := (-6)) hx hb hr (fun t ht hW => ⟨⟨(-6), (L, I, M, si, sa), rfl, ⟨hX.mono (by omega), hUL, hUI, hUM, hUsi, hUsa, hZ9.symm.trans hR0⟩, by rw [ht]; exact hP, hD⟩, hS.F ht⟩) hS.2.2 dX8_letter_45
      · have hdz7 := (hX.2.2.2.2.2.2.1 j2).1
        replace hZ9 := ite_t hZ9 (show (si j2 32).toNatClampNeg < dl j2 by rw [ez7, nI_clamp (by omega)]; omega)
        replace hZ9 := bnd_s hZ9 (show z7 = (si j2 32).toNatClampNeg by rw [ez7, nI_clamp (by omega)])
        refine lv_if_eq (tgt := 46) hx hb dX8_letter_40 (by decide) (fun _ => ?_) (fun c9 => absurd (by decide) c9)
        refine lv_aload_n hx hb dX8_letter_46 rfl (lv_at hl 1 rfl) ?_
        refine va_get (D := (dC, dI)) (ci := 9) (v := .int (I 1)) (C := RX8) (T := TX8) (N := 14) hx hb hts in_y_letter_X8 hown hK hP 0 rfl rfl 10 (by decide) (hts (.fieldLink RX8 152 "ServiceTree" "lettersCome" "I") (by decide +kernel)) (fun _ h9 => h9) rfl dX8_letter_47 ?_
        refine lv_topi (fun x8 ex8 => ?_)
        replace hZ9 := bnd_s hZ9 ex8
        refine lv_istore_n (lv' := [(3, .int x8), (2, .ref (sd j2 0)), (0, .ref h), (1, .int (nI j2))]) hx hb dX8_letter_50 rfl hl (by decide) rfl (fun ls hl => ?_)
        refine lv_aload_n hx hb dX8_letter_51 rfl (lv_at hl 2 rfl) ?_
        refine lv_dup hx hb dX8_letter_52 rfl ?_
        refine va_get (D := (dC, dI)) (ci := 9) (v := .int (I 1)) (C := RX8) (T := TX8) (N := 14) hx hb hts in_y_letter_X8 hown hK hP 0 rfl rfl 10 (by decide) (hts (.fieldLink RX8 152 "ServiceTree" "lettersCome" "I") (by decide +kernel)) (fun _ h9 => h9) rfl dX8_letter_53 ?_
        refine p1_topr (v := .int x8) (congrArg Value.int ex8.symm) ?_
        refine lv_iconst (v := 1) hx hb dX8_letter_56 (by decide) ?_
        refine lv_iadd hx hb dX8_letter_57 ?_
        refine lv_topi (fun x9 ex9 => ?_)
        replace hZ9 := bnd_s hZ9 ex9
        refine va_put (D := (dC, dI)) (ci := 9) (fs := [.ref (a 0), .ref (a 1), .ref (a 2), .ref (a 3), .ref (a 4), .ref (a 5), .ref (a 6), .long (L 0), .long (L 1), .int (I 0), .int (I 1), .int (I 2), .int (I 3), .int (I 4)]) (v := .int x9) (ty := .int) (C := RX8) (T := TX8) (N := 14) hx hb hts in_y_letter_X8 tyX8 tyX8_ok nmX8 hown hK hP hD hS 0 rfl rfl 10 (by decide) (hts (.fieldLink RX8 152 "ServiceTree" "lettersCome" "I") (by decide +kernel)) (fun _ h9 => h9) rfl (by decide +kernel) rfl rfl (Nat.le_of_ble_eq_true rfl) dX8_letter_58 (fun H locs hP hD hS => ?_)
        replace hP : va_P (dC, dI) vwCl ((xW h a e cI cJ cO cE L I M J n cap fE sd si sa dl).set 0 (h, .inr (9, [.ref (a 0), .ref (a 1), .ref (a 2), .ref (a 3), .ref (a 4), .ref (a 5), .ref (a 6), .long (L 0), .long (L 1), .int (I 0), .int x9, .int (I 2), .int (I 3), .int (I 4)]))) H := hP
        replace hD : va_D A ((xW h a e cI cJ cO cE L I M J n cap fE sd si sa dl).set 0 (h, .inr (9, [.ref (a 0), .ref (a 1), .ref (a 2), .ref (a 3), .ref (a 4), .ref (a 5), .ref (a 6), .long (L 0), .long (L 1), .int (I 0), .int x9, .int (I 2), .int (I 3), .int (I 4)]))) := hD
        rw [xF_I1] at hP hD
        obtain ⟨I10, eI10⟩ : ∃ f9 : Nat → Int32, f9 = va_up I 1 x9 := ⟨_, rfl⟩
        rw [← eI10] at hP hD
        replace hZ9 := bnd_s hZ9 eI10
        replace hX : InvX n cap fE sd dl (b) I10 J si := by rw [eI10]; exact hX.setI (by decide)
        replace hUI : ∀ j9 : Nat, j9 ∉ ([1, 8, 12] : List Nat) → I10 j9 = I j9 := by rw [eI10]; exact mw_up (by decide) hUI
        refine lv_aload_n hx hb dX8_letter_61 rfl (lv_at hl 1 rfl) ?_
        refine va_getN (D := (dC, dI)) (ci := 8) (v := .ref (sd j2 4)) (C := RX7) (T := TX7) (N := 12) hx hb hts in_y_letter_X7 hown hK hP (22 + (6 * j2 + 0)) (xAt_0 h a e cI cJ cO cE L I10 M J n cap fE sd si sa dl (s := j2) (by omega)) rfl 5 (by decide) (va_Nw.use rfl (hN (.fieldLinkNest RX8 142 "ServiceTree$Service" "door" "LServiceTree$Door;" "ServiceTree") (by decide +kernel))) (fun _ h9 => h9) rfl dX8_letter_62 ?_
        refine lv_iload_n hx hb dX8_letter_65 rfl (lv_at hl 0 rfl) ?_
        have hFc := mw_free hD hS hA
        refine va_callv (va_runV (As := [.int x8]) (rest := []) ⟨hx, hb, hml, hown, hts⟩ (c_y_put l dC dI h a e cI cJ cO cE L I10 M J n cap fE sd si sa dl (b) j2 x8 H.size hX (by omega) (by omega)) (cwV 1 hts wc_y_letter_y_put_155 rfl rfl rfl (by decide +kernel) ⟨Nat.le_of_ble_eq_true rfl, Nat.le_of_ble_eq_true rfl⟩) ⟨fun a9 U g mk q => by obtain ⟨q0, q1, qP, qK, qD, qN⟩ := q; exact ⟨q0, q1, qP, va_K.moved (u := U) (U := U.calling g mk a9) (Vm.Alike.refl U.vm) qK, qD, pw_N.same (u := U) (U := U.calling g mk a9) rfl qN⟩, va_recv hK hP (ci := 1) (q0 := (22 + (6 * j2 + 4))) rfl (xAt_4 h a e cI cJ cO cE L I10 M J n cap fE sd si sa dl (s := j2) (by omega)), fun U hU hW => ⟨rfl, by rw [hU], by rw [hU]; exact hP, va_K.moved hW.alike hK, hD.weaken (fun _ _ _ _ => trivial), pw_N.warm hW hN⟩⟩ rfl rfl hl.1 rfl (lv_room (Nat.le_of_ble_eq_true rfl)) dX8_letter_66 ⟨Nat.le_of_ble_eq_true rfl, Nat.le_of_ble_eq_true rfl⟩) hS (fun q _ h => hFc q h) hFc (fun u t H1 locs ht hvm hw hB hz1 hk1 hS => ?_)
        obtain ⟨si12, sa13⟩ := u
        replace hP := hB.1
        rw [ht] at hP
        replace hD : va_D A (xW h a e cI cJ cO cE L I10 M J n cap fE sd si12 sa13 dl) := hB.2.weaken (fun _ q _ h9 => hFc q.1 h9)
        clear hB
        generalize H1 = H at hP hS ⊢
        replace hP : va_P (dC, dI) vwCl (xW h a e cI cJ cO cE L I10 M J n cap fE sd si12 sa13 dl) H := hP
        obtain ⟨hwX, whUsi, whUsa, hw⟩ := hw
        replace hX : InvX n cap fE sd dl (b) I10 J si12 := hwX
        replace hUsi : ∀ s9 q9 : Nat, q9 ∉ ([6, 7, 8, 9, 10, 11, 21, 22, 32] : List Nat) → si12 s9 q9 = si s9 q9 := xw_tr2 (by decide) whUsi hUsi
        replace hUsa : ∀ s9 q9 : Nat, q9 ∉ ([3, 5] : List Nat) → sa13 s9 q9 = sa s9 q9 := xw_tr2 (by decide) whUsa hUsa
        replace hw : (si12, sa13) = f_y_put n dl j2 x8 si sa := hw
        replace hZ9 := bn2_s hZ9 hw
        refine lv_aload_n hx hb dX8_letter_69 rfl (lv_at hl 2 rfl) ?_
        refine lv_dup hx hb dX8_letter_70 rfl ?_
        refine va_get (D := (dC, dI)) (ci := 9) (v := .long (L 1)) (C := RX8) (T := TX8) (N := 14) hx hb hts in_y_letter_X8 hown hK hP 0 rfl rfl 8 (by decide) (hts (.fieldLink RX8 158 "ServiceTree" "withLetters" "J") (by decide +kernel)) (fun _ h9 => h9) rfl dX8_letter_71 ?_
        refine lv_topl (fun x14 ex14 => ?_)
        replace hZ9 := bnd_s hZ9 ex14
        refine lv_iload_n hx hb dX8_letter_74 rfl (lv_at hl 3 rfl) ?_
        have hFc := mw_free hD hS hA
        refine va_calll (va_runS (As := [.int (nI j2)]) (rest := [.long x14, .ref h]) ⟨hx, hb, hml, hown, hts⟩ (c_y_only l dC dI h a e cI cJ cO cE L I10 M J n cap fE sd si12 sa13 dl (b) j2 H.size hX (by omega) ) (va_cwS 1 hts wc_y_letter_y_only_78 rfl rfl rfl (by decide +kernel) ⟨Nat.le_of_ble_eq_true rfl, Nat.le_of_ble_eq_true rfl⟩) ⟨fun a9 U g mk q => by obtain ⟨q0, q1, qP, qK, qD, qN⟩ := q; exact ⟨q0, q1, qP, va_K.moved (u := U) (U := U.calling g mk a9) (Vm.Alike.refl U.vm) qK, qD, pw_N.same (u := U) (U := U.calling g mk a9) rfl qN⟩, fun U hU hW => ⟨rfl, by rw [hU], by rw [hU]; exact hP, va_K.moved hW.alike hK, hD.weaken (fun _ _ _ _ => trivial), pw_N.warm hW hN⟩⟩ rfl rfl hl.1 rfl (lv_room (Nat.le_of_ble_eq_true rfl)) dX8_letter_75 ⟨Nat.le_of_ble_eq_true rfl, Nat.le_of_ble_eq_true rfl⟩) hS (fun q _ h => hFc q h) hFc (fun r15 u t H1 locs ht hvm hw hB hz1 hk1 hS => ?_)
        replace hP := hB.1
        rw [ht] at hP
        replace hD : va_D A (xW h a e cI cJ cO cE L I10 M J n cap fE sd si12 sa13 dl) := hB.2.weaken (fun _ q _ h9 => hFc q.1 h9)
        clear hB
        generalize H1 = H at hP hS ⊢
        replace hP : va_P (dC, dI) vwCl (xW h a e cI cJ cO cE L I10 M J n cap fE sd si12 sa13 dl) H := hP
        replace hw : r15 = f_y_only n dl j2  := hw
        replace hZ9 := bnd_s hZ9 hw
        refine lv_lor hx hb dX8_letter_78 ?_
        refine lv_topl (fun x16 ex16 => ?_)
        replace hZ9 := bnd_s hZ9 ex16
        refine va_put (D := (dC, dI)) (ci := 9) (fs := [.ref (a 0), .ref (a 1), .ref (a 2), .ref (a 3), .ref (a 4), .ref (a 5), .ref (a 6), .long (L 0), .long (L 1), .int (I10 0), .int (I10 1), .int (I10 2), .int (I10 3), .int (I10 4)]) (v := .long x16) (ty := .long) (C := RX8) (T := TX8) (N := 14) hx hb hts in_y_letter_X8 tyX8 tyX8_ok nmX8 hown hK hP hD hS 0 rfl rfl 8 (by decide) (hts (.fieldLink RX8 158 "ServiceTree" "withLetters" "J") (by decide +kernel)) (fun _ h9 => h9) rfl (by decide +kernel) rfl rfl (Nat.le_of_ble_eq_true rfl) dX8_letter_79 (fun H locs hP hD hS => ?_)
        replace hP : va_P (dC, dI) vwCl ((xW h a e cI cJ cO cE L I10 M J n cap fE sd si12 sa13 dl).set 0 (h, .inr (9, [.ref (a 0), .ref (a 1), .ref (a 2), .ref (a 3), .ref (a 4), .ref (a 5), .ref (a 6), .long (L 0), .long x16, .int (I10 0), .int (I10 1), .int (I10 2), .int (I10 3), .int (I10 4)]))) H := hP
        replace hD : va_D A ((xW h a e cI cJ cO cE L I10 M J n cap fE sd si12 sa13 dl).set 0 (h, .inr (9, [.ref (a 0), .ref (a 1), .ref (a 2), .ref (a 3), .ref (a 4), .ref (a 5), .ref (a 6), .long (L 0), .long x16, .int (I10 0), .int (I10 1), .int (I10 2), .int (I10 3), .int (I10 4)]))) := hD
        rw [xF_L1] at hP hD
        obtain ⟨L17, eL17⟩ : ∃ f9 : Nat → Int64, f9 = va_up L 1 x16 := ⟨_, rfl⟩
        rw [← eL17] at hP hD
        replace hZ9 := bnd_s hZ9 eL17
        replace hUL : ∀ j9 : Nat, j9 ∉ ([0, 1, 2, 3, 4, 5, 6, 7] : List Nat) → L17 j9 = L j9 := by rw [eL17]; exact mw_up (by decide) hUL
        refine lv_aload_n hx hb dX8_letter_82 rfl (lv_at hl 1 rfl) ?_
        refine va_getN (D := (dC, dI)) (ci := 8) (v := .int (si12 j2 6)) (C := RX7) (T := TX7) (N := 12) hx hb hts in_y_letter_X7 hown hK hP (22 + (6 * j2 + 0)) (xAt_0 h a e cI cJ cO cE L17 I10 M J n cap fE sd si12 sa13 dl (s := j2) (by omega)) rfl 6 (by decide) (va_Nw.use rfl (hN (.fieldLinkNest RX8 162 "ServiceTree$Service" "state" "I" "ServiceTree") (by decide +kernel))) (fun _ h9 => h9) rfl dX8_letter_83 ?_
        obtain ⟨z18, hz18, ez18⟩ := hX.2.2.2.1 j2
        refine p1_topr (v := .int (nI z18)) (congrArg Value.int ez18) ?_
        replace hZ9 := bnd_s hZ9 (show z18 = (si12 j2 6).toNatClampNeg by rw [ez18, nI_clamp (by omega)])
        refine lv_if_ne (tgt := 102) hx hb dX8_letter_86 (by decide) (fun c19 => ?_) (fun c19 => ?_)
        · replace c19 : ¬ (z18 = 0) := fun q9 => c19 ((nI_eq (a := z18) (b := 0) (by omega) (by omega)).mpr q9)
          replace hZ9 := ite_f hZ9 c19
          refine lv_iload_n hx hb dX8_letter_102 rfl (lv_at hl 0 rfl) ?_
          exact W.iret (v := x8) hx hb hr (fun t ht hW => ⟨⟨x8, (L17, I10, M, si12, sa13), rfl, ⟨hX.mono (by omega), hUL, hUI, hUM, hUsi, hUsa, hZ9.symm.trans hR0⟩, by rw [ht]; exact hP, hD⟩, hS.F ht⟩) hS.2.2 dX8_letter_103
        · replace c19 : z18 = 0 := (nI_eq (a := z18) (b := 0) (by omega) (by omega)).mp c19
          replace hZ9 := ite_t hZ9 c19
          refine lv_aload_n hx hb dX8_letter_89 rfl (lv_at hl 2 rfl) ?_
          refine lv_iconst (v := 0) hx hb dX8_letter_90 (by decide) ?_
          refine lv_iload_n hx hb dX8_letter_91 rfl (lv_at hl 3 rfl) ?_
          have hFc := mw_free hD hS hA
          refine va_calli (va_runV (As := [.int 0, .int (nI j2)]) (rest := []) ⟨hx, hb, hml, hown, hts⟩ (c_y_draftOrder l dC dI h a e cI cJ cO cE L17 I10 M J n cap fE sd si12 sa13 dl (b) 0 (nI j2) H.size hX (by omega) ) (cwV 2 hts wc_y_letter_y_draftOrder_128 rfl rfl rfl (by decide +kernel) ⟨Nat.le_of_ble_eq_true rfl, Nat.le_of_ble_eq_true rfl⟩) ⟨fun a9 U g mk q => by obtain ⟨q0, q1, qP, qK, qD, qN⟩ := q; exact ⟨q0, q1, qP, va_K.moved (u := U) (U := U.calling g mk a9) (Vm.Alike.refl U.vm) qK, qD, pw_N.same (u := U) (U := U.calling g mk a9) rfl qN⟩, va_recv hK hP (ci := 9) (q0 := 0) rfl rfl, fun U hU hW => ⟨rfl, by rw [hU], by rw [hU]; exact hP, va_K.moved hW.alike hK, hD.weaken (fun _ _ _ _ => trivial), pw_N.warm hW hN⟩⟩ rfl rfl hl.1 rfl (lv_room (Nat.le_of_ble_eq_true rfl)) dX8_letter_92 ⟨Nat.le_of_ble_eq_true rfl, Nat.le_of_ble_eq_true rfl⟩) hS (fun q _ h => hFc q h) hFc (fun r20 u t H1 locs ht hvm hw hB hz1 hk1 hS => ?_)
          obtain ⟨L21, I22⟩ := u
          replace hP := hB.1
          rw [ht] at hP
          replace hD : va_D A (xW h a e cI cJ cO cE L21 I22 M J n cap fE sd si12 sa13 dl) := hB.2.weaken (fun _ q _ h9 => hFc q.1 h9)
          clear hB
          generalize H1 = H at hP hS ⊢
          replace hP : va_P (dC, dI) vwCl (xW h a e cI cJ cO cE L21 I22 M J n cap fE sd si12 sa13 dl) H := hP
          obtain ⟨hwX, whUL, whUI, hw⟩ := hw
          replace hX : InvX n cap fE sd dl (b) I22 J si12 := hwX
          replace hUL : ∀ j9 : Nat, j9 ∉ ([0, 1, 2, 3, 4, 5, 6, 7] : List Nat) → L21 j9 = L j9 := mw_tr (by decide) whUL hUL
          replace hUI : ∀ j9 : Nat, j9 ∉ ([1, 8, 12] : List Nat) → I22 j9 = I j9 := mw_tr (by decide) whUI hUI
          replace hw : (r20, L21, I22) = f_y_draftOrder n dl 0 (nI j2) L17 I10 M := hw
          replace hZ9 := bn3_s hZ9 hw
          refine lv_if_lt (tgt := 102) hx hb dX8_letter_95 (by decide) (fun c23 => ?_) (fun c23 => ?_)
          · replace hZ9 := ite_t hZ9 c23
            refine lv_iload_n hx hb dX8_letter_102 rfl (lv_at hl 0 rfl) ?_
            exact W.iret (v := x8) hx hb hr (fun t ht hW => ⟨⟨x8, (L21, I22, M, si12, sa13), rfl, ⟨hX.mono (by omega), hUL, hUI, hUM, hUsi, hUsa, hZ9.symm.trans hR0⟩, by rw [ht]; exact hP, hD⟩, hS.F ht⟩) hS.2.2 dX8_letter_103
          · replace hZ9 := ite_f hZ9 c23
            refine lv_aload_n hx hb dX8_letter_98 rfl (lv_at hl 2 rfl) ?_
            have hFc := mw_free hD hS hA
            refine va_callv (va_runV (As := []) (rest := []) ⟨hx, hb, hml, hown, hts⟩ (c_y_carryOutDraft l dC dI h a e cI cJ cO cE L21 I22 M J n cap fE sd si12 sa13 dl (b)  H.size hX (by omega) ) (cwV 0 hts wc_y_letter_y_carryOutDraft_136 rfl rfl rfl (by decide +kernel) ⟨Nat.le_of_ble_eq_true rfl, Nat.le_of_ble_eq_true rfl⟩) ⟨fun a9 U g mk q => by obtain ⟨q0, q1, qP, qK, qD, qN⟩ := q; exact ⟨q0, q1, qP, va_K.moved (u := U) (U := U.calling g mk a9) (Vm.Alike.refl U.vm) qK, qD, pw_N.same (u := U) (U := U.calling g mk a9) rfl qN⟩, va_recv hK hP (ci := 9) (q0 := 0) rfl rfl, fun U hU hW => ⟨rfl, by rw [hU], by rw [hU]; exact hP, va_K.moved hW.alike hK, hD.weaken (fun _ _ _ _ => trivial), pw_N.warm hW hN⟩⟩ rfl rfl hl.1 rfl (lv_room (Nat.le_of_ble_eq_true rfl)) dX8_letter_99 ⟨Nat.le_of_ble_eq_true rfl, Nat.le_of_ble_eq_true rfl⟩) hS (fun q _ h => hFc q h) hFc (fun u t H1 locs ht hvm hw hB hz1 hk1 hS => ?_)
            obtain ⟨L25, I26, M27, si28, sa29⟩ := u
            replace hP := hB.1
            rw [ht] at hP
            replace hD : va_D A (xW h a e cI cJ cO cE L25 I26 M27 J n cap fE sd si28 sa29 dl) := hB.2.weaken (fun _ q _ h9 => hFc q.1 h9)
            clear hB
            generalize H1 = H at hP hS ⊢
            replace hP : va_P (dC, dI) vwCl (xW h a e cI cJ cO cE L25 I26 M27 J n cap fE sd si28 sa29 dl) H := hP
            obtain ⟨hwX, whUL, whUI, whUM, whUsi, whUsa, hw⟩ := hw
            replace hX : InvX n cap fE sd dl (b + 80) I26 J si28 := hwX
            replace hUL : ∀ j9 : Nat, j9 ∉ ([0, 1, 2, 3, 4, 5, 6, 7] : List Nat) → L25 j9 = L j9 := mw_tr (by decide) whUL hUL
            replace hUI : ∀ j9 : Nat, j9 ∉ ([1, 8, 12] : List Nat) → I26 j9 = I j9 := mw_tr (by decide) whUI hUI
            replace hUM : ∀ j9 : Nat, j9 ∉ ([8, 9] : List Nat) → M27 j9 = M j9 := mw_tr (by decide) whUM hUM
            replace hUsi : ∀ s9 q9 : Nat, q9 ∉ ([6, 7, 8, 9, 10, 11, 21, 22, 32] : List Nat) → si28 s9 q9 = si s9 q9 := xw_tr2 (by decide) whUsi hUsi
            replace hUsa : ∀ s9 q9 : Nat, q9 ∉ ([3, 5] : List Nat) → sa29 s9 q9 = sa s9 q9 := xw_tr2 (by decide) whUsa hUsa
            replace hw : (L25, I26, M27, si28, sa29) = f_y_carryOutDraft n dl  L21 I22 M si12 sa13 := hw
            replace hZ9 := bn5_s hZ9 hw
            refine lv_iload_n hx hb dX8_letter_102 rfl (lv_at hl 0 rfl) ?_
            exact W.iret (v := x8) hx hb hr (fun t ht hW => ⟨⟨x8, (L25, I26, M27, si28, sa29), rfl, ⟨hX.mono (by omega), hUL, hUI, hUM, hUsi, hUsa, hZ9.symm.trans hR0⟩, by rw [ht]; exact hP, hD⟩, hS.F ht⟩) hS.2.2 dX8_letter_103
    · replace hZ9 := ite_f hZ9 c5
      refine lv_bipush (v := (-2)) hx hb dX8_letter_30 (by decide) ?_
      exact W.iret (v := (-2)) hx hb hr (fun t ht hW => ⟨⟨(-2), (L, I, M, si, sa), rfl, ⟨hX.mono (by omega), hUL, hUI, hUM, hUsi, hUsa, hZ9.symm.trans hR0⟩, by rw [ht]; exact hP, hD⟩, hS.F ht⟩) hS.2.2 dX8_letter_32
  · replace hZ9 := ite_f hZ9 noj2
    refine lv_if_ne (tgt := 10) hx hb dX8_letter_5 (by decide) (fun c9 => absurd (by decide) c9) (fun _ => ?_)
    refine lv_iconst (v := (-1)) hx hb dX8_letter_8 (by decide) ?_
    exact W.iret (v := (-1)) hx hb hr (fun t ht hW => ⟨⟨(-1), (L, I, M, si, sa), rfl, ⟨hX.mono (by omega), hUL, hUI, hUM, hUsi, hUsa, hZ9.symm.trans hR0⟩, by rw [ht]; exact hP, hD⟩, hS.F ht⟩) hS.2.2 dX8_letter_9
def f_y_about (n : Nat) (dl : Nat → Nat) (p0 : Int32) (p1 : Int32) (L : Nat → Int64) (si : Nat → Nat → Int32) : Int32 := if (0 : Int32) ≤ p0 ∧ p0 < nI n then (bnd (p0.toNatClampNeg) (fun (j2 : Nat) => if p1 = 0 then (bnd ((si j2 6).toNatClampNeg) (fun (z5 : Nat) => ((nI z5)))) else (if p1 = 1 then (bnd (si j2 7) (fun (x7 : Int32) => (x7))) else (if p1 = 2 then (bnd (si j2 8) (fun (x9 : Int32) => (x9))) else (if p1 = 3 then (bnd (si j2 9) (fun (x11 : Int32) => (x11))) else (if p1 = 4 then (bnd (si j2 11) (fun (x13 : Int32) => if x13 = (0 : Int32) then (((0 : Int32))) else (((1 : Int32))))) else (if p1 = 5 then (bnd (f_y_kindOf n dl j2 L) (fun (r16 : Int32) => (r16))) else (if p1 = 6 then (bnd ((si j2 32).toNatClampNeg) (fun (z18 : Nat) => ((nI z18)))) else (if p1 = 7 then (bnd (si j2 33) (fun (x20 : Int32) => (x20))) else (if p1 = 8 then (bnd (si j2 34) (fun (x22 : Int32) => (x22))) else (if p1 = 9 then (bnd (si j2 0) (fun (x24 : Int32) => (x24))) else (((-1 : Int32)))))))))))))) else (((-1 : Int32)))
def wq_y_about : List Cond := ([.code yX8_about cX8_about 4 (some .int), .fieldLink RX8 10 "ServiceTree" "services" "Ljava/util/ArrayList;", .classLink RX8 65 RX7, .fieldLink RX8 35 "ServiceTree" "jobs" "LServiceTree$Jobs;", .methodLink RX8 82 yX8_exists, .instanceMethod yX8_exists, .selects RX8 yX8_exists yX8_exists, .initialized RX8, .methodLink RX8 86 yJx4a65c_get_915e3, .instanceMethod yJx4a65c_get_915e3, .selects RJx4a65c yJx4a65c_get_915e3 yJx4a65c_get_915e3, .initialized RJx4a65c, .methodLink RX8 178 yX3_kindOf, .instanceMethod yX3_kindOf, .selects RX3 yX3_kindOf yX3_kindOf, .initialized RX3] : List Cond) ++ (wsX00 ++ (wsX70 ++ (wsX80 ++ (wq_y_exists ++ (wq_x_get ++ (wq_y_kindOf))))))
theorem in_y_about_X0 : ∀ w ∈ wsX00, w ∈ wq_y_about := fun _ h => List.mem_append_right _ (List.mem_append_left _ (h))
theorem in_y_about_X7 : ∀ w ∈ wsX70, w ∈ wq_y_about := fun _ h => List.mem_append_right _ (List.mem_append_right _ (List.mem_append_left _ (h)))
theorem in_y_about_X8 : ∀ w ∈ wsX80, w ∈ wq_y_about := fun _ h => List.mem_append_right _ (List.mem_append_right _ (List.mem_append_right _ (List.mem_append_left _ (h))))
set_option maxRecDepth 20000 in
theorem wi_y_about : ∀ w ∈ wq_y_about, w ∈ lw_tbl := List.forall_mem_append.mpr ⟨(wix [749, 224, 278, 227, 449, 451, 3, 60, 453, 454, 455, 63, 750, 751, 752, 66] rfl), List.forall_mem_append.mpr ⟨inKX0, List.forall_mem_append.mpr ⟨inKX7, List.forall_mem_append.mpr ⟨inKX8, List.forall_mem_append.mpr ⟨wi_y_exists, List.forall_mem_append.mpr ⟨wi_x_get, wi_y_kindOf⟩⟩⟩⟩⟩⟩
set_option maxRecDepth 20000 in
theorem wg_y_about : GoodIn wq_y_about wq_y_about := goodIn_sub (fun _ h => h) (by decide +kernel)
set_option maxRecDepth 20000 in
theorem wc_y_about_y_exists_82 : GoodIn wq_y_about (wsV RX8 82 RX8 yX8_exists wq_y_exists) := goodIn_app (goodIn_of _ (by decide +kernel)) (fun w h => ⟨List.mem_append_right _ (List.mem_append_right _ (List.mem_append_right _ (List.mem_append_right _ (List.mem_append_left _ (h))))), (wg_y_exists w h).2⟩)
set_option maxRecDepth 20000 in
theorem wc_y_about_x_get_86 : GoodIn wq_y_about (wsV RX8 86 RJx4a65c yJx4a65c_get_915e3 wq_x_get) := goodIn_app (goodIn_of _ (by decide +kernel)) (fun w h => ⟨List.mem_append_right _ (List.mem_append_right _ (List.mem_append_right _ (List.mem_append_right _ (List.mem_append_right _ (List.mem_append_left _ (h)))))), (wg_x_get w h).2⟩)
set_option maxRecDepth 20000 in
theorem wc_y_about_y_kindOf_178 : GoodIn wq_y_about (wsV RX8 178 RX3 yX3_kindOf wq_y_kindOf) := goodIn_app (goodIn_of _ (by decide +kernel)) (fun w h => ⟨List.mem_append_right _ (List.mem_append_right _ (List.mem_append_right _ (List.mem_append_right _ (List.mem_append_right _ (List.mem_append_right _ (h)))))), (wg_y_kindOf w h).2⟩)
def rm_y_about : Room := { frames := 3, cells := 0, slots := 0, locals := 64 }
set_option maxHeartbeats 4000000 in
set_option maxRecDepth 100000 in
theorem c_y_about (l : Launch) (dC : Nat → ClassId) (dI : Nat → Nat → Nat) (h : Nat) (a : Nat → Nat) (e : Nat) (cI cJ cO cE : ClassId) (L : Nat → Int64) (I : Nat → Int32) (M : Nat → Nat → Int64) (J : Nat → Nat → Int32) (n cap : Nat) (fE : Nat → Option Nat) (sd : Nat → Nat → Nat) (si : Nat → Nat → Int32) (sa : Nat → Nat → Nat → Int32) (dl : Nat → Nat) (b : Nat) (p0 : Int32) (p1 : Int32) (sz : Nat) (hX0 : InvX n cap fE sd dl b I J si) (hb0 : b + 0 < 2147483648)  : Met l yX8_about wq_y_about rm_y_about (va_Pc [.ref h, .int p0, .int p1] (fun U => U.heap.size = sz ∧ va_P (dC, dI) vwCl (xW h a e cI cJ cO cE L I M J n cap fE sd si sa dl) U.heap ∧ va_K (dC, dI) vwCl (xT cI cJ cO cE) U ∧ va_D (fun _ => True) (xW h a e cI cJ cO cE L I M J n cap fE sd si sa dl) ∧ pw_N U)) (va_Qi (fun (r : Int32) (u : Unit) => (r = f_y_about n dl p0 p1 L si)) (fun (u : Unit) (t : State) => va_P (dC, dI) vwCl (xW h a e cI cJ cO cE L I M J n cap fE sd si sa dl) t.heap ∧ va_D (va_A (xW h a e cI cJ cO cE L I M J n cap fE sd si sa dl) sz) (xW h a e cI cJ cO cE L I M J n cap fE sd si sa dl)) (va_A (xW h a e cI cJ cO cE L I M J n cap fE sd si sa dl) sz)) 0 0 (va_A (xW h a e cI cJ cO cE L I M J n cap fE sd si sa dl) sz) := by
  have hn : n ≤ 40 := hX0.1.1
  have hX := hX0
  refine Met.ofW (cc := cX8_about) (maxL := 4) (ret := (some .int)) (by decide) rfl ?_
  intro p e9 s m args below meth c s₁ B hml hv
  obtain ⟨rfl, hsz, hP, hK, hD0, hN⟩ := hv
  have hx := B.exec
  have hb := B.bytes
  have hr := B.returns
  have hts := atoms_spec (ws := wq_y_about) B.pre
  have hown : s.vm.findClass RX8 = some m.cls := findClass_of_methodNamed B.named
  have hlocks := B.notSynchronized
  subst hsz
  have hD := hD0.self (sz := s.heap.size)
  generalize hAe : va_A (xW h a e cI cJ cO cE L I M J n cap fE sd si sa dl) s.heap.size = A at hD ⊢
  have hA : ∀ q : Nat, s.heap.size ≤ q → A q := fun q h => by rw [← hAe]; exact Or.inr h
  have hS : va_S A s.heap s.heap [] := va_S.rf
  have hl := lv_entry ([.ref h, .int p0, .int p1]) (n := 4) (Nat.le_of_ble_eq_true rfl)
  rw [lg_entry_eq]
  generalize (lg_sl ([.ref h, .int p0, .int p1]) ++ List.replicate (4 - (lg_sl ([.ref h, .int p0, .int p1])).length) Slot.unset).toArray = ls at hl ⊢
  have hl : lv_has ls 4 [(0, .ref h), (1, .int p0), (2, .int p1)] := hl
  obtain ⟨RES, hR0⟩ : ∃ R9, R9 = f_y_about n dl p0 p1 L si := ⟨_, rfl⟩
  have hZ9 := hR0
  unfold f_y_about at hZ9
  refine lv_aload_n hx hb dX8_about_0 rfl (lv_at hl 0 rfl) ?_
  refine lv_iload_n hx hb dX8_about_1 rfl (lv_at hl 1 rfl) ?_
  have hFc := mw_free hD hS hA
  refine va_calli (va_runV (As := [.int p0]) (rest := []) ⟨hx, hb, hml, hown, hts⟩ (c_y_exists l dC dI h a e cI cJ cO cE L I M J n cap fE sd si sa dl (b) p0 s.heap.size hX (by omega) ) (cwV 1 hts wc_y_about_y_exists_82 rfl rfl rfl (by decide +kernel) ⟨Nat.le_of_ble_eq_true rfl, Nat.le_of_ble_eq_true rfl⟩) ⟨fun a9 U g mk q => by obtain ⟨q0, q1, qP, qK, qD, qN⟩ := q; exact ⟨q0, q1, qP, va_K.moved (u := U) (U := U.calling g mk a9) (Vm.Alike.refl U.vm) qK, qD, pw_N.same (u := U) (U := U.calling g mk a9) rfl qN⟩, va_recv hK hP (ci := 9) (q0 := 0) rfl rfl, fun U hU hW => ⟨rfl, by rw [hU], by rw [hU]; exact hP, va_K.moved hW.alike hK, hD.weaken (fun _ _ _ _ => trivial), pw_N.warm hW hN⟩⟩ rfl rfl hl.1 rfl (lv_room (Nat.le_of_ble_eq_true rfl)) dX8_about_2 ⟨Nat.le_of_ble_eq_true rfl, Nat.le_of_ble_eq_true rfl⟩) hS (fun q _ h => hFc q h) hFc (fun r1 u t H1 locs ht hvm hw hB hz1 hk1 hS => ?_)
  replace hP := hB.1
  rw [ht] at hP
  replace hD : va_D A (xW h a e cI cJ cO cE L I M J n cap fE sd si sa dl) := hB.2.weaken (fun _ q _ h9 => hFc q.1 h9)
  clear hB
  generalize H1 = H at hP hS ⊢
  replace hP : va_P (dC, dI) vwCl (xW h a e cI cJ cO cE L I M J n cap fE sd si sa dl) H := hP
  rcases hw with ⟨rfl, j2, hj2, ej2⟩ | ⟨rfl, noj2⟩
  · replace hZ9 := ite_t hZ9 (show (0 : Int32) ≤ p0 ∧ p0 < nI n by rw [ej2]; exact ⟨nI_pos' (by omega), nI_lt hj2 (by omega)⟩)
    replace hZ9 := bnd_s hZ9 (show j2 = p0.toNatClampNeg by rw [ej2, nI_clamp (by omega)])
    subst ej2
    refine lv_if_ne (tgt := 10) hx hb dX8_about_5 (by decide) (fun _ => ?_) (fun c9 => absurd c9 (by decide))
    refine lv_aload_n hx hb dX8_about_10 rfl (lv_at hl 0 rfl) ?_
    refine va_get (D := (dC, dI)) (ci := 9) (v := .ref (a 0)) (C := RX8) (T := TX8) (N := 14) hx hb hts in_y_about_X8 hown hK hP 0 rfl rfl 0 (by decide) (hts (.fieldLink RX8 10 "ServiceTree" "services" "Ljava/util/ArrayList;") (by decide +kernel)) (fun _ h9 => h9) rfl dX8_about_11 ?_
    refine lv_iload_n hx hb dX8_about_14 rfl (lv_at hl 1 rfl) ?_
    have hFc := mw_free hD hS hA
    refine va_callr (va_runV (As := [.int (nI j2)]) (rest := []) ⟨hx, hb, hml, hown, hts⟩ (c_x_get l dC dI h a e cI cJ cO cE L I M J n cap fE sd si sa dl (b) j2 H.size hX (by omega) (by omega)) (cwV 1 hts wc_y_about_x_get_86 rfl rfl rfl (by decide +kernel) ⟨Nat.le_of_ble_eq_true rfl, Nat.le_of_ble_eq_true rfl⟩) ⟨fun a9 U g mk q => by obtain ⟨q0, q1, qP, qK, qD, qN⟩ := q; exact ⟨q0, q1, qP, va_K.moved (u := U) (U := U.calling g mk a9) (Vm.Alike.refl U.vm) qK, qD, pw_N.same (u := U) (U := U.calling g mk a9) rfl qN⟩, va_recv hK hP (ci := 0) (q0 := 1) rfl rfl, fun U hU hW => ⟨rfl, by rw [hU], by rw [hU]; exact hP, va_K.moved hW.alike hK, hD.weaken (fun _ _ _ _ => trivial), pw_N.warm hW hN⟩⟩ rfl rfl hl.1 rfl (lv_room (Nat.le_of_ble_eq_true rfl)) dX8_about_15 ⟨Nat.le_of_ble_eq_true rfl, Nat.le_of_ble_eq_true rfl⟩) hS (fun q _ h => hFc q h) hFc (fun u r3 t H1 locs ht hvm hw hB hz1 hk1 hS => ?_)
    obtain ⟨hra, hB⟩ := hB
    replace hP := hB.1
    rw [ht] at hP
    replace hD : va_D A (xW h a e cI cJ cO cE L I M J n cap fE sd si sa dl) := hB.2.weaken (fun _ q _ h9 => hFc q.1 h9)
    clear hB
    generalize H1 = H at hP hS ⊢
    replace hP : va_P (dC, dI) vwCl (xW h a e cI cJ cO cE L I M J n cap fE sd si sa dl) H := hP
    subst hra
    refine va_castS hx hb hown (hts (.classLink RX8 65 RX7) (by decide +kernel)) (hK.1 8 _ rfl).2 (va_recv hK hP (ci := 8) (q0 := (22 + (6 * j2 + 0))) rfl (xAt_0 h a e cI cJ cO cE L I M J n cap fE sd si sa dl (s := j2) (by omega))) dX8_about_18 ?_
    refine lv_astore_n (lv' := [(3, .ref (sd j2 0)), (0, .ref h), (1, .int (nI j2)), (2, .int p1)]) hx hb dX8_about_21 rfl hl (by decide) rfl (fun ls hl => ?_)
    refine lv_iload_n hx hb dX8_about_22 rfl (lv_at hl 3 rfl) ?_
    rcases Classical.em (p1 = 0) with c4 | c4
    · replace hZ9 := ite_t hZ9 c4
      refine lv_tableIn (tgt := 76) (off := 53) hx hb dX8_about_23 (by rw [c4]; decide) (by rw [c4]; decide) (by rw [c4]; rfl) (by decide) ?_
      refine lv_aload_n hx hb dX8_about_76 rfl (lv_at hl 0 rfl) ?_
      refine va_getN (D := (dC, dI)) (ci := 8) (v := .int (si j2 6)) (C := RX7) (T := TX7) (N := 12) hx hb hts in_y_about_X7 hown hK hP (22 + (6 * j2 + 0)) (xAt_0 h a e cI cJ cO cE L I M J n cap fE sd si sa dl (s := j2) (by omega)) rfl 6 (by decide) (va_Nw.use rfl (hN (.fieldLinkNest RX8 162 "ServiceTree$Service" "state" "I" "ServiceTree") (by decide +kernel))) (fun _ h9 => h9) rfl dX8_about_77 ?_
      obtain ⟨z5, hz5, ez5⟩ := hX.2.2.2.1 j2
      refine p1_topr (v := .int (nI z5)) (congrArg Value.int ez5) ?_
      replace hZ9 := bnd_s hZ9 (show z5 = (si j2 6).toNatClampNeg by rw [ez5, nI_clamp (by omega)])
      exact W.iret (v := (nI z5)) hx hb hr (fun t ht hW => ⟨⟨(nI z5), (), rfl, hZ9.symm.trans hR0, by rw [ht]; exact hP, hD⟩, hS.F ht⟩) hS.2.2 dX8_about_80
    replace hZ9 := ite_f hZ9 c4
    rcases Classical.em (p1 = 1) with c6 | c6
    · replace hZ9 := ite_t hZ9 c6
      refine lv_tableIn (tgt := 81) (off := 58) hx hb dX8_about_23 (by rw [c6]; decide) (by rw [c6]; decide) (by rw [c6]; rfl) (by decide) ?_
      refine lv_aload_n hx hb dX8_about_81 rfl (lv_at hl 0 rfl) ?_
      refine va_getN (D := (dC, dI)) (ci := 8) (v := .int (si j2 7)) (C := RX7) (T := TX7) (N := 12) hx hb hts in_y_about_X7 hown hK hP (22 + (6 * j2 + 0)) (xAt_0 h a e cI cJ cO cE L I M J n cap fE sd si sa dl (s := j2) (by omega)) rfl 7 (by decide) (va_Nw.use rfl (hN (.fieldLinkNest RX8 165 "ServiceTree$Service" "since" "I" "ServiceTree") (by decide +kernel))) (fun _ h9 => h9) rfl dX8_about_82 ?_
      refine lv_topi (fun x7 ex7 => ?_)
      replace hZ9 := bnd_s hZ9 ex7
      exact W.iret (v := x7) hx hb hr (fun t ht hW => ⟨⟨x7, (), rfl, hZ9.symm.trans hR0, by rw [ht]; exact hP, hD⟩, hS.F ht⟩) hS.2.2 dX8_about_85
    replace hZ9 := ite_f hZ9 c6
    rcases Classical.em (p1 = 2) with c8 | c8
    · replace hZ9 := ite_t hZ9 c8
      refine lv_tableIn (tgt := 86) (off := 63) hx hb dX8_about_23 (by rw [c8]; decide) (by rw [c8]; decide) (by rw [c8]; rfl) (by decide) ?_
      refine lv_aload_n hx hb dX8_about_86 rfl (lv_at hl 0 rfl) ?_
      refine va_getN (D := (dC, dI)) (ci := 8) (v := .int (si j2 8)) (C := RX7) (T := TX7) (N := 12) hx hb hts in_y_about_X7 hown hK hP (22 + (6 * j2 + 0)) (xAt_0 h a e cI cJ cO cE L I M J n cap fE sd si sa dl (s := j2) (by omega)) rfl 8 (by decide) (va_Nw.use rfl (hN (.fieldLinkNest RX8 168 "ServiceTree$Service" "starts" "I" "ServiceTree") (by decide +kernel))) (fun _ h9 => h9) rfl dX8_about_87 ?_
      refine lv_topi (fun x9 ex9 => ?_)
      replace hZ9 := bnd_s hZ9 ex9
      exact W.iret (v := x9) hx hb hr (fun t ht hW => ⟨⟨x9, (), rfl, hZ9.symm.trans hR0, by rw [ht]; exact hP, hD⟩, hS.F ht⟩) hS.2.2 dX8_about_90
    replace hZ9 := ite_f hZ9 c8
    rcases Classical.em (p1 = 3) with c10 | c10
    · replace hZ9 := ite_t hZ9 c10
      refine lv_tableIn (tgt := 91) (off := 68) hx hb dX8_about_23 (by rw [c10]; decide) (by rw [c10]; decide) (by rw [c10]; rfl) (by decide) ?_
      refine lv_aload_n hx hb dX8_about_91 rfl (lv_at hl 0 rfl) ?_
      refine va_getN (D := (dC, dI)) (ci := 8) (v := .int (si j2 9)) (C := RX7) (T := TX7) (N := 12) hx hb hts in_y_about_X7 hown hK hP (22 + (6 * j2 + 0)) (xAt_0 h a e cI cJ cO cE L I M J n cap fE sd si sa dl (s := j2) (by omega)) rfl 9 (by decide) (va_Nw.use rfl (hN (.fieldLinkNest RX8 171 "ServiceTree$Service" "failures" "I" "ServiceTree") (by decide +kernel))) (fun _ h9 => h9) rfl dX8_about_92 ?_
      refine lv_topi (fun x11 ex11 => ?_)
      replace hZ9 := bnd_s hZ9 ex11
      exact W.iret (v := x11) hx hb hr (fun t ht hW => ⟨⟨x11, (), rfl, hZ9.symm.trans hR0, by rw [ht]; exact hP, hD⟩, hS.F ht⟩) hS.2.2 dX8_about_95
    replace hZ9 := ite_f hZ9 c10
    rcases Classical.em (p1 = 4) with c12 | c12
    · replace hZ9 := ite_t hZ9 c12
      refine lv_tableIn (tgt := 96) (off := 73) hx hb dX8_about_23 (by rw [c12]; decide) (by rw [c12]; decide) (by rw [c12]; rfl) (by decide) ?_
      refine lv_aload_n hx hb dX8_about_96 rfl (lv_at hl 0 rfl) ?_
      refine va_getN (D := (dC, dI)) (ci := 8) (v := .int (si j2 11)) (C := RX7) (T := TX7) (N := 12) hx hb hts in_y_about_X7 hown hK hP (22 + (6 * j2 + 0)) (xAt_0 h a e cI cJ cO cE L I M J n cap fE sd si sa dl (s := j2) (by omega)) rfl 11 (by decide) (va_Nw.use rfl (hN (.fieldLinkNest RX8 174 "ServiceTree$Service" "ended" "Z" "ServiceTree") (by decide +kernel))) (fun _ h9 => h9) rfl dX8_about_97 ?_
      refine lv_topi (fun x13 ex13 => ?_)
      replace hZ9 := bnd_s hZ9 ex13
      refine lv_if_eq (tgt := 107) hx hb dX8_about_100 (by decide) (fun c14 => ?_) (fun c14 => ?_)
      · replace hZ9 := ite_t hZ9 c14
        refine lv_iconst (v := 0) hx hb dX8_about_107 (by decide) ?_
        exact W.iret (v := 0) hx hb hr (fun t ht hW => ⟨⟨0, (), rfl, hZ9.symm.trans hR0, by rw [ht]; exact hP, hD⟩, hS.F ht⟩) hS.2.2 dX8_about_108
      · replace hZ9 := ite_f hZ9 c14
        refine lv_iconst (v := 1) hx hb dX8_about_103 (by decide) ?_
        refine lv_goto (tgt := 108) hx hb dX8_about_104 (by decide) ?_
        exact W.iret (v := 1) hx hb hr (fun t ht hW => ⟨⟨1, (), rfl, hZ9.symm.trans hR0, by rw [ht]; exact hP, hD⟩, hS.F ht⟩) hS.2.2 dX8_about_108
    replace hZ9 := ite_f hZ9 c12
    rcases Classical.em (p1 = 5) with c15 | c15
    · replace hZ9 := ite_t hZ9 c15
      refine lv_tableIn (tgt := 109) (off := 86) hx hb dX8_about_23 (by rw [c15]; decide) (by rw [c15]; decide) (by rw [c15]; rfl) (by decide) ?_
      refine lv_aload_n hx hb dX8_about_109 rfl (lv_at hl 1 rfl) ?_
      refine va_get (D := (dC, dI)) (ci := 9) (v := .ref (a 3)) (C := RX8) (T := TX8) (N := 14) hx hb hts in_y_about_X8 hown hK hP 0 rfl rfl 3 (by decide) (hts (.fieldLink RX8 35 "ServiceTree" "jobs" "LServiceTree$Jobs;") (by decide +kernel)) (fun _ h9 => h9) rfl dX8_about_110 ?_
      refine lv_iload_n hx hb dX8_about_113 rfl (lv_at hl 2 rfl) ?_
      have hFc := mw_free hD hS hA
      refine va_calli (va_runV (As := [.int (nI j2)]) (rest := []) ⟨hx, hb, hml, hown, hts⟩ (c_y_kindOf l dC dI h a e cI cJ cO cE L I M J n cap fE sd si sa dl (b) j2 H.size hX (by omega) ) (cwV 1 hts wc_y_about_y_kindOf_178 rfl rfl rfl (by decide +kernel) ⟨Nat.le_of_ble_eq_true rfl, Nat.le_of_ble_eq_true rfl⟩) ⟨fun a9 U g mk q => by obtain ⟨q0, q1, qP, qK, qD, qN⟩ := q; exact ⟨q0, q1, qP, va_K.moved (u := U) (U := U.calling g mk a9) (Vm.Alike.refl U.vm) qK, qD, pw_N.same (u := U) (U := U.calling g mk a9) rfl qN⟩, va_recv hK hP (ci := 4) (q0 := 14) rfl rfl, fun U hU hW => ⟨rfl, by rw [hU], by rw [hU]; exact hP, va_K.moved hW.alike hK, hD.weaken (fun _ _ _ _ => trivial), pw_N.warm hW hN⟩⟩ rfl rfl hl.1 rfl (lv_room (Nat.le_of_ble_eq_true rfl)) dX8_about_114 ⟨Nat.le_of_ble_eq_true rfl, Nat.le_of_ble_eq_true rfl⟩) hS (fun q _ h => hFc q h) hFc (fun r16 u t H1 locs ht hvm hw hB hz1 hk1 hS => ?_)
      replace hP := hB.1
      rw [ht] at hP
      replace hD : va_D A (xW h a e cI cJ cO cE L I M J n cap fE sd si sa dl) := hB.2.weaken (fun _ q _ h9 => hFc q.1 h9)
      clear hB
      generalize H1 = H at hP hS ⊢
      replace hP : va_P (dC, dI) vwCl (xW h a e cI cJ cO cE L I M J n cap fE sd si sa dl) H := hP
      replace hw : r16 = f_y_kindOf n dl j2 L := hw
      replace hZ9 := bnd_s hZ9 hw
      exact W.iret (v := r16) hx hb hr (fun t ht hW => ⟨⟨r16, (), rfl, hZ9.symm.trans hR0, by rw [ht]; exact hP, hD⟩, hS.F ht⟩) hS.2.2 dX8_about_117
    replace hZ9 := ite_f hZ9 c15
    rcases Classical.em (p1 = 6) with c17 | c17
    · replace hZ9 := ite_t hZ9 c17
      refine lv_tableIn (tgt := 118) (off := 95) hx hb dX8_about_23 (by rw [c17]; decide) (by rw [c17]; decide) (by rw [c17]; rfl) (by decide) ?_
      refine lv_aload_n hx hb dX8_about_118 rfl (lv_at hl 0 rfl) ?_
      refine va_getN (D := (dC, dI)) (ci := 8) (v := .ref (sd j2 4)) (C := RX7) (T := TX7) (N := 12) hx hb hts in_y_about_X7 hown hK hP (22 + (6 * j2 + 0)) (xAt_0 h a e cI cJ cO cE L I M J n cap fE sd si sa dl (s := j2) (by omega)) rfl 5 (by decide) (va_Nw.use rfl (hN (.fieldLinkNest RX8 142 "ServiceTree$Service" "door" "LServiceTree$Door;" "ServiceTree") (by decide +kernel))) (fun _ h9 => h9) rfl dX8_about_119 ?_
      refine va_getN (D := (dC, dI)) (ci := 1) (v := .int (si j2 32)) (C := RX0) (T := TX0) (N := 5) hx hb hts in_y_about_X0 hown hK hP (22 + (6 * j2 + 4)) (xAt_4 h a e cI cJ cO cE L I M J n cap fE sd si sa dl (s := j2) (by omega)) rfl 2 (by decide) (va_Nw.use rfl (hN (.fieldLinkNest RX8 182 "ServiceTree$Door" "size" "I" "ServiceTree") (by decide +kernel))) (fun _ h9 => h9) rfl dX8_about_122 ?_
      obtain ⟨hdz18, z18, hz18, ez18⟩ := hX.2.2.2.2.2.2.1 j2
      refine p1_topr (v := .int (nI z18)) (congrArg Value.int ez18) ?_
      have hdlz18 := (hX.2.2.2.2.2.2.1 j2).1
      replace hZ9 := bnd_s hZ9 (show z18 = (si j2 32).toNatClampNeg by rw [ez18, nI_clamp (by omega)])
      exact W.iret (v := (nI z18)) hx hb hr (fun t ht hW => ⟨⟨(nI z18), (), rfl, hZ9.symm.trans hR0, by rw [ht]; exact hP, hD⟩, hS.F ht⟩) hS.2.2 dX8_about_125
    replace hZ9 := ite_f hZ9 c17
    rcases Classical.em (p1 = 7) with c19 | c19
    · replace hZ9 := ite_t hZ9 c19
      refine lv_tableIn (tgt := 126) (off := 103) hx hb dX8_about_23 (by rw [c19]; decide) (by rw [c19]; decide) (by rw [c19]; rfl) (by decide) ?_
      refine lv_aload_n hx hb dX8_about_126 rfl (lv_at hl 0 rfl) ?_
      refine va_getN (D := (dC, dI)) (ci := 8) (v := .ref (sd j2 4)) (C := RX7) (T := TX7) (N := 12) hx hb hts in_y_about_X7 hown hK hP (22 + (6 * j2 + 0)) (xAt_0 h a e cI cJ cO cE L I M J n cap fE sd si sa dl (s := j2) (by omega)) rfl 5 (by decide) (va_Nw.use rfl (hN (.fieldLinkNest RX8 142 "ServiceTree$Service" "door" "LServiceTree$Door;" "ServiceTree") (by decide +kernel))) (fun _ h9 => h9) rfl dX8_about_127 ?_
      refine va_getN (D := (dC, dI)) (ci := 1) (v := .int (si j2 33)) (C := RX0) (T := TX0) (N := 5) hx hb hts in_y_about_X0 hown hK hP (22 + (6 * j2 + 4)) (xAt_4 h a e cI cJ cO cE L I M J n cap fE sd si sa dl (s := j2) (by omega)) rfl 3 (by decide) (va_Nw.use rfl (hN (.fieldLinkNest RX8 183 "ServiceTree$Door" "read" "I" "ServiceTree") (by decide +kernel))) (fun _ h9 => h9) rfl dX8_about_130 ?_
      refine lv_topi (fun x20 ex20 => ?_)
      replace hZ9 := bnd_s hZ9 ex20
      exact W.iret (v := x20) hx hb hr (fun t ht hW => ⟨⟨x20, (), rfl, hZ9.symm.trans hR0, by rw [ht]; exact hP, hD⟩, hS.F ht⟩) hS.2.2 dX8_about_133
    replace hZ9 := ite_f hZ9 c19
    rcases Classical.em (p1 = 8) with c21 | c21
    · replace hZ9 := ite_t hZ9 c21
      refine lv_tableIn (tgt := 134) (off := 111) hx hb dX8_about_23 (by rw [c21]; decide) (by rw [c21]; decide) (by rw [c21]; rfl) (by decide) ?_
      refine lv_aload_n hx hb dX8_about_134 rfl (lv_at hl 0 rfl) ?_
      refine va_getN (D := (dC, dI)) (ci := 8) (v := .ref (sd j2 4)) (C := RX7) (T := TX7) (N := 12) hx hb hts in_y_about_X7 hown hK hP (22 + (6 * j2 + 0)) (xAt_0 h a e cI cJ cO cE L I M J n cap fE sd si sa dl (s := j2) (by omega)) rfl 5 (by decide) (va_Nw.use rfl (hN (.fieldLinkNest RX8 142 "ServiceTree$Service" "door" "LServiceTree$Door;" "ServiceTree") (by decide +kernel))) (fun _ h9 => h9) rfl dX8_about_135 ?_
      refine va_getN (D := (dC, dI)) (ci := 1) (v := .int (si j2 34)) (C := RX0) (T := TX0) (N := 5) hx hb hts in_y_about_X0 hown hK hP (22 + (6 * j2 + 4)) (xAt_4 h a e cI cJ cO cE L I M J n cap fE sd si sa dl (s := j2) (by omega)) rfl 4 (by decide) (va_Nw.use rfl (hN (.fieldLinkNest RX8 186 "ServiceTree$Door" "lastRead" "I" "ServiceTree") (by decide +kernel))) (fun _ h9 => h9) rfl dX8_about_138 ?_
      refine lv_topi (fun x22 ex22 => ?_)
      replace hZ9 := bnd_s hZ9 ex22
      exact W.iret (v := x22) hx hb hr (fun t ht hW => ⟨⟨x22, (), rfl, hZ9.symm.trans hR0, by rw [ht]; exact hP, hD⟩, hS.F ht⟩) hS.2.2 dX8_about_141
    replace hZ9 := ite_f hZ9 c21
    rcases Classical.em (p1 = 9) with c23 | c23
    · replace hZ9 := ite_t hZ9 c23
      refine lv_tableIn (tgt := 142) (off := 119) hx hb dX8_about_23 (by rw [c23]; decide) (by rw [c23]; decide) (by rw [c23]; rfl) (by decide) ?_
      refine lv_aload_n hx hb dX8_about_142 rfl (lv_at hl 0 rfl) ?_
      refine va_getN (D := (dC, dI)) (ci := 8) (v := .int (si j2 0)) (C := RX7) (T := TX7) (N := 12) hx hb hts in_y_about_X7 hown hK hP (22 + (6 * j2 + 0)) (xAt_0 h a e cI cJ cO cE L I M J n cap fE sd si sa dl (s := j2) (by omega)) rfl 0 (by decide) (va_Nw.use rfl (hN (.fieldLinkNest RX8 90 "ServiceTree$Service" "kind" "I" "ServiceTree") (by decide +kernel))) (fun _ h9 => h9) rfl dX8_about_143 ?_
      refine lv_topi (fun x24 ex24 => ?_)
      replace hZ9 := bnd_s hZ9 ex24
      exact W.iret (v := x24) hx hb hr (fun t ht hW => ⟨⟨x24, (), rfl, hZ9.symm.trans hR0, by rw [ht]; exact hP, hD⟩, hS.F ht⟩) hS.2.2 dX8_about_146
    replace hZ9 := ite_f hZ9 c23
    refine lv_tableOut (tgt := 147) hx hb dX8_about_23 (by have k0 := c4; have k1 := c6; have k2 := c8; have k3 := c10; have k4 := c12; have k5 := c15; have k6 := c17; have k7 := c19; have k8 := c21; have k9 := c23; simp only [p1_le, p1_lt, p1_eq, p1_m6, p1_m1, p1_0, p1_1, p1_2, p1_3, p1_4, p1_5, p1_6, p1_7, p1_8, p1_9, p1_10, p1_11, p1_12, p1_13, p1_14, p1_15, p1_16, p1_17, p1_18, p1_19, p1_20, p1_40, p1_50, p1_200, p1_1000] at k0 k1 k2 k3 k4 k5 k6 k7 k8 k9 ⊢; omega) (by decide) ?_
    refine lv_iconst (v := (-1)) hx hb dX8_about_147 (by decide) ?_
    exact W.iret (v := (-1)) hx hb hr (fun t ht hW => ⟨⟨(-1), (), rfl, hZ9.symm.trans hR0, by rw [ht]; exact hP, hD⟩, hS.F ht⟩) hS.2.2 dX8_about_148
  · replace hZ9 := ite_f hZ9 noj2
    refine lv_if_ne (tgt := 10) hx hb dX8_about_5 (by decide) (fun c9 => absurd (by decide) c9) (fun _ => ?_)
    refine lv_iconst (v := (-1)) hx hb dX8_about_8 (by decide) ?_
    exact W.iret (v := (-1)) hx hb hr (fun t ht hW => ⟨⟨(-1), (), rfl, hZ9.symm.trans hR0, by rw [ht]; exact hP, hD⟩, hS.F ht⟩) hS.2.2 dX8_about_9
def f_y_in (n : Nat) (dl : Nat → Nat) (p0 : Int32) (M : Nat → Nat → Int64) : Int32 := if (0 : Int32) ≤ p0 ∧ p0 ≤ (5 : Int32) then (bnd (p0.toNatClampNeg) (fun (j2 : Nat) => bnd (M 9 (nI j2).toNatClampNeg) (fun (x3 : Int64) => bnd (f_y_bitCount n dl x3 ) (fun (r4 : Int32) => (r4))))) else (((-1 : Int32)))
def wq_y_in : List Cond := ([.code yX8_in cX8_in 2 (some .int), .fieldLink RX8 53 "ServiceTree" "inState" "[J", .methodLink RX8 57 yX8_within, .static yX8_within, .initialized RX8, .methodLink RX8 189 yJ13_bitCount_95d88, .static yJ13_bitCount_95d88, .initialized RJ13] : List Cond) ++ (wsX80 ++ (wq_y_within ++ (wq_y_bitCount)))
theorem in_y_in_X8 : ∀ w ∈ wsX80, w ∈ wq_y_in := fun _ h => List.mem_append_right _ (List.mem_append_left _ (h))
set_option maxRecDepth 20000 in
theorem wi_y_in : ∀ w ∈ wq_y_in, w ∈ lw_tbl := List.forall_mem_append.mpr ⟨(wix [757, 230, 271, 272, 60, 758, 580, 79] rfl), List.forall_mem_append.mpr ⟨inKX8, List.forall_mem_append.mpr ⟨wi_y_within, wi_y_bitCount⟩⟩⟩
set_option maxRecDepth 20000 in
theorem wg_y_in : GoodIn wq_y_in wq_y_in := goodIn_sub (fun _ h => h) (by decide +kernel)
set_option maxRecDepth 20000 in
theorem wc_y_in_y_within_57 : GoodIn wq_y_in (va_wsS RX8 57 yX8_within wq_y_within) := goodIn_app (goodIn_of _ (by decide +kernel)) (fun w h => ⟨List.mem_append_right _ (List.mem_append_right _ (List.mem_append_left _ (h))), (wg_y_within w h).2⟩)
set_option maxRecDepth 20000 in
theorem wc_y_in_y_bitCount_189 : GoodIn wq_y_in (va_wsS RX8 189 yJ13_bitCount_95d88 wq_y_bitCount) := goodIn_app (goodIn_of _ (by decide +kernel)) (fun w h => ⟨List.mem_append_right _ (List.mem_append_right _ (List.mem_append_right _ (h))), (wg_y_bitCount w h).2⟩)
def rm_y_in : Room := { frames := 1, cells := 0, slots := 0, locals := 22 }
set_option maxHeartbeats 4000000 in
set_option maxRecDepth 100000 in
theorem c_y_in (l : Launch) (dC : Nat → ClassId) (dI : Nat → Nat → Nat) (h : Nat) (a : Nat → Nat) (e : Nat) (cI cJ cO cE : ClassId) (L : Nat → Int64) (I : Nat → Int32) (M : Nat → Nat → Int64) (J : Nat → Nat → Int32) (n cap : Nat) (fE : Nat → Option Nat) (sd : Nat → Nat → Nat) (si : Nat → Nat → Int32) (sa : Nat → Nat → Nat → Int32) (dl : Nat → Nat) (b : Nat) (p0 : Int32) (sz : Nat) (hX0 : InvX n cap fE sd dl b I J si) (hb0 : b + 0 < 2147483648)  : Met l yX8_in wq_y_in rm_y_in (va_Pc [.ref h, .int p0] (fun U => U.heap.size = sz ∧ va_P (dC, dI) vwCl (xW h a e cI cJ cO cE L I M J n cap fE sd si sa dl) U.heap ∧ va_K (dC, dI) vwCl (xT cI cJ cO cE) U ∧ va_D (fun _ => True) (xW h a e cI cJ cO cE L I M J n cap fE sd si sa dl) ∧ pw_N U)) (va_Qi (fun (r : Int32) (u : Unit) => (r = f_y_in n dl p0 M)) (fun (u : Unit) (t : State) => va_P (dC, dI) vwCl (xW h a e cI cJ cO cE L I M J n cap fE sd si sa dl) t.heap ∧ va_D (va_A (xW h a e cI cJ cO cE L I M J n cap fE sd si sa dl) sz) (xW h a e cI cJ cO cE L I M J n cap fE sd si sa dl)) (va_A (xW h a e cI cJ cO cE L I M J n cap fE sd si sa dl) sz)) 0 0 (va_A (xW h a e cI cJ cO cE L I M J n cap fE sd si sa dl) sz) := by
  have hn : n ≤ 40 := hX0.1.1
  have hX := hX0
  refine Met.ofW (cc := cX8_in) (maxL := 2) (ret := (some .int)) (by decide) rfl ?_
  intro p e9 s m args below meth c s₁ B hml hv
  obtain ⟨rfl, hsz, hP, hK, hD0, hN⟩ := hv
  have hx := B.exec
  have hb := B.bytes
  have hr := B.returns
  have hts := atoms_spec (ws := wq_y_in) B.pre
  have hown : s.vm.findClass RX8 = some m.cls := findClass_of_methodNamed B.named
  have hlocks := B.notSynchronized
  subst hsz
  have hD := hD0.self (sz := s.heap.size)
  generalize hAe : va_A (xW h a e cI cJ cO cE L I M J n cap fE sd si sa dl) s.heap.size = A at hD ⊢
  have hA : ∀ q : Nat, s.heap.size ≤ q → A q := fun q h => by rw [← hAe]; exact Or.inr h
  have hS : va_S A s.heap s.heap [] := va_S.rf
  have hl := lv_entry ([.ref h, .int p0]) (n := 2) (Nat.le_of_ble_eq_true rfl)
  rw [lg_entry_eq]
  generalize (lg_sl ([.ref h, .int p0]) ++ List.replicate (2 - (lg_sl ([.ref h, .int p0])).length) Slot.unset).toArray = ls at hl ⊢
  have hl : lv_has ls 2 [(0, .ref h), (1, .int p0)] := hl
  obtain ⟨RES, hR0⟩ : ∃ R9, R9 = f_y_in n dl p0 M := ⟨_, rfl⟩
  have hZ9 := hR0
  unfold f_y_in at hZ9
  refine lv_iload_n hx hb dX8_in_0 rfl (lv_at hl 1 rfl) ?_
  refine lv_iconst (v := 0) hx hb dX8_in_1 (by decide) ?_
  refine lv_iconst (v := 5) hx hb dX8_in_2 (by decide) ?_
  have hFc := mw_free hD hS hA
  refine va_calli (va_runS (As := [.int p0, .int 0, .int 5]) (rest := []) ⟨hx, hb, hml, hown, hts⟩ (c_y_within l dC dI h a e cI cJ cO cE L I M J n cap fE sd si sa dl (b) p0 0 5 s.heap.size hX (by omega) ) (va_cwS 3 hts wc_y_in_y_within_57 rfl rfl rfl (by decide +kernel) ⟨Nat.le_of_ble_eq_true rfl, Nat.le_of_ble_eq_true rfl⟩) ⟨fun a9 U g mk q => by obtain ⟨q0, q1, qP, qK, qD, qN⟩ := q; exact ⟨q0, q1, qP, va_K.moved (u := U) (U := U.calling g mk a9) (Vm.Alike.refl U.vm) qK, qD, pw_N.same (u := U) (U := U.calling g mk a9) rfl qN⟩, fun U hU hW => ⟨rfl, by rw [hU], by rw [hU]; exact hP, va_K.moved hW.alike hK, hD.weaken (fun _ _ _ _ => trivial), pw_N.warm hW hN⟩⟩ rfl rfl hl.1 rfl (lv_room (Nat.le_of_ble_eq_true rfl)) dX8_in_3 ⟨Nat.le_of_ble_eq_true rfl, Nat.le_of_ble_eq_true rfl⟩) hS (fun q _ h => hFc q h) hFc (fun r1 u t H1 locs ht hvm hw hB hz1 hk1 hS => ?_)
  replace hP := hB.1
  rw [ht] at hP
  replace hD : va_D A (xW h a e cI cJ cO cE L I M J n cap fE sd si sa dl) := hB.2.weaken (fun _ q _ h9 => hFc q.1 h9)
  clear hB
  generalize H1 = H at hP hS ⊢
  replace hP : va_P (dC, dI) vwCl (xW h a e cI cJ cO cE L I M J n cap fE sd si sa dl) H := hP
  rcases hw with ⟨rfl, haj2, hbj2⟩ | ⟨rfl, noj2⟩
  · replace hZ9 := ite_t hZ9 ⟨haj2, hbj2⟩
    obtain ⟨j2, hj2, ej2⟩ := nI_of2 (n := 5) (by decide) (xw_ge0 haj2) hbj2
    replace hZ9 := bnd_s hZ9 (show j2 = p0.toNatClampNeg by rw [ej2, nI_clamp (by omega)])
    subst ej2
    refine lv_if_ne (tgt := 11) hx hb dX8_in_6 (by decide) (fun _ => ?_) (fun c9 => absurd c9 (by decide))
    refine lv_aload_n hx hb dX8_in_11 rfl (lv_at hl 0 rfl) ?_
    refine va_get (D := (dC, dI)) (ci := 9) (v := .ref (a 6)) (C := RX8) (T := TX8) (N := 14) hx hb hts in_y_in_X8 hown hK hP 0 rfl rfl 6 (by decide) (hts (.fieldLink RX8 53 "ServiceTree" "inState" "[J") (by decide +kernel)) (fun _ h9 => h9) rfl dX8_in_12 ?_
    refine lv_iload_n hx hb dX8_in_15 rfl (lv_at hl 1 rfl) ?_
    refine va_lald (n := 6) (f := M 9) hx hb hK hP 21 1 rfl rfl (vp_in_nI (n := j2) (by omega) (by omega)) dX8_in_16 ?_
    refine lv_topl (fun x3 ex3 => ?_)
    replace hZ9 := bnd_s hZ9 ex3
    have hFc := mw_free hD hS hA
    refine va_calli (va_runS (As := [.long x3]) (rest := []) ⟨hx, hb, hml, hown, hts⟩ (c_y_bitCount l dC dI h a e cI cJ cO cE L I M J n cap fE sd si sa dl (b) x3 H.size hX (by omega) ) (va_cwS 1 hts wc_y_in_y_bitCount_189 rfl rfl rfl (by decide +kernel) ⟨Nat.le_of_ble_eq_true rfl, Nat.le_of_ble_eq_true rfl⟩) ⟨fun a9 U g mk q => by obtain ⟨q0, q1, qP, qK, qD, qN⟩ := q; exact ⟨q0, q1, qP, va_K.moved (u := U) (U := U.calling g mk a9) (Vm.Alike.refl U.vm) qK, qD, pw_N.same (u := U) (U := U.calling g mk a9) rfl qN⟩, fun U hU hW => ⟨rfl, by rw [hU], by rw [hU]; exact hP, va_K.moved hW.alike hK, hD.weaken (fun _ _ _ _ => trivial), pw_N.warm hW hN⟩⟩ rfl rfl hl.1 rfl (lv_room (Nat.le_of_ble_eq_true rfl)) dX8_in_17 ⟨Nat.le_of_ble_eq_true rfl, Nat.le_of_ble_eq_true rfl⟩) hS (fun q _ h => hFc q h) hFc (fun r4 u t H1 locs ht hvm hw hB hz1 hk1 hS => ?_)
    replace hP := hB.1
    rw [ht] at hP
    replace hD : va_D A (xW h a e cI cJ cO cE L I M J n cap fE sd si sa dl) := hB.2.weaken (fun _ q _ h9 => hFc q.1 h9)
    clear hB
    generalize H1 = H at hP hS ⊢
    replace hP : va_P (dC, dI) vwCl (xW h a e cI cJ cO cE L I M J n cap fE sd si sa dl) H := hP
    replace hw : r4 = f_y_bitCount n dl x3  := hw
    replace hZ9 := bnd_s hZ9 hw
    exact W.iret (v := r4) hx hb hr (fun t ht hW => ⟨⟨r4, (), rfl, hZ9.symm.trans hR0, by rw [ht]; exact hP, hD⟩, hS.F ht⟩) hS.2.2 dX8_in_20
  · replace hZ9 := ite_f hZ9 noj2
    refine lv_if_ne (tgt := 11) hx hb dX8_in_6 (by decide) (fun c9 => absurd (by decide) c9) (fun _ => ?_)
    refine lv_iconst (v := (-1)) hx hb dX8_in_9 (by decide) ?_
    exact W.iret (v := (-1)) hx hb hr (fun t ht hW => ⟨⟨(-1), (), rfl, hZ9.symm.trans hR0, by rw [ht]; exact hP, hD⟩, hS.F ht⟩) hS.2.2 dX8_in_10
def f_y_count (n : Nat) (dl : Nat → Nat) (p0 : Int32) (L : Nat → Int64) (I : Nat → Int32) : Int32 := if p0 = 0 then (((nI n))) else (if p0 = 1 then (bnd (I 7) (fun (x4 : Int32) => (x4))) else (if p0 = 2 then (bnd (f_y_left n dl  L) (fun (r6 : Int64) => bnd (f_y_bitCount n dl r6 ) (fun (r7 : Int32) => (r7)))) else (if p0 = 3 then (bnd (I 0) (fun (x9 : Int32) => (x9))) else (if p0 = 4 then (bnd (I 1) (fun (x11 : Int32) => (x11))) else (if p0 = 5 then (bnd (I 2) (fun (x13 : Int32) => (x13))) else (((-1 : Int32))))))))
def wq_y_count : List Cond := ([.code yX8_count cX8_count 2 (some .int), .fieldLink RX8 10 "ServiceTree" "services" "Ljava/util/ArrayList;", .fieldLink RX8 19 "ServiceTree" "relations" "LServiceTree$Relations;", .fieldLink RX8 35 "ServiceTree" "jobs" "LServiceTree$Jobs;", .fieldLink RX8 67 "ServiceTree" "now" "I", .fieldLink RX8 152 "ServiceTree" "lettersCome" "I", .fieldLink RX8 195 "ServiceTree" "lettersRead" "I", .methodLink RX8 61 yJx4a65c_size_8abf5, .instanceMethod yJx4a65c_size_8abf5, .selects RJx4a65c yJx4a65c_size_8abf5 yJx4a65c_size_8abf5, .initialized RJx4a65c, .methodLink RX8 110 yX3_left, .instanceMethod yX3_left, .selects RX3 yX3_left yX3_left, .initialized RX3, .methodLink RX8 189 yJ13_bitCount_95d88, .static yJ13_bitCount_95d88, .initialized RJ13] : List Cond) ++ (wsX50 ++ (wsX80 ++ (wq_y_size ++ (wq_y_left ++ (wq_y_bitCount)))))
theorem in_y_count_X5 : ∀ w ∈ wsX50, w ∈ wq_y_count := fun _ h => List.mem_append_right _ (List.mem_append_left _ (h))
theorem in_y_count_X8 : ∀ w ∈ wsX80, w ∈ wq_y_count := fun _ h => List.mem_append_right _ (List.mem_append_right _ (List.mem_append_left _ (h)))
set_option maxRecDepth 20000 in
theorem wi_y_count : ∀ w ∈ wq_y_count, w ∈ lw_tbl := List.forall_mem_append.mpr ⟨(wix [762, 224, 225, 227, 233, 234, 235, 274, 275, 276, 63, 483, 484, 485, 66, 758, 580, 79] rfl), List.forall_mem_append.mpr ⟨inKX5, List.forall_mem_append.mpr ⟨inKX8, List.forall_mem_append.mpr ⟨wi_y_size, List.forall_mem_append.mpr ⟨wi_y_left, wi_y_bitCount⟩⟩⟩⟩⟩
set_option maxRecDepth 20000 in
theorem wg_y_count : GoodIn wq_y_count wq_y_count := goodIn_sub (fun _ h => h) (by decide +kernel)
set_option maxRecDepth 20000 in
theorem wc_y_count_y_size_61 : GoodIn wq_y_count (wsV RX8 61 RJx4a65c yJx4a65c_size_8abf5 wq_y_size) := goodIn_app (goodIn_of _ (by decide +kernel)) (fun w h => ⟨List.mem_append_right _ (List.mem_append_right _ (List.mem_append_right _ (List.mem_append_left _ (h)))), (wg_y_size w h).2⟩)
set_option maxRecDepth 20000 in
theorem wc_y_count_y_left_110 : GoodIn wq_y_count (wsV RX8 110 RX3 yX3_left wq_y_left) := goodIn_app (goodIn_of _ (by decide +kernel)) (fun w h => ⟨List.mem_append_right _ (List.mem_append_right _ (List.mem_append_right _ (List.mem_append_right _ (List.mem_append_left _ (h))))), (wg_y_left w h).2⟩)
set_option maxRecDepth 20000 in
theorem wc_y_count_y_bitCount_189 : GoodIn wq_y_count (va_wsS RX8 189 yJ13_bitCount_95d88 wq_y_bitCount) := goodIn_app (goodIn_of _ (by decide +kernel)) (fun w h => ⟨List.mem_append_right _ (List.mem_append_right _ (List.mem_append_right _ (List.mem_append_right _ (List.mem_append_right _ (h))))), (wg_y_bitCount w h).2⟩)
def rm_y_count : Room := { frames := 1, cells := 0, slots := 0, locals := 21 }
set_option maxHeartbeats 4000000 in
set_option maxRecDepth 100000 in
theorem c_y_count (l : Launch) (dC : Nat → ClassId) (dI : Nat → Nat → Nat) (h : Nat) (a : Nat → Nat) (e : Nat) (cI cJ cO cE : ClassId) (L : Nat → Int64) (I : Nat → Int32) (M : Nat → Nat → Int64) (J : Nat → Nat → Int32) (n cap : Nat) (fE : Nat → Option Nat) (sd : Nat → Nat → Nat) (si : Nat → Nat → Int32) (sa : Nat → Nat → Nat → Int32) (dl : Nat → Nat) (b : Nat) (p0 : Int32) (sz : Nat) (hX0 : InvX n cap fE sd dl b I J si) (hb0 : b + 0 < 2147483648)  : Met l yX8_count wq_y_count rm_y_count (va_Pc [.ref h, .int p0] (fun U => U.heap.size = sz ∧ va_P (dC, dI) vwCl (xW h a e cI cJ cO cE L I M J n cap fE sd si sa dl) U.heap ∧ va_K (dC, dI) vwCl (xT cI cJ cO cE) U ∧ va_D (fun _ => True) (xW h a e cI cJ cO cE L I M J n cap fE sd si sa dl) ∧ pw_N U)) (va_Qi (fun (r : Int32) (u : Unit) => (r = f_y_count n dl p0 L I)) (fun (u : Unit) (t : State) => va_P (dC, dI) vwCl (xW h a e cI cJ cO cE L I M J n cap fE sd si sa dl) t.heap ∧ va_D (va_A (xW h a e cI cJ cO cE L I M J n cap fE sd si sa dl) sz) (xW h a e cI cJ cO cE L I M J n cap fE sd si sa dl)) (va_A (xW h a e cI cJ cO cE L I M J n cap fE sd si sa dl) sz)) 0 0 (va_A (xW h a e cI cJ cO cE L I M J n cap fE sd si sa dl) sz) := by
  have hn : n ≤ 40 := hX0.1.1
  have hX := hX0
  refine Met.ofW (cc := cX8_count) (maxL := 2) (ret := (some .int)) (by decide) rfl ?_
  intro p e9 s m args below meth c s₁ B hml hv
  obtain ⟨rfl, hsz, hP, hK, hD0, hN⟩ := hv
  have hx := B.exec
  have hb := B.bytes
  have hr := B.returns
  have hts := atoms_spec (ws := wq_y_count) B.pre
  have hown : s.vm.findClass RX8 = some m.cls := findClass_of_methodNamed B.named
  have hlocks := B.notSynchronized
  subst hsz
  have hD := hD0.self (sz := s.heap.size)
  generalize hAe : va_A (xW h a e cI cJ cO cE L I M J n cap fE sd si sa dl) s.heap.size = A at hD ⊢
  have hA : ∀ q : Nat, s.heap.size ≤ q → A q := fun q h => by rw [← hAe]; exact Or.inr h
  have hS : va_S A s.heap s.heap [] := va_S.rf
  have hl := lv_entry ([.ref h, .int p0]) (n := 2) (Nat.le_of_ble_eq_true rfl)
  rw [lg_entry_eq]
  generalize (lg_sl ([.ref h, .int p0]) ++ List.replicate (2 - (lg_sl ([.ref h, .int p0])).length) Slot.unset).toArray = ls at hl ⊢
  have hl : lv_has ls 2 [(0, .ref h), (1, .int p0)] := hl
  obtain ⟨RES, hR0⟩ : ∃ R9, R9 = f_y_count n dl p0 L I := ⟨_, rfl⟩
  have hZ9 := hR0
  unfold f_y_count at hZ9
  refine lv_iload_n hx hb dX8_count_0 rfl (lv_at hl 1 rfl) ?_
  rcases Classical.em (p0 = 0) with c1 | c1
  · replace hZ9 := ite_t hZ9 c1
    refine lv_tableIn (tgt := 40) (off := 39) hx hb dX8_count_1 (by rw [c1]; decide) (by rw [c1]; decide) (by rw [c1]; rfl) (by decide) ?_
    refine lv_aload_n hx hb dX8_count_40 rfl (lv_at hl 0 rfl) ?_
    refine va_get (D := (dC, dI)) (ci := 9) (v := .ref (a 0)) (C := RX8) (T := TX8) (N := 14) hx hb hts in_y_count_X8 hown hK hP 0 rfl rfl 0 (by decide) (hts (.fieldLink RX8 10 "ServiceTree" "services" "Ljava/util/ArrayList;") (by decide +kernel)) (fun _ h9 => h9) rfl dX8_count_41 ?_
    have hFc := mw_free hD hS hA
    refine va_calli (va_runV (As := []) (rest := []) ⟨hx, hb, hml, hown, hts⟩ (c_y_size l dC dI h a e cI cJ cO cE L I M J n cap fE sd si sa dl (b)  s.heap.size hX (by omega) ) (cwV 0 hts wc_y_count_y_size_61 rfl rfl rfl (by decide +kernel) ⟨Nat.le_of_ble_eq_true rfl, Nat.le_of_ble_eq_true rfl⟩) ⟨fun a9 U g mk q => by obtain ⟨q0, q1, qP, qK, qD, qN⟩ := q; exact ⟨q0, q1, qP, va_K.moved (u := U) (U := U.calling g mk a9) (Vm.Alike.refl U.vm) qK, qD, pw_N.same (u := U) (U := U.calling g mk a9) rfl qN⟩, va_recv hK hP (ci := 0) (q0 := 1) rfl rfl, fun U hU hW => ⟨rfl, by rw [hU], by rw [hU]; exact hP, va_K.moved hW.alike hK, hD.weaken (fun _ _ _ _ => trivial), pw_N.warm hW hN⟩⟩ rfl rfl hl.1 rfl (lv_room (Nat.le_of_ble_eq_true rfl)) dX8_count_44 ⟨Nat.le_of_ble_eq_true rfl, Nat.le_of_ble_eq_true rfl⟩) hS (fun q _ h => hFc q h) hFc (fun r2 u t H1 locs ht hvm hw hB hz1 hk1 hS => ?_)
    replace hP := hB.1
    rw [ht] at hP
    replace hD : va_D A (xW h a e cI cJ cO cE L I M J n cap fE sd si sa dl) := hB.2.weaken (fun _ q _ h9 => hFc q.1 h9)
    clear hB
    generalize H1 = H at hP hS ⊢
    replace hP : va_P (dC, dI) vwCl (xW h a e cI cJ cO cE L I M J n cap fE sd si sa dl) H := hP
    obtain rfl : r2 = nI n := hw
    exact W.iret (v := (nI n)) hx hb hr (fun t ht hW => ⟨⟨(nI n), (), rfl, hZ9.symm.trans hR0, by rw [ht]; exact hP, hD⟩, hS.F ht⟩) hS.2.2 dX8_count_47
  replace hZ9 := ite_f hZ9 c1
  rcases Classical.em (p0 = 1) with c3 | c3
  · replace hZ9 := ite_t hZ9 c3
    refine lv_tableIn (tgt := 48) (off := 47) hx hb dX8_count_1 (by rw [c3]; decide) (by rw [c3]; decide) (by rw [c3]; rfl) (by decide) ?_
    refine lv_aload_n hx hb dX8_count_48 rfl (lv_at hl 0 rfl) ?_
    refine va_get (D := (dC, dI)) (ci := 9) (v := .ref (a 1)) (C := RX8) (T := TX8) (N := 14) hx hb hts in_y_count_X8 hown hK hP 0 rfl rfl 1 (by decide) (hts (.fieldLink RX8 19 "ServiceTree" "relations" "LServiceTree$Relations;") (by decide +kernel)) (fun _ h9 => h9) rfl dX8_count_49 ?_
    refine va_getN (D := (dC, dI)) (ci := 6) (v := .int (I 7)) (C := RX5) (T := TX5) (N := 3) hx hb hts in_y_count_X5 hown hK hP 2 rfl rfl 2 (by decide) (va_Nw.use rfl (hN (.fieldLinkNest RX8 121 "ServiceTree$Relations" "size" "I" "ServiceTree") (by decide +kernel))) (fun _ h9 => h9) rfl dX8_count_52 ?_
    refine lv_topi (fun x4 ex4 => ?_)
    replace hZ9 := bnd_s hZ9 ex4
    exact W.iret (v := x4) hx hb hr (fun t ht hW => ⟨⟨x4, (), rfl, hZ9.symm.trans hR0, by rw [ht]; exact hP, hD⟩, hS.F ht⟩) hS.2.2 dX8_count_55
  replace hZ9 := ite_f hZ9 c3
  rcases Classical.em (p0 = 2) with c5 | c5
  · replace hZ9 := ite_t hZ9 c5
    refine lv_tableIn (tgt := 56) (off := 55) hx hb dX8_count_1 (by rw [c5]; decide) (by rw [c5]; decide) (by rw [c5]; rfl) (by decide) ?_
    refine lv_aload_n hx hb dX8_count_56 rfl (lv_at hl 0 rfl) ?_
    refine va_get (D := (dC, dI)) (ci := 9) (v := .ref (a 3)) (C := RX8) (T := TX8) (N := 14) hx hb hts in_y_count_X8 hown hK hP 0 rfl rfl 3 (by decide) (hts (.fieldLink RX8 35 "ServiceTree" "jobs" "LServiceTree$Jobs;") (by decide +kernel)) (fun _ h9 => h9) rfl dX8_count_57 ?_
    have hFc := mw_free hD hS hA
    refine va_calll (va_runV (As := []) (rest := []) ⟨hx, hb, hml, hown, hts⟩ (c_y_left l dC dI h a e cI cJ cO cE L I M J n cap fE sd si sa dl (b)  s.heap.size hX (by omega) ) (cwV 0 hts wc_y_count_y_left_110 rfl rfl rfl (by decide +kernel) ⟨Nat.le_of_ble_eq_true rfl, Nat.le_of_ble_eq_true rfl⟩) ⟨fun a9 U g mk q => by obtain ⟨q0, q1, qP, qK, qD, qN⟩ := q; exact ⟨q0, q1, qP, va_K.moved (u := U) (U := U.calling g mk a9) (Vm.Alike.refl U.vm) qK, qD, pw_N.same (u := U) (U := U.calling g mk a9) rfl qN⟩, va_recv hK hP (ci := 4) (q0 := 14) rfl rfl, fun U hU hW => ⟨rfl, by rw [hU], by rw [hU]; exact hP, va_K.moved hW.alike hK, hD.weaken (fun _ _ _ _ => trivial), pw_N.warm hW hN⟩⟩ rfl rfl hl.1 rfl (lv_room (Nat.le_of_ble_eq_true rfl)) dX8_count_60 ⟨Nat.le_of_ble_eq_true rfl, Nat.le_of_ble_eq_true rfl⟩) hS (fun q _ h => hFc q h) hFc (fun r6 u t H1 locs ht hvm hw hB hz1 hk1 hS => ?_)
    replace hP := hB.1
    rw [ht] at hP
    replace hD : va_D A (xW h a e cI cJ cO cE L I M J n cap fE sd si sa dl) := hB.2.weaken (fun _ q _ h9 => hFc q.1 h9)
    clear hB
    generalize H1 = H at hP hS ⊢
    replace hP : va_P (dC, dI) vwCl (xW h a e cI cJ cO cE L I M J n cap fE sd si sa dl) H := hP
    replace hw : r6 = f_y_left n dl  L := hw
    replace hZ9 := bnd_s hZ9 hw
    have hFc := mw_free hD hS hA
    refine va_calli (va_runS (As := [.long r6]) (rest := []) ⟨hx, hb, hml, hown, hts⟩ (c_y_bitCount l dC dI h a e cI cJ cO cE L I M J n cap fE sd si sa dl (b) r6 H.size hX (by omega) ) (va_cwS 1 hts wc_y_count_y_bitCount_189 rfl rfl rfl (by decide +kernel) ⟨Nat.le_of_ble_eq_true rfl, Nat.le_of_ble_eq_true rfl⟩) ⟨fun a9 U g mk q => by obtain ⟨q0, q1, qP, qK, qD, qN⟩ := q; exact ⟨q0, q1, qP, va_K.moved (u := U) (U := U.calling g mk a9) (Vm.Alike.refl U.vm) qK, qD, pw_N.same (u := U) (U := U.calling g mk a9) rfl qN⟩, fun U hU hW => ⟨rfl, by rw [hU], by rw [hU]; exact hP, va_K.moved hW.alike hK, hD.weaken (fun _ _ _ _ => trivial), pw_N.warm hW hN⟩⟩ rfl rfl hl.1 rfl (lv_room (Nat.le_of_ble_eq_true rfl)) dX8_count_63 ⟨Nat.le_of_ble_eq_true rfl, Nat.le_of_ble_eq_true rfl⟩) hS (fun q _ h => hFc q h) hFc (fun r7 u t H1 locs ht hvm hw hB hz1 hk1 hS => ?_)
    replace hP := hB.1
    rw [ht] at hP
    replace hD : va_D A (xW h a e cI cJ cO cE L I M J n cap fE sd si sa dl) := hB.2.weaken (fun _ q _ h9 => hFc q.1 h9)
    clear hB
    generalize H1 = H at hP hS ⊢
    replace hP : va_P (dC, dI) vwCl (xW h a e cI cJ cO cE L I M J n cap fE sd si sa dl) H := hP
    replace hw : r7 = f_y_bitCount n dl r6  := hw
    replace hZ9 := bnd_s hZ9 hw
    exact W.iret (v := r7) hx hb hr (fun t ht hW => ⟨⟨r7, (), rfl, hZ9.symm.trans hR0, by rw [ht]; exact hP, hD⟩, hS.F ht⟩) hS.2.2 dX8_count_66
  replace hZ9 := ite_f hZ9 c5
  rcases Classical.em (p0 = 3) with c8 | c8
  · replace hZ9 := ite_t hZ9 c8
    refine lv_tableIn (tgt := 67) (off := 66) hx hb dX8_count_1 (by rw [c8]; decide) (by rw [c8]; decide) (by rw [c8]; rfl) (by decide) ?_
    refine lv_aload_n hx hb dX8_count_67 rfl (lv_at hl 0 rfl) ?_
    refine va_get (D := (dC, dI)) (ci := 9) (v := .int (I 0)) (C := RX8) (T := TX8) (N := 14) hx hb hts in_y_count_X8 hown hK hP 0 rfl rfl 9 (by decide) (hts (.fieldLink RX8 67 "ServiceTree" "now" "I") (by decide +kernel)) (fun _ h9 => h9) rfl dX8_count_68 ?_
    refine lv_topi (fun x9 ex9 => ?_)
    replace hZ9 := bnd_s hZ9 ex9
    exact W.iret (v := x9) hx hb hr (fun t ht hW => ⟨⟨x9, (), rfl, hZ9.symm.trans hR0, by rw [ht]; exact hP, hD⟩, hS.F ht⟩) hS.2.2 dX8_count_71
  replace hZ9 := ite_f hZ9 c8
  rcases Classical.em (p0 = 4) with c10 | c10
  · replace hZ9 := ite_t hZ9 c10
    refine lv_tableIn (tgt := 72) (off := 71) hx hb dX8_count_1 (by rw [c10]; decide) (by rw [c10]; decide) (by rw [c10]; rfl) (by decide) ?_
    refine lv_aload_n hx hb dX8_count_72 rfl (lv_at hl 0 rfl) ?_
    refine va_get (D := (dC, dI)) (ci := 9) (v := .int (I 1)) (C := RX8) (T := TX8) (N := 14) hx hb hts in_y_count_X8 hown hK hP 0 rfl rfl 10 (by decide) (hts (.fieldLink RX8 152 "ServiceTree" "lettersCome" "I") (by decide +kernel)) (fun _ h9 => h9) rfl dX8_count_73 ?_
    refine lv_topi (fun x11 ex11 => ?_)
    replace hZ9 := bnd_s hZ9 ex11
    exact W.iret (v := x11) hx hb hr (fun t ht hW => ⟨⟨x11, (), rfl, hZ9.symm.trans hR0, by rw [ht]; exact hP, hD⟩, hS.F ht⟩) hS.2.2 dX8_count_76
  replace hZ9 := ite_f hZ9 c10
  rcases Classical.em (p0 = 5) with c12 | c12
  · replace hZ9 := ite_t hZ9 c12
    refine lv_tableIn (tgt := 77) (off := 76) hx hb dX8_count_1 (by rw [c12]; decide) (by rw [c12]; decide) (by rw [c12]; rfl) (by decide) ?_
    refine lv_aload_n hx hb dX8_count_77 rfl (lv_at hl 0 rfl) ?_
    refine va_get (D := (dC, dI)) (ci := 9) (v := .int (I 2)) (C := RX8) (T := TX8) (N := 14) hx hb hts in_y_count_X8 hown hK hP 0 rfl rfl 11 (by decide) (hts (.fieldLink RX8 195 "ServiceTree" "lettersRead" "I") (by decide +kernel)) (fun _ h9 => h9) rfl dX8_count_78 ?_
    refine lv_topi (fun x13 ex13 => ?_)
    replace hZ9 := bnd_s hZ9 ex13
    exact W.iret (v := x13) hx hb hr (fun t ht hW => ⟨⟨x13, (), rfl, hZ9.symm.trans hR0, by rw [ht]; exact hP, hD⟩, hS.F ht⟩) hS.2.2 dX8_count_81
  replace hZ9 := ite_f hZ9 c12
  refine lv_tableOut (tgt := 82) hx hb dX8_count_1 (by have k0 := c1; have k1 := c3; have k2 := c5; have k3 := c8; have k4 := c10; have k5 := c12; simp only [p1_le, p1_lt, p1_eq, p1_m6, p1_m1, p1_0, p1_1, p1_2, p1_3, p1_4, p1_5, p1_6, p1_7, p1_8, p1_9, p1_10, p1_11, p1_12, p1_13, p1_14, p1_15, p1_16, p1_17, p1_18, p1_19, p1_20, p1_40, p1_50, p1_200, p1_1000] at k0 k1 k2 k3 k4 k5 ⊢; omega) (by decide) ?_
  refine lv_iconst (v := (-1)) hx hb dX8_count_82 (by decide) ?_
  exact W.iret (v := (-1)) hx hb hr (fun t ht hW => ⟨⟨(-1), (), rfl, hZ9.symm.trans hR0, by rw [ht]; exact hP, hD⟩, hS.F ht⟩) hS.2.2 dX8_count_83
def f_y_related (n : Nat) (dl : Nat → Nat) (p0 : Int32) (p1 : Int32) (p2 : Int32) (M : Nat → Nat → Int64) : Int32 := if ((0 : Int32) ≤ p0 ∧ p0 ≤ (3 : Int32)) ∧ ((0 : Int32) ≤ p1 ∧ p1 < nI n) ∧ ((0 : Int32) ≤ p2 ∧ p2 < nI n) ∧ ¬ p1 = p2 then (bnd (p0.toNatClampNeg) (fun (j2 : Nat) => bnd (p1.toNatClampNeg) (fun (j3 : Nat) => bnd (p2.toNatClampNeg) (fun (j4 : Nat) => bnd (f_y_told n dl j2 j3 j4 M) (fun (r5 : Int32) => if r5 = (0 : Int32) then (((0 : Int32))) else (((1 : Int32)))))))) else (((-1 : Int32)))
def wq_y_related : List Cond := ([.code yX8_related cX8_related 4 (some .int), .fieldLink RX8 19 "ServiceTree" "relations" "LServiceTree$Relations;", .methodLink RX8 107 yX8_canRelate, .instanceMethod yX8_canRelate, .selects RX8 yX8_canRelate yX8_canRelate, .initialized RX8, .methodLink RX8 118 yX5_told, .instanceMethod yX5_told, .selects RX5 yX5_told yX5_told, .initialized RX5] : List Cond) ++ (wsX80 ++ (wq_y_canRelate ++ (wq_y_told)))
theorem in_y_related_X8 : ∀ w ∈ wsX80, w ∈ wq_y_related := fun _ h => List.mem_append_right _ (List.mem_append_left _ (h))
set_option maxRecDepth 20000 in
theorem wi_y_related : ∀ w ∈ wq_y_related, w ∈ lw_tbl := List.forall_mem_append.mpr ⟨(wix [766, 225, 479, 481, 4, 60, 490, 491, 492, 64] rfl), List.forall_mem_append.mpr ⟨inKX8, List.forall_mem_append.mpr ⟨wi_y_canRelate, wi_y_told⟩⟩⟩
set_option maxRecDepth 20000 in
theorem wg_y_related : GoodIn wq_y_related wq_y_related := goodIn_sub (fun _ h => h) (by decide +kernel)
set_option maxRecDepth 20000 in
theorem wc_y_related_y_canRelate_107 : GoodIn wq_y_related (wsV RX8 107 RX8 yX8_canRelate wq_y_canRelate) := goodIn_app (goodIn_of _ (by decide +kernel)) (fun w h => ⟨List.mem_append_right _ (List.mem_append_right _ (List.mem_append_left _ (h))), (wg_y_canRelate w h).2⟩)
set_option maxRecDepth 20000 in
theorem wc_y_related_y_told_118 : GoodIn wq_y_related (wsV RX8 118 RX5 yX5_told wq_y_told) := goodIn_app (goodIn_of _ (by decide +kernel)) (fun w h => ⟨List.mem_append_right _ (List.mem_append_right _ (List.mem_append_right _ (h))), (wg_y_told w h).2⟩)
def rm_y_related : Room := { frames := 3, cells := 0, slots := 0, locals := 66 }
set_option maxHeartbeats 4000000 in
set_option maxRecDepth 100000 in
theorem c_y_related (l : Launch) (dC : Nat → ClassId) (dI : Nat → Nat → Nat) (h : Nat) (a : Nat → Nat) (e : Nat) (cI cJ cO cE : ClassId) (L : Nat → Int64) (I : Nat → Int32) (M : Nat → Nat → Int64) (J : Nat → Nat → Int32) (n cap : Nat) (fE : Nat → Option Nat) (sd : Nat → Nat → Nat) (si : Nat → Nat → Int32) (sa : Nat → Nat → Nat → Int32) (dl : Nat → Nat) (b : Nat) (p0 : Int32) (p1 : Int32) (p2 : Int32) (sz : Nat) (hX0 : InvX n cap fE sd dl b I J si) (hb0 : b + 0 < 2147483648)  : Met l yX8_related wq_y_related rm_y_related (va_Pc [.ref h, .int p0, .int p1, .int p2] (fun U => U.heap.size = sz ∧ va_P (dC, dI) vwCl (xW h a e cI cJ cO cE L I M J n cap fE sd si sa dl) U.heap ∧ va_K (dC, dI) vwCl (xT cI cJ cO cE) U ∧ va_D (fun _ => True) (xW h a e cI cJ cO cE L I M J n cap fE sd si sa dl) ∧ pw_N U)) (va_Qi (fun (r : Int32) (u : Unit) => (r = f_y_related n dl p0 p1 p2 M)) (fun (u : Unit) (t : State) => va_P (dC, dI) vwCl (xW h a e cI cJ cO cE L I M J n cap fE sd si sa dl) t.heap ∧ va_D (va_A (xW h a e cI cJ cO cE L I M J n cap fE sd si sa dl) sz) (xW h a e cI cJ cO cE L I M J n cap fE sd si sa dl)) (va_A (xW h a e cI cJ cO cE L I M J n cap fE sd si sa dl) sz)) 0 0 (va_A (xW h a e cI cJ cO cE L I M J n cap fE sd si sa dl) sz) := by
  have hn : n ≤ 40 := hX0.1.1
  have hX := hX0
  refine Met.ofW (cc := cX8_related) (maxL := 4) (ret := (some .int)) (by decide) rfl ?_
  intro p e9 s m args below meth c s₁ B hml hv
  obtain ⟨rfl, hsz, hP, hK, hD0, hN⟩ := hv
  have hx := B.exec
  have hb := B.bytes
  have hr := B.returns
  have hts := atoms_spec (ws := wq_y_related) B.pre
  have hown : s.vm.findClass RX8 = some m.cls := findClass_of_methodNamed B.named
  have hlocks := B.notSynchronized
  subst hsz
  have hD := hD0.self (sz := s.heap.size)
  generalize hAe : va_A (xW h a e cI cJ cO cE L I M J n cap fE sd si sa dl) s.heap.size = A at hD ⊢
  have hA : ∀ q : Nat, s.heap.size ≤ q → A q := fun q h => by rw [← hAe]; exact Or.inr h
  have hS : va_S A s.heap s.heap [] := va_S.rf
  have hl := lv_entry ([.ref h, .int p0, .int p1, .int p2]) (n := 4) (Nat.le_of_ble_eq_true rfl)
  rw [lg_entry_eq]
  generalize (lg_sl ([.ref h, .int p0, .int p1, .int p2]) ++ List.replicate (4 - (lg_sl ([.ref h, .int p0, .int p1, .int p2])).length) Slot.unset).toArray = ls at hl ⊢
  have hl : lv_has ls 4 [(0, .ref h), (1, .int p0), (2, .int p1), (3, .int p2)] := hl
  obtain ⟨RES, hR0⟩ : ∃ R9, R9 = f_y_related n dl p0 p1 p2 M := ⟨_, rfl⟩
  have hZ9 := hR0
  unfold f_y_related at hZ9
  refine lv_aload_n hx hb dX8_related_0 rfl (lv_at hl 0 rfl) ?_
  refine lv_iload_n hx hb dX8_related_1 rfl (lv_at hl 1 rfl) ?_
  refine lv_iload_n hx hb dX8_related_2 rfl (lv_at hl 2 rfl) ?_
  refine lv_iload_n hx hb dX8_related_3 rfl (lv_at hl 3 rfl) ?_
  have hFc := mw_free hD hS hA
  refine va_calli (va_runV (As := [.int p0, .int p1, .int p2]) (rest := []) ⟨hx, hb, hml, hown, hts⟩ (c_y_canRelate l dC dI h a e cI cJ cO cE L I M J n cap fE sd si sa dl (b) p0 p1 p2 s.heap.size hX (by omega) ) (cwV 3 hts wc_y_related_y_canRelate_107 rfl rfl rfl (by decide +kernel) ⟨Nat.le_of_ble_eq_true rfl, Nat.le_of_ble_eq_true rfl⟩) ⟨fun a9 U g mk q => by obtain ⟨q0, q1, qP, qK, qD, qN⟩ := q; exact ⟨q0, q1, qP, va_K.moved (u := U) (U := U.calling g mk a9) (Vm.Alike.refl U.vm) qK, qD, pw_N.same (u := U) (U := U.calling g mk a9) rfl qN⟩, va_recv hK hP (ci := 9) (q0 := 0) rfl rfl, fun U hU hW => ⟨rfl, by rw [hU], by rw [hU]; exact hP, va_K.moved hW.alike hK, hD.weaken (fun _ _ _ _ => trivial), pw_N.warm hW hN⟩⟩ rfl rfl hl.1 rfl (lv_room (Nat.le_of_ble_eq_true rfl)) dX8_related_4 ⟨Nat.le_of_ble_eq_true rfl, Nat.le_of_ble_eq_true rfl⟩) hS (fun q _ h => hFc q h) hFc (fun r1 u t H1 locs ht hvm hw hB hz1 hk1 hS => ?_)
  replace hP := hB.1
  rw [ht] at hP
  replace hD : va_D A (xW h a e cI cJ cO cE L I M J n cap fE sd si sa dl) := hB.2.weaken (fun _ q _ h9 => hFc q.1 h9)
  clear hB
  generalize H1 = H at hP hS ⊢
  replace hP : va_P (dC, dI) vwCl (xW h a e cI cJ cO cE L I M J n cap fE sd si sa dl) H := hP
  rcases hw with ⟨rfl, j2, j3, j4, hj2, hj3, hj4, hnej2, ej2, ej3, ej4⟩ | ⟨rfl, noj2⟩
  · replace hZ9 := ite_t hZ9 (show ((0 : Int32) ≤ p0 ∧ p0 ≤ (3 : Int32)) ∧ ((0 : Int32) ≤ p1 ∧ p1 < nI n) ∧ ((0 : Int32) ≤ p2 ∧ p2 < nI n) ∧ ¬ p1 = p2 by rw [ej2, ej3, ej4]; exact ⟨⟨nI_pos' (by omega), nI_le (b := 3) (by omega) (by omega)⟩, ⟨nI_pos' (by omega), nI_lt hj3 (by omega)⟩, ⟨nI_pos' (by omega), nI_lt hj4 (by omega)⟩, fun q9 => hnej2 ((nI_eq (by omega) (by omega)).mp q9)⟩)
    replace hZ9 := bnd_s hZ9 (show j2 = p0.toNatClampNeg by rw [ej2, nI_clamp (by omega)])
    replace hZ9 := bnd_s hZ9 (show j3 = p1.toNatClampNeg by rw [ej3, nI_clamp (by omega)])
    replace hZ9 := bnd_s hZ9 (show j4 = p2.toNatClampNeg by rw [ej4, nI_clamp (by omega)])
    subst ej2
    subst ej3
    subst ej4
    refine lv_if_ne (tgt := 12) hx hb dX8_related_7 (by decide) (fun _ => ?_) (fun c9 => absurd c9 (by decide))
    refine lv_aload_n hx hb dX8_related_12 rfl (lv_at hl 0 rfl) ?_
    refine va_get (D := (dC, dI)) (ci := 9) (v := .ref (a 1)) (C := RX8) (T := TX8) (N := 14) hx hb hts in_y_related_X8 hown hK hP 0 rfl rfl 1 (by decide) (hts (.fieldLink RX8 19 "ServiceTree" "relations" "LServiceTree$Relations;") (by decide +kernel)) (fun _ h9 => h9) rfl dX8_related_13 ?_
    refine lv_iload_n hx hb dX8_related_16 rfl (lv_at hl 1 rfl) ?_
    refine lv_iload_n hx hb dX8_related_17 rfl (lv_at hl 2 rfl) ?_
    refine lv_iload_n hx hb dX8_related_18 rfl (lv_at hl 3 rfl) ?_
    have hFc := mw_free hD hS hA
    refine va_calli (va_runV (As := [.int (nI j2), .int (nI j3), .int (nI j4)]) (rest := []) ⟨hx, hb, hml, hown, hts⟩ (c_y_told l dC dI h a e cI cJ cO cE L I M J n cap fE sd si sa dl (b) j2 j3 j4 H.size hX (by omega) (by omega) (by omega)) (cwV 3 hts wc_y_related_y_told_118 rfl rfl rfl (by decide +kernel) ⟨Nat.le_of_ble_eq_true rfl, Nat.le_of_ble_eq_true rfl⟩) ⟨fun a9 U g mk q => by obtain ⟨q0, q1, qP, qK, qD, qN⟩ := q; exact ⟨q0, q1, qP, va_K.moved (u := U) (U := U.calling g mk a9) (Vm.Alike.refl U.vm) qK, qD, pw_N.same (u := U) (U := U.calling g mk a9) rfl qN⟩, va_recv hK hP (ci := 6) (q0 := 2) rfl rfl, fun U hU hW => ⟨rfl, by rw [hU], by rw [hU]; exact hP, va_K.moved hW.alike hK, hD.weaken (fun _ _ _ _ => trivial), pw_N.warm hW hN⟩⟩ rfl rfl hl.1 rfl (lv_room (Nat.le_of_ble_eq_true rfl)) dX8_related_19 ⟨Nat.le_of_ble_eq_true rfl, Nat.le_of_ble_eq_true rfl⟩) hS (fun q _ h => hFc q h) hFc (fun r5 u t H1 locs ht hvm hw hB hz1 hk1 hS => ?_)
    replace hP := hB.1
    rw [ht] at hP
    replace hD : va_D A (xW h a e cI cJ cO cE L I M J n cap fE sd si sa dl) := hB.2.weaken (fun _ q _ h9 => hFc q.1 h9)
    clear hB
    generalize H1 = H at hP hS ⊢
    replace hP : va_P (dC, dI) vwCl (xW h a e cI cJ cO cE L I M J n cap fE sd si sa dl) H := hP
    obtain ⟨hw, hwe⟩ := hw
    replace hw : r5 = f_y_told n dl j2 j3 j4 M := hw
    replace hZ9 := bnd_s hZ9 hw
    have br5 := hwe
    refine lv_if_eq (tgt := 29) hx hb dX8_related_22 (by decide) (fun c6 => ?_) (fun c6 => ?_)
    · replace hZ9 := ite_t hZ9 c6
      refine lv_iconst (v := 0) hx hb dX8_related_29 (by decide) ?_
      exact W.iret (v := 0) hx hb hr (fun t ht hW => ⟨⟨0, (), rfl, hZ9.symm.trans hR0, by rw [ht]; exact hP, hD⟩, hS.F ht⟩) hS.2.2 dX8_related_30
    · replace hZ9 := ite_f hZ9 c6
      refine lv_iconst (v := 1) hx hb dX8_related_25 (by decide) ?_
      refine lv_goto (tgt := 30) hx hb dX8_related_26 (by decide) ?_
      exact W.iret (v := 1) hx hb hr (fun t ht hW => ⟨⟨1, (), rfl, hZ9.symm.trans hR0, by rw [ht]; exact hP, hD⟩, hS.F ht⟩) hS.2.2 dX8_related_30
  · replace hZ9 := ite_f hZ9 noj2
    refine lv_if_ne (tgt := 12) hx hb dX8_related_7 (by decide) (fun c9 => absurd (by decide) c9) (fun _ => ?_)
    refine lv_iconst (v := (-1)) hx hb dX8_related_10 (by decide) ?_
    exact W.iret (v := (-1)) hx hb hr (fun t ht hW => ⟨⟨(-1), (), rfl, hZ9.symm.trans hR0, by rw [ht]; exact hP, hD⟩, hS.F ht⟩) hS.2.2 dX8_related_11
def f_y_waits (n : Nat) (dl : Nat → Nat) (p0 : Int32) (p1 : Int32) (L : Nat → Int64) (M : Nat → Nat → Int64) : Int32 := if (0 : Int32) ≤ p0 ∧ p0 < nI n then (bnd (p0.toNatClampNeg) (fun (j2 : Nat) => if (0 : Int32) ≤ p1 ∧ p1 ≤ (1 : Int32) then (bnd (p1.toNatClampNeg) (fun (j4 : Nat) => if j4 = 0 then (bnd (f_y_jawaited n dl j2 L M) (fun (r8 : Int64) => bnd (f_y_bitCount n dl r8 ) (fun (r9 : Int32) => (r9)))) else (bnd (f_y_awaiting n dl j2 L M) (fun (r6 : Int64) => bnd (f_y_bitCount n dl r6 ) (fun (r7 : Int32) => (r7)))))) else (((-1 : Int32))))) else (((-1 : Int32)))
def wq_y_waits : List Cond := ([.code yX8_waits cX8_waits 3 (some .int), .fieldLink RX8 35 "ServiceTree" "jobs" "LServiceTree$Jobs;", .methodLink RX8 82 yX8_exists, .instanceMethod yX8_exists, .selects RX8 yX8_exists yX8_exists, .initialized RX8, .methodLink RX8 57 yX8_within, .static yX8_within, .methodLink RX8 201 yX3_awaiting, .instanceMethod yX3_awaiting, .selects RX3 yX3_awaiting yX3_awaiting, .initialized RX3, .methodLink RX8 189 yJ13_bitCount_95d88, .static yJ13_bitCount_95d88, .initialized RJ13, .methodLink RX8 198 yX3_awaitedBy, .instanceMethod yX3_awaitedBy, .selects RX3 yX3_awaitedBy yX3_awaitedBy] : List Cond) ++ (wsX80 ++ (wq_y_exists ++ (wq_y_within ++ (wq_y_awaiting ++ (wq_y_bitCount ++ (wq_y_jawaited))))))
theorem in_y_waits_X8 : ∀ w ∈ wsX80, w ∈ wq_y_waits := fun _ h => List.mem_append_right _ (List.mem_append_left _ (h))
set_option maxRecDepth 20000 in
theorem wi_y_waits : ∀ w ∈ wq_y_waits, w ∈ lw_tbl := List.forall_mem_append.mpr ⟨(wix [770, 227, 449, 451, 3, 60, 271, 272, 772, 773, 774, 66, 758, 580, 79, 771, 640, 641] rfl), List.forall_mem_append.mpr ⟨inKX8, List.forall_mem_append.mpr ⟨wi_y_exists, List.forall_mem_append.mpr ⟨wi_y_within, List.forall_mem_append.mpr ⟨wi_y_awaiting, List.forall_mem_append.mpr ⟨wi_y_bitCount, wi_y_jawaited⟩⟩⟩⟩⟩⟩
set_option maxRecDepth 20000 in
theorem wg_y_waits : GoodIn wq_y_waits wq_y_waits := goodIn_sub (fun _ h => h) (by decide +kernel)
set_option maxRecDepth 20000 in
theorem wc_y_waits_y_exists_82 : GoodIn wq_y_waits (wsV RX8 82 RX8 yX8_exists wq_y_exists) := goodIn_app (goodIn_of _ (by decide +kernel)) (fun w h => ⟨List.mem_append_right _ (List.mem_append_right _ (List.mem_append_left _ (h))), (wg_y_exists w h).2⟩)
set_option maxRecDepth 20000 in
theorem wc_y_waits_y_within_57 : GoodIn wq_y_waits (va_wsS RX8 57 yX8_within wq_y_within) := goodIn_app (goodIn_of _ (by decide +kernel)) (fun w h => ⟨List.mem_append_right _ (List.mem_append_right _ (List.mem_append_right _ (List.mem_append_left _ (h)))), (wg_y_within w h).2⟩)
set_option maxRecDepth 20000 in
theorem wc_y_waits_y_awaiting_201 : GoodIn wq_y_waits (wsV RX8 201 RX3 yX3_awaiting wq_y_awaiting) := goodIn_app (goodIn_of _ (by decide +kernel)) (fun w h => ⟨List.mem_append_right _ (List.mem_append_right _ (List.mem_append_right _ (List.mem_append_right _ (List.mem_append_left _ (h))))), (wg_y_awaiting w h).2⟩)
set_option maxRecDepth 20000 in
theorem wc_y_waits_y_bitCount_189 : GoodIn wq_y_waits (va_wsS RX8 189 yJ13_bitCount_95d88 wq_y_bitCount) := goodIn_app (goodIn_of _ (by decide +kernel)) (fun w h => ⟨List.mem_append_right _ (List.mem_append_right _ (List.mem_append_right _ (List.mem_append_right _ (List.mem_append_right _ (List.mem_append_left _ (h)))))), (wg_y_bitCount w h).2⟩)
set_option maxRecDepth 20000 in
theorem wc_y_waits_y_jawaited_198 : GoodIn wq_y_waits (wsV RX8 198 RX3 yX3_awaitedBy wq_y_jawaited) := goodIn_app (goodIn_of _ (by decide +kernel)) (fun w h => ⟨List.mem_append_right _ (List.mem_append_right _ (List.mem_append_right _ (List.mem_append_right _ (List.mem_append_right _ (List.mem_append_right _ (h)))))), (wg_y_jawaited w h).2⟩)
def rm_y_waits : Room := { frames := 4, cells := 0, slots := 0, locals := 92 }
set_option maxHeartbeats 4000000 in
set_option maxRecDepth 100000 in
theorem c_y_waits (l : Launch) (dC : Nat → ClassId) (dI : Nat → Nat → Nat) (h : Nat) (a : Nat → Nat) (e : Nat) (cI cJ cO cE : ClassId) (L : Nat → Int64) (I : Nat → Int32) (M : Nat → Nat → Int64) (J : Nat → Nat → Int32) (n cap : Nat) (fE : Nat → Option Nat) (sd : Nat → Nat → Nat) (si : Nat → Nat → Int32) (sa : Nat → Nat → Nat → Int32) (dl : Nat → Nat) (b : Nat) (p0 : Int32) (p1 : Int32) (sz : Nat) (hX0 : InvX n cap fE sd dl b I J si) (hb0 : b + 0 < 2147483648)  : Met l yX8_waits wq_y_waits rm_y_waits (va_Pc [.ref h, .int p0, .int p1] (fun U => U.heap.size = sz ∧ va_P (dC, dI) vwCl (xW h a e cI cJ cO cE L I M J n cap fE sd si sa dl) U.heap ∧ va_K (dC, dI) vwCl (xT cI cJ cO cE) U ∧ va_D (fun _ => True) (xW h a e cI cJ cO cE L I M J n cap fE sd si sa dl) ∧ pw_N U)) (va_Qi (fun (r : Int32) (u : Unit) => (r = f_y_waits n dl p0 p1 L M)) (fun (u : Unit) (t : State) => va_P (dC, dI) vwCl (xW h a e cI cJ cO cE L I M J n cap fE sd si sa dl) t.heap ∧ va_D (va_A (xW h a e cI cJ cO cE L I M J n cap fE sd si sa dl) sz) (xW h a e cI cJ cO cE L I M J n cap fE sd si sa dl)) (va_A (xW h a e cI cJ cO cE L I M J n cap fE sd si sa dl) sz)) 0 0 (va_A (xW h a e cI cJ cO cE L I M J n cap fE sd si sa dl) sz) := by
  have hn : n ≤ 40 := hX0.1.1
  have hX := hX0
  refine Met.ofW (cc := cX8_waits) (maxL := 3) (ret := (some .int)) (by decide) rfl ?_
  intro p e9 s m args below meth c s₁ B hml hv
  obtain ⟨rfl, hsz, hP, hK, hD0, hN⟩ := hv
  have hx := B.exec
  have hb := B.bytes
  have hr := B.returns
  have hts := atoms_spec (ws := wq_y_waits) B.pre
  have hown : s.vm.findClass RX8 = some m.cls := findClass_of_methodNamed B.named
  have hlocks := B.notSynchronized
  subst hsz
  have hD := hD0.self (sz := s.heap.size)
  generalize hAe : va_A (xW h a e cI cJ cO cE L I M J n cap fE sd si sa dl) s.heap.size = A at hD ⊢
  have hA : ∀ q : Nat, s.heap.size ≤ q → A q := fun q h => by rw [← hAe]; exact Or.inr h
  have hS : va_S A s.heap s.heap [] := va_S.rf
  have hl := lv_entry ([.ref h, .int p0, .int p1]) (n := 3) (Nat.le_of_ble_eq_true rfl)
  rw [lg_entry_eq]
  generalize (lg_sl ([.ref h, .int p0, .int p1]) ++ List.replicate (3 - (lg_sl ([.ref h, .int p0, .int p1])).length) Slot.unset).toArray = ls at hl ⊢
  have hl : lv_has ls 3 [(0, .ref h), (1, .int p0), (2, .int p1)] := hl
  obtain ⟨RES, hR0⟩ : ∃ R9, R9 = f_y_waits n dl p0 p1 L M := ⟨_, rfl⟩
  have hZ9 := hR0
  unfold f_y_waits at hZ9
  refine lv_aload_n hx hb dX8_waits_0 rfl (lv_at hl 0 rfl) ?_
  refine lv_iload_n hx hb dX8_waits_1 rfl (lv_at hl 1 rfl) ?_
  have hFc := mw_free hD hS hA
  refine va_calli (va_runV (As := [.int p0]) (rest := []) ⟨hx, hb, hml, hown, hts⟩ (c_y_exists l dC dI h a e cI cJ cO cE L I M J n cap fE sd si sa dl (b) p0 s.heap.size hX (by omega) ) (cwV 1 hts wc_y_waits_y_exists_82 rfl rfl rfl (by decide +kernel) ⟨Nat.le_of_ble_eq_true rfl, Nat.le_of_ble_eq_true rfl⟩) ⟨fun a9 U g mk q => by obtain ⟨q0, q1, qP, qK, qD, qN⟩ := q; exact ⟨q0, q1, qP, va_K.moved (u := U) (U := U.calling g mk a9) (Vm.Alike.refl U.vm) qK, qD, pw_N.same (u := U) (U := U.calling g mk a9) rfl qN⟩, va_recv hK hP (ci := 9) (q0 := 0) rfl rfl, fun U hU hW => ⟨rfl, by rw [hU], by rw [hU]; exact hP, va_K.moved hW.alike hK, hD.weaken (fun _ _ _ _ => trivial), pw_N.warm hW hN⟩⟩ rfl rfl hl.1 rfl (lv_room (Nat.le_of_ble_eq_true rfl)) dX8_waits_2 ⟨Nat.le_of_ble_eq_true rfl, Nat.le_of_ble_eq_true rfl⟩) hS (fun q _ h => hFc q h) hFc (fun r1 u t H1 locs ht hvm hw hB hz1 hk1 hS => ?_)
  replace hP := hB.1
  rw [ht] at hP
  replace hD : va_D A (xW h a e cI cJ cO cE L I M J n cap fE sd si sa dl) := hB.2.weaken (fun _ q _ h9 => hFc q.1 h9)
  clear hB
  generalize H1 = H at hP hS ⊢
  replace hP : va_P (dC, dI) vwCl (xW h a e cI cJ cO cE L I M J n cap fE sd si sa dl) H := hP
  rcases hw with ⟨rfl, j2, hj2, ej2⟩ | ⟨rfl, noj2⟩
  · replace hZ9 := ite_t hZ9 (show (0 : Int32) ≤ p0 ∧ p0 < nI n by rw [ej2]; exact ⟨nI_pos' (by omega), nI_lt hj2 (by omega)⟩)
    replace hZ9 := bnd_s hZ9 (show j2 = p0.toNatClampNeg by rw [ej2, nI_clamp (by omega)])
    subst ej2
    refine lv_if_eq (tgt := 17) hx hb dX8_waits_5 (by decide) (fun c9 => absurd c9 (by decide)) (fun _ => ?_)
    refine lv_iload_n hx hb dX8_waits_8 rfl (lv_at hl 2 rfl) ?_
    refine lv_iconst (v := 0) hx hb dX8_waits_9 (by decide) ?_
    refine lv_iconst (v := 1) hx hb dX8_waits_10 (by decide) ?_
    have hFc := mw_free hD hS hA
    refine va_calli (va_runS (As := [.int p1, .int 0, .int 1]) (rest := []) ⟨hx, hb, hml, hown, hts⟩ (c_y_within l dC dI h a e cI cJ cO cE L I M J n cap fE sd si sa dl (b) p1 0 1 H.size hX (by omega) ) (va_cwS 3 hts wc_y_waits_y_within_57 rfl rfl rfl (by decide +kernel) ⟨Nat.le_of_ble_eq_true rfl, Nat.le_of_ble_eq_true rfl⟩) ⟨fun a9 U g mk q => by obtain ⟨q0, q1, qP, qK, qD, qN⟩ := q; exact ⟨q0, q1, qP, va_K.moved (u := U) (U := U.calling g mk a9) (Vm.Alike.refl U.vm) qK, qD, pw_N.same (u := U) (U := U.calling g mk a9) rfl qN⟩, fun U hU hW => ⟨rfl, by rw [hU], by rw [hU]; exact hP, va_K.moved hW.alike hK, hD.weaken (fun _ _ _ _ => trivial), pw_N.warm hW hN⟩⟩ rfl rfl hl.1 rfl (lv_room (Nat.le_of_ble_eq_true rfl)) dX8_waits_11 ⟨Nat.le_of_ble_eq_true rfl, Nat.le_of_ble_eq_true rfl⟩) hS (fun q _ h => hFc q h) hFc (fun r3 u t H1 locs ht hvm hw hB hz1 hk1 hS => ?_)
    replace hP := hB.1
    rw [ht] at hP
    replace hD : va_D A (xW h a e cI cJ cO cE L I M J n cap fE sd si sa dl) := hB.2.weaken (fun _ q _ h9 => hFc q.1 h9)
    clear hB
    generalize H1 = H at hP hS ⊢
    replace hP : va_P (dC, dI) vwCl (xW h a e cI cJ cO cE L I M J n cap fE sd si sa dl) H := hP
    rcases hw with ⟨rfl, haj4, hbj4⟩ | ⟨rfl, noj4⟩
    · replace hZ9 := ite_t hZ9 ⟨haj4, hbj4⟩
      obtain ⟨j4, hj4, ej4⟩ := nI_of2 (n := 1) (by decide) (xw_ge0 haj4) hbj4
      replace hZ9 := bnd_s hZ9 (show j4 = p1.toNatClampNeg by rw [ej4, nI_clamp (by omega)])
      subst ej4
      refine lv_if_ne (tgt := 19) hx hb dX8_waits_14 (by decide) (fun _ => ?_) (fun c9 => absurd c9 (by decide))
      refine lv_iload_n hx hb dX8_waits_19 rfl (lv_at hl 2 rfl) ?_
      refine lv_if_ne (tgt := 34) hx hb dX8_waits_20 (by decide) (fun c5 => ?_) (fun c5 => ?_)
      · replace c5 : ¬ (j4 = 0) := fun q9 => c5 ((nI_eq (a := j4) (b := 0) (by omega) (by omega)).mpr q9)
        replace hZ9 := ite_f hZ9 c5
        refine lv_aload_n hx hb dX8_waits_34 rfl (lv_at hl 0 rfl) ?_
        refine va_get (D := (dC, dI)) (ci := 9) (v := .ref (a 3)) (C := RX8) (T := TX8) (N := 14) hx hb hts in_y_waits_X8 hown hK hP 0 rfl rfl 3 (by decide) (hts (.fieldLink RX8 35 "ServiceTree" "jobs" "LServiceTree$Jobs;") (by decide +kernel)) (fun _ h9 => h9) rfl dX8_waits_35 ?_
        refine lv_iload_n hx hb dX8_waits_38 rfl (lv_at hl 1 rfl) ?_
        have hFc := mw_free hD hS hA
        refine va_calll (va_runV (As := [.int (nI j2)]) (rest := []) ⟨hx, hb, hml, hown, hts⟩ (c_y_awaiting l dC dI h a e cI cJ cO cE L I M J n cap fE sd si sa dl (b) j2 H.size hX (by omega) ) (cwV 1 hts wc_y_waits_y_awaiting_201 rfl rfl rfl (by decide +kernel) ⟨Nat.le_of_ble_eq_true rfl, Nat.le_of_ble_eq_true rfl⟩) ⟨fun a9 U g mk q => by obtain ⟨q0, q1, qP, qK, qD, qN⟩ := q; exact ⟨q0, q1, qP, va_K.moved (u := U) (U := U.calling g mk a9) (Vm.Alike.refl U.vm) qK, qD, pw_N.same (u := U) (U := U.calling g mk a9) rfl qN⟩, va_recv hK hP (ci := 4) (q0 := 14) rfl rfl, fun U hU hW => ⟨rfl, by rw [hU], by rw [hU]; exact hP, va_K.moved hW.alike hK, hD.weaken (fun _ _ _ _ => trivial), pw_N.warm hW hN⟩⟩ rfl rfl hl.1 rfl (lv_room (Nat.le_of_ble_eq_true rfl)) dX8_waits_39 ⟨Nat.le_of_ble_eq_true rfl, Nat.le_of_ble_eq_true rfl⟩) hS (fun q _ h => hFc q h) hFc (fun r6 u t H1 locs ht hvm hw hB hz1 hk1 hS => ?_)
        replace hP := hB.1
        rw [ht] at hP
        replace hD : va_D A (xW h a e cI cJ cO cE L I M J n cap fE sd si sa dl) := hB.2.weaken (fun _ q _ h9 => hFc q.1 h9)
        clear hB
        generalize H1 = H at hP hS ⊢
        replace hP : va_P (dC, dI) vwCl (xW h a e cI cJ cO cE L I M J n cap fE sd si sa dl) H := hP
        replace hw : r6 = f_y_awaiting n dl j2 L M := hw
        replace hZ9 := bnd_s hZ9 hw
        have hFc := mw_free hD hS hA
        refine va_calli (va_runS (As := [.long r6]) (rest := []) ⟨hx, hb, hml, hown, hts⟩ (c_y_bitCount l dC dI h a e cI cJ cO cE L I M J n cap fE sd si sa dl (b) r6 H.size hX (by omega) ) (va_cwS 1 hts wc_y_waits_y_bitCount_189 rfl rfl rfl (by decide +kernel) ⟨Nat.le_of_ble_eq_true rfl, Nat.le_of_ble_eq_true rfl⟩) ⟨fun a9 U g mk q => by obtain ⟨q0, q1, qP, qK, qD, qN⟩ := q; exact ⟨q0, q1, qP, va_K.moved (u := U) (U := U.calling g mk a9) (Vm.Alike.refl U.vm) qK, qD, pw_N.same (u := U) (U := U.calling g mk a9) rfl qN⟩, fun U hU hW => ⟨rfl, by rw [hU], by rw [hU]; exact hP, va_K.moved hW.alike hK, hD.weaken (fun _ _ _ _ => trivial), pw_N.warm hW hN⟩⟩ rfl rfl hl.1 rfl (lv_room (Nat.le_of_ble_eq_true rfl)) dX8_waits_42 ⟨Nat.le_of_ble_eq_true rfl, Nat.le_of_ble_eq_true rfl⟩) hS (fun q _ h => hFc q h) hFc (fun r7 u t H1 locs ht hvm hw hB hz1 hk1 hS => ?_)
        replace hP := hB.1
        rw [ht] at hP
        replace hD : va_D A (xW h a e cI cJ cO cE L I M J n cap fE sd si sa dl) := hB.2.weaken (fun _ q _ h9 => hFc q.1 h9)
        clear hB
        generalize H1 = H at hP hS ⊢
        replace hP : va_P (dC, dI) vwCl (xW h a e cI cJ cO cE L I M J n cap fE sd si sa dl) H := hP
        replace hw : r7 = f_y_bitCount n dl r6  := hw
        replace hZ9 := bnd_s hZ9 hw
        exact W.iret (v := r7) hx hb hr (fun t ht hW => ⟨⟨r7, (), rfl, hZ9.symm.trans hR0, by rw [ht]; exact hP, hD⟩, hS.F ht⟩) hS.2.2 dX8_waits_45
      · replace c5 : j4 = 0 := (nI_eq (a := j4) (b := 0) (by omega) (by omega)).mp c5
        replace hZ9 := ite_t hZ9 c5
        refine lv_aload_n hx hb dX8_waits_23 rfl (lv_at hl 0 rfl) ?_
        refine va_get (D := (dC, dI)) (ci := 9) (v := .ref (a 3)) (C := RX8) (T := TX8) (N := 14) hx hb hts in_y_waits_X8 hown hK hP 0 rfl rfl 3 (by decide) (hts (.fieldLink RX8 35 "ServiceTree" "jobs" "LServiceTree$Jobs;") (by decide +kernel)) (fun _ h9 => h9) rfl dX8_waits_24 ?_
        refine lv_iload_n hx hb dX8_waits_27 rfl (lv_at hl 1 rfl) ?_
        have hFc := mw_free hD hS hA
        refine va_calll (va_runV (As := [.int (nI j2)]) (rest := []) ⟨hx, hb, hml, hown, hts⟩ (c_y_jawaited l dC dI h a e cI cJ cO cE L I M J n cap fE sd si sa dl (b) j2 H.size hX (by omega) (by omega)) (cwV 1 hts wc_y_waits_y_jawaited_198 rfl rfl rfl (by decide +kernel) ⟨Nat.le_of_ble_eq_true rfl, Nat.le_of_ble_eq_true rfl⟩) ⟨fun a9 U g mk q => by obtain ⟨q0, q1, qP, qK, qD, qN⟩ := q; exact ⟨q0, q1, qP, va_K.moved (u := U) (U := U.calling g mk a9) (Vm.Alike.refl U.vm) qK, qD, pw_N.same (u := U) (U := U.calling g mk a9) rfl qN⟩, va_recv hK hP (ci := 4) (q0 := 14) rfl rfl, fun U hU hW => ⟨rfl, by rw [hU], by rw [hU]; exact hP, va_K.moved hW.alike hK, hD.weaken (fun _ _ _ _ => trivial), pw_N.warm hW hN⟩⟩ rfl rfl hl.1 rfl (lv_room (Nat.le_of_ble_eq_true rfl)) dX8_waits_28 ⟨Nat.le_of_ble_eq_true rfl, Nat.le_of_ble_eq_true rfl⟩) hS (fun q _ h => hFc q h) hFc (fun r8 u t H1 locs ht hvm hw hB hz1 hk1 hS => ?_)
        replace hP := hB.1
        rw [ht] at hP
        replace hD : va_D A (xW h a e cI cJ cO cE L I M J n cap fE sd si sa dl) := hB.2.weaken (fun _ q _ h9 => hFc q.1 h9)
        clear hB
        generalize H1 = H at hP hS ⊢
        replace hP : va_P (dC, dI) vwCl (xW h a e cI cJ cO cE L I M J n cap fE sd si sa dl) H := hP
        replace hw : r8 = f_y_jawaited n dl j2 L M := hw
        replace hZ9 := bnd_s hZ9 hw
        refine lv_goto (tgt := 42) hx hb dX8_waits_31 (by decide) ?_
        have hFc := mw_free hD hS hA
        refine va_calli (va_runS (As := [.long r8]) (rest := []) ⟨hx, hb, hml, hown, hts⟩ (c_y_bitCount l dC dI h a e cI cJ cO cE L I M J n cap fE sd si sa dl (b) r8 H.size hX (by omega) ) (va_cwS 1 hts wc_y_waits_y_bitCount_189 rfl rfl rfl (by decide +kernel) ⟨Nat.le_of_ble_eq_true rfl, Nat.le_of_ble_eq_true rfl⟩) ⟨fun a9 U g mk q => by obtain ⟨q0, q1, qP, qK, qD, qN⟩ := q; exact ⟨q0, q1, qP, va_K.moved (u := U) (U := U.calling g mk a9) (Vm.Alike.refl U.vm) qK, qD, pw_N.same (u := U) (U := U.calling g mk a9) rfl qN⟩, fun U hU hW => ⟨rfl, by rw [hU], by rw [hU]; exact hP, va_K.moved hW.alike hK, hD.weaken (fun _ _ _ _ => trivial), pw_N.warm hW hN⟩⟩ rfl rfl hl.1 rfl (lv_room (Nat.le_of_ble_eq_true rfl)) dX8_waits_42 ⟨Nat.le_of_ble_eq_true rfl, Nat.le_of_ble_eq_true rfl⟩) hS (fun q _ h => hFc q h) hFc (fun r9 u t H1 locs ht hvm hw hB hz1 hk1 hS => ?_)
        replace hP := hB.1
        rw [ht] at hP
        replace hD : va_D A (xW h a e cI cJ cO cE L I M J n cap fE sd si sa dl) := hB.2.weaken (fun _ q _ h9 => hFc q.1 h9)
        clear hB
        generalize H1 = H at hP hS ⊢
        replace hP : va_P (dC, dI) vwCl (xW h a e cI cJ cO cE L I M J n cap fE sd si sa dl) H := hP
        replace hw : r9 = f_y_bitCount n dl r8  := hw
        replace hZ9 := bnd_s hZ9 hw
        exact W.iret (v := r9) hx hb hr (fun t ht hW => ⟨⟨r9, (), rfl, hZ9.symm.trans hR0, by rw [ht]; exact hP, hD⟩, hS.F ht⟩) hS.2.2 dX8_waits_45
    · replace hZ9 := ite_f hZ9 noj4
      refine lv_if_ne (tgt := 19) hx hb dX8_waits_14 (by decide) (fun c9 => absurd (by decide) c9) (fun _ => ?_)
      refine lv_iconst (v := (-1)) hx hb dX8_waits_17 (by decide) ?_
      exact W.iret (v := (-1)) hx hb hr (fun t ht hW => ⟨⟨(-1), (), rfl, hZ9.symm.trans hR0, by rw [ht]; exact hP, hD⟩, hS.F ht⟩) hS.2.2 dX8_waits_18
  · replace hZ9 := ite_f hZ9 noj2
    refine lv_if_eq (tgt := 17) hx hb dX8_waits_5 (by decide) (fun _ => ?_) (fun c9 => absurd (by decide) c9)
    refine lv_iconst (v := (-1)) hx hb dX8_waits_17 (by decide) ?_
    exact W.iret (v := (-1)) hx hb hr (fun t ht hW => ⟨⟨(-1), (), rfl, hZ9.symm.trans hR0, by rw [ht]; exact hP, hD⟩, hS.F ht⟩) hS.2.2 dX8_waits_18
def f_y_plan (n : Nat) (dl : Nat → Nat) (p0 : Int32) (p1 : Int32) (L : Nat → Int64) (I : Nat → Int32) (M : Nat → Nat → Int64) (J : Nat → Nat → Int32) (si : Nat → Nat → Int32) : Int32 × (Nat → Int64) × (Nat → Int32) × (Nat → Nat → Int32) := bn3 (f_y_draftOrder n dl p0 p1 L I M) (fun (r1 : Int32) (L2 : Nat → Int64) (I3 : Nat → Int32) => bnd (f_y_keepRing n dl r1 I3) (fun (I5 : Nat → Int32) => if r1 < (0 : Int32) then ((r1, L2, I5, J)) else (bn3 (f_y_layOutDraft n dl  L2 I5 M J si) (fun (L8 : Nat → Int64) (I9 : Nat → Int32) (J10 : Nat → Nat → Int32) => (r1, L8, I9, J10)))))
def wq_y_plan : List Cond := ([.code yX8_plan cX8_plan 4 (some .int), .methodLink RX8 128 yX8_draftOrder, .instanceMethod yX8_draftOrder, .selects RX8 yX8_draftOrder yX8_draftOrder, .initialized RX8, .methodLink RX8 132 yX8_keepRing, .instanceMethod yX8_keepRing, .selects RX8 yX8_keepRing yX8_keepRing, .methodLink RX8 204 yX8_layOutDraft, .instanceMethod yX8_layOutDraft, .selects RX8 yX8_layOutDraft yX8_layOutDraft] : List Cond) ++ (wq_y_draftOrder ++ (wq_y_keepRing ++ (wq_y_layOutDraft)))
set_option maxRecDepth 20000 in
theorem wi_y_plan : ∀ w ∈ wq_y_plan, w ∈ lw_tbl := List.forall_mem_append.mpr ⟨(wix [779, 521, 523, 7, 60, 585, 587, 12, 780, 782, 28] rfl), List.forall_mem_append.mpr ⟨wi_y_draftOrder, List.forall_mem_append.mpr ⟨wi_y_keepRing, wi_y_layOutDraft⟩⟩⟩
set_option maxRecDepth 20000 in
theorem wg_y_plan : GoodIn wq_y_plan wq_y_plan := goodIn_sub (fun _ h => h) (by decide +kernel)
set_option maxRecDepth 20000 in
theorem wc_y_plan_y_draftOrder_128 : GoodIn wq_y_plan (wsV RX8 128 RX8 yX8_draftOrder wq_y_draftOrder) := goodIn_app (goodIn_of _ (by decide +kernel)) (fun w h => ⟨List.mem_append_right _ (List.mem_append_left _ (h)), (wg_y_draftOrder w h).2⟩)
set_option maxRecDepth 20000 in
theorem wc_y_plan_y_keepRing_132 : GoodIn wq_y_plan (wsV RX8 132 RX8 yX8_keepRing wq_y_keepRing) := goodIn_app (goodIn_of _ (by decide +kernel)) (fun w h => ⟨List.mem_append_right _ (List.mem_append_right _ (List.mem_append_left _ (h))), (wg_y_keepRing w h).2⟩)
set_option maxRecDepth 20000 in
theorem wc_y_plan_y_layOutDraft_204 : GoodIn wq_y_plan (wsV RX8 204 RX8 yX8_layOutDraft wq_y_layOutDraft) := goodIn_app (goodIn_of _ (by decide +kernel)) (fun w h => ⟨List.mem_append_right _ (List.mem_append_right _ (List.mem_append_right _ (h))), (wg_y_layOutDraft w h).2⟩)
def rm_y_plan : Room := { frames := 7, cells := 0, slots := 0, locals := 180 }
set_option maxHeartbeats 4000000 in
set_option maxRecDepth 100000 in
theorem c_y_plan (l : Launch) (dC : Nat → ClassId) (dI : Nat → Nat → Nat) (h : Nat) (a : Nat → Nat) (e : Nat) (cI cJ cO cE : ClassId) (L : Nat → Int64) (I : Nat → Int32) (M : Nat → Nat → Int64) (J : Nat → Nat → Int32) (n cap : Nat) (fE : Nat → Option Nat) (sd : Nat → Nat → Nat) (si : Nat → Nat → Int32) (sa : Nat → Nat → Nat → Int32) (dl : Nat → Nat) (b : Nat) (p0 : Int32) (p1 : Int32) (sz : Nat) (hX0 : InvX n cap fE sd dl b I J si) (hb0 : b + 0 < 2147483648)  : Met l yX8_plan wq_y_plan rm_y_plan (va_Pc [.ref h, .int p0, .int p1] (fun U => U.heap.size = sz ∧ va_P (dC, dI) vwCl (xW h a e cI cJ cO cE L I M J n cap fE sd si sa dl) U.heap ∧ va_K (dC, dI) vwCl (xT cI cJ cO cE) U ∧ va_D (fun _ => True) (xW h a e cI cJ cO cE L I M J n cap fE sd si sa dl) ∧ pw_N U)) (va_Qi (fun (r : Int32) (u : (Nat → Int64) × (Nat → Int32) × (Nat → Nat → Int32)) => InvX n cap fE sd dl (b + 0) u.2.1 u.2.2 si ∧ (∀ j9 : Nat, j9 ∉ ([2, 3, 4, 8] : List Nat) → u.1 j9 = L j9) ∧ (∀ j9 : Nat, j9 ∉ ([3, 8, 9, 10, 11] : List Nat) → u.2.1 j9 = I j9) ∧ (∀ j9 : Nat, j9 ∉ ([0, 1, 2] : List Nat) → u.2.2 j9 = J j9) ∧ ((r, u) = f_y_plan n dl p0 p1 L I M J si)) (fun (u : (Nat → Int64) × (Nat → Int32) × (Nat → Nat → Int32)) (t : State) => va_P (dC, dI) vwCl (xW h a e cI cJ cO cE u.1 u.2.1 M u.2.2 n cap fE sd si sa dl) t.heap ∧ va_D (va_A (xW h a e cI cJ cO cE L I M J n cap fE sd si sa dl) sz) (xW h a e cI cJ cO cE u.1 u.2.1 M u.2.2 n cap fE sd si sa dl)) (va_A (xW h a e cI cJ cO cE L I M J n cap fE sd si sa dl) sz)) 0 0 (va_A (xW h a e cI cJ cO cE L I M J n cap fE sd si sa dl) sz) := by
  have hn : n ≤ 40 := hX0.1.1
  have hX := hX0
  have hUL : ∀ j9 : Nat, j9 ∉ ([2, 3, 4, 8] : List Nat) → L j9 = L j9 := fun _ _ => rfl
  have hUI : ∀ j9 : Nat, j9 ∉ ([3, 8, 9, 10, 11] : List Nat) → I j9 = I j9 := fun _ _ => rfl
  have hUJ : ∀ j9 : Nat, j9 ∉ ([0, 1, 2] : List Nat) → J j9 = J j9 := fun _ _ => rfl
  refine Met.ofW (cc := cX8_plan) (maxL := 4) (ret := (some .int)) (by decide) rfl ?_
  intro p e9 s m args below meth c s₁ B hml hv
  obtain ⟨rfl, hsz, hP, hK, hD0, hN⟩ := hv
  have hx := B.exec
  have hb := B.bytes
  have hr := B.returns
  have hts := atoms_spec (ws := wq_y_plan) B.pre
  have hown : s.vm.findClass RX8 = some m.cls := findClass_of_methodNamed B.named
  have hlocks := B.notSynchronized
  subst hsz
  have hD := hD0.self (sz := s.heap.size)
  generalize hAe : va_A (xW h a e cI cJ cO cE L I M J n cap fE sd si sa dl) s.heap.size = A at hD ⊢
  have hA : ∀ q : Nat, s.heap.size ≤ q → A q := fun q h => by rw [← hAe]; exact Or.inr h
  have hS : va_S A s.heap s.heap [] := va_S.rf
  have hl := lv_entry ([.ref h, .int p0, .int p1]) (n := 4) (Nat.le_of_ble_eq_true rfl)
  rw [lg_entry_eq]
  generalize (lg_sl ([.ref h, .int p0, .int p1]) ++ List.replicate (4 - (lg_sl ([.ref h, .int p0, .int p1])).length) Slot.unset).toArray = ls at hl ⊢
  have hl : lv_has ls 4 [(0, .ref h), (1, .int p0), (2, .int p1)] := hl
  obtain ⟨RES, hR0⟩ : ∃ R9, R9 = f_y_plan n dl p0 p1 L I M J si := ⟨_, rfl⟩
  have hZ9 := hR0
  unfold f_y_plan at hZ9
  refine lv_aload_n hx hb dX8_plan_0 rfl (lv_at hl 0 rfl) ?_
  refine lv_iload_n hx hb dX8_plan_1 rfl (lv_at hl 1 rfl) ?_
  refine lv_iload_n hx hb dX8_plan_2 rfl (lv_at hl 2 rfl) ?_
  have hFc := mw_free hD hS hA
  refine va_calli (va_runV (As := [.int p0, .int p1]) (rest := []) ⟨hx, hb, hml, hown, hts⟩ (c_y_draftOrder l dC dI h a e cI cJ cO cE L I M J n cap fE sd si sa dl (b) p0 p1 s.heap.size hX (by omega) ) (cwV 2 hts wc_y_plan_y_draftOrder_128 rfl rfl rfl (by decide +kernel) ⟨Nat.le_of_ble_eq_true rfl, Nat.le_of_ble_eq_true rfl⟩) ⟨fun a9 U g mk q => by obtain ⟨q0, q1, qP, qK, qD, qN⟩ := q; exact ⟨q0, q1, qP, va_K.moved (u := U) (U := U.calling g mk a9) (Vm.Alike.refl U.vm) qK, qD, pw_N.same (u := U) (U := U.calling g mk a9) rfl qN⟩, va_recv hK hP (ci := 9) (q0 := 0) rfl rfl, fun U hU hW => ⟨rfl, by rw [hU], by rw [hU]; exact hP, va_K.moved hW.alike hK, hD.weaken (fun _ _ _ _ => trivial), pw_N.warm hW hN⟩⟩ rfl rfl hl.1 rfl (lv_room (Nat.le_of_ble_eq_true rfl)) dX8_plan_3 ⟨Nat.le_of_ble_eq_true rfl, Nat.le_of_ble_eq_true rfl⟩) hS (fun q _ h => hFc q h) hFc (fun r1 u t H1 locs ht hvm hw hB hz1 hk1 hS => ?_)
  obtain ⟨L2, I3⟩ := u
  replace hP := hB.1
  rw [ht] at hP
  replace hD : va_D A (xW h a e cI cJ cO cE L2 I3 M J n cap fE sd si sa dl) := hB.2.weaken (fun _ q _ h9 => hFc q.1 h9)
  clear hB
  generalize H1 = H at hP hS ⊢
  replace hP : va_P (dC, dI) vwCl (xW h a e cI cJ cO cE L2 I3 M J n cap fE sd si sa dl) H := hP
  obtain ⟨hwX, whUL, whUI, hw⟩ := hw
  replace hX : InvX n cap fE sd dl (b) I3 J si := hwX
  replace hUL : ∀ j9 : Nat, j9 ∉ ([2, 3, 4, 8] : List Nat) → L2 j9 = L j9 := mw_tr (by decide) whUL hUL
  replace hUI : ∀ j9 : Nat, j9 ∉ ([3, 8, 9, 10, 11] : List Nat) → I3 j9 = I j9 := mw_tr (by decide) whUI hUI
  replace hw : (r1, L2, I3) = f_y_draftOrder n dl p0 p1 L I M := hw
  replace hZ9 := bn3_s hZ9 hw
  refine lv_istore_n (lv' := [(3, .int r1), (0, .ref h), (1, .int p0), (2, .int p1)]) hx hb dX8_plan_6 rfl hl (by decide) rfl (fun ls hl => ?_)
  refine lv_aload_n hx hb dX8_plan_7 rfl (lv_at hl 1 rfl) ?_
  refine lv_iload_n hx hb dX8_plan_8 rfl (lv_at hl 0 rfl) ?_
  have hFc := mw_free hD hS hA
  refine va_callv (va_runV (As := [.int r1]) (rest := []) ⟨hx, hb, hml, hown, hts⟩ (c_y_keepRing l dC dI h a e cI cJ cO cE L2 I3 M J n cap fE sd si sa dl (b) r1 H.size hX (by omega) ) (cwV 1 hts wc_y_plan_y_keepRing_132 rfl rfl rfl (by decide +kernel) ⟨Nat.le_of_ble_eq_true rfl, Nat.le_of_ble_eq_true rfl⟩) ⟨fun a9 U g mk q => by obtain ⟨q0, q1, qP, qK, qD, qN⟩ := q; exact ⟨q0, q1, qP, va_K.moved (u := U) (U := U.calling g mk a9) (Vm.Alike.refl U.vm) qK, qD, pw_N.same (u := U) (U := U.calling g mk a9) rfl qN⟩, va_recv hK hP (ci := 9) (q0 := 0) rfl rfl, fun U hU hW => ⟨rfl, by rw [hU], by rw [hU]; exact hP, va_K.moved hW.alike hK, hD.weaken (fun _ _ _ _ => trivial), pw_N.warm hW hN⟩⟩ rfl rfl hl.1 rfl (lv_room (Nat.le_of_ble_eq_true rfl)) dX8_plan_9 ⟨Nat.le_of_ble_eq_true rfl, Nat.le_of_ble_eq_true rfl⟩) hS (fun q _ h => hFc q h) hFc (fun u t H1 locs ht hvm hw hB hz1 hk1 hS => ?_)
  obtain ⟨I5, rfl⟩ : ∃ z9, z9 = u := ⟨_, rfl⟩
  replace hP := hB.1
  rw [ht] at hP
  replace hD : va_D A (xW h a e cI cJ cO cE L2 I5 M J n cap fE sd si sa dl) := hB.2.weaken (fun _ q _ h9 => hFc q.1 h9)
  clear hB
  generalize H1 = H at hP hS ⊢
  replace hP : va_P (dC, dI) vwCl (xW h a e cI cJ cO cE L2 I5 M J n cap fE sd si sa dl) H := hP
  obtain ⟨hwX, whUI, hw⟩ := hw
  replace hX : InvX n cap fE sd dl (b) I5 J si := hwX
  replace hUI : ∀ j9 : Nat, j9 ∉ ([3, 8, 9, 10, 11] : List Nat) → I5 j9 = I j9 := mw_tr (by decide) whUI hUI
  replace hw : I5 = f_y_keepRing n dl r1 I3 := hw
  replace hZ9 := bnd_s hZ9 hw
  refine lv_iload_n hx hb dX8_plan_12 rfl (lv_at hl 0 rfl) ?_
  refine lv_if_lt (tgt := 20) hx hb dX8_plan_13 (by decide) (fun c6 => ?_) (fun c6 => ?_)
  · replace hZ9 := ite_t hZ9 c6
    refine lv_iload_n hx hb dX8_plan_20 rfl (lv_at hl 0 rfl) ?_
    exact W.iret (v := r1) hx hb hr (fun t ht hW => ⟨⟨r1, (L2, I5, J), rfl, ⟨hX.mono (by omega), hUL, hUI, hUJ, hZ9.symm.trans hR0⟩, by rw [ht]; exact hP, hD⟩, hS.F ht⟩) hS.2.2 dX8_plan_21
  · replace hZ9 := ite_f hZ9 c6
    refine lv_aload_n hx hb dX8_plan_16 rfl (lv_at hl 1 rfl) ?_
    have hFc := mw_free hD hS hA
    refine va_callv (va_runV (As := []) (rest := []) ⟨hx, hb, hml, hown, hts⟩ (c_y_layOutDraft l dC dI h a e cI cJ cO cE L2 I5 M J n cap fE sd si sa dl (b)  H.size hX (by omega) ) (cwV 0 hts wc_y_plan_y_layOutDraft_204 rfl rfl rfl (by decide +kernel) ⟨Nat.le_of_ble_eq_true rfl, Nat.le_of_ble_eq_true rfl⟩) ⟨fun a9 U g mk q => by obtain ⟨q0, q1, qP, qK, qD, qN⟩ := q; exact ⟨q0, q1, qP, va_K.moved (u := U) (U := U.calling g mk a9) (Vm.Alike.refl U.vm) qK, qD, pw_N.same (u := U) (U := U.calling g mk a9) rfl qN⟩, va_recv hK hP (ci := 9) (q0 := 0) rfl rfl, fun U hU hW => ⟨rfl, by rw [hU], by rw [hU]; exact hP, va_K.moved hW.alike hK, hD.weaken (fun _ _ _ _ => trivial), pw_N.warm hW hN⟩⟩ rfl rfl hl.1 rfl (lv_room (Nat.le_of_ble_eq_true rfl)) dX8_plan_17 ⟨Nat.le_of_ble_eq_true rfl, Nat.le_of_ble_eq_true rfl⟩) hS (fun q _ h => hFc q h) hFc (fun u t H1 locs ht hvm hw hB hz1 hk1 hS => ?_)
    obtain ⟨L8, I9, J10⟩ := u
    replace hP := hB.1
    rw [ht] at hP
    replace hD : va_D A (xW h a e cI cJ cO cE L8 I9 M J10 n cap fE sd si sa dl) := hB.2.weaken (fun _ q _ h9 => hFc q.1 h9)
    clear hB
    generalize H1 = H at hP hS ⊢
    replace hP : va_P (dC, dI) vwCl (xW h a e cI cJ cO cE L8 I9 M J10 n cap fE sd si sa dl) H := hP
    obtain ⟨hwX, whUL, whUI, whUJ, hw⟩ := hw
    replace hX : InvX n cap fE sd dl (b) I9 J10 si := hwX
    replace hUL : ∀ j9 : Nat, j9 ∉ ([2, 3, 4, 8] : List Nat) → L8 j9 = L j9 := mw_tr (by decide) whUL hUL
    replace hUI : ∀ j9 : Nat, j9 ∉ ([3, 8, 9, 10, 11] : List Nat) → I9 j9 = I j9 := mw_tr (by decide) whUI hUI
    replace hUJ : ∀ j9 : Nat, j9 ∉ ([0, 1, 2] : List Nat) → J10 j9 = J j9 := mw_tr (by decide) whUJ hUJ
    replace hw : (L8, I9, J10) = f_y_layOutDraft n dl  L2 I5 M J si := hw
    replace hZ9 := bn3_s hZ9 hw
    refine lv_iload_n hx hb dX8_plan_20 rfl (lv_at hl 0 rfl) ?_
    exact W.iret (v := r1) hx hb hr (fun t ht hW => ⟨⟨r1, (L8, I9, J10), rfl, ⟨hX.mono (by omega), hUL, hUI, hUJ, hZ9.symm.trans hR0⟩, by rw [ht]; exact hP, hD⟩, hS.F ht⟩) hS.2.2 dX8_plan_21
def f_y_planned (n : Nat) (dl : Nat → Nat) (p0 : Int32) (p1 : Int32) (L : Nat → Int64) (I : Nat → Int32) (J : Nat → Nat → Int32) : Int32 := bnd (f_y_ptell n dl p0 p1 L I J) (fun (r1 : Int32) => (r1))
def wq_y_planned : List Cond := ([.code yX8_planned cX8_planned 3 (some .int), .fieldLink RX8 42 "ServiceTree" "latestPlan" "LServiceTree$Plan;", .methodLink RX8 207 yX4_tell, .instanceMethod yX4_tell, .selects RX4 yX4_tell yX4_tell, .initialized RX4] : List Cond) ++ (wsX80 ++ (wq_y_ptell))
theorem in_y_planned_X8 : ∀ w ∈ wsX80, w ∈ wq_y_planned := fun _ h => List.mem_append_right _ (List.mem_append_left _ (h))
set_option maxRecDepth 20000 in
theorem wi_y_planned : ∀ w ∈ wq_y_planned, w ∈ lw_tbl := List.forall_mem_append.mpr ⟨(wix [814, 228, 815, 816, 817, 67] rfl), List.forall_mem_append.mpr ⟨inKX8, wi_y_ptell⟩⟩
set_option maxRecDepth 20000 in
theorem wg_y_planned : GoodIn wq_y_planned wq_y_planned := goodIn_sub (fun _ h => h) (by decide +kernel)
set_option maxRecDepth 20000 in
theorem wc_y_planned_y_ptell_207 : GoodIn wq_y_planned (wsV RX8 207 RX4 yX4_tell wq_y_ptell) := goodIn_app (goodIn_of _ (by decide +kernel)) (fun w h => ⟨List.mem_append_right _ (List.mem_append_right _ (h)), (wg_y_ptell w h).2⟩)
def rm_y_planned : Room := { frames := 2, cells := 0, slots := 0, locals := 45 }
set_option maxHeartbeats 4000000 in
set_option maxRecDepth 100000 in
theorem c_y_planned (l : Launch) (dC : Nat → ClassId) (dI : Nat → Nat → Nat) (h : Nat) (a : Nat → Nat) (e : Nat) (cI cJ cO cE : ClassId) (L : Nat → Int64) (I : Nat → Int32) (M : Nat → Nat → Int64) (J : Nat → Nat → Int32) (n cap : Nat) (fE : Nat → Option Nat) (sd : Nat → Nat → Nat) (si : Nat → Nat → Int32) (sa : Nat → Nat → Nat → Int32) (dl : Nat → Nat) (b : Nat) (p0 : Int32) (p1 : Int32) (sz : Nat) (hX0 : InvX n cap fE sd dl b I J si) (hb0 : b + 0 < 2147483648)  : Met l yX8_planned wq_y_planned rm_y_planned (va_Pc [.ref h, .int p0, .int p1] (fun U => U.heap.size = sz ∧ va_P (dC, dI) vwCl (xW h a e cI cJ cO cE L I M J n cap fE sd si sa dl) U.heap ∧ va_K (dC, dI) vwCl (xT cI cJ cO cE) U ∧ va_D (fun _ => True) (xW h a e cI cJ cO cE L I M J n cap fE sd si sa dl) ∧ pw_N U)) (va_Qi (fun (r : Int32) (u : Unit) => (r = f_y_planned n dl p0 p1 L I J)) (fun (u : Unit) (t : State) => va_P (dC, dI) vwCl (xW h a e cI cJ cO cE L I M J n cap fE sd si sa dl) t.heap ∧ va_D (va_A (xW h a e cI cJ cO cE L I M J n cap fE sd si sa dl) sz) (xW h a e cI cJ cO cE L I M J n cap fE sd si sa dl)) (va_A (xW h a e cI cJ cO cE L I M J n cap fE sd si sa dl) sz)) 0 0 (va_A (xW h a e cI cJ cO cE L I M J n cap fE sd si sa dl) sz) := by
  have hn : n ≤ 40 := hX0.1.1
  have hX := hX0
  refine Met.ofW (cc := cX8_planned) (maxL := 3) (ret := (some .int)) (by decide) rfl ?_
  intro p e9 s m args below meth c s₁ B hml hv
  obtain ⟨rfl, hsz, hP, hK, hD0, hN⟩ := hv
  have hx := B.exec
  have hb := B.bytes
  have hr := B.returns
  have hts := atoms_spec (ws := wq_y_planned) B.pre
  have hown : s.vm.findClass RX8 = some m.cls := findClass_of_methodNamed B.named
  have hlocks := B.notSynchronized
  subst hsz
  have hD := hD0.self (sz := s.heap.size)
  generalize hAe : va_A (xW h a e cI cJ cO cE L I M J n cap fE sd si sa dl) s.heap.size = A at hD ⊢
  have hA : ∀ q : Nat, s.heap.size ≤ q → A q := fun q h => by rw [← hAe]; exact Or.inr h
  have hS : va_S A s.heap s.heap [] := va_S.rf
  have hl := lv_entry ([.ref h, .int p0, .int p1]) (n := 3) (Nat.le_of_ble_eq_true rfl)
  rw [lg_entry_eq]
  generalize (lg_sl ([.ref h, .int p0, .int p1]) ++ List.replicate (3 - (lg_sl ([.ref h, .int p0, .int p1])).length) Slot.unset).toArray = ls at hl ⊢
  have hl : lv_has ls 3 [(0, .ref h), (1, .int p0), (2, .int p1)] := hl
  obtain ⟨RES, hR0⟩ : ∃ R9, R9 = f_y_planned n dl p0 p1 L I J := ⟨_, rfl⟩
  have hZ9 := hR0
  unfold f_y_planned at hZ9
  refine lv_aload_n hx hb dX8_planned_0 rfl (lv_at hl 0 rfl) ?_
  refine va_get (D := (dC, dI)) (ci := 9) (v := .ref (a 4)) (C := RX8) (T := TX8) (N := 14) hx hb hts in_y_planned_X8 hown hK hP 0 rfl rfl 4 (by decide) (hts (.fieldLink RX8 42 "ServiceTree" "latestPlan" "LServiceTree$Plan;") (by decide +kernel)) (fun _ h9 => h9) rfl dX8_planned_1 ?_
  refine lv_iload_n hx hb dX8_planned_4 rfl (lv_at hl 1 rfl) ?_
  refine lv_iload_n hx hb dX8_planned_5 rfl (lv_at hl 2 rfl) ?_
  have hFc := mw_free hD hS hA
  refine va_calli (va_runV (As := [.int p0, .int p1]) (rest := []) ⟨hx, hb, hml, hown, hts⟩ (c_y_ptell l dC dI h a e cI cJ cO cE L I M J n cap fE sd si sa dl (b) p0 p1 s.heap.size hX (by omega) ) (cwV 2 hts wc_y_planned_y_ptell_207 rfl rfl rfl (by decide +kernel) ⟨Nat.le_of_ble_eq_true rfl, Nat.le_of_ble_eq_true rfl⟩) ⟨fun a9 U g mk q => by obtain ⟨q0, q1, qP, qK, qD, qN⟩ := q; exact ⟨q0, q1, qP, va_K.moved (u := U) (U := U.calling g mk a9) (Vm.Alike.refl U.vm) qK, qD, pw_N.same (u := U) (U := U.calling g mk a9) rfl qN⟩, va_recv hK hP (ci := 5) (q0 := 15) rfl rfl, fun U hU hW => ⟨rfl, by rw [hU], by rw [hU]; exact hP, va_K.moved hW.alike hK, hD.weaken (fun _ _ _ _ => trivial), pw_N.warm hW hN⟩⟩ rfl rfl hl.1 rfl (lv_room (Nat.le_of_ble_eq_true rfl)) dX8_planned_6 ⟨Nat.le_of_ble_eq_true rfl, Nat.le_of_ble_eq_true rfl⟩) hS (fun q _ h => hFc q h) hFc (fun r1 u t H1 locs ht hvm hw hB hz1 hk1 hS => ?_)
  replace hP := hB.1
  rw [ht] at hP
  replace hD : va_D A (xW h a e cI cJ cO cE L I M J n cap fE sd si sa dl) := hB.2.weaken (fun _ q _ h9 => hFc q.1 h9)
  clear hB
  generalize H1 = H at hP hS ⊢
  replace hP : va_P (dC, dI) vwCl (xW h a e cI cJ cO cE L I M J n cap fE sd si sa dl) H := hP
  replace hw : r1 = f_y_ptell n dl p0 p1 L I J := hw
  replace hZ9 := bnd_s hZ9 hw
  exact W.iret (v := r1) hx hb hr (fun t ht hW => ⟨⟨r1, (), rfl, hZ9.symm.trans hR0, by rw [ht]; exact hP, hD⟩, hS.F ht⟩) hS.2.2 dX8_planned_9
def f_y_quick (n : Nat) (dl : Nat → Nat)  (I : Nat → Int32) : Int32 := bnd (I 11) (fun (x1 : Int32) => if x1 = (0 : Int32) then (((-1 : Int32))) else (bnd (I 10) (fun (x3 : Int32) => (x3))))
def wq_y_quick : List Cond := ([.code yX8_quick cX8_quick 1 (some .int), .fieldLink RX8 42 "ServiceTree" "latestPlan" "LServiceTree$Plan;"] : List Cond) ++ (wsX40 ++ (wsX80))
theorem in_y_quick_X4 : ∀ w ∈ wsX40, w ∈ wq_y_quick := fun _ h => List.mem_append_right _ (List.mem_append_left _ (h))
theorem in_y_quick_X8 : ∀ w ∈ wsX80, w ∈ wq_y_quick := fun _ h => List.mem_append_right _ (List.mem_append_right _ (h))
set_option maxRecDepth 20000 in
theorem wi_y_quick : ∀ w ∈ wq_y_quick, w ∈ lw_tbl := List.forall_mem_append.mpr ⟨(wix [823, 228] rfl), List.forall_mem_append.mpr ⟨inKX4, inKX8⟩⟩
set_option maxRecDepth 20000 in
theorem wg_y_quick : GoodIn wq_y_quick wq_y_quick := goodIn_sub (fun _ h => h) (by decide +kernel)
def rm_y_quick : Room := { frames := 0, cells := 0, slots := 0, locals := 0 }
set_option maxHeartbeats 4000000 in
set_option maxRecDepth 100000 in
theorem c_y_quick (l : Launch) (dC : Nat → ClassId) (dI : Nat → Nat → Nat) (h : Nat) (a : Nat → Nat) (e : Nat) (cI cJ cO cE : ClassId) (L : Nat → Int64) (I : Nat → Int32) (M : Nat → Nat → Int64) (J : Nat → Nat → Int32) (n cap : Nat) (fE : Nat → Option Nat) (sd : Nat → Nat → Nat) (si : Nat → Nat → Int32) (sa : Nat → Nat → Nat → Int32) (dl : Nat → Nat) (b : Nat)  (sz : Nat) (hX0 : InvX n cap fE sd dl b I J si) (hb0 : b + 0 < 2147483648)  : Met l yX8_quick wq_y_quick rm_y_quick (va_Pc [.ref h] (fun U => U.heap.size = sz ∧ va_P (dC, dI) vwCl (xW h a e cI cJ cO cE L I M J n cap fE sd si sa dl) U.heap ∧ va_K (dC, dI) vwCl (xT cI cJ cO cE) U ∧ va_D (fun _ => True) (xW h a e cI cJ cO cE L I M J n cap fE sd si sa dl) ∧ pw_N U)) (va_Qi (fun (r : Int32) (u : Unit) => (r = f_y_quick n dl  I)) (fun (u : Unit) (t : State) => va_P (dC, dI) vwCl (xW h a e cI cJ cO cE L I M J n cap fE sd si sa dl) t.heap ∧ va_D (va_A (xW h a e cI cJ cO cE L I M J n cap fE sd si sa dl) sz) (xW h a e cI cJ cO cE L I M J n cap fE sd si sa dl)) (va_A (xW h a e cI cJ cO cE L I M J n cap fE sd si sa dl) sz)) 0 0 (va_A (xW h a e cI cJ cO cE L I M J n cap fE sd si sa dl) sz) := by
  have hn : n ≤ 40 := hX0.1.1
  have hX := hX0
  refine Met.ofW (cc := cX8_quick) (maxL := 1) (ret := (some .int)) (by decide) rfl ?_
  intro p e9 s m args below meth c s₁ B hml hv
  obtain ⟨rfl, hsz, hP, hK, hD0, hN⟩ := hv
  have hx := B.exec
  have hb := B.bytes
  have hr := B.returns
  have hts := atoms_spec (ws := wq_y_quick) B.pre
  have hown : s.vm.findClass RX8 = some m.cls := findClass_of_methodNamed B.named
  have hlocks := B.notSynchronized
  subst hsz
  have hD := hD0.self (sz := s.heap.size)
  generalize hAe : va_A (xW h a e cI cJ cO cE L I M J n cap fE sd si sa dl) s.heap.size = A at hD ⊢
  have hA : ∀ q : Nat, s.heap.size ≤ q → A q := fun q h => by rw [← hAe]; exact Or.inr h
  have hS : va_S A s.heap s.heap [] := va_S.rf
  have hl := lv_entry ([.ref h]) (n := 1) (Nat.le_of_ble_eq_true rfl)
  rw [lg_entry_eq]
  generalize (lg_sl ([.ref h]) ++ List.replicate (1 - (lg_sl ([.ref h])).length) Slot.unset).toArray = ls at hl ⊢
  have hl : lv_has ls 1 [(0, .ref h)] := hl
  obtain ⟨RES, hR0⟩ : ∃ R9, R9 = f_y_quick n dl  I := ⟨_, rfl⟩
  have hZ9 := hR0
  unfold f_y_quick at hZ9
  refine lv_aload_n hx hb dX8_quick_0 rfl (lv_at hl 0 rfl) ?_
  refine va_get (D := (dC, dI)) (ci := 9) (v := .ref (a 4)) (C := RX8) (T := TX8) (N := 14) hx hb hts in_y_quick_X8 hown hK hP 0 rfl rfl 4 (by decide) (hts (.fieldLink RX8 42 "ServiceTree" "latestPlan" "LServiceTree$Plan;") (by decide +kernel)) (fun _ h9 => h9) rfl dX8_quick_1 ?_
  refine va_getN (D := (dC, dI)) (ci := 5) (v := .int (I 11)) (C := RX4) (T := TX4) (N := 7) hx hb hts in_y_quick_X4 hown hK hP 15 rfl rfl 6 (by decide) (va_Nw.use rfl (hN (.fieldLinkNest RX8 210 "ServiceTree$Plan" "laidOut" "Z" "ServiceTree") (by decide +kernel))) (fun _ h9 => h9) rfl dX8_quick_4 ?_
  refine lv_topi (fun x1 ex1 => ?_)
  replace hZ9 := bnd_s hZ9 ex1
  refine lv_if_eq (tgt := 20) hx hb dX8_quick_7 (by decide) (fun c2 => ?_) (fun c2 => ?_)
  · replace hZ9 := ite_t hZ9 c2
    refine lv_iconst (v := (-1)) hx hb dX8_quick_20 (by decide) ?_
    exact W.iret (v := (-1)) hx hb hr (fun t ht hW => ⟨⟨(-1), (), rfl, hZ9.symm.trans hR0, by rw [ht]; exact hP, hD⟩, hS.F ht⟩) hS.2.2 dX8_quick_21
  · replace hZ9 := ite_f hZ9 c2
    refine lv_aload_n hx hb dX8_quick_10 rfl (lv_at hl 0 rfl) ?_
    refine va_get (D := (dC, dI)) (ci := 9) (v := .ref (a 4)) (C := RX8) (T := TX8) (N := 14) hx hb hts in_y_quick_X8 hown hK hP 0 rfl rfl 4 (by decide) (hts (.fieldLink RX8 42 "ServiceTree" "latestPlan" "LServiceTree$Plan;") (by decide +kernel)) (fun _ h9 => h9) rfl dX8_quick_11 ?_
    refine va_getN (D := (dC, dI)) (ci := 5) (v := .int (I 10)) (C := RX4) (T := TX4) (N := 7) hx hb hts in_y_quick_X4 hown hK hP 15 rfl rfl 5 (by decide) (va_Nw.use rfl (hN (.fieldLinkNest RX8 213 "ServiceTree$Plan" "lastEnd" "I" "ServiceTree") (by decide +kernel))) (fun _ h9 => h9) rfl dX8_quick_14 ?_
    refine lv_topi (fun x3 ex3 => ?_)
    replace hZ9 := bnd_s hZ9 ex3
    refine lv_goto (tgt := 21) hx hb dX8_quick_17 (by decide) ?_
    exact W.iret (v := x3) hx hb hr (fun t ht hW => ⟨⟨x3, (), rfl, hZ9.symm.trans hR0, by rw [ht]; exact hP, hD⟩, hS.F ht⟩) hS.2.2 dX8_quick_21
def f_y_ring (n : Nat) (dl : Nat → Nat)  (I : Nat → Int32) : Int32 := bnd (I 3) (fun (x1 : Int32) => (x1))
def wq_y_ring : List Cond := ([.code yX8_ring cX8_ring 1 (some .int), .fieldLink RX8 216 "ServiceTree" "latestRing" "I"] : List Cond) ++ (wsX80)
theorem in_y_ring_X8 : ∀ w ∈ wsX80, w ∈ wq_y_ring := fun _ h => List.mem_append_right _ (h)
set_option maxRecDepth 20000 in
theorem wi_y_ring : ∀ w ∈ wq_y_ring, w ∈ lw_tbl := List.forall_mem_append.mpr ⟨(wix [827, 236] rfl), inKX8⟩
set_option maxRecDepth 20000 in
theorem wg_y_ring : GoodIn wq_y_ring wq_y_ring := goodIn_sub (fun _ h => h) (by decide +kernel)
def rm_y_ring : Room := { frames := 0, cells := 0, slots := 0, locals := 0 }
set_option maxHeartbeats 4000000 in
set_option maxRecDepth 100000 in
theorem c_y_ring (l : Launch) (dC : Nat → ClassId) (dI : Nat → Nat → Nat) (h : Nat) (a : Nat → Nat) (e : Nat) (cI cJ cO cE : ClassId) (L : Nat → Int64) (I : Nat → Int32) (M : Nat → Nat → Int64) (J : Nat → Nat → Int32) (n cap : Nat) (fE : Nat → Option Nat) (sd : Nat → Nat → Nat) (si : Nat → Nat → Int32) (sa : Nat → Nat → Nat → Int32) (dl : Nat → Nat) (b : Nat)  (sz : Nat) (hX0 : InvX n cap fE sd dl b I J si) (hb0 : b + 0 < 2147483648)  : Met l yX8_ring wq_y_ring rm_y_ring (va_Pc [.ref h] (fun U => U.heap.size = sz ∧ va_P (dC, dI) vwCl (xW h a e cI cJ cO cE L I M J n cap fE sd si sa dl) U.heap ∧ va_K (dC, dI) vwCl (xT cI cJ cO cE) U ∧ va_D (fun _ => True) (xW h a e cI cJ cO cE L I M J n cap fE sd si sa dl) ∧ pw_N U)) (va_Qi (fun (r : Int32) (u : Unit) => (r = f_y_ring n dl  I)) (fun (u : Unit) (t : State) => va_P (dC, dI) vwCl (xW h a e cI cJ cO cE L I M J n cap fE sd si sa dl) t.heap ∧ va_D (va_A (xW h a e cI cJ cO cE L I M J n cap fE sd si sa dl) sz) (xW h a e cI cJ cO cE L I M J n cap fE sd si sa dl)) (va_A (xW h a e cI cJ cO cE L I M J n cap fE sd si sa dl) sz)) 0 0 (va_A (xW h a e cI cJ cO cE L I M J n cap fE sd si sa dl) sz) := by
  have hn : n ≤ 40 := hX0.1.1
  have hX := hX0
  refine Met.ofW (cc := cX8_ring) (maxL := 1) (ret := (some .int)) (by decide) rfl ?_
  intro p e9 s m args below meth c s₁ B hml hv
  obtain ⟨rfl, hsz, hP, hK, hD0, hN⟩ := hv
  have hx := B.exec
  have hb := B.bytes
  have hr := B.returns
  have hts := atoms_spec (ws := wq_y_ring) B.pre
  have hown : s.vm.findClass RX8 = some m.cls := findClass_of_methodNamed B.named
  have hlocks := B.notSynchronized
  subst hsz
  have hD := hD0.self (sz := s.heap.size)
  generalize hAe : va_A (xW h a e cI cJ cO cE L I M J n cap fE sd si sa dl) s.heap.size = A at hD ⊢
  have hA : ∀ q : Nat, s.heap.size ≤ q → A q := fun q h => by rw [← hAe]; exact Or.inr h
  have hS : va_S A s.heap s.heap [] := va_S.rf
  have hl := lv_entry ([.ref h]) (n := 1) (Nat.le_of_ble_eq_true rfl)
  rw [lg_entry_eq]
  generalize (lg_sl ([.ref h]) ++ List.replicate (1 - (lg_sl ([.ref h])).length) Slot.unset).toArray = ls at hl ⊢
  have hl : lv_has ls 1 [(0, .ref h)] := hl
  obtain ⟨RES, hR0⟩ : ∃ R9, R9 = f_y_ring n dl  I := ⟨_, rfl⟩
  have hZ9 := hR0
  unfold f_y_ring at hZ9
  refine lv_aload_n hx hb dX8_ring_0 rfl (lv_at hl 0 rfl) ?_
  refine va_get (D := (dC, dI)) (ci := 9) (v := .int (I 3)) (C := RX8) (T := TX8) (N := 14) hx hb hts in_y_ring_X8 hown hK hP 0 rfl rfl 12 (by decide) (hts (.fieldLink RX8 216 "ServiceTree" "latestRing" "I") (by decide +kernel)) (fun _ h9 => h9) rfl dX8_ring_1 ?_
  refine lv_topi (fun x1 ex1 => ?_)
  replace hZ9 := bnd_s hZ9 ex1
  exact W.iret (v := x1) hx hb hr (fun t ht hW => ⟨⟨x1, (), rfl, hZ9.symm.trans hR0, by rw [ht]; exact hP, hD⟩, hS.F ht⟩) hS.2.2 dX8_ring_4
def f_y_changes (n : Nat) (dl : Nat → Nat)  (I : Nat → Int32) : Int32 := bnd ((I 12).toNatClampNeg) (fun (z1 : Nat) => ((nI z1)))
def wq_y_changes : List Cond := ([.code yX8_changes cX8_changes 1 (some .int), .fieldLink RX8 49 "ServiceTree" "history" "LServiceTree$History;"] : List Cond) ++ (wsX20 ++ (wsX80))
theorem in_y_changes_X2 : ∀ w ∈ wsX20, w ∈ wq_y_changes := fun _ h => List.mem_append_right _ (List.mem_append_left _ (h))
theorem in_y_changes_X8 : ∀ w ∈ wsX80, w ∈ wq_y_changes := fun _ h => List.mem_append_right _ (List.mem_append_right _ (h))
set_option maxRecDepth 20000 in
theorem wi_y_changes : ∀ w ∈ wq_y_changes, w ∈ lw_tbl := List.forall_mem_append.mpr ⟨(wix [831, 229] rfl), List.forall_mem_append.mpr ⟨inKX2, inKX8⟩⟩
set_option maxRecDepth 20000 in
theorem wg_y_changes : GoodIn wq_y_changes wq_y_changes := goodIn_sub (fun _ h => h) (by decide +kernel)
def rm_y_changes : Room := { frames := 0, cells := 0, slots := 0, locals := 0 }
set_option maxHeartbeats 4000000 in
set_option maxRecDepth 100000 in
theorem c_y_changes (l : Launch) (dC : Nat → ClassId) (dI : Nat → Nat → Nat) (h : Nat) (a : Nat → Nat) (e : Nat) (cI cJ cO cE : ClassId) (L : Nat → Int64) (I : Nat → Int32) (M : Nat → Nat → Int64) (J : Nat → Nat → Int32) (n cap : Nat) (fE : Nat → Option Nat) (sd : Nat → Nat → Nat) (si : Nat → Nat → Int32) (sa : Nat → Nat → Nat → Int32) (dl : Nat → Nat) (b : Nat)  (sz : Nat) (hX0 : InvX n cap fE sd dl b I J si) (hb0 : b + 0 < 2147483648)  : Met l yX8_changes wq_y_changes rm_y_changes (va_Pc [.ref h] (fun U => U.heap.size = sz ∧ va_P (dC, dI) vwCl (xW h a e cI cJ cO cE L I M J n cap fE sd si sa dl) U.heap ∧ va_K (dC, dI) vwCl (xT cI cJ cO cE) U ∧ va_D (fun _ => True) (xW h a e cI cJ cO cE L I M J n cap fE sd si sa dl) ∧ pw_N U)) (va_Qi (fun (r : Int32) (u : Unit) => (r = f_y_changes n dl  I)) (fun (u : Unit) (t : State) => va_P (dC, dI) vwCl (xW h a e cI cJ cO cE L I M J n cap fE sd si sa dl) t.heap ∧ va_D (va_A (xW h a e cI cJ cO cE L I M J n cap fE sd si sa dl) sz) (xW h a e cI cJ cO cE L I M J n cap fE sd si sa dl)) (va_A (xW h a e cI cJ cO cE L I M J n cap fE sd si sa dl) sz)) 0 0 (va_A (xW h a e cI cJ cO cE L I M J n cap fE sd si sa dl) sz) := by
  have hn : n ≤ 40 := hX0.1.1
  have hX := hX0
  refine Met.ofW (cc := cX8_changes) (maxL := 1) (ret := (some .int)) (by decide) rfl ?_
  intro p e9 s m args below meth c s₁ B hml hv
  obtain ⟨rfl, hsz, hP, hK, hD0, hN⟩ := hv
  have hx := B.exec
  have hb := B.bytes
  have hr := B.returns
  have hts := atoms_spec (ws := wq_y_changes) B.pre
  have hown : s.vm.findClass RX8 = some m.cls := findClass_of_methodNamed B.named
  have hlocks := B.notSynchronized
  subst hsz
  have hD := hD0.self (sz := s.heap.size)
  generalize hAe : va_A (xW h a e cI cJ cO cE L I M J n cap fE sd si sa dl) s.heap.size = A at hD ⊢
  have hA : ∀ q : Nat, s.heap.size ≤ q → A q := fun q h => by rw [← hAe]; exact Or.inr h
  have hS : va_S A s.heap s.heap [] := va_S.rf
  have hl := lv_entry ([.ref h]) (n := 1) (Nat.le_of_ble_eq_true rfl)
  rw [lg_entry_eq]
  generalize (lg_sl ([.ref h]) ++ List.replicate (1 - (lg_sl ([.ref h])).length) Slot.unset).toArray = ls at hl ⊢
  have hl : lv_has ls 1 [(0, .ref h)] := hl
  obtain ⟨RES, hR0⟩ : ∃ R9, R9 = f_y_changes n dl  I := ⟨_, rfl⟩
  have hZ9 := hR0
  unfold f_y_changes at hZ9
  refine lv_aload_n hx hb dX8_changes_0 rfl (lv_at hl 0 rfl) ?_
  refine va_get (D := (dC, dI)) (ci := 9) (v := .ref (a 5)) (C := RX8) (T := TX8) (N := 14) hx hb hts in_y_changes_X8 hown hK hP 0 rfl rfl 5 (by decide) (hts (.fieldLink RX8 49 "ServiceTree" "history" "LServiceTree$History;") (by decide +kernel)) (fun _ h9 => h9) rfl dX8_changes_1 ?_
  refine va_getN (D := (dC, dI)) (ci := 3) (v := .int (I 12)) (C := RX2) (T := TX2) (N := 2) hx hb hts in_y_changes_X2 hown hK hP 19 rfl rfl 1 (by decide) (va_Nw.use rfl (hN (.fieldLinkNest RX8 219 "ServiceTree$History" "size" "I" "ServiceTree") (by decide +kernel))) (fun _ h9 => h9) rfl dX8_changes_4 ?_
  obtain ⟨z1, hz1, ez1⟩ := hX.2.1.2
  refine p1_topr (v := .int (nI z1)) (congrArg Value.int ez1) ?_
  replace hZ9 := bnd_s hZ9 (show z1 = (I 12).toNatClampNeg by rw [ez1, nI_clamp (by omega)])
  exact W.iret (v := (nI z1)) hx hb hr (fun t ht hW => ⟨⟨(nI z1), (), rfl, hZ9.symm.trans hR0, by rw [ht]; exact hP, hD⟩, hS.F ht⟩) hS.2.2 dX8_changes_7
def f_y_change (n : Nat) (dl : Nat → Nat) (p0 : Int32) (p1 : Int32) (I : Nat → Int32) (M : Nat → Nat → Int64) : Int32 := bnd (f_y_htell n dl p0 p1 I M) (fun (r1 : Int32) => (r1))
def wq_y_change : List Cond := ([.code yX8_change cX8_change 3 (some .int), .fieldLink RX8 49 "ServiceTree" "history" "LServiceTree$History;", .methodLink RX8 220 yX2_tell, .instanceMethod yX2_tell, .selects RX2 yX2_tell yX2_tell, .initialized RX2] : List Cond) ++ (wsX80 ++ (wq_y_htell))
theorem in_y_change_X8 : ∀ w ∈ wsX80, w ∈ wq_y_change := fun _ h => List.mem_append_right _ (List.mem_append_left _ (h))
set_option maxRecDepth 20000 in
theorem wi_y_change : ∀ w ∈ wq_y_change, w ∈ lw_tbl := List.forall_mem_append.mpr ⟨(wix [835, 229, 836, 837, 838, 68] rfl), List.forall_mem_append.mpr ⟨inKX8, wi_y_htell⟩⟩
set_option maxRecDepth 20000 in
theorem wg_y_change : GoodIn wq_y_change wq_y_change := goodIn_sub (fun _ h => h) (by decide +kernel)
set_option maxRecDepth 20000 in
theorem wc_y_change_y_htell_220 : GoodIn wq_y_change (wsV RX8 220 RX2 yX2_tell wq_y_htell) := goodIn_app (goodIn_of _ (by decide +kernel)) (fun w h => ⟨List.mem_append_right _ (List.mem_append_right _ (h)), (wg_y_htell w h).2⟩)
def rm_y_change : Room := { frames := 1, cells := 0, slots := 0, locals := 24 }
set_option maxHeartbeats 4000000 in
set_option maxRecDepth 100000 in
theorem c_y_change (l : Launch) (dC : Nat → ClassId) (dI : Nat → Nat → Nat) (h : Nat) (a : Nat → Nat) (e : Nat) (cI cJ cO cE : ClassId) (L : Nat → Int64) (I : Nat → Int32) (M : Nat → Nat → Int64) (J : Nat → Nat → Int32) (n cap : Nat) (fE : Nat → Option Nat) (sd : Nat → Nat → Nat) (si : Nat → Nat → Int32) (sa : Nat → Nat → Nat → Int32) (dl : Nat → Nat) (b : Nat) (p0 : Int32) (p1 : Int32) (sz : Nat) (hX0 : InvX n cap fE sd dl b I J si) (hb0 : b + 0 < 2147483648)  : Met l yX8_change wq_y_change rm_y_change (va_Pc [.ref h, .int p0, .int p1] (fun U => U.heap.size = sz ∧ va_P (dC, dI) vwCl (xW h a e cI cJ cO cE L I M J n cap fE sd si sa dl) U.heap ∧ va_K (dC, dI) vwCl (xT cI cJ cO cE) U ∧ va_D (fun _ => True) (xW h a e cI cJ cO cE L I M J n cap fE sd si sa dl) ∧ pw_N U)) (va_Qi (fun (r : Int32) (u : Unit) => (r = f_y_change n dl p0 p1 I M)) (fun (u : Unit) (t : State) => va_P (dC, dI) vwCl (xW h a e cI cJ cO cE L I M J n cap fE sd si sa dl) t.heap ∧ va_D (va_A (xW h a e cI cJ cO cE L I M J n cap fE sd si sa dl) sz) (xW h a e cI cJ cO cE L I M J n cap fE sd si sa dl)) (va_A (xW h a e cI cJ cO cE L I M J n cap fE sd si sa dl) sz)) 0 0 (va_A (xW h a e cI cJ cO cE L I M J n cap fE sd si sa dl) sz) := by
  have hn : n ≤ 40 := hX0.1.1
  have hX := hX0
  refine Met.ofW (cc := cX8_change) (maxL := 3) (ret := (some .int)) (by decide) rfl ?_
  intro p e9 s m args below meth c s₁ B hml hv
  obtain ⟨rfl, hsz, hP, hK, hD0, hN⟩ := hv
  have hx := B.exec
  have hb := B.bytes
  have hr := B.returns
  have hts := atoms_spec (ws := wq_y_change) B.pre
  have hown : s.vm.findClass RX8 = some m.cls := findClass_of_methodNamed B.named
  have hlocks := B.notSynchronized
  subst hsz
  have hD := hD0.self (sz := s.heap.size)
  generalize hAe : va_A (xW h a e cI cJ cO cE L I M J n cap fE sd si sa dl) s.heap.size = A at hD ⊢
  have hA : ∀ q : Nat, s.heap.size ≤ q → A q := fun q h => by rw [← hAe]; exact Or.inr h
  have hS : va_S A s.heap s.heap [] := va_S.rf
  have hl := lv_entry ([.ref h, .int p0, .int p1]) (n := 3) (Nat.le_of_ble_eq_true rfl)
  rw [lg_entry_eq]
  generalize (lg_sl ([.ref h, .int p0, .int p1]) ++ List.replicate (3 - (lg_sl ([.ref h, .int p0, .int p1])).length) Slot.unset).toArray = ls at hl ⊢
  have hl : lv_has ls 3 [(0, .ref h), (1, .int p0), (2, .int p1)] := hl
  obtain ⟨RES, hR0⟩ : ∃ R9, R9 = f_y_change n dl p0 p1 I M := ⟨_, rfl⟩
  have hZ9 := hR0
  unfold f_y_change at hZ9
  refine lv_aload_n hx hb dX8_change_0 rfl (lv_at hl 0 rfl) ?_
  refine va_get (D := (dC, dI)) (ci := 9) (v := .ref (a 5)) (C := RX8) (T := TX8) (N := 14) hx hb hts in_y_change_X8 hown hK hP 0 rfl rfl 5 (by decide) (hts (.fieldLink RX8 49 "ServiceTree" "history" "LServiceTree$History;") (by decide +kernel)) (fun _ h9 => h9) rfl dX8_change_1 ?_
  refine lv_iload_n hx hb dX8_change_4 rfl (lv_at hl 1 rfl) ?_
  refine lv_iload_n hx hb dX8_change_5 rfl (lv_at hl 2 rfl) ?_
  have hFc := mw_free hD hS hA
  refine va_calli (va_runV (As := [.int p0, .int p1]) (rest := []) ⟨hx, hb, hml, hown, hts⟩ (c_y_htell l dC dI h a e cI cJ cO cE L I M J n cap fE sd si sa dl (b) p0 p1 s.heap.size hX (by omega) ) (cwV 2 hts wc_y_change_y_htell_220 rfl rfl rfl (by decide +kernel) ⟨Nat.le_of_ble_eq_true rfl, Nat.le_of_ble_eq_true rfl⟩) ⟨fun a9 U g mk q => by obtain ⟨q0, q1, qP, qK, qD, qN⟩ := q; exact ⟨q0, q1, qP, va_K.moved (u := U) (U := U.calling g mk a9) (Vm.Alike.refl U.vm) qK, qD, pw_N.same (u := U) (U := U.calling g mk a9) rfl qN⟩, va_recv hK hP (ci := 3) (q0 := 19) rfl rfl, fun U hU hW => ⟨rfl, by rw [hU], by rw [hU]; exact hP, va_K.moved hW.alike hK, hD.weaken (fun _ _ _ _ => trivial), pw_N.warm hW hN⟩⟩ rfl rfl hl.1 rfl (lv_room (Nat.le_of_ble_eq_true rfl)) dX8_change_6 ⟨Nat.le_of_ble_eq_true rfl, Nat.le_of_ble_eq_true rfl⟩) hS (fun q _ h => hFc q h) hFc (fun r1 u t H1 locs ht hvm hw hB hz1 hk1 hS => ?_)
  replace hP := hB.1
  rw [ht] at hP
  replace hD : va_D A (xW h a e cI cJ cO cE L I M J n cap fE sd si sa dl) := hB.2.weaken (fun _ q _ h9 => hFc q.1 h9)
  clear hB
  generalize H1 = H at hP hS ⊢
  replace hP : va_P (dC, dI) vwCl (xW h a e cI cJ cO cE L I M J n cap fE sd si sa dl) H := hP
  replace hw : r1 = f_y_htell n dl p0 p1 I M := hw
  replace hZ9 := bnd_s hZ9 hw
  exact W.iret (v := r1) hx hb hr (fun t ht hW => ⟨⟨r1, (), rfl, hZ9.symm.trans hR0, by rw [ht]; exact hP, hD⟩, hS.F ht⟩) hS.2.2 dX8_change_9
def f_y_check (n : Nat) (dl : Nat → Nat)  (M : Nat → Nat → Int64) : Int32 := bnd (f_y_leastLacking n dl  M) (fun (r1 : Int32) => if r1 < (0 : Int32) then (bnd (f_y_sus n dl  M) (fun (r3 : Int64) => bnd (f_y_clash n dl r3 M) (fun (r4 : Int32) => if r4 = (0 : Int32) then (((0 : Int32))) else (((1 : Int32)))))) else (bnd (f_y_sus n dl  M) (fun (r6 : Int64) => bnd (f_y_clash n dl r6 M) (fun (r7 : Int32) => if r7 = (0 : Int32) then (((1 : Int32))) else (((2 : Int32)))))))
def wq_y_check : List Cond := ([.code yX8_check cX8_check 2 (some .int), .fieldLink RX8 19 "ServiceTree" "relations" "LServiceTree$Relations;", .methodLink RX8 221 yX8_leastLacking, .instanceMethod yX8_leastLacking, .selects RX8 yX8_leastLacking yX8_leastLacking, .initialized RX8, .methodLink RX8 224 yX8_startingUpOrStopping, .instanceMethod yX8_startingUpOrStopping, .selects RX8 yX8_startingUpOrStopping yX8_startingUpOrStopping, .methodLink RX8 227 yX5_clash, .instanceMethod yX5_clash, .selects RX5 yX5_clash yX5_clash, .initialized RX5] : List Cond) ++ (wsX80 ++ (wq_y_leastLacking ++ (wq_y_sus ++ (wq_y_clash))))
theorem in_y_check_X8 : ∀ w ∈ wsX80, w ∈ wq_y_check := fun _ h => List.mem_append_right _ (List.mem_append_left _ (h))
set_option maxRecDepth 20000 in
theorem wi_y_check : ∀ w ∈ wq_y_check, w ∈ lw_tbl := List.forall_mem_append.mpr ⟨(wix [844, 225, 721, 723, 26, 60, 713, 715, 24, 845, 547, 548, 64] rfl), List.forall_mem_append.mpr ⟨inKX8, List.forall_mem_append.mpr ⟨wi_y_leastLacking, List.forall_mem_append.mpr ⟨wi_y_sus, wi_y_clash⟩⟩⟩⟩
set_option maxRecDepth 20000 in
theorem wg_y_check : GoodIn wq_y_check wq_y_check := goodIn_sub (fun _ h => h) (by decide +kernel)
set_option maxRecDepth 20000 in
theorem wc_y_check_y_leastLacking_221 : GoodIn wq_y_check (wsV RX8 221 RX8 yX8_leastLacking wq_y_leastLacking) := goodIn_app (goodIn_of _ (by decide +kernel)) (fun w h => ⟨List.mem_append_right _ (List.mem_append_right _ (List.mem_append_left _ (h))), (wg_y_leastLacking w h).2⟩)
set_option maxRecDepth 20000 in
theorem wc_y_check_y_sus_224 : GoodIn wq_y_check (wsV RX8 224 RX8 yX8_startingUpOrStopping wq_y_sus) := goodIn_app (goodIn_of _ (by decide +kernel)) (fun w h => ⟨List.mem_append_right _ (List.mem_append_right _ (List.mem_append_right _ (List.mem_append_left _ (h)))), (wg_y_sus w h).2⟩)
set_option maxRecDepth 20000 in
theorem wc_y_check_y_clash_227 : GoodIn wq_y_check (wsV RX8 227 RX5 yX5_clash wq_y_clash) := goodIn_app (goodIn_of _ (by decide +kernel)) (fun w h => ⟨List.mem_append_right _ (List.mem_append_right _ (List.mem_append_right _ (List.mem_append_right _ (h)))), (wg_y_clash w h).2⟩)
def rm_y_check : Room := { frames := 3, cells := 0, slots := 0, locals := 69 }
set_option maxHeartbeats 4000000 in
set_option maxRecDepth 100000 in
theorem c_y_check (l : Launch) (dC : Nat → ClassId) (dI : Nat → Nat → Nat) (h : Nat) (a : Nat → Nat) (e : Nat) (cI cJ cO cE : ClassId) (L : Nat → Int64) (I : Nat → Int32) (M : Nat → Nat → Int64) (J : Nat → Nat → Int32) (n cap : Nat) (fE : Nat → Option Nat) (sd : Nat → Nat → Nat) (si : Nat → Nat → Int32) (sa : Nat → Nat → Nat → Int32) (dl : Nat → Nat) (b : Nat)  (sz : Nat) (hX0 : InvX n cap fE sd dl b I J si) (hb0 : b + 0 < 2147483648)  : Met l yX8_check wq_y_check rm_y_check (va_Pc [.ref h] (fun U => U.heap.size = sz ∧ va_P (dC, dI) vwCl (xW h a e cI cJ cO cE L I M J n cap fE sd si sa dl) U.heap ∧ va_K (dC, dI) vwCl (xT cI cJ cO cE) U ∧ va_D (fun _ => True) (xW h a e cI cJ cO cE L I M J n cap fE sd si sa dl) ∧ pw_N U)) (va_Qi (fun (r : Int32) (u : Unit) => (r = f_y_check n dl  M)) (fun (u : Unit) (t : State) => va_P (dC, dI) vwCl (xW h a e cI cJ cO cE L I M J n cap fE sd si sa dl) t.heap ∧ va_D (va_A (xW h a e cI cJ cO cE L I M J n cap fE sd si sa dl) sz) (xW h a e cI cJ cO cE L I M J n cap fE sd si sa dl)) (va_A (xW h a e cI cJ cO cE L I M J n cap fE sd si sa dl) sz)) 0 0 (va_A (xW h a e cI cJ cO cE L I M J n cap fE sd si sa dl) sz) := by
  have hn : n ≤ 40 := hX0.1.1
  have hX := hX0
  refine Met.ofW (cc := cX8_check) (maxL := 2) (ret := (some .int)) (by decide) rfl ?_
  intro p e9 s m args below meth c s₁ B hml hv
  obtain ⟨rfl, hsz, hP, hK, hD0, hN⟩ := hv
  have hx := B.exec
  have hb := B.bytes
  have hr := B.returns
  have hts := atoms_spec (ws := wq_y_check) B.pre
  have hown : s.vm.findClass RX8 = some m.cls := findClass_of_methodNamed B.named
  have hlocks := B.notSynchronized
  subst hsz
  have hD := hD0.self (sz := s.heap.size)
  generalize hAe : va_A (xW h a e cI cJ cO cE L I M J n cap fE sd si sa dl) s.heap.size = A at hD ⊢
  have hA : ∀ q : Nat, s.heap.size ≤ q → A q := fun q h => by rw [← hAe]; exact Or.inr h
  have hS : va_S A s.heap s.heap [] := va_S.rf
  have hl := lv_entry ([.ref h]) (n := 2) (Nat.le_of_ble_eq_true rfl)
  rw [lg_entry_eq]
  generalize (lg_sl ([.ref h]) ++ List.replicate (2 - (lg_sl ([.ref h])).length) Slot.unset).toArray = ls at hl ⊢
  have hl : lv_has ls 2 [(0, .ref h)] := hl
  obtain ⟨RES, hR0⟩ : ∃ R9, R9 = f_y_check n dl  M := ⟨_, rfl⟩
  have hZ9 := hR0
  unfold f_y_check at hZ9
  refine lv_iconst (v := 0) hx hb dX8_check_0 (by decide) ?_
  refine lv_istore_n (lv' := [(1, .int 0), (0, .ref h)]) hx hb dX8_check_1 rfl hl (by decide) rfl (fun ls hl => ?_)
  refine lv_aload_n hx hb dX8_check_2 rfl (lv_at hl 1 rfl) ?_
  have hFc := mw_free hD hS hA
  refine va_calli (va_runV (As := []) (rest := []) ⟨hx, hb, hml, hown, hts⟩ (c_y_leastLacking l dC dI h a e cI cJ cO cE L I M J n cap fE sd si sa dl (b)  s.heap.size hX (by omega) ) (cwV 0 hts wc_y_check_y_leastLacking_221 rfl rfl rfl (by decide +kernel) ⟨Nat.le_of_ble_eq_true rfl, Nat.le_of_ble_eq_true rfl⟩) ⟨fun a9 U g mk q => by obtain ⟨q0, q1, qP, qK, qD, qN⟩ := q; exact ⟨q0, q1, qP, va_K.moved (u := U) (U := U.calling g mk a9) (Vm.Alike.refl U.vm) qK, qD, pw_N.same (u := U) (U := U.calling g mk a9) rfl qN⟩, va_recv hK hP (ci := 9) (q0 := 0) rfl rfl, fun U hU hW => ⟨rfl, by rw [hU], by rw [hU]; exact hP, va_K.moved hW.alike hK, hD.weaken (fun _ _ _ _ => trivial), pw_N.warm hW hN⟩⟩ rfl rfl hl.1 rfl (lv_room (Nat.le_of_ble_eq_true rfl)) dX8_check_3 ⟨Nat.le_of_ble_eq_true rfl, Nat.le_of_ble_eq_true rfl⟩) hS (fun q _ h => hFc q h) hFc (fun r1 u t H1 locs ht hvm hw hB hz1 hk1 hS => ?_)
  replace hP := hB.1
  rw [ht] at hP
  replace hD : va_D A (xW h a e cI cJ cO cE L I M J n cap fE sd si sa dl) := hB.2.weaken (fun _ q _ h9 => hFc q.1 h9)
  clear hB
  generalize H1 = H at hP hS ⊢
  replace hP : va_P (dC, dI) vwCl (xW h a e cI cJ cO cE L I M J n cap fE sd si sa dl) H := hP
  replace hw : r1 = f_y_leastLacking n dl  M := hw
  replace hZ9 := bnd_s hZ9 hw
  refine lv_if_lt (tgt := 12) hx hb dX8_check_6 (by decide) (fun c2 => ?_) (fun c2 => ?_)
  · replace hZ9 := ite_t hZ9 c2
    refine lv_aload_n hx hb dX8_check_12 rfl (lv_at hl 1 rfl) ?_
    refine va_get (D := (dC, dI)) (ci := 9) (v := .ref (a 1)) (C := RX8) (T := TX8) (N := 14) hx hb hts in_y_check_X8 hown hK hP 0 rfl rfl 1 (by decide) (hts (.fieldLink RX8 19 "ServiceTree" "relations" "LServiceTree$Relations;") (by decide +kernel)) (fun _ h9 => h9) rfl dX8_check_13 ?_
    refine lv_aload_n hx hb dX8_check_16 rfl (lv_at hl 1 rfl) ?_
    have hFc := mw_free hD hS hA
    refine va_calll (va_runV (As := []) (rest := [.ref (a 1)]) ⟨hx, hb, hml, hown, hts⟩ (c_y_sus l dC dI h a e cI cJ cO cE L I M J n cap fE sd si sa dl (b)  H.size hX (by omega) ) (cwV 0 hts wc_y_check_y_sus_224 rfl rfl rfl (by decide +kernel) ⟨Nat.le_of_ble_eq_true rfl, Nat.le_of_ble_eq_true rfl⟩) ⟨fun a9 U g mk q => by obtain ⟨q0, q1, qP, qK, qD, qN⟩ := q; exact ⟨q0, q1, qP, va_K.moved (u := U) (U := U.calling g mk a9) (Vm.Alike.refl U.vm) qK, qD, pw_N.same (u := U) (U := U.calling g mk a9) rfl qN⟩, va_recv hK hP (ci := 9) (q0 := 0) rfl rfl, fun U hU hW => ⟨rfl, by rw [hU], by rw [hU]; exact hP, va_K.moved hW.alike hK, hD.weaken (fun _ _ _ _ => trivial), pw_N.warm hW hN⟩⟩ rfl rfl hl.1 rfl (lv_room (Nat.le_of_ble_eq_true rfl)) dX8_check_17 ⟨Nat.le_of_ble_eq_true rfl, Nat.le_of_ble_eq_true rfl⟩) hS (fun q _ h => hFc q h) hFc (fun r3 u t H1 locs ht hvm hw hB hz1 hk1 hS => ?_)
    replace hP := hB.1
    rw [ht] at hP
    replace hD : va_D A (xW h a e cI cJ cO cE L I M J n cap fE sd si sa dl) := hB.2.weaken (fun _ q _ h9 => hFc q.1 h9)
    clear hB
    generalize H1 = H at hP hS ⊢
    replace hP : va_P (dC, dI) vwCl (xW h a e cI cJ cO cE L I M J n cap fE sd si sa dl) H := hP
    replace hw : r3 = f_y_sus n dl  M := hw
    replace hZ9 := bnd_s hZ9 hw
    have hFc := mw_free hD hS hA
    refine va_calli (va_runV (As := [.long r3]) (rest := []) ⟨hx, hb, hml, hown, hts⟩ (c_y_clash l dC dI h a e cI cJ cO cE L I M J n cap fE sd si sa dl (b) r3 H.size hX (by omega) ) (cwV 1 hts wc_y_check_y_clash_227 rfl rfl rfl (by decide +kernel) ⟨Nat.le_of_ble_eq_true rfl, Nat.le_of_ble_eq_true rfl⟩) ⟨fun a9 U g mk q => by obtain ⟨q0, q1, qP, qK, qD, qN⟩ := q; exact ⟨q0, q1, qP, va_K.moved (u := U) (U := U.calling g mk a9) (Vm.Alike.refl U.vm) qK, qD, pw_N.same (u := U) (U := U.calling g mk a9) rfl qN⟩, va_recv hK hP (ci := 6) (q0 := 2) rfl rfl, fun U hU hW => ⟨rfl, by rw [hU], by rw [hU]; exact hP, va_K.moved hW.alike hK, hD.weaken (fun _ _ _ _ => trivial), pw_N.warm hW hN⟩⟩ rfl rfl hl.1 rfl (lv_room (Nat.le_of_ble_eq_true rfl)) dX8_check_20 ⟨Nat.le_of_ble_eq_true rfl, Nat.le_of_ble_eq_true rfl⟩) hS (fun q _ h => hFc q h) hFc (fun r4 u t H1 locs ht hvm hw hB hz1 hk1 hS => ?_)
    replace hP := hB.1
    rw [ht] at hP
    replace hD : va_D A (xW h a e cI cJ cO cE L I M J n cap fE sd si sa dl) := hB.2.weaken (fun _ q _ h9 => hFc q.1 h9)
    clear hB
    generalize H1 = H at hP hS ⊢
    replace hP : va_P (dC, dI) vwCl (xW h a e cI cJ cO cE L I M J n cap fE sd si sa dl) H := hP
    obtain ⟨hw, hwe⟩ := hw
    replace hw : r4 = f_y_clash n dl r3 M := hw
    replace hZ9 := bnd_s hZ9 hw
    have br4 := hwe
    refine lv_if_eq (tgt := 29) hx hb dX8_check_23 (by decide) (fun c5 => ?_) (fun c5 => ?_)
    · replace hZ9 := ite_t hZ9 c5
      refine lv_iload_n hx hb dX8_check_29 rfl (lv_at hl 0 rfl) ?_
      exact W.iret (v := 0) hx hb hr (fun t ht hW => ⟨⟨0, (), rfl, hZ9.symm.trans hR0, by rw [ht]; exact hP, hD⟩, hS.F ht⟩) hS.2.2 dX8_check_30
    · replace hZ9 := ite_f hZ9 c5
      refine lv_iinc (v := 1) (lv' := [(1, .int 1), (0, .ref h)]) hx hb dX8_check_26 hl (k := 0) rfl (by decide) (by decide) rfl (fun ls hl => ?_)
      refine lv_iload_n hx hb dX8_check_29 rfl (lv_at hl 0 rfl) ?_
      exact W.iret (v := 1) hx hb hr (fun t ht hW => ⟨⟨1, (), rfl, hZ9.symm.trans hR0, by rw [ht]; exact hP, hD⟩, hS.F ht⟩) hS.2.2 dX8_check_30
  · replace hZ9 := ite_f hZ9 c2
    refine lv_iinc (v := 1) (lv' := [(1, .int 1), (0, .ref h)]) hx hb dX8_check_9 hl (k := 0) rfl (by decide) (by decide) rfl (fun ls hl => ?_)
    refine lv_aload_n hx hb dX8_check_12 rfl (lv_at hl 1 rfl) ?_
    refine va_get (D := (dC, dI)) (ci := 9) (v := .ref (a 1)) (C := RX8) (T := TX8) (N := 14) hx hb hts in_y_check_X8 hown hK hP 0 rfl rfl 1 (by decide) (hts (.fieldLink RX8 19 "ServiceTree" "relations" "LServiceTree$Relations;") (by decide +kernel)) (fun _ h9 => h9) rfl dX8_check_13 ?_
    refine lv_aload_n hx hb dX8_check_16 rfl (lv_at hl 1 rfl) ?_
    have hFc := mw_free hD hS hA
    refine va_calll (va_runV (As := []) (rest := [.ref (a 1)]) ⟨hx, hb, hml, hown, hts⟩ (c_y_sus l dC dI h a e cI cJ cO cE L I M J n cap fE sd si sa dl (b)  H.size hX (by omega) ) (cwV 0 hts wc_y_check_y_sus_224 rfl rfl rfl (by decide +kernel) ⟨Nat.le_of_ble_eq_true rfl, Nat.le_of_ble_eq_true rfl⟩) ⟨fun a9 U g mk q => by obtain ⟨q0, q1, qP, qK, qD, qN⟩ := q; exact ⟨q0, q1, qP, va_K.moved (u := U) (U := U.calling g mk a9) (Vm.Alike.refl U.vm) qK, qD, pw_N.same (u := U) (U := U.calling g mk a9) rfl qN⟩, va_recv hK hP (ci := 9) (q0 := 0) rfl rfl, fun U hU hW => ⟨rfl, by rw [hU], by rw [hU]; exact hP, va_K.moved hW.alike hK, hD.weaken (fun _ _ _ _ => trivial), pw_N.warm hW hN⟩⟩ rfl rfl hl.1 rfl (lv_room (Nat.le_of_ble_eq_true rfl)) dX8_check_17 ⟨Nat.le_of_ble_eq_true rfl, Nat.le_of_ble_eq_true rfl⟩) hS (fun q _ h => hFc q h) hFc (fun r6 u t H1 locs ht hvm hw hB hz1 hk1 hS => ?_)
    replace hP := hB.1
    rw [ht] at hP
    replace hD : va_D A (xW h a e cI cJ cO cE L I M J n cap fE sd si sa dl) := hB.2.weaken (fun _ q _ h9 => hFc q.1 h9)
    clear hB
    generalize H1 = H at hP hS ⊢
    replace hP : va_P (dC, dI) vwCl (xW h a e cI cJ cO cE L I M J n cap fE sd si sa dl) H := hP
    replace hw : r6 = f_y_sus n dl  M := hw
    replace hZ9 := bnd_s hZ9 hw
    have hFc := mw_free hD hS hA
    refine va_calli (va_runV (As := [.long r6]) (rest := []) ⟨hx, hb, hml, hown, hts⟩ (c_y_clash l dC dI h a e cI cJ cO cE L I M J n cap fE sd si sa dl (b) r6 H.size hX (by omega) ) (cwV 1 hts wc_y_check_y_clash_227 rfl rfl rfl (by decide +kernel) ⟨Nat.le_of_ble_eq_true rfl, Nat.le_of_ble_eq_true rfl⟩) ⟨fun a9 U g mk q => by obtain ⟨q0, q1, qP, qK, qD, qN⟩ := q; exact ⟨q0, q1, qP, va_K.moved (u := U) (U := U.calling g mk a9) (Vm.Alike.refl U.vm) qK, qD, pw_N.same (u := U) (U := U.calling g mk a9) rfl qN⟩, va_recv hK hP (ci := 6) (q0 := 2) rfl rfl, fun U hU hW => ⟨rfl, by rw [hU], by rw [hU]; exact hP, va_K.moved hW.alike hK, hD.weaken (fun _ _ _ _ => trivial), pw_N.warm hW hN⟩⟩ rfl rfl hl.1 rfl (lv_room (Nat.le_of_ble_eq_true rfl)) dX8_check_20 ⟨Nat.le_of_ble_eq_true rfl, Nat.le_of_ble_eq_true rfl⟩) hS (fun q _ h => hFc q h) hFc (fun r7 u t H1 locs ht hvm hw hB hz1 hk1 hS => ?_)
    replace hP := hB.1
    rw [ht] at hP
    replace hD : va_D A (xW h a e cI cJ cO cE L I M J n cap fE sd si sa dl) := hB.2.weaken (fun _ q _ h9 => hFc q.1 h9)
    clear hB
    generalize H1 = H at hP hS ⊢
    replace hP : va_P (dC, dI) vwCl (xW h a e cI cJ cO cE L I M J n cap fE sd si sa dl) H := hP
    obtain ⟨hw, hwe⟩ := hw
    replace hw : r7 = f_y_clash n dl r6 M := hw
    replace hZ9 := bnd_s hZ9 hw
    have br7 := hwe
    refine lv_if_eq (tgt := 29) hx hb dX8_check_23 (by decide) (fun c8 => ?_) (fun c8 => ?_)
    · replace hZ9 := ite_t hZ9 c8
      refine lv_iload_n hx hb dX8_check_29 rfl (lv_at hl 0 rfl) ?_
      exact W.iret (v := 1) hx hb hr (fun t ht hW => ⟨⟨1, (), rfl, hZ9.symm.trans hR0, by rw [ht]; exact hP, hD⟩, hS.F ht⟩) hS.2.2 dX8_check_30
    · replace hZ9 := ite_f hZ9 c8
      refine lv_iinc (v := 2) (lv' := [(1, .int 2), (0, .ref h)]) hx hb dX8_check_26 hl (k := 0) rfl (by decide) (by decide) rfl (fun ls hl => ?_)
      refine lv_iload_n hx hb dX8_check_29 rfl (lv_at hl 0 rfl) ?_
      exact W.iret (v := 2) hx hb hr (fun t ht hW => ⟨⟨2, (), rfl, hZ9.symm.trans hR0, by rw [ht]; exact hP, hD⟩, hS.F ht⟩) hS.2.2 dX8_check_30

end
section
def wq_s_service2 : List Cond := ([.code yX7_init cX7_init 5 none, .methodLink RX7 3 objectInit, .instanceMethod objectInit, .code objectInit ⟨#[0xb1]⟩ 1 none, .arrayClass .int, .fieldLink RX7 9 "ServiceTree$Service" "lives" "[I", .classLink RX7 15 RX6, .instantiable RX6 6, .initialized RX6, .instanceMethod yX6_init, .fieldLink RX7 18 "ServiceTree$Service" "restarts" "LServiceTree$Restarts;", .fieldLink RX7 22 "ServiceTree$Service" "state" "I", .fieldLink RX7 26 "ServiceTree$Service" "kind" "I", .fieldLink RX7 29 "ServiceTree$Service" "startTicks" "I", .fieldLink RX7 32 "ServiceTree$Service" "stopTicks" "I", .fieldLink RX7 35 "ServiceTree$Service" "since" "I", .classLink RX7 38 RX0, .instantiable RX0 5, .initialized RX0, .methodLink RX7 40 yX0_init, .instanceMethod yX0_init, .fieldLink RX7 43 "ServiceTree$Service" "door" "LServiceTree$Door;"] : List Cond) ++ (wsX00 ++ (wsX60 ++ (wsX70 ++ (wq_s_restarts ++ (wq_s_door0 ++ (wq_s_door20))))))
theorem in_s_service2_X0 : ∀ w ∈ wsX00, w ∈ wq_s_service2 := fun _ h => List.mem_append_right _ (List.mem_append_left _ (h))
theorem in_s_service2_X6 : ∀ w ∈ wsX60, w ∈ wq_s_service2 := fun _ h => List.mem_append_right _ (List.mem_append_right _ (List.mem_append_left _ (h)))
theorem in_s_service2_X7 : ∀ w ∈ wsX70, w ∈ wq_s_service2 := fun _ h => List.mem_append_right _ (List.mem_append_right _ (List.mem_append_right _ (List.mem_append_left _ (h))))
set_option maxRecDepth 20000 in
theorem wi_s_service2 : ∀ w ∈ wq_s_service2, w ∈ lw_tbl := List.forall_mem_append.mpr ⟨(wix [282, 283, 86, 87, 209, 341, 284, 285, 71, 287, 343, 347, 335, 337, 339, 349, 310, 311, 72, 312, 313, 345] rfl), List.forall_mem_append.mpr ⟨inKX0, List.forall_mem_append.mpr ⟨inKX6, List.forall_mem_append.mpr ⟨inKX7, List.forall_mem_append.mpr ⟨wi_s_restarts, List.forall_mem_append.mpr ⟨wi_s_door0, wi_s_door20⟩⟩⟩⟩⟩⟩
set_option maxRecDepth 20000 in
theorem wg_s_service2 : GoodIn wq_s_service2 wq_s_service2 := goodIn_sub (fun _ h => h) (by decide +kernel)
theorem wc_s_service2_s_restarts_17 : GoodIn wq_s_service2 wq_s_restarts := (fun w h => ⟨List.mem_append_right _ (List.mem_append_right _ (List.mem_append_right _ (List.mem_append_right _ (List.mem_append_left _ (h))))), (wg_s_restarts w h).2⟩)
theorem wc_s_service2_s_door0_40 : GoodIn wq_s_service2 wq_s_door0 := (fun w h => ⟨List.mem_append_right _ (List.mem_append_right _ (List.mem_append_right _ (List.mem_append_right _ (List.mem_append_right _ (List.mem_append_left _ (h)))))), (wg_s_door0 w h).2⟩)
theorem wc_s_service2_s_door20_40 : GoodIn wq_s_service2 wq_s_door20 := (fun w h => ⟨List.mem_append_right _ (List.mem_append_right _ (List.mem_append_right _ (List.mem_append_right _ (List.mem_append_right _ (List.mem_append_right _ (h)))))), (wg_s_door20 w h).2⟩)
set_option maxHeartbeats 4000000 in
set_option maxRecDepth 100000 in
theorem c_s_service2 (l : Launch) (dC : Nat → ClassId) (dI : Nat → Nat → Nat) (h0 : Nat) (p0 : Int32) (p1 : Int32) (p2 : Int32) (p3 : Int32) (sz : Nat) : Met l yX7_init wq_s_service2 ({ frames := 2, cells := 5, slots := 49, locals := 49 }) (va_Pc [.ref h0, .int p0, .int p1, .int p2, .int p3] (fun U => U.heap.size = sz ∧ va_P (dC, dI) vwCl [(h0, .inr (8, [.int 0, .int 0, .int 0, .null, .null, .null, .int 0, .int 0, .int 0, .int 0, .int 0, .int 0]))] U.heap ∧ va_K (dC, dI) vwCl [] U ∧ va_D (fun _ => True) [(h0, .inr (8, [.int 0, .int 0, .int 0, .null, .null, .null, .int 0, .int 0, .int 0, .int 0, .int 0, .int 0]))] ∧ pw_N U)) (va_Qv (fun (_ : Unit) => True) (fun (_ : Unit) (t : State) => ∃ (l0 : Nat), ∃ (l1 : Nat), ∃ (t1 : Nat), ∃ (l2 : Nat), ∃ (t2 : Nat), ∃ (k0 : ClassId), ∃ (k1 : ClassId), ∃ (k2 : ClassId), ∃ (dv : Nat), (dv = if p0 = 2 then 20 else 0) ∧ va_P (dC, dI) vwCl [(h0, .inr (8, [.int p0, .int p1, .int p2, .ref l0, .ref l1, .ref l2, .int 0, .int p3, .int 0, .int 0, .int 0, .int 0])), (l0, .inl (k0, 8, .inl (fun _ => 0))), (l1, .inr (7, [.ref t1, .int 0, .int 0, .int 1, .int 0, .int 1])), (t1, .inl (k1, 10, .inl (fun _ => 0))), (l2, .inr (1, [.ref t2, .int 0, .int 0, .int 0, .int (-1)])), (t2, .inl (k2, dv, .inl (fun _ => 0)))] t.heap ∧ va_K (dC, dI) vwCl [(k0, .int), (k1, .int), (k2, .int)] t ∧ va_D (va_A [(h0, .inr (8, [.int 0, .int 0, .int 0, .null, .null, .null, .int 0, .int 0, .int 0, .int 0, .int 0, .int 0]))] sz) [(h0, .inr (8, [.int p0, .int p1, .int p2, .ref l0, .ref l1, .ref l2, .int 0, .int p3, .int 0, .int 0, .int 0, .int 0])), (l0, .inl (k0, 8, .inl (fun _ => 0))), (l1, .inr (7, [.ref t1, .int 0, .int 0, .int 1, .int 0, .int 1])), (t1, .inl (k1, 10, .inl (fun _ => 0))), (l2, .inr (1, [.ref t2, .int 0, .int 0, .int 0, .int (-1)])), (t2, .inl (k2, dv, .inl (fun _ => 0)))]) (va_A [(h0, .inr (8, [.int 0, .int 0, .int 0, .null, .null, .null, .int 0, .int 0, .int 0, .int 0, .int 0, .int 0]))] sz)) 5 49 (va_A [(h0, .inr (8, [.int 0, .int 0, .int 0, .null, .null, .null, .int 0, .int 0, .int 0, .int 0, .int 0, .int 0]))] sz) := by
  refine Met.ofW (cc := cX7_init) (maxL := 5) (ret := none) (by decide) rfl ?_
  intro p e s m args below meth c s₁ B hml hv
  obtain ⟨rfl, hsz, hP, hK, hD0, hN⟩ := hv
  have hx := B.exec
  have hb := B.bytes
  have hr := B.returns
  have hts := atoms_spec (ws := wq_s_service2) B.pre
  have hown : s.vm.findClass RX7 = some m.cls := findClass_of_methodNamed B.named
  have hlocks := B.notSynchronized
  have hin : meth.name = "<init>" := (name_of_methodNamed B.named B.method).1
  subst hsz
  have hD := hD0.self (sz := s.heap.size)
  generalize hAe : va_A [(h0, .inr (8, [.int 0, .int 0, .int 0, .null, .null, .null, .int 0, .int 0, .int 0, .int 0, .int 0, .int 0]))] s.heap.size = A at hD ⊢
  have hA : ∀ q : Nat, s.heap.size ≤ q → A q := fun q h => by rw [← hAe]; exact Or.inr h
  have hS : va_S A s.heap s.heap [] := va_S.rf
  have hP : va_P (dC, dI) vwCl [(h0, .inr (8, [.int 0, .int 0, .int 0, .null, .null, .null, .int 0, .int 0, .int 0, .int 0, .int 0, .int 0]))] s.heap := hP
  have hl := lv_entry ([.ref h0, .int p0, .int p1, .int p2, .int p3]) (n := 5) (Nat.le_of_ble_eq_true rfl)
  rw [lg_entry_eq]
  generalize (lg_sl ([.ref h0, .int p0, .int p1, .int p2, .int p3]) ++ List.replicate (5 - (lg_sl ([.ref h0, .int p0, .int p1, .int p2, .int p3])).length) Slot.unset).toArray = ls at hl ⊢
  have hl : lv_has ls 5 [(0, .ref h0), (1, .int p0), (2, .int p1), (3, .int p2), (4, .int p3)] := hl
  refine lv_aload_n hx hb dX7_init_0 rfl (lv_at hl 0 rfl) ?_
  refine W.objInit hx hb hown (hts (.methodLink RX7 3 objectInit) (by decide +kernel)) (hts (.instanceMethod objectInit) (by decide +kernel)) (hts (.code objectInit ⟨#[0xb1]⟩ 1 none) (by decide +kernel)) rfl (by rw [hml]; exact hl.1) rfl dX7_init_1 (Nat.le_of_ble_eq_true rfl) (Nat.le_of_ble_eq_true rfl) ?_
  refine W.eq (g2 := F0 m 4 ls []) rfl ?_
  refine lv_aload_n hx hb dX7_init_4 rfl (lv_at hl 0 rfl) ?_
  refine lv_bipush (v := 8) hx hb dX7_init_5 (by decide) ?_
  refine va_newa (atype := .int) (ty := .int) (a0 := (8, .inl (fun _ => 0))) (N' := 8) hx hb (hts (.arrayClass .int) (by decide +kernel)) rfl hK hP hD hS hA (fun _ => rfl) (by decide) (by decide) (by decide) (Nat.le_of_ble_eq_true rfl) (Nat.le_of_ble_eq_true rfl) dX7_init_7 (fun q_1 cA_2 H hK hP hD hS => ?_)
  have hK : va_K (dC, dI) vwCl [(cA_2, .int)] s := hK
  replace hP : va_P (dC, dI) vwCl [(h0, .inr (8, [.int 0, .int 0, .int 0, .null, .null, .null, .int 0, .int 0, .int 0, .int 0, .int 0, .int 0])), (q_1, .inl (cA_2, 8, .inl (fun _ => 0)))] H := hP
  replace hD : va_D A [(h0, .inr (8, [.int 0, .int 0, .int 0, .null, .null, .null, .int 0, .int 0, .int 0, .int 0, .int 0, .int 0])), (q_1, .inl (cA_2, 8, .inl (fun _ => 0)))] := hD
  refine W.widen (k := 1) (n := 8) (by omega) (by omega) ?_
  refine va_putF (D := (dC, dI)) (ci := 8) (v := .ref q_1) (ty := .array .int) (C := RX7) (T := TX7) (N := 12) hx hb hts in_s_service2_X7 tyX7 tyX7_ok nmX7 hown hK hP hD hS 0 rfl rfl 3 (by decide) (hts (.fieldLink RX7 9 "ServiceTree$Service" "lives" "[I") (by decide +kernel)) (fun _ h9 => h9) rfl hin rfl (by decide +kernel) rfl rfl (Nat.le_of_ble_eq_true rfl) dX7_init_9 (fun H locs hP hD hS => ?_)
  replace hP : va_P (dC, dI) vwCl [(h0, .inr (8, [.int 0, .int 0, .int 0, .ref q_1, .null, .null, .int 0, .int 0, .int 0, .int 0, .int 0, .int 0])), (q_1, .inl (cA_2, 8, .inl (fun _ => 0)))] H := hP
  replace hD : va_D A [(h0, .inr (8, [.int 0, .int 0, .int 0, .ref q_1, .null, .null, .int 0, .int 0, .int 0, .int 0, .int 0, .int 0])), (q_1, .inl (cA_2, 8, .inl (fun _ => 0)))] := hD
  refine lv_aload_n hx hb dX7_init_12 rfl (lv_at hl 0 rfl) ?_
  refine va_new (ci := 7) (fs := [.null, .int 0, .int 0, .int 0, .int 0, .int 0]) (C := RX6) (T := TX6) (N := 6) hx hb hts in_s_service2_X6 tyX6 tyX6_ok hown (hts (.classLink RX7 15 RX6) (by decide +kernel)) (hts (.instantiable RX6 6) (by decide +kernel)) (hts (.initialized RX6) (by decide +kernel)) hK hP hD hS hA rfl (fun j hj => dfX6 j hj) (Nat.le_of_ble_eq_true rfl) (Nat.le_of_ble_eq_true rfl) dX7_init_13 (fun q_3 H hP hD hS => ?_)
  replace hP : va_P (dC, dI) vwCl [(h0, .inr (8, [.int 0, .int 0, .int 0, .ref q_1, .null, .null, .int 0, .int 0, .int 0, .int 0, .int 0, .int 0])), (q_1, .inl (cA_2, 8, .inl (fun _ => 0))), (q_3, .inr (7, [.null, .int 0, .int 0, .int 0, .int 0, .int 0]))] H := hP
  replace hD : va_D A [(h0, .inr (8, [.int 0, .int 0, .int 0, .ref q_1, .null, .null, .int 0, .int 0, .int 0, .int 0, .int 0, .int 0])), (q_1, .inl (cA_2, 8, .inl (fun _ => 0))), (q_3, .inr (7, [.null, .int 0, .int 0, .int 0, .int 0, .int 0]))] := hD
  refine W.widen (k := 2) (n := 14) (by omega) (by omega) ?_
  refine lv_dup hx hb dX7_init_16 rfl ?_
  have hPc := hP.sub (ws' := [(q_3, .inr (7, [.null, .int 0, .int 0, .int 0, .int 0, .int 0]))]) [2] rfl
  have hDc := hD.sub (ws' := [(q_3, .inr (7, [.null, .int 0, .int 0, .int 0, .int 0, .int 0]))]) [2] (by decide) rfl
  have hKc := hK.sub (tys' := []) [] rfl
  have hFc := va_free (wc := [(q_3, .inr (7, [.null, .int 0, .int 0, .int 0, .int 0, .int 0]))]) hD hS hA [2] rfl
  refine va_callv (va_runIN (As := []) (rest := [.ref q_3, .ref h0]) ⟨hx, hb, hml, hown, hts⟩ (c_s_restarts l dC dI q_3 H.size) ⟨va_cnB 0 hts wc_s_service2_s_restarts_17 rfl rfl rfl (hN (.methodLinkNest RX7 17 yX6_init "ServiceTree") (by decide +kernel)) (hts (.initialized RX6) (by decide +kernel)) (by decide +kernel) ⟨Nat.le_of_ble_eq_true rfl, Nat.le_of_ble_eq_true rfl⟩, rfl, hts (.instanceMethod yX6_init) (by decide +kernel)⟩ ⟨fun a U g mk q => by obtain ⟨q0, q1, qP, qK, qD, qN⟩ := q; exact ⟨q0, q1, qP, va_K.moved (u := U) (U := U.calling g mk a) (Vm.Alike.refl U.vm) qK, qD, pw_N.same (u := U) (U := U.calling g mk a) rfl qN⟩, fun U hU hW => ⟨rfl, by rw [hU], by rw [hU]; exact hPc, va_K.moved hW.alike hKc, hDc.weaken (fun _ _ _ _ => trivial), pw_N.warm hW hN⟩⟩ rfl rfl hl.1 rfl (lv_room (Nat.le_of_ble_eq_true rfl)) dX7_init_17 ⟨Nat.le_of_ble_eq_true rfl, Nat.le_of_ble_eq_true rfl⟩) hS (fun q _ h => hFc q h) hFc (fun u t H1 locs ht hvm hw hB hz1 hk1 hS => ?_)
  obtain ⟨t0_5, k0_6, hP1, hK1, hD1⟩ := hB
  rw [ht] at hP1
  obtain ⟨hP, hD⟩ := va_join (wr := [(h0, .inr (8, [.int 0, .int 0, .int 0, .ref q_1, .null, .null, .int 0, .int 0, .int 0, .int 0, .int 0, .int 0])), (q_1, .inl (cA_2, 8, .inl (fun _ => 0)))]) (w1 := [(q_3, .inr (7, [.ref t0_5, .int 0, .int 0, .int 1, .int 0, .int 1])), (t0_5, .inl (k0_6, 10, .inl (fun _ => 0)))]) hP hD [2] [0, 1] rfl rfl (by decide) (by decide) hk1 hFc hP1 hD1
  generalize H1 = H at hP hS ⊢
  replace hP : va_P (dC, dI) vwCl [(h0, .inr (8, [.int 0, .int 0, .int 0, .ref q_1, .null, .null, .int 0, .int 0, .int 0, .int 0, .int 0, .int 0])), (q_1, .inl (cA_2, 8, .inl (fun _ => 0))), (q_3, .inr (7, [.ref t0_5, .int 0, .int 0, .int 1, .int 0, .int 1])), (t0_5, .inl (k0_6, 10, .inl (fun _ => 0)))] H := hP
  replace hD : va_D A [(h0, .inr (8, [.int 0, .int 0, .int 0, .ref q_1, .null, .null, .int 0, .int 0, .int 0, .int 0, .int 0, .int 0])), (q_1, .inl (cA_2, 8, .inl (fun _ => 0))), (q_3, .inr (7, [.ref t0_5, .int 0, .int 0, .int 1, .int 0, .int 1])), (t0_5, .inl (k0_6, 10, .inl (fun _ => 0)))] := hD
  have hK := hK.app (va_K.moved hvm.symm hK1)
  have hK : va_K (dC, dI) vwCl [(cA_2, .int), (k0_6, .int)] s := hK
  refine W.widen (k := 3) (n := 24) (by omega) (by omega) ?_
  try dsimp only at hw
  refine va_putF (D := (dC, dI)) (ci := 8) (v := .ref q_3) (ty := .object "ServiceTree$Restarts") (C := RX7) (T := TX7) (N := 12) hx hb hts in_s_service2_X7 tyX7 tyX7_ok nmX7 hown hK hP hD hS 0 rfl rfl 4 (by decide) (hts (.fieldLink RX7 18 "ServiceTree$Service" "restarts" "LServiceTree$Restarts;") (by decide +kernel)) (fun _ h9 => h9) rfl hin rfl (by decide +kernel) rfl rfl (Nat.le_of_ble_eq_true rfl) dX7_init_20 (fun H locs hP hD hS => ?_)
  replace hP : va_P (dC, dI) vwCl [(h0, .inr (8, [.int 0, .int 0, .int 0, .ref q_1, .ref q_3, .null, .int 0, .int 0, .int 0, .int 0, .int 0, .int 0])), (q_1, .inl (cA_2, 8, .inl (fun _ => 0))), (q_3, .inr (7, [.ref t0_5, .int 0, .int 0, .int 1, .int 0, .int 1])), (t0_5, .inl (k0_6, 10, .inl (fun _ => 0)))] H := hP
  replace hD : va_D A [(h0, .inr (8, [.int 0, .int 0, .int 0, .ref q_1, .ref q_3, .null, .int 0, .int 0, .int 0, .int 0, .int 0, .int 0])), (q_1, .inl (cA_2, 8, .inl (fun _ => 0))), (q_3, .inr (7, [.ref t0_5, .int 0, .int 0, .int 1, .int 0, .int 1])), (t0_5, .inl (k0_6, 10, .inl (fun _ => 0)))] := hD
  refine lv_aload_n hx hb dX7_init_23 rfl (lv_at hl 0 rfl) ?_
  refine lv_iconst (v := 0) hx hb dX7_init_24 (by decide) ?_
  refine va_put (D := (dC, dI)) (ci := 8) (v := .int 0) (ty := .int) (C := RX7) (T := TX7) (N := 12) hx hb hts in_s_service2_X7 tyX7 tyX7_ok nmX7 hown hK hP hD hS 0 rfl rfl 6 (by decide) (hts (.fieldLink RX7 22 "ServiceTree$Service" "state" "I") (by decide +kernel)) (fun _ h9 => h9) rfl (by decide +kernel) rfl rfl (Nat.le_of_ble_eq_true rfl) dX7_init_25 (fun H locs hP hD hS => ?_)
  replace hP : va_P (dC, dI) vwCl [(h0, .inr (8, [.int 0, .int 0, .int 0, .ref q_1, .ref q_3, .null, .int 0, .int 0, .int 0, .int 0, .int 0, .int 0])), (q_1, .inl (cA_2, 8, .inl (fun _ => 0))), (q_3, .inr (7, [.ref t0_5, .int 0, .int 0, .int 1, .int 0, .int 1])), (t0_5, .inl (k0_6, 10, .inl (fun _ => 0)))] H := hP
  replace hD : va_D A [(h0, .inr (8, [.int 0, .int 0, .int 0, .ref q_1, .ref q_3, .null, .int 0, .int 0, .int 0, .int 0, .int 0, .int 0])), (q_1, .inl (cA_2, 8, .inl (fun _ => 0))), (q_3, .inr (7, [.ref t0_5, .int 0, .int 0, .int 1, .int 0, .int 1])), (t0_5, .inl (k0_6, 10, .inl (fun _ => 0)))] := hD
  refine lv_aload_n hx hb dX7_init_28 rfl (lv_at hl 0 rfl) ?_
  refine lv_iload_n hx hb dX7_init_29 rfl (lv_at hl 1 rfl) ?_
  refine va_putF (D := (dC, dI)) (ci := 8) (v := .int p0) (ty := .int) (C := RX7) (T := TX7) (N := 12) hx hb hts in_s_service2_X7 tyX7 tyX7_ok nmX7 hown hK hP hD hS 0 rfl rfl 0 (by decide) (hts (.fieldLink RX7 26 "ServiceTree$Service" "kind" "I") (by decide +kernel)) (fun _ h9 => h9) rfl hin rfl (by decide +kernel) rfl rfl (Nat.le_of_ble_eq_true rfl) dX7_init_30 (fun H locs hP hD hS => ?_)
  replace hP : va_P (dC, dI) vwCl [(h0, .inr (8, [.int p0, .int 0, .int 0, .ref q_1, .ref q_3, .null, .int 0, .int 0, .int 0, .int 0, .int 0, .int 0])), (q_1, .inl (cA_2, 8, .inl (fun _ => 0))), (q_3, .inr (7, [.ref t0_5, .int 0, .int 0, .int 1, .int 0, .int 1])), (t0_5, .inl (k0_6, 10, .inl (fun _ => 0)))] H := hP
  replace hD : va_D A [(h0, .inr (8, [.int p0, .int 0, .int 0, .ref q_1, .ref q_3, .null, .int 0, .int 0, .int 0, .int 0, .int 0, .int 0])), (q_1, .inl (cA_2, 8, .inl (fun _ => 0))), (q_3, .inr (7, [.ref t0_5, .int 0, .int 0, .int 1, .int 0, .int 1])), (t0_5, .inl (k0_6, 10, .inl (fun _ => 0)))] := hD
  refine lv_aload_n hx hb dX7_init_33 rfl (lv_at hl 0 rfl) ?_
  refine lv_iload_n hx hb dX7_init_34 rfl (lv_at hl 2 rfl) ?_
  refine va_putF (D := (dC, dI)) (ci := 8) (v := .int p1) (ty := .int) (C := RX7) (T := TX7) (N := 12) hx hb hts in_s_service2_X7 tyX7 tyX7_ok nmX7 hown hK hP hD hS 0 rfl rfl 1 (by decide) (hts (.fieldLink RX7 29 "ServiceTree$Service" "startTicks" "I") (by decide +kernel)) (fun _ h9 => h9) rfl hin rfl (by decide +kernel) rfl rfl (Nat.le_of_ble_eq_true rfl) dX7_init_35 (fun H locs hP hD hS => ?_)
  replace hP : va_P (dC, dI) vwCl [(h0, .inr (8, [.int p0, .int p1, .int 0, .ref q_1, .ref q_3, .null, .int 0, .int 0, .int 0, .int 0, .int 0, .int 0])), (q_1, .inl (cA_2, 8, .inl (fun _ => 0))), (q_3, .inr (7, [.ref t0_5, .int 0, .int 0, .int 1, .int 0, .int 1])), (t0_5, .inl (k0_6, 10, .inl (fun _ => 0)))] H := hP
  replace hD : va_D A [(h0, .inr (8, [.int p0, .int p1, .int 0, .ref q_1, .ref q_3, .null, .int 0, .int 0, .int 0, .int 0, .int 0, .int 0])), (q_1, .inl (cA_2, 8, .inl (fun _ => 0))), (q_3, .inr (7, [.ref t0_5, .int 0, .int 0, .int 1, .int 0, .int 1])), (t0_5, .inl (k0_6, 10, .inl (fun _ => 0)))] := hD
  refine lv_aload_n hx hb dX7_init_38 rfl (lv_at hl 0 rfl) ?_
  refine lv_iload_n hx hb dX7_init_39 rfl (lv_at hl 3 rfl) ?_
  refine va_putF (D := (dC, dI)) (ci := 8) (v := .int p2) (ty := .int) (C := RX7) (T := TX7) (N := 12) hx hb hts in_s_service2_X7 tyX7 tyX7_ok nmX7 hown hK hP hD hS 0 rfl rfl 2 (by decide) (hts (.fieldLink RX7 32 "ServiceTree$Service" "stopTicks" "I") (by decide +kernel)) (fun _ h9 => h9) rfl hin rfl (by decide +kernel) rfl rfl (Nat.le_of_ble_eq_true rfl) dX7_init_40 (fun H locs hP hD hS => ?_)
  replace hP : va_P (dC, dI) vwCl [(h0, .inr (8, [.int p0, .int p1, .int p2, .ref q_1, .ref q_3, .null, .int 0, .int 0, .int 0, .int 0, .int 0, .int 0])), (q_1, .inl (cA_2, 8, .inl (fun _ => 0))), (q_3, .inr (7, [.ref t0_5, .int 0, .int 0, .int 1, .int 0, .int 1])), (t0_5, .inl (k0_6, 10, .inl (fun _ => 0)))] H := hP
  replace hD : va_D A [(h0, .inr (8, [.int p0, .int p1, .int p2, .ref q_1, .ref q_3, .null, .int 0, .int 0, .int 0, .int 0, .int 0, .int 0])), (q_1, .inl (cA_2, 8, .inl (fun _ => 0))), (q_3, .inr (7, [.ref t0_5, .int 0, .int 0, .int 1, .int 0, .int 1])), (t0_5, .inl (k0_6, 10, .inl (fun _ => 0)))] := hD
  refine lv_aload_n hx hb dX7_init_43 rfl (lv_at hl 0 rfl) ?_
  refine lv_iload hx hb dX7_init_44 (lv_at hl 4 rfl) ?_
  refine va_put (D := (dC, dI)) (ci := 8) (v := .int p3) (ty := .int) (C := RX7) (T := TX7) (N := 12) hx hb hts in_s_service2_X7 tyX7 tyX7_ok nmX7 hown hK hP hD hS 0 rfl rfl 7 (by decide) (hts (.fieldLink RX7 35 "ServiceTree$Service" "since" "I") (by decide +kernel)) (fun _ h9 => h9) rfl (by decide +kernel) rfl rfl (Nat.le_of_ble_eq_true rfl) dX7_init_46 (fun H locs hP hD hS => ?_)
  replace hP : va_P (dC, dI) vwCl [(h0, .inr (8, [.int p0, .int p1, .int p2, .ref q_1, .ref q_3, .null, .int 0, .int p3, .int 0, .int 0, .int 0, .int 0])), (q_1, .inl (cA_2, 8, .inl (fun _ => 0))), (q_3, .inr (7, [.ref t0_5, .int 0, .int 0, .int 1, .int 0, .int 1])), (t0_5, .inl (k0_6, 10, .inl (fun _ => 0)))] H := hP
  replace hD : va_D A [(h0, .inr (8, [.int p0, .int p1, .int p2, .ref q_1, .ref q_3, .null, .int 0, .int p3, .int 0, .int 0, .int 0, .int 0])), (q_1, .inl (cA_2, 8, .inl (fun _ => 0))), (q_3, .inr (7, [.ref t0_5, .int 0, .int 0, .int 1, .int 0, .int 1])), (t0_5, .inl (k0_6, 10, .inl (fun _ => 0)))] := hD
  refine lv_aload_n hx hb dX7_init_49 rfl (lv_at hl 0 rfl) ?_
  refine va_new (ci := 1) (fs := [.null, .int 0, .int 0, .int 0, .int 0]) (C := RX0) (T := TX0) (N := 5) hx hb hts in_s_service2_X0 tyX0 tyX0_ok hown (hts (.classLink RX7 38 RX0) (by decide +kernel)) (hts (.instantiable RX0 5) (by decide +kernel)) (hts (.initialized RX0) (by decide +kernel)) hK hP hD hS hA rfl (fun j hj => dfX0 j hj) (Nat.le_of_ble_eq_true rfl) (Nat.le_of_ble_eq_true rfl) dX7_init_50 (fun q_7 H hP hD hS => ?_)
  replace hP : va_P (dC, dI) vwCl [(h0, .inr (8, [.int p0, .int p1, .int p2, .ref q_1, .ref q_3, .null, .int 0, .int p3, .int 0, .int 0, .int 0, .int 0])), (q_1, .inl (cA_2, 8, .inl (fun _ => 0))), (q_3, .inr (7, [.ref t0_5, .int 0, .int 0, .int 1, .int 0, .int 1])), (t0_5, .inl (k0_6, 10, .inl (fun _ => 0))), (q_7, .inr (1, [.null, .int 0, .int 0, .int 0, .int 0]))] H := hP
  replace hD : va_D A [(h0, .inr (8, [.int p0, .int p1, .int p2, .ref q_1, .ref q_3, .null, .int 0, .int p3, .int 0, .int 0, .int 0, .int 0])), (q_1, .inl (cA_2, 8, .inl (fun _ => 0))), (q_3, .inr (7, [.ref t0_5, .int 0, .int 0, .int 1, .int 0, .int 1])), (t0_5, .inl (k0_6, 10, .inl (fun _ => 0))), (q_7, .inr (1, [.null, .int 0, .int 0, .int 0, .int 0]))] := hD
  refine W.widen (k := 4) (n := 29) (by omega) (by omega) ?_
  refine lv_dup hx hb dX7_init_53 rfl ?_
  refine lv_iload_n hx hb dX7_init_54 rfl (lv_at hl 1 rfl) ?_
  refine lv_iconst (v := 2) hx hb dX7_init_55 (by decide) ?_
  refine lv_icmp_ne (tgt := 64) hx hb dX7_init_56 (by decide) (fun c_8 => ?_) (fun c_8 => ?_)
  · refine lv_iconst (v := 0) hx hb dX7_init_64 (by decide) ?_
    have hPc := hP.sub (ws' := [(q_7, .inr (1, [.null, .int 0, .int 0, .int 0, .int 0]))]) [4] rfl
    have hDc := hD.sub (ws' := [(q_7, .inr (1, [.null, .int 0, .int 0, .int 0, .int 0]))]) [4] (by decide) rfl
    have hKc := hK.sub (tys' := []) [] rfl
    have hFc := va_free (wc := [(q_7, .inr (1, [.null, .int 0, .int 0, .int 0, .int 0]))]) hD hS hA [4] rfl
    refine va_callv (va_runI (As := [.int 0]) (rest := [.ref q_7, .ref h0]) ⟨hx, hb, hml, hown, hts⟩ (c_s_door0 l dC dI q_7 H.size) (cwI 1 hts wc_s_service2_s_door0_40 rfl rfl rfl (hts (.initialized RX0) (by decide +kernel)) (hts (.methodLink RX7 40 yX0_init) (by decide +kernel)) (hts (.instanceMethod yX0_init) (by decide +kernel)) rfl (by decide +kernel) ⟨Nat.le_of_ble_eq_true rfl, Nat.le_of_ble_eq_true rfl⟩) ⟨fun a U g mk q => by obtain ⟨q0, q1, qP, qK, qD, qN⟩ := q; exact ⟨q0, q1, qP, va_K.moved (u := U) (U := U.calling g mk a) (Vm.Alike.refl U.vm) qK, qD, pw_N.same (u := U) (U := U.calling g mk a) rfl qN⟩, fun U hU hW => ⟨rfl, by rw [hU], by rw [hU]; exact hPc, va_K.moved hW.alike hKc, hDc.weaken (fun _ _ _ _ => trivial), pw_N.warm hW hN⟩⟩ rfl rfl hl.1 rfl (lv_room (Nat.le_of_ble_eq_true rfl)) dX7_init_65 ⟨Nat.le_of_ble_eq_true rfl, Nat.le_of_ble_eq_true rfl⟩) hS (fun q _ h => hFc q h) hFc (fun u t H1 locs ht hvm hw hB hz1 hk1 hS => ?_)
    obtain ⟨t0_10, k0_11, hP1, hK1, hD1⟩ := hB
    rw [ht] at hP1
    obtain ⟨hP, hD⟩ := va_join (wr := [(h0, .inr (8, [.int p0, .int p1, .int p2, .ref q_1, .ref q_3, .null, .int 0, .int p3, .int 0, .int 0, .int 0, .int 0])), (q_1, .inl (cA_2, 8, .inl (fun _ => 0))), (q_3, .inr (7, [.ref t0_5, .int 0, .int 0, .int 1, .int 0, .int 1])), (t0_5, .inl (k0_6, 10, .inl (fun _ => 0)))]) (w1 := [(q_7, .inr (1, [.ref t0_10, .int 0, .int 0, .int 0, .int (-1)])), (t0_10, .inl (k0_11, 0, .inl (fun _ => 0)))]) hP hD [4] [0, 1, 2, 3] rfl rfl (by decide) (by decide) hk1 hFc hP1 hD1
    generalize H1 = H at hP hS ⊢
    replace hP : va_P (dC, dI) vwCl [(h0, .inr (8, [.int p0, .int p1, .int p2, .ref q_1, .ref q_3, .null, .int 0, .int p3, .int 0, .int 0, .int 0, .int 0])), (q_1, .inl (cA_2, 8, .inl (fun _ => 0))), (q_3, .inr (7, [.ref t0_5, .int 0, .int 0, .int 1, .int 0, .int 1])), (t0_5, .inl (k0_6, 10, .inl (fun _ => 0))), (q_7, .inr (1, [.ref t0_10, .int 0, .int 0, .int 0, .int (-1)])), (t0_10, .inl (k0_11, 0, .inl (fun _ => 0)))] H := hP
    replace hD : va_D A [(h0, .inr (8, [.int p0, .int p1, .int p2, .ref q_1, .ref q_3, .null, .int 0, .int p3, .int 0, .int 0, .int 0, .int 0])), (q_1, .inl (cA_2, 8, .inl (fun _ => 0))), (q_3, .inr (7, [.ref t0_5, .int 0, .int 0, .int 1, .int 0, .int 1])), (t0_5, .inl (k0_6, 10, .inl (fun _ => 0))), (q_7, .inr (1, [.ref t0_10, .int 0, .int 0, .int 0, .int (-1)])), (t0_10, .inl (k0_11, 0, .inl (fun _ => 0)))] := hD
    have hK := hK.app (va_K.moved hvm.symm hK1)
    have hK : va_K (dC, dI) vwCl [(cA_2, .int), (k0_6, .int), (k0_11, .int)] s := hK
    refine W.widen (k := 5) (n := 29) (by omega) (by omega) ?_
    try dsimp only at hw
    refine va_putF (D := (dC, dI)) (ci := 8) (v := .ref q_7) (ty := .object "ServiceTree$Door") (C := RX7) (T := TX7) (N := 12) hx hb hts in_s_service2_X7 tyX7 tyX7_ok nmX7 hown hK hP hD hS 0 rfl rfl 5 (by decide) (hts (.fieldLink RX7 43 "ServiceTree$Service" "door" "LServiceTree$Door;") (by decide +kernel)) (fun _ h9 => h9) rfl hin rfl (by decide +kernel) rfl rfl (Nat.le_of_ble_eq_true rfl) dX7_init_68 (fun H locs hP hD hS => ?_)
    replace hP : va_P (dC, dI) vwCl [(h0, .inr (8, [.int p0, .int p1, .int p2, .ref q_1, .ref q_3, .ref q_7, .int 0, .int p3, .int 0, .int 0, .int 0, .int 0])), (q_1, .inl (cA_2, 8, .inl (fun _ => 0))), (q_3, .inr (7, [.ref t0_5, .int 0, .int 0, .int 1, .int 0, .int 1])), (t0_5, .inl (k0_6, 10, .inl (fun _ => 0))), (q_7, .inr (1, [.ref t0_10, .int 0, .int 0, .int 0, .int (-1)])), (t0_10, .inl (k0_11, 0, .inl (fun _ => 0)))] H := hP
    replace hD : va_D A [(h0, .inr (8, [.int p0, .int p1, .int p2, .ref q_1, .ref q_3, .ref q_7, .int 0, .int p3, .int 0, .int 0, .int 0, .int 0])), (q_1, .inl (cA_2, 8, .inl (fun _ => 0))), (q_3, .inr (7, [.ref t0_5, .int 0, .int 0, .int 1, .int 0, .int 1])), (t0_5, .inl (k0_6, 10, .inl (fun _ => 0))), (q_7, .inr (1, [.ref t0_10, .int 0, .int 0, .int 0, .int (-1)])), (t0_10, .inl (k0_11, 0, .inl (fun _ => 0)))] := hD
    have hP9 := hP.sub (ws' := [(h0, .inr (8, [.int p0, .int p1, .int p2, .ref q_1, .ref q_3, .ref q_7, .int 0, .int p3, .int 0, .int 0, .int 0, .int 0])), (q_1, .inl (cA_2, 8, .inl (fun _ => 0))), (q_3, .inr (7, [.ref t0_5, .int 0, .int 0, .int 1, .int 0, .int 1])), (t0_5, .inl (k0_6, 10, .inl (fun _ => 0))), (q_7, .inr (1, [.ref t0_10, .int 0, .int 0, .int 0, .int (-1)])), (t0_10, .inl (k0_11, 0, .inl (fun _ => 0)))]) [0, 1, 2, 3, 4, 5] rfl
    have hD9 := hD.sub (ws' := [(h0, .inr (8, [.int p0, .int p1, .int p2, .ref q_1, .ref q_3, .ref q_7, .int 0, .int p3, .int 0, .int 0, .int 0, .int 0])), (q_1, .inl (cA_2, 8, .inl (fun _ => 0))), (q_3, .inr (7, [.ref t0_5, .int 0, .int 0, .int 1, .int 0, .int 1])), (t0_5, .inl (k0_6, 10, .inl (fun _ => 0))), (q_7, .inr (1, [.ref t0_10, .int 0, .int 0, .int 0, .int (-1)])), (t0_10, .inl (k0_11, 0, .inl (fun _ => 0)))]) [0, 1, 2, 3, 4, 5] (by decide) rfl
    have hK9 := hK.sub (tys' := [(cA_2, .int), (k0_6, .int), (k0_11, .int)]) [0, 1, 2] rfl
    refine W.widen (k := 5) (n := 49) (by omega) (by omega) ?_
    exact W.vret hx hb hr (fun t ht hW => ⟨⟨(), rfl, trivial, q_1, q_3, t0_5, q_7, t0_10, cA_2, k0_6, k0_11, 0, (if_neg c_8).symm, by rw [ht]; exact hP9, va_K.moved hW.alike hK9, hD9⟩, hS.F ht⟩) hS.2.2 dX7_init_71
  · refine lv_bipush (v := 20) hx hb dX7_init_59 (by decide) ?_
    refine lv_goto (tgt := 65) hx hb dX7_init_61 (by decide) ?_
    have hPc := hP.sub (ws' := [(q_7, .inr (1, [.null, .int 0, .int 0, .int 0, .int 0]))]) [4] rfl
    have hDc := hD.sub (ws' := [(q_7, .inr (1, [.null, .int 0, .int 0, .int 0, .int 0]))]) [4] (by decide) rfl
    have hKc := hK.sub (tys' := []) [] rfl
    have hFc := va_free (wc := [(q_7, .inr (1, [.null, .int 0, .int 0, .int 0, .int 0]))]) hD hS hA [4] rfl
    refine va_callv (va_runI (As := [.int 20]) (rest := [.ref q_7, .ref h0]) ⟨hx, hb, hml, hown, hts⟩ (c_s_door20 l dC dI q_7 H.size) (cwI 1 hts wc_s_service2_s_door20_40 rfl rfl rfl (hts (.initialized RX0) (by decide +kernel)) (hts (.methodLink RX7 40 yX0_init) (by decide +kernel)) (hts (.instanceMethod yX0_init) (by decide +kernel)) rfl (by decide +kernel) ⟨Nat.le_of_ble_eq_true rfl, Nat.le_of_ble_eq_true rfl⟩) ⟨fun a U g mk q => by obtain ⟨q0, q1, qP, qK, qD, qN⟩ := q; exact ⟨q0, q1, qP, va_K.moved (u := U) (U := U.calling g mk a) (Vm.Alike.refl U.vm) qK, qD, pw_N.same (u := U) (U := U.calling g mk a) rfl qN⟩, fun U hU hW => ⟨rfl, by rw [hU], by rw [hU]; exact hPc, va_K.moved hW.alike hKc, hDc.weaken (fun _ _ _ _ => trivial), pw_N.warm hW hN⟩⟩ rfl rfl hl.1 rfl (lv_room (Nat.le_of_ble_eq_true rfl)) dX7_init_65 ⟨Nat.le_of_ble_eq_true rfl, Nat.le_of_ble_eq_true rfl⟩) hS (fun q _ h => hFc q h) hFc (fun u t H1 locs ht hvm hw hB hz1 hk1 hS => ?_)
    obtain ⟨t0_13, k0_14, hP1, hK1, hD1⟩ := hB
    rw [ht] at hP1
    obtain ⟨hP, hD⟩ := va_join (wr := [(h0, .inr (8, [.int p0, .int p1, .int p2, .ref q_1, .ref q_3, .null, .int 0, .int p3, .int 0, .int 0, .int 0, .int 0])), (q_1, .inl (cA_2, 8, .inl (fun _ => 0))), (q_3, .inr (7, [.ref t0_5, .int 0, .int 0, .int 1, .int 0, .int 1])), (t0_5, .inl (k0_6, 10, .inl (fun _ => 0)))]) (w1 := [(q_7, .inr (1, [.ref t0_13, .int 0, .int 0, .int 0, .int (-1)])), (t0_13, .inl (k0_14, 20, .inl (fun _ => 0)))]) hP hD [4] [0, 1, 2, 3] rfl rfl (by decide) (by decide) hk1 hFc hP1 hD1
    generalize H1 = H at hP hS ⊢
    replace hP : va_P (dC, dI) vwCl [(h0, .inr (8, [.int p0, .int p1, .int p2, .ref q_1, .ref q_3, .null, .int 0, .int p3, .int 0, .int 0, .int 0, .int 0])), (q_1, .inl (cA_2, 8, .inl (fun _ => 0))), (q_3, .inr (7, [.ref t0_5, .int 0, .int 0, .int 1, .int 0, .int 1])), (t0_5, .inl (k0_6, 10, .inl (fun _ => 0))), (q_7, .inr (1, [.ref t0_13, .int 0, .int 0, .int 0, .int (-1)])), (t0_13, .inl (k0_14, 20, .inl (fun _ => 0)))] H := hP
    replace hD : va_D A [(h0, .inr (8, [.int p0, .int p1, .int p2, .ref q_1, .ref q_3, .null, .int 0, .int p3, .int 0, .int 0, .int 0, .int 0])), (q_1, .inl (cA_2, 8, .inl (fun _ => 0))), (q_3, .inr (7, [.ref t0_5, .int 0, .int 0, .int 1, .int 0, .int 1])), (t0_5, .inl (k0_6, 10, .inl (fun _ => 0))), (q_7, .inr (1, [.ref t0_13, .int 0, .int 0, .int 0, .int (-1)])), (t0_13, .inl (k0_14, 20, .inl (fun _ => 0)))] := hD
    have hK := hK.app (va_K.moved hvm.symm hK1)
    have hK : va_K (dC, dI) vwCl [(cA_2, .int), (k0_6, .int), (k0_14, .int)] s := hK
    refine W.widen (k := 5) (n := 49) (by omega) (by omega) ?_
    try dsimp only at hw
    refine va_putF (D := (dC, dI)) (ci := 8) (v := .ref q_7) (ty := .object "ServiceTree$Door") (C := RX7) (T := TX7) (N := 12) hx hb hts in_s_service2_X7 tyX7 tyX7_ok nmX7 hown hK hP hD hS 0 rfl rfl 5 (by decide) (hts (.fieldLink RX7 43 "ServiceTree$Service" "door" "LServiceTree$Door;") (by decide +kernel)) (fun _ h9 => h9) rfl hin rfl (by decide +kernel) rfl rfl (Nat.le_of_ble_eq_true rfl) dX7_init_68 (fun H locs hP hD hS => ?_)
    replace hP : va_P (dC, dI) vwCl [(h0, .inr (8, [.int p0, .int p1, .int p2, .ref q_1, .ref q_3, .ref q_7, .int 0, .int p3, .int 0, .int 0, .int 0, .int 0])), (q_1, .inl (cA_2, 8, .inl (fun _ => 0))), (q_3, .inr (7, [.ref t0_5, .int 0, .int 0, .int 1, .int 0, .int 1])), (t0_5, .inl (k0_6, 10, .inl (fun _ => 0))), (q_7, .inr (1, [.ref t0_13, .int 0, .int 0, .int 0, .int (-1)])), (t0_13, .inl (k0_14, 20, .inl (fun _ => 0)))] H := hP
    replace hD : va_D A [(h0, .inr (8, [.int p0, .int p1, .int p2, .ref q_1, .ref q_3, .ref q_7, .int 0, .int p3, .int 0, .int 0, .int 0, .int 0])), (q_1, .inl (cA_2, 8, .inl (fun _ => 0))), (q_3, .inr (7, [.ref t0_5, .int 0, .int 0, .int 1, .int 0, .int 1])), (t0_5, .inl (k0_6, 10, .inl (fun _ => 0))), (q_7, .inr (1, [.ref t0_13, .int 0, .int 0, .int 0, .int (-1)])), (t0_13, .inl (k0_14, 20, .inl (fun _ => 0)))] := hD
    have hP9 := hP.sub (ws' := [(h0, .inr (8, [.int p0, .int p1, .int p2, .ref q_1, .ref q_3, .ref q_7, .int 0, .int p3, .int 0, .int 0, .int 0, .int 0])), (q_1, .inl (cA_2, 8, .inl (fun _ => 0))), (q_3, .inr (7, [.ref t0_5, .int 0, .int 0, .int 1, .int 0, .int 1])), (t0_5, .inl (k0_6, 10, .inl (fun _ => 0))), (q_7, .inr (1, [.ref t0_13, .int 0, .int 0, .int 0, .int (-1)])), (t0_13, .inl (k0_14, 20, .inl (fun _ => 0)))]) [0, 1, 2, 3, 4, 5] rfl
    have hD9 := hD.sub (ws' := [(h0, .inr (8, [.int p0, .int p1, .int p2, .ref q_1, .ref q_3, .ref q_7, .int 0, .int p3, .int 0, .int 0, .int 0, .int 0])), (q_1, .inl (cA_2, 8, .inl (fun _ => 0))), (q_3, .inr (7, [.ref t0_5, .int 0, .int 0, .int 1, .int 0, .int 1])), (t0_5, .inl (k0_6, 10, .inl (fun _ => 0))), (q_7, .inr (1, [.ref t0_13, .int 0, .int 0, .int 0, .int (-1)])), (t0_13, .inl (k0_14, 20, .inl (fun _ => 0)))]) [0, 1, 2, 3, 4, 5] (by decide) rfl
    have hK9 := hK.sub (tys' := [(cA_2, .int), (k0_6, .int), (k0_14, .int)]) [0, 1, 2] rfl
    exact W.vret hx hb hr (fun t ht hW => ⟨⟨(), rfl, trivial, q_1, q_3, t0_5, q_7, t0_13, cA_2, k0_6, k0_14, 20, (if_pos c_8).symm, by rw [ht]; exact hP9, va_K.moved hW.alike hK9, hD9⟩, hS.F ht⟩) hS.2.2 dX7_init_71
def wq_y_make : List Cond := ([.code yX8_make cX8_make 6 (some .int), .fieldLink RX8 10 "ServiceTree" "services" "Ljava/util/ArrayList;", .classLink RX8 65 RX7, .instantiable RX7 12, .initialized RX7, .fieldLink RX8 67 "ServiceTree" "now" "I", .methodLink RX8 71 yX7_init, .instanceMethod yX7_init, .fieldLink RX8 53 "ServiceTree" "inState" "[J", .methodLink RX8 61 yJx4a65c_size_8abf5, .instanceMethod yJx4a65c_size_8abf5, .selects RJx4a65c yJx4a65c_size_8abf5 yJx4a65c_size_8abf5, .initialized RJx4a65c, .methodLink RX8 78 yX8_only, .static yX8_only, .initialized RX8, .methodLink RX8 74 yJx4a65c_add_9ea2d, .instanceMethod yJx4a65c_add_9ea2d, .selects RJx4a65c yJx4a65c_add_9ea2d yJx4a65c_add_9ea2d, .methodLink RX8 57 yX8_within, .static yX8_within] : List Cond) ++ (wsX70 ++ (wsX80 ++ (wq_y_size ++ (wq_s_service2 ++ (wq_y_only ++ (wq_l_addC ++ (wq_l_addA ++ (wq_l_addB ++ (wq_y_within)))))))))
theorem in_y_make_X7 : ∀ w ∈ wsX70, w ∈ wq_y_make := fun _ h => List.mem_append_right _ (List.mem_append_left _ (h))
theorem in_y_make_X8 : ∀ w ∈ wsX80, w ∈ wq_y_make := fun _ h => List.mem_append_right _ (List.mem_append_right _ (List.mem_append_left _ (h)))
set_option maxRecDepth 20000 in
theorem wi_y_make : ∀ w ∈ wq_y_make, w ∈ lw_tbl := List.forall_mem_append.mpr ⟨(wix [270, 224, 278, 279, 70, 233, 280, 281, 230, 274, 275, 276, 63, 442, 443, 60, 384, 385, 386, 271, 272] rfl), List.forall_mem_append.mpr ⟨inKX7, List.forall_mem_append.mpr ⟨inKX8, List.forall_mem_append.mpr ⟨wi_y_size, List.forall_mem_append.mpr ⟨wi_s_service2, List.forall_mem_append.mpr ⟨wi_y_only, List.forall_mem_append.mpr ⟨wi_l_addC, List.forall_mem_append.mpr ⟨wi_l_addA, List.forall_mem_append.mpr ⟨wi_l_addB, wi_y_within⟩⟩⟩⟩⟩⟩⟩⟩⟩
set_option maxRecDepth 20000 in
theorem wg_y_make : GoodIn wq_y_make wq_y_make := goodIn_sub (fun _ h => h) (by decide +kernel)
set_option maxRecDepth 20000 in
theorem wc_y_make_y_size_61 : GoodIn wq_y_make (wsV RX8 61 RJx4a65c yJx4a65c_size_8abf5 wq_y_size) := goodIn_app (goodIn_of _ (by decide +kernel)) (fun w h => ⟨List.mem_append_right _ (List.mem_append_right _ (List.mem_append_right _ (List.mem_append_left _ (h)))), (wg_y_size w h).2⟩)
theorem wc_y_make_s_service2_71 : GoodIn wq_y_make wq_s_service2 := (fun w h => ⟨List.mem_append_right _ (List.mem_append_right _ (List.mem_append_right _ (List.mem_append_right _ (List.mem_append_left _ (h))))), (wg_s_service2 w h).2⟩)
set_option maxRecDepth 20000 in
theorem wc_y_make_y_only_78 : GoodIn wq_y_make (va_wsS RX8 78 yX8_only wq_y_only) := goodIn_app (goodIn_of _ (by decide +kernel)) (fun w h => ⟨List.mem_append_right _ (List.mem_append_right _ (List.mem_append_right _ (List.mem_append_right _ (List.mem_append_right _ (List.mem_append_left _ (h)))))), (wg_y_only w h).2⟩)
set_option maxRecDepth 20000 in
theorem wc_y_make_l_addC_74 : GoodIn wq_y_make (wsV RX8 74 RJx4a65c yJx4a65c_add_9ea2d wq_l_addC) := goodIn_app (goodIn_of _ (by decide +kernel)) (fun w h => ⟨List.mem_append_right _ (List.mem_append_right _ (List.mem_append_right _ (List.mem_append_right _ (List.mem_append_right _ (List.mem_append_right _ (List.mem_append_left _ (h))))))), (wg_l_addC w h).2⟩)
set_option maxRecDepth 20000 in
theorem wc_y_make_l_addA_74 : GoodIn wq_y_make (wsV RX8 74 RJx4a65c yJx4a65c_add_9ea2d wq_l_addA) := goodIn_app (goodIn_of _ (by decide +kernel)) (fun w h => ⟨List.mem_append_right _ (List.mem_append_right _ (List.mem_append_right _ (List.mem_append_right _ (List.mem_append_right _ (List.mem_append_right _ (List.mem_append_right _ (List.mem_append_left _ (h)))))))), (wg_l_addA w h).2⟩)
set_option maxRecDepth 20000 in
theorem wc_y_make_l_addB_74 : GoodIn wq_y_make (wsV RX8 74 RJx4a65c yJx4a65c_add_9ea2d wq_l_addB) := goodIn_app (goodIn_of _ (by decide +kernel)) (fun w h => ⟨List.mem_append_right _ (List.mem_append_right _ (List.mem_append_right _ (List.mem_append_right _ (List.mem_append_right _ (List.mem_append_right _ (List.mem_append_right _ (List.mem_append_right _ (List.mem_append_left _ (h))))))))), (wg_l_addB w h).2⟩)
set_option maxRecDepth 20000 in
theorem wc_y_make_y_within_57 : GoodIn wq_y_make (va_wsS RX8 57 yX8_within wq_y_within) := goodIn_app (goodIn_of _ (by decide +kernel)) (fun w h => ⟨List.mem_append_right _ (List.mem_append_right _ (List.mem_append_right _ (List.mem_append_right _ (List.mem_append_right _ (List.mem_append_right _ (List.mem_append_right _ (List.mem_append_right _ (List.mem_append_right _ (h))))))))), (wg_y_within w h).2⟩)
def rm_y_make : Room := { frames := 7, cells := 7, slots := 261, locals := 171 }
set_option maxHeartbeats 8000000 in
set_option maxRecDepth 100000 in
theorem c_y_make (l : Launch) (dC : Nat → ClassId) (dI : Nat → Nat → Nat) (h : Nat) (a : Nat → Nat) (e : Nat) (cI cJ cO cE : ClassId) (L : Nat → Int64) (I : Nat → Int32) (M : Nat → Nat → Int64) (J : Nat → Nat → Int32) (n cap : Nat) (fE : Nat → Option Nat) (sd : Nat → Nat → Nat) (si : Nat → Nat → Int32) (sa : Nat → Nat → Nat → Int32) (dl : Nat → Nat) (b z mi : Nat) (p0 p1 p2 : Int32) (sz : Nat) (hX0 : InvX n cap fE sd dl b I J si) (hb0 : b + 0 < 2147483648) (hz0 : n = 0 → e = z) : Met l yX8_make wq_y_make rm_y_make (va_Pc [.ref h, .int p0, .int p1, .int p2] (fun U => U.heap.size = sz ∧ va_P (dC, dI) vwCl (xW h a e cI cJ cO cE L I M J n cap fE sd si sa dl) U.heap ∧ va_K (dC, dI) vwCl (xT cI cJ cO cE) U ∧ va_D (fun _ => True) (xW h a e cI cJ cO cE L I M J n cap fE sd si sa dl) ∧ pw_N U ∧ va_Z "java/util/ArrayList" "DEFAULTCAPACITY_EMPTY_ELEMENTDATA" "[Ljava/lang/Object;" (.ref z) (va_A (xW h a e cI cJ cO cE L I M J n cap fE sd si sa dl) sz) U U.heap ∧ va_T (.object "java/lang/Object") z 0 (fun _ => .null) (va_A (xW h a e cI cJ cO cE L I M J n cap fE sd si sa dl) sz) U U.heap ∧ va_AO "java/lang/Object" U ∧ va_Mi "[Ljava/lang/Object;" mi U ∧ va_Dc U)) (va_Qi (fun (r : Int32) (u : Nat × Nat × Nat × (Nat → Option Nat) × (Nat → Nat → Nat) × (Nat → Int32) × (Nat → Nat → Int64) × (Nat → Nat → Int32) × (Nat → Nat → Nat → Int32) × (Nat → Nat)) => ((0 ≤ p0 ∧ p0 ≤ 3 ∧ 0 ≤ p1 ∧ p1 ≤ 50 ∧ 0 ≤ p2 ∧ p2 ≤ 50 ∧ (p0 = 3 → p1 ≤ 0 ∧ p2 ≤ 0)) ∧ n < 40 ∧ r = nI n ∧ u.1 = n + 1 ∧ InvX u.1 u.2.2.1 u.2.2.2.1 u.2.2.2.2.1 (u.2.2.2.2.2.2.2.2.2) b (u.2.2.2.2.2.1) J (u.2.2.2.2.2.2.2.1) ∧ (u.2.2.2.2.2.1) = va_up (va_up I 5 (I 5 + 1)) 6 (nI (n + 1)) ∧ (u.2.2.2.2.2.2.2.1) = xsi si n p0 p1 p2 (I 0) ∧ (u.2.2.2.2.2.2.2.2.1) = xsa sa n ∧ (u.2.2.2.2.2.2.2.2.2) = xdl dl n (if p0 = 2 then 20 else 0) ∧ (u.2.2.2.2.2.2.1) = va_up M 9 (vp_updL (M 9) 0 (M 9 0 ||| oL n))) ∨ ((¬ (0 ≤ p0 ∧ p0 ≤ 3 ∧ 0 ≤ p1 ∧ p1 ≤ 50 ∧ 0 ≤ p2 ∧ p2 ≤ 50 ∧ (p0 = 3 → p1 ≤ 0 ∧ p2 ≤ 0)) ∨ n = 40) ∧ r = (if 0 ≤ p0 ∧ p0 ≤ 3 ∧ 0 ≤ p1 ∧ p1 ≤ 50 ∧ 0 ≤ p2 ∧ p2 ≤ 50 ∧ (p0 = 3 → p1 ≤ 0 ∧ p2 ≤ 0) then -6 else -1) ∧ u = (n, e, cap, fE, sd, I, M, si, sa, dl))) (fun (u : Nat × Nat × Nat × (Nat → Option Nat) × (Nat → Nat → Nat) × (Nat → Int32) × (Nat → Nat → Int64) × (Nat → Nat → Int32) × (Nat → Nat → Nat → Int32) × (Nat → Nat)) (t : State) => va_P (dC, dI) vwCl (xW h a u.2.1 cI cJ cO cE L (u.2.2.2.2.2.1) (u.2.2.2.2.2.2.1) J u.1 (u.2.2.1) (u.2.2.2.1) (u.2.2.2.2.1) (u.2.2.2.2.2.2.2.1) (u.2.2.2.2.2.2.2.2.1) (u.2.2.2.2.2.2.2.2.2)) t.heap ∧ va_D (va_A (xW h a e cI cJ cO cE L I M J n cap fE sd si sa dl) sz) (xW h a u.2.1 cI cJ cO cE L (u.2.2.2.2.2.1) (u.2.2.2.2.2.2.1) J u.1 (u.2.2.1) (u.2.2.2.1) (u.2.2.2.2.1) (u.2.2.2.2.2.2.2.1) (u.2.2.2.2.2.2.2.2.1) (u.2.2.2.2.2.2.2.2.2))) (va_A (xW h a e cI cJ cO cE L I M J n cap fE sd si sa dl) sz)) 7 261 (va_A (xW h a e cI cJ cO cE L I M J n cap fE sd si sa dl) sz) := by
  have hn : n ≤ 40 := hX0.1.1
  have hX := hX0
  refine Met.ofW (cc := cX8_make) (maxL := 6) (ret := (some .int)) (by decide) rfl ?_
  intro p e9 s m args below meth c s₁ B hml hv
  obtain ⟨rfl, hsz, hP, hK, hD0, hN, hZ, hT, hO, hMi, hDc0⟩ := hv
  have hx := B.exec
  have hb := B.bytes
  have hr := B.returns
  have hts := atoms_spec (ws := wq_y_make) B.pre
  have hown : s.vm.findClass RX8 = some m.cls := findClass_of_methodNamed B.named
  have hlocks := B.notSynchronized
  subst hsz
  have hD := hD0.self (sz := s.heap.size)
  generalize hAe : va_A (xW h a e cI cJ cO cE L I M J n cap fE sd si sa dl) s.heap.size = A at hD hZ hT ⊢
  have hA : ∀ q : Nat, s.heap.size ≤ q → A q := fun q h => by rw [← hAe]; exact Or.inr h
  have hS : va_S A s.heap s.heap [] := va_S.rf
  have hl := lv_entry ([.ref h, .int p0, .int p1, .int p2]) (n := 6) (Nat.le_of_ble_eq_true rfl)
  rw [lg_entry_eq]
  generalize (lg_sl ([.ref h, .int p0, .int p1, .int p2]) ++ List.replicate (6 - (lg_sl ([.ref h, .int p0, .int p1, .int p2])).length) Slot.unset).toArray = ls at hl ⊢
  have hl : lv_has ls 6 [(0, .ref h), (1, .int p0), (2, .int p1), (3, .int p2)] := hl
  refine mw_Q (fun Q0 hQ => ?_)
  have jn46 : (0 ≤ p0 ∧ p0 ≤ 3 ∧ 0 ≤ p1 ∧ p1 ≤ 50 ∧ 0 ≤ p2 ∧ p2 ≤ 50 ∧ (p0 = 3 → p1 ≤ 0 ∧ p2 ≤ 0)) → ∀ (H : Heap) (locs : List Loc) (ls : Array Slot), va_P (dC, dI) vwCl (xW h a e cI cJ cO cE L I M J n cap fE sd si sa dl) H → va_D A (xW h a e cI cJ cO cE L I M J n cap fE sd si sa dl) → va_S A s.heap H locs → lv_has ls 6 [(0, .ref h), (1, .int p0), (2, .int p1), (3, .int p2)] → W p l e9 (headSpec wq_y_make rm_y_make).room s m ([.ref h, .int p0, .int p1, .int p2] : List Value).toArray below meth c H locs 0 0 Q0 (F0 m 46 ls []) := by
    intro hMK H locs ls hP hD hS hl
    refine lv_aload_n hx hb dX8_make_46 rfl (lv_at hl 0 rfl) ?_
    refine va_get (D := (dC, dI)) (ci := 9) (v := .ref (a 0)) (C := RX8) (T := TX8) (N := 14) hx hb hts in_y_make_X8 hown hK hP 0 rfl rfl 0 (by decide) (hts (.fieldLink RX8 10 "ServiceTree" "services" "Ljava/util/ArrayList;") (by decide +kernel)) (fun _ h9 => h9) rfl dX8_make_47 ?_
    have hFc := mw_free hD hS hA
    refine va_calli (va_runV (As := []) (rest := []) ⟨hx, hb, hml, hown, hts⟩ (c_y_size l dC dI h a e cI cJ cO cE L I M J n cap fE sd si sa dl (b)  H.size hX (by omega) ) (cwV 0 hts wc_y_make_y_size_61 rfl rfl rfl (by decide +kernel) ⟨Nat.le_of_ble_eq_true rfl, Nat.le_of_ble_eq_true rfl⟩) ⟨fun a9 U g mk q => by obtain ⟨q0, q1, qP, qK, qD, qN⟩ := q; exact ⟨q0, q1, qP, va_K.moved (u := U) (U := U.calling g mk a9) (Vm.Alike.refl U.vm) qK, qD, pw_N.same (u := U) (U := U.calling g mk a9) rfl qN⟩, va_recv hK hP (ci := 0) (q0 := 1) rfl rfl, fun U hU hW => ⟨rfl, by rw [hU], by rw [hU]; exact hP, va_K.moved hW.alike hK, hD.weaken (fun _ _ _ _ => trivial), pw_N.warm hW hN⟩⟩ rfl rfl hl.1 rfl (lv_room (Nat.le_of_ble_eq_true rfl)) dX8_make_50 ⟨Nat.le_of_ble_eq_true rfl, Nat.le_of_ble_eq_true rfl⟩) hS (fun q _ h => hFc q h) hFc (fun r1 u t H1 locs ht hvm hw hB hz1 hk1 hS => ?_)
    replace hP := hB.1
    rw [ht] at hP
    replace hD : va_D A (xW h a e cI cJ cO cE L I M J n cap fE sd si sa dl) := hB.2.weaken (fun _ q _ h9 => hFc q.1 h9)
    clear hB
    generalize H1 = H at hP hS ⊢
    replace hP : va_P (dC, dI) vwCl (xW h a e cI cJ cO cE L I M J n cap fE sd si sa dl) H := hP
    obtain rfl : r1 = nI n := hw
    refine lv_istore (lv' := [(5, .int (nI n)), (0, .ref h), (1, .int p0), (2, .int p1), (3, .int p2)]) hx hb dX8_make_53 hl (by decide) rfl (fun ls hl => ?_)
    refine lv_iload hx hb dX8_make_55 (lv_at hl 0 rfl) ?_
    refine lv_bipush (v := 40) hx hb dX8_make_57 (by decide) ?_
    refine lv_icmp_lt (tgt := 65) hx hb dX8_make_59 (by decide) (fun c2 => ?_) (fun c2 => ?_)
    · replace c2 : n < 40 := (nI_ltI (a := n) (b := 40) (by omega) (by omega)).mp c2
      skip
      have h40 : n < 40 := by omega
      refine lv_aload_n hx hb dX8_make_65 rfl (lv_at hl 1 rfl) ?_
      refine va_get (D := (dC, dI)) (ci := 9) (v := .ref (a 0)) (C := RX8) (T := TX8) (N := 14) hx hb hts in_y_make_X8 hown hK hP 0 rfl rfl 0 (by decide) (hts (.fieldLink RX8 10 "ServiceTree" "services" "Ljava/util/ArrayList;") (by decide +kernel)) (fun _ h9 => h9) rfl dX8_make_66 ?_
      refine va_new (ci := 8) (fs := [.int 0, .int 0, .int 0, .null, .null, .null, .int 0, .int 0, .int 0, .int 0, .int 0, .int 0]) (C := RX7) (T := TX7) (N := 12) hx hb hts in_y_make_X7 tyX7 tyX7_ok hown (hts (.classLink RX8 65 RX7) (by decide +kernel)) (hts (.instantiable RX7 12) (by decide +kernel)) (hts (.initialized RX7) (by decide +kernel)) hK hP hD hS hA rfl (fun j hj => dfX7 j hj) (Nat.le_of_ble_eq_true rfl) (Nat.le_of_ble_eq_true rfl) dX8_make_69 (fun q H hP hD hS => ?_)
      refine W.widen (k := 1) (n := 12) (by omega) (by omega) ?_
      refine lv_dup hx hb dX8_make_72 rfl ?_
      refine lv_iload_n hx hb dX8_make_73 rfl (lv_at hl 2 rfl) ?_
      refine lv_iload_n hx hb dX8_make_74 rfl (lv_at hl 3 rfl) ?_
      refine lv_iload_n hx hb dX8_make_75 rfl (lv_at hl 4 rfl) ?_
      refine lv_aload_n hx hb dX8_make_76 rfl (lv_at hl 1 rfl) ?_
      refine va_get (D := (dC, dI)) (ci := 9) (v := .int (I 0)) (C := RX8) (T := TX8) (N := 14) hx hb hts in_y_make_X8 hown hK hP 0 rfl rfl 9 (by decide) (hts (.fieldLink RX8 67 "ServiceTree" "now" "I") (by decide +kernel)) (fun _ h9 => h9) rfl dX8_make_77 ?_
      have hPc := xq_right hP
      have hDc := xd_right hD
      have hKc := hK.sub (tys' := []) [] rfl
      have hFc := xj_free hD hS hA
      refine va_callv (va_runI (As := [.int p0, .int p1, .int p2, .int (I 0)]) (rest := [.ref q, .ref (a 0)]) ⟨hx, hb, hml, hown, hts⟩ (c_s_service2 l dC dI q p0 p1 p2 (I 0) H.size) (cwI 4 hts wc_y_make_s_service2_71 rfl rfl rfl (hts (.initialized RX7) (by decide +kernel)) (hts (.methodLink RX8 71 yX7_init) (by decide +kernel)) (hts (.instanceMethod yX7_init) (by decide +kernel)) rfl (by decide +kernel) ⟨Nat.le_of_ble_eq_true rfl, Nat.le_of_ble_eq_true rfl⟩) ⟨fun a9 U g9 mk q => by obtain ⟨q0, q1, qP, qK, qD, qN⟩ := q; exact ⟨q0, q1, qP, va_K.moved (u := U) (U := U.calling g9 mk a9) (Vm.Alike.refl U.vm) qK, qD, pw_N.same (u := U) (U := U.calling g9 mk a9) rfl qN⟩, fun U hU hW => ⟨rfl, by rw [hU], by rw [hU]; exact hPc, va_K.moved hW.alike hKc, hDc.weaken (fun _ _ _ _ => trivial), pw_N.warm hW hN⟩⟩ rfl rfl hl.1 rfl (lv_room (Nat.le_of_ble_eq_true rfl)) dX8_make_80 ⟨Nat.le_of_ble_eq_true rfl, Nat.le_of_ble_eq_true rfl⟩) hS (fun q _ h => hFc q h) hFc (fun u t H1 locs ht hvm hw hB hz1 hk1 hS => ?_)
      obtain ⟨l0, l1, t1, l2, t2, k0, k1, k2, dv, hdv, hP1, hK1, hD1⟩ := hB
      rw [ht] at hP1
      obtain ⟨hP, hD⟩ := xj_join hP hD hk1 hFc hP1 hD1
      generalize H1 = H at hP hS ⊢
      have hK2 := hK.app (va_K.moved hvm.symm hK1)
      replace hK2 : va_K (dC, dI) vwCl [(cI, .int), (cJ, .long), (cO, .array .long), (cE, .object "java/lang/Object"), (k0, .int), (k1, .int), (k2, .int)] s := hK2
      rw [show k0 = cI from xK_int hK2 (k1 := 4) (k2 := 0) rfl rfl, show k1 = cI from xK_int hK2 (k1 := 5) (k2 := 0) rfl rfl, show k2 = cI from xK_int hK2 (k1 := 6) (k2 := 0) rfl rfl] at hP hD
      clear hK2 hK1 hP1 hD1 hPc hDc hKc hFc
      refine W.widen (k := 6) (n := 61) (by omega) (by omega) ?_
      obtain ⟨w9, hw9⟩ : ∃ w9 : Int32, w9 = I 0 := ⟨_, rfl⟩
      rw [← hw9] at hP hD
      rw [xW_eq] at hP hD
      replace hP := xq_perm (xp_1 (h, .inr (9, [.ref (a 0), .ref (a 1), .ref (a 2), .ref (a 3), .ref (a 4), .ref (a 5), .ref (a 6), .long (L 0), .long (L 1), .int (I 0), .int (I 1), .int (I 2), .int (I 3), .int (I 4)])) (a 0, .inr (0, [.int (I 5), .ref e, .int (I 6)])) (q, .inr (8, [.int p0, .int p1, .int p2, .ref l0, .ref l1, .ref l2, .int 0, .int w9, .int 0, .int 0, .int 0, .int 0])) (xF2 a cI cJ cO L I M J) ((List.range (6 * n)).map (xP cI sd si sa dl)) (xE n e cap cE fE) [(l0, .inl (cI, 8, .inl (fun _ => 0))), (l1, .inr (7, [.ref t1, .int 0, .int 0, .int 1, .int 0, .int 1])), (t1, .inl (cI, 10, .inl (fun _ => 0))), (l2, .inr (1, [.ref t2, .int 0, .int 0, .int 0, .int (-1)])), (t2, .inl (cI, dv, .inl (fun _ => 0)))]) hP
      replace hD := xd_perm (xp_1 (h, .inr (9, [.ref (a 0), .ref (a 1), .ref (a 2), .ref (a 3), .ref (a 4), .ref (a 5), .ref (a 6), .long (L 0), .long (L 1), .int (I 0), .int (I 1), .int (I 2), .int (I 3), .int (I 4)])) (a 0, .inr (0, [.int (I 5), .ref e, .int (I 6)])) (q, .inr (8, [.int p0, .int p1, .int p2, .ref l0, .ref l1, .ref l2, .int 0, .int w9, .int 0, .int 0, .int 0, .int 0])) (xF2 a cI cJ cO L I M J) ((List.range (6 * n)).map (xP cI sd si sa dl)) (xE n e cap cE fE) [(l0, .inl (cI, 8, .inl (fun _ => 0))), (l1, .inr (7, [.ref t1, .int 0, .int 0, .int 1, .int 0, .int 1])), (t1, .inl (cI, 10, .inl (fun _ => 0))), (l2, .inr (1, [.ref t2, .int 0, .int 0, .int 0, .int (-1)])), (t2, .inl (cI, dv, .inl (fun _ => 0)))]) hD
      obtain ⟨X, hXd⟩ : ∃ X : va_W, X = ((h, .inr (9, [.ref (a 0), .ref (a 1), .ref (a 2), .ref (a 3), .ref (a 4), .ref (a 5), .ref (a 6), .long (L 0), .long (L 1), .int (I 0), .int (I 1), .int (I 2), .int (I 3), .int (I 4)])) :: (xF2 a cI cJ cO L I M J ++ (List.range (6 * n)).map (xP cI sd si sa dl))) ++ [(l0, .inl (cI, 8, .inl (fun _ => 0))), (l1, .inr (7, [.ref t1, .int 0, .int 0, .int 1, .int 0, .int 1])), (t1, .inl (cI, 10, .inl (fun _ => 0))), (l2, .inr (1, [.ref t2, .int 0, .int 0, .int 0, .int (-1)])), (t2, .inl (cI, dv, .inl (fun _ => 0)))] := ⟨_, rfl⟩
      rw [← hXd] at hP hD
      rw [hX.1.2.2.2.1] at hP hD
      have jn86 : ∀ (e1 n1 N1 : Nat) (g1 : Nat → Option Nat) (sd1 : Nat → Nat → Nat) (I1 : Nat → Int32) (si1 : Nat → Nat → Int32) (sa1 : Nat → Nat → Nat → Int32) (dl1 : Nat → Nat) (H : Heap) (locs : List Loc), (n1 = n + 1 ∧ InvX n1 N1 g1 sd1 dl1 b I1 J si1 ∧ I1 = va_up (va_up I 5 (I 5 + 1)) 6 (nI (n + 1)) ∧ si1 = xsi si n p0 p1 p2 (I 0) ∧ sa1 = xsa sa n ∧ dl1 = xdl dl n (if p0 = 2 then 20 else 0)) → va_P (dC, dI) vwCl (xW h a e1 cI cJ cO cE L I1 M J n1 N1 g1 sd1 si1 sa1 dl1) H → va_D A (xW h a e1 cI cJ cO cE L I1 M J n1 N1 g1 sd1 si1 sa1 dl1) → va_S A s.heap H locs → W p l e9 (headSpec wq_y_make rm_y_make).room s m ([.ref h, .int p0, .int p1, .int p2] : List Value).toArray below meth c H locs 7 261 Q0 (F0 m 86 ls [.int 1]) := by
        intro e1 n1 N1 g1 sd1 I1 si1 sa1 dl1 H locs hPF hP hD hS
        have hX := hPF.2.1
        refine lv_pop hx hb dX8_make_86 rfl ?_
        refine lv_aload_n hx hb dX8_make_87 rfl (lv_at hl 1 rfl) ?_
        refine va_get (D := (dC, dI)) (ci := 9) (v := .ref (a 6)) (C := RX8) (T := TX8) (N := 14) hx hb hts in_y_make_X8 hown hK hP 0 rfl rfl 6 (by decide) (hts (.fieldLink RX8 53 "ServiceTree" "inState" "[J") (by decide +kernel)) (fun _ h9 => h9) rfl dX8_make_88 ?_
        refine lv_iconst (v := 0) hx hb dX8_make_91 (by decide) ?_
        refine lv_dup2_11 hx hb dX8_make_92 rfl rfl ?_
        refine va_lald (n := 6) (f := M 9) hx hb hK hP 21 1 rfl rfl (vp_in_nI (n := 0) (by omega) (by omega)) dX8_make_93 ?_
        refine lv_topl (fun x3 ex3 => ?_)
        skip
        refine lv_iload hx hb dX8_make_94 (lv_at hl 0 rfl) ?_
        have hFc := mw_free hD hS hA
        refine va_calll (va_runS (As := [.int (nI n)]) (rest := [.long x3, .int 0, .ref (a 6)]) ⟨hx, hb, hml, hown, hts⟩ (c_y_only l dC dI h a e1 cI cJ cO cE L I1 M J n1 N1 g1 sd1 si1 sa1 dl1 (b) n H.size hX (by omega) ) (va_cwS 1 hts wc_y_make_y_only_78 rfl rfl rfl (by decide +kernel) ⟨Nat.le_of_ble_eq_true rfl, Nat.le_of_ble_eq_true rfl⟩) ⟨fun a9 U g mk q => by obtain ⟨q0, q1, qP, qK, qD, qN⟩ := q; exact ⟨q0, q1, qP, va_K.moved (u := U) (U := U.calling g mk a9) (Vm.Alike.refl U.vm) qK, qD, pw_N.same (u := U) (U := U.calling g mk a9) rfl qN⟩, fun U hU hW => ⟨rfl, by rw [hU], by rw [hU]; exact hP, va_K.moved hW.alike hK, hD.weaken (fun _ _ _ _ => trivial), pw_N.warm hW hN⟩⟩ rfl rfl hl.1 rfl (lv_room (Nat.le_of_ble_eq_true rfl)) dX8_make_96 ⟨Nat.le_of_ble_eq_true rfl, Nat.le_of_ble_eq_true rfl⟩) hS (fun q _ h => hFc q h) hFc (fun r4 u t H1 locs ht hvm hw hB hz1 hk1 hS => ?_)
        replace hP := hB.1
        rw [ht] at hP
        replace hD : va_D A (xW h a e1 cI cJ cO cE L I1 M J n1 N1 g1 sd1 si1 sa1 dl1) := hB.2.weaken (fun _ q _ h9 => hFc q.1 h9)
        clear hB
        generalize H1 = H at hP hS ⊢
        replace hP : va_P (dC, dI) vwCl (xW h a e1 cI cJ cO cE L I1 M J n1 N1 g1 sd1 si1 sa1 dl1) H := hP
        replace hw : r4 = f_y_only n dl n  := hw
        skip
        refine lv_lor hx hb dX8_make_99 ?_
        refine lv_topl (fun x5 ex5 => ?_)
        skip
        refine va_last (n := 6) (f := M 9) hx hb hK hP hD hS 21 1 rfl rfl (vp_in_nI (n := 0) (by omega) (by omega)) dX8_make_100 (fun H locs hP hD hS => ?_)
        rw [xM_9] at hP hD
        obtain ⟨M6, eM6⟩ : ∃ f9 : Nat → Nat → Int64, f9 = va_up M 9 (vp_updL (M 9) (0 : Int32).toNatClampNeg x5) := ⟨_, rfl⟩
        rw [← eM6] at hP hD
        skip
        refine lv_iload hx hb dX8_make_101 (lv_at hl 0 rfl) ?_
        rw [hQ]
        exact W.iret (v := (nI n)) hx hb hr (fun t ht hW => ⟨⟨(nI n), (n1, e1, N1, g1, sd1, I1, M6, si1, sa1, dl1), rfl, Or.inl ⟨hMK, h40, rfl, hPF.1, hPF.2.1, hPF.2.2.1, hPF.2.2.2.1, hPF.2.2.2.2.1, hPF.2.2.2.2.2, (by show M6 = _; rw [eM6, ex5, ex3, hw, xl_0]; rfl)⟩, by rw [ht]; exact hP, hD⟩, hS.F ht⟩) hS.2.2 dX8_make_103
      have jn85 : ∀ (e1 N : Nat) (g : Nat → Option Nat) (H : Heap) (locs : List Loc), (n < N ∧ N < 100) → ((∀ i : Nat, i < n → g i = fE i) ∧ g n = some q) → va_P (dC, dI) vwCl (X ++ [(a 0, .inr (0, [.int (I 5 + 1), .ref e1, .int (nI (n + 1))])), (e1, .inl (cE, N, .inr (.inr (.inr (.inr g))))), (q, .inr (8, [.int p0, .int p1, .int p2, .ref l0, .ref l1, .ref l2, .int 0, .int w9, .int 0, .int 0, .int 0, .int 0]))]) H → va_D A (X ++ [(a 0, .inr (0, [.int (I 5 + 1), .ref e1, .int (nI (n + 1))])), (e1, .inl (cE, N, .inr (.inr (.inr (.inr g))))), (q, .inr (8, [.int p0, .int p1, .int p2, .ref l0, .ref l1, .ref l2, .int 0, .int w9, .int 0, .int 0, .int 0, .int 0]))]) → va_S A s.heap H locs → W p l e9 (headSpec wq_y_make rm_y_make).room s m ([.ref h, .int p0, .int p1, .int p2] : List Value).toArray below meth c H locs 7 261 Q0 (F0 m 86 ls [.int 1]) := by
        intro e1 N g H locs hN2 hg hP hD hS
        rw [hXd] at hP hD
        replace hP := xq_perm (xp_2 (h, .inr (9, [.ref (a 0), .ref (a 1), .ref (a 2), .ref (a 3), .ref (a 4), .ref (a 5), .ref (a 6), .long (L 0), .long (L 1), .int (I 0), .int (I 1), .int (I 2), .int (I 3), .int (I 4)])) (a 0, .inr (0, [.int (I 5 + 1), .ref e1, .int (nI (n + 1))])) (e1, .inl (cE, N, .inr (.inr (.inr (.inr g))))) (q, .inr (8, [.int p0, .int p1, .int p2, .ref l0, .ref l1, .ref l2, .int 0, .int w9, .int 0, .int 0, .int 0, .int 0])) (xF2 a cI cJ cO L I M J) ((List.range (6 * n)).map (xP cI sd si sa dl)) [(l0, .inl (cI, 8, .inl (fun _ => 0))), (l1, .inr (7, [.ref t1, .int 0, .int 0, .int 1, .int 0, .int 1])), (t1, .inl (cI, 10, .inl (fun _ => 0))), (l2, .inr (1, [.ref t2, .int 0, .int 0, .int 0, .int (-1)])), (t2, .inl (cI, dv, .inl (fun _ => 0)))]) hP
        replace hD := xd_perm (xp_2 (h, .inr (9, [.ref (a 0), .ref (a 1), .ref (a 2), .ref (a 3), .ref (a 4), .ref (a 5), .ref (a 6), .long (L 0), .long (L 1), .int (I 0), .int (I 1), .int (I 2), .int (I 3), .int (I 4)])) (a 0, .inr (0, [.int (I 5 + 1), .ref e1, .int (nI (n + 1))])) (e1, .inl (cE, N, .inr (.inr (.inr (.inr g))))) (q, .inr (8, [.int p0, .int p1, .int p2, .ref l0, .ref l1, .ref l2, .int 0, .int w9, .int 0, .int 0, .int 0, .int 0])) (xF2 a cI cJ cO L I M J) ((List.range (6 * n)).map (xP cI sd si sa dl)) [(l0, .inl (cI, 8, .inl (fun _ => 0))), (l1, .inr (7, [.ref t1, .int 0, .int 0, .int 1, .int 0, .int 1])), (t1, .inl (cI, 10, .inl (fun _ => 0))), (l2, .inr (1, [.ref t2, .int 0, .int 0, .int 0, .int (-1)])), (t2, .inl (cI, dv, .inl (fun _ => 0)))]) hD
        rw [xW_add h a e cI cJ cO cE L I M J n cap fE sd si sa dl] at hP hD
        exact jn86 e1 (n + 1) N g _ _ _ _ _ H locs ⟨rfl, xInv_add hX h40 hN2 hg (by rw [hdv]; split <;> simp), rfl, by rw [hw9], rfl, by rw [hdv]⟩ hP hD hS
      rcases Nat.eq_zero_or_pos n with hn0 | hn0
      · rw [show xE n e cap cE fE = [] from if_pos hn0, hz0 hn0, hn0] at hP hD
        replace hP : va_P (dC, dI) vwCl (X ++ [(a 0, .inr (0, [.int (I 5), .ref z, .int 0])), (q, .inr (8, [.int p0, .int p1, .int p2, .ref l0, .ref l1, .ref l2, .int 0, .int w9, .int 0, .int 0, .int 0, .int 0]))]) H := hP
        replace hD : va_D A (X ++ [(a 0, .inr (0, [.int (I 5), .ref z, .int 0])), (q, .inr (8, [.int p0, .int p1, .int p2, .ref l0, .ref l1, .ref l2, .int 0, .int w9, .int 0, .int 0, .int 0, .int 0]))]) := hD
        have hPc := xq_right hP
        have hDc := xd_right hD
        have hKc := hK.sub (tys' := []) [] rfl
        have hFc := xj_free hD hS hA
        refine va_calli (va_runV (As := [.ref q]) (rest := []) ⟨hx, hb, hml, hown, hts⟩ (c_l_addC l dC dI (a 0) (I 5) z fE q [.int p0, .int p1, .int p2, .ref l0, .ref l1, .ref l2, .int 0, .int w9, .int 0, .int 0, .int 0, .int 0] H.size) (cwV 1 hts wc_y_make_l_addC_74 rfl rfl rfl (by decide +kernel) ⟨Nat.le_of_ble_eq_true rfl, Nat.le_of_ble_eq_true rfl⟩) ⟨fun a9 U g9 mk q => by obtain ⟨q0, q1, qP, qK, qD, qN, qZ, qT, qO⟩ := q; exact ⟨q0, q1, qP, va_K.moved (u := U) (U := U.calling g9 mk a9) (Vm.Alike.refl U.vm) qK, qD, pw_N.same (u := U) (U := U.calling g9 mk a9) rfl qN, va_Z.moved (u := U) (U := U.calling g9 mk a9) (Vm.Alike.refl U.vm) qZ, va_T.moved (u := U) (U := U.calling g9 mk a9) (Vm.Alike.refl U.vm) qT, va_AO.moved (u := U) (U := U.calling g9 mk a9) (Vm.Alike.refl U.vm) qO⟩, va_recv hKc hPc (ci := 0) (q0 := 0) rfl rfl, fun U hU hW => ⟨rfl, by rw [hU], by rw [hU]; exact hPc, va_K.moved hW.alike hKc, hDc.weaken (fun _ _ _ _ => trivial), pw_N.warm hW hN, by rw [hU]; exact va_Z.moved hW.alike ((hZ.kept (fun a9 h1 h2 => hS.2.1 a9 h1 h2)).narrow hFc), by rw [hU]; exact va_T.moved hW.alike ((hT.kept (fun a9 h1 h2 => hS.2.1 a9 h1 h2)).narrow hFc), va_AO.moved hW.alike hO⟩⟩ rfl rfl hl.1 rfl (lv_room (Nat.le_of_ble_eq_true rfl)) dX8_make_83 ⟨Nat.le_of_ble_eq_true rfl, Nat.le_of_ble_eq_true rfl⟩) hS (fun q _ h => hFc q h) hFc (fun r u t H1 locs ht hvm hw hB hz1 hk1 hS => ?_)
        obtain ⟨e1, cG, N, g, hN2, hg, hP1, hK1, hD1⟩ := hB
        rw [ht] at hP1
        obtain ⟨hP, hD⟩ := xj_join hP hD hk1 hFc hP1 hD1
        have hK2 := hK.app (va_K.moved hvm.symm hK1)
        replace hK2 : va_K (dC, dI) vwCl [(cI, .int), (cJ, .long), (cO, .array .long), (cE, .object "java/lang/Object"), (cG, .object "java/lang/Object")] s := hK2
        rw [show cG = cE from xK_obj hK2 (k1 := 4) (k2 := 3) rfl rfl] at hP hD
        refine W.widen (k := 7) (n := 261) (by omega) (by omega) ?_
        replace hw : r = 1 := hw
        subst hw
        exact jn85 e1 N g H1 _ (by rw [hn0]; exact hN2) (by rw [hn0]; exact hg) (by rw [hn0]; exact hP) (by rw [hn0]; exact hD) hS
      rw [show xE n e cap cE fE = [(e, .inl (cE, cap, .inr (.inr (.inr (.inr fE)))))] from if_neg (by omega)] at hP hD
      rcases Nat.lt_or_ge n cap with hcap | hcap
      · replace hP : va_P (dC, dI) vwCl (X ++ [(a 0, .inr (0, [.int (I 5), .ref e, .int (nI n)])), (e, .inl (cE, cap, .inr (.inr (.inr (.inr fE))))), (q, .inr (8, [.int p0, .int p1, .int p2, .ref l0, .ref l1, .ref l2, .int 0, .int w9, .int 0, .int 0, .int 0, .int 0]))]) H := hP
        replace hD : va_D A (X ++ [(a 0, .inr (0, [.int (I 5), .ref e, .int (nI n)])), (e, .inl (cE, cap, .inr (.inr (.inr (.inr fE))))), (q, .inr (8, [.int p0, .int p1, .int p2, .ref l0, .ref l1, .ref l2, .int 0, .int w9, .int 0, .int 0, .int 0, .int 0]))]) := hD
        have hPc := xq_right hP
        have hDc := xd_right hD
        have hKc := hK.sub (tys' := [(cE, .object "java/lang/Object")]) [3] rfl
        have hFc := xj_free hD hS hA
        refine va_calli (va_runV (As := [.ref q]) (rest := []) ⟨hx, hb, hml, hown, hts⟩ (c_l_addA l dC dI (a 0) (I 5) e n cap cE fE q [.int p0, .int p1, .int p2, .ref l0, .ref l1, .ref l2, .int 0, .int w9, .int 0, .int 0, .int 0, .int 0] H.size hcap hX.1.2.2.1) (cwV 1 hts wc_y_make_l_addA_74 rfl rfl rfl (by decide +kernel) ⟨Nat.le_of_ble_eq_true rfl, Nat.le_of_ble_eq_true rfl⟩) ⟨fun a9 U g9 mk q => by obtain ⟨q0, q1, qP, qK, qD, qN⟩ := q; exact ⟨q0, q1, qP, va_K.moved (u := U) (U := U.calling g9 mk a9) (Vm.Alike.refl U.vm) qK, qD, pw_N.same (u := U) (U := U.calling g9 mk a9) rfl qN⟩, va_recv hKc hPc (ci := 0) (q0 := 0) rfl rfl, fun U hU hW => ⟨rfl, by rw [hU], by rw [hU]; exact hPc, va_K.moved hW.alike hKc, hDc.weaken (fun _ _ _ _ => trivial), pw_N.warm hW hN⟩⟩ rfl rfl hl.1 rfl (lv_room (Nat.le_of_ble_eq_true rfl)) dX8_make_83 ⟨Nat.le_of_ble_eq_true rfl, Nat.le_of_ble_eq_true rfl⟩) hS (fun q _ h => hFc q h) hFc (fun r u t H1 locs ht hvm hw hB hz1 hk1 hS => ?_)
        obtain ⟨e1, cG, N, g, hN2, hg, hP1, hK1, hD1⟩ := hB
        rw [ht] at hP1
        obtain ⟨hP, hD⟩ := xj_join hP hD hk1 hFc hP1 hD1
        have hK2 := hK.app (va_K.moved hvm.symm hK1)
        replace hK2 : va_K (dC, dI) vwCl [(cI, .int), (cJ, .long), (cO, .array .long), (cE, .object "java/lang/Object"), (cG, .object "java/lang/Object")] s := hK2
        rw [show cG = cE from xK_obj hK2 (k1 := 4) (k2 := 3) rfl rfl] at hP hD
        refine W.widen (k := 7) (n := 261) (by omega) (by omega) ?_
        replace hw : r = 1 := hw
        subst hw
        exact jn85 e1 N g H1 _ hN2 hg hP hD hS
      · have hcn : cap = n := Nat.le_antisymm hcap hX.1.2.1
        rw [hcn] at hP hD
        replace hP : va_P (dC, dI) vwCl (X ++ [(a 0, .inr (0, [.int (I 5), .ref e, .int (nI n)])), (e, .inl (cE, n, .inr (.inr (.inr (.inr fE))))), (q, .inr (8, [.int p0, .int p1, .int p2, .ref l0, .ref l1, .ref l2, .int 0, .int w9, .int 0, .int 0, .int 0, .int 0]))]) H := hP
        replace hD : va_D A (X ++ [(a 0, .inr (0, [.int (I 5), .ref e, .int (nI n)])), (e, .inl (cE, n, .inr (.inr (.inr (.inr fE))))), (q, .inr (8, [.int p0, .int p1, .int p2, .ref l0, .ref l1, .ref l2, .int 0, .int w9, .int 0, .int 0, .int 0, .int 0]))]) := hD
        have hPc := xq_right hP
        have hDc := xd_right hD
        have hKc := hK.sub (tys' := [(cE, .object "java/lang/Object")]) [3] rfl
        have hFc := xj_free hD hS hA
        have hLc : xL mi fE n (va_A [(a 0, .inr (0, [.int (I 5), .ref e, .int (nI n)])), (e, .inl (cE, n, .inr (.inr (.inr (.inr fE))))), (q, .inr (8, [.int p0, .int p1, .int p2, .ref l0, .ref l1, .ref l2, .int 0, .int w9, .int 0, .int 0, .int 0, .int 0]))] H.size) s H := by
          refine ⟨hMi, hDc0, hO, fun i hi y hy => ?_⟩
          rw [hX.1.2.2.2.2 i hi] at hy
          cases hy
          have hmem : xP cI sd si sa dl (6 * i + 0) ∈ X := by rw [hXd]; exact List.mem_append_left _ (List.mem_cons_of_mem _ (List.mem_append_right _ (List.mem_map.mpr ⟨6 * i + 0, List.mem_range.mpr (by omega), rfl⟩)))
          rw [xP_0] at hmem
          obtain ⟨j, hj⟩ := List.getElem?_of_mem hmem
          obtain ⟨r9, hr9, cv, g1, g2, g3, -⟩ := hP j _ (xq_al hj)
          exact ⟨⟨cv, g1, by rw [g3]; rfl, by rw [g2]; exact (hK.1 8 _ rfl).2.1⟩, (xj_out hP hD j _ hj).2⟩
        refine va_calli (va_runV (As := [.ref q]) (rest := []) ⟨hx, hb, hml, hown, hts⟩ (c_l_addB l dC dI (a 0) (I 5) e mi n cE fE q [.int p0, .int p1, .int p2, .ref l0, .ref l1, .ref l2, .int 0, .int w9, .int 0, .int 0, .int 0, .int 0] H.size hn0 (by omega)) (cwV 1 hts wc_y_make_l_addB_74 rfl rfl rfl (by decide +kernel) ⟨Nat.le_of_ble_eq_true rfl, Nat.le_of_ble_eq_true rfl⟩) ⟨fun a9 U g9 mk q => by obtain ⟨q0, q1, qP, qK, qD, qN, qL⟩ := q; exact ⟨q0, q1, qP, va_K.moved (u := U) (U := U.calling g9 mk a9) (Vm.Alike.refl U.vm) qK, qD, pw_N.same (u := U) (U := U.calling g9 mk a9) rfl qN, xL.moved (u := U) (U := U.calling g9 mk a9) (Vm.Alike.refl U.vm) qL⟩, va_recv hKc hPc (ci := 0) (q0 := 0) rfl rfl, fun U hU hW => ⟨rfl, by rw [hU], by rw [hU]; exact hPc, va_K.moved hW.alike hKc, hDc.weaken (fun _ _ _ _ => trivial), pw_N.warm hW hN, by rw [hU]; exact xL.moved hW.alike hLc⟩⟩ rfl rfl hl.1 rfl (lv_room (Nat.le_of_ble_eq_true rfl)) dX8_make_83 ⟨Nat.le_of_ble_eq_true rfl, Nat.le_of_ble_eq_true rfl⟩) hS (fun q _ h => hFc q h) hFc (fun r u t H1 locs ht hvm hw hB hz1 hk1 hS => ?_)
        obtain ⟨e1, cG, N, g, hN2, hg, hP1, hK1, hD1⟩ := hB
        rw [ht] at hP1
        obtain ⟨hP, hD⟩ := xj_join hP hD hk1 hFc hP1 hD1
        have hK2 := hK.app (va_K.moved hvm.symm hK1)
        replace hK2 : va_K (dC, dI) vwCl [(cI, .int), (cJ, .long), (cO, .array .long), (cE, .object "java/lang/Object"), (cG, .object "java/lang/Object")] s := hK2
        rw [show cG = cE from xK_obj hK2 (k1 := 4) (k2 := 3) rfl rfl] at hP hD
        refine W.widen (k := 7) (n := 261) (by omega) (by omega) ?_
        replace hw : r = 1 := hw
        subst hw
        exact jn85 e1 N g H1 _ hN2 hg hP hD hS
    · replace c2 : ¬ (n < 40) := fun q9 => c2 ((nI_ltI (a := n) (b := 40) (by omega) (by omega)).mpr q9)
      skip
      refine lv_bipush (v := (-6)) hx hb dX8_make_62 (by decide) ?_
      rw [hQ]
      refine W.widen (k := 7) (n := 261) (by omega) (by omega) ?_
      exact W.iret (v := (-6)) hx hb hr (fun t ht hW => ⟨⟨(-6), (n, e, cap, fE, sd, I, M, si, sa, dl), rfl, Or.inr ⟨Or.inr (by omega), (if_pos hMK).symm, rfl⟩, by rw [ht]; exact hP, hD⟩, hS.F ht⟩) hS.2.2 dX8_make_64
  refine lv_iload_n hx hb dX8_make_0 rfl (lv_at hl 1 rfl) ?_
  refine lv_iconst (v := 0) hx hb dX8_make_1 (by decide) ?_
  refine lv_iconst (v := 3) hx hb dX8_make_2 (by decide) ?_
  have hFc := mw_free hD hS hA
  refine va_calli (va_runS (As := [.int p0, .int 0, .int 3]) (rest := []) ⟨hx, hb, hml, hown, hts⟩ (c_y_within l dC dI h a e cI cJ cO cE L I M J n cap fE sd si sa dl (b) p0 0 3 s.heap.size hX (by omega) ) (va_cwS 3 hts wc_y_make_y_within_57 rfl rfl rfl (by decide +kernel) ⟨Nat.le_of_ble_eq_true rfl, Nat.le_of_ble_eq_true rfl⟩) ⟨fun a9 U g mk q => by obtain ⟨q0, q1, qP, qK, qD, qN⟩ := q; exact ⟨q0, q1, qP, va_K.moved (u := U) (U := U.calling g mk a9) (Vm.Alike.refl U.vm) qK, qD, pw_N.same (u := U) (U := U.calling g mk a9) rfl qN⟩, fun U hU hW => ⟨rfl, by rw [hU], by rw [hU]; exact hP, va_K.moved hW.alike hK, hD.weaken (fun _ _ _ _ => trivial), pw_N.warm hW hN⟩⟩ rfl rfl hl.1 rfl (lv_room (Nat.le_of_ble_eq_true rfl)) dX8_make_3 ⟨Nat.le_of_ble_eq_true rfl, Nat.le_of_ble_eq_true rfl⟩) hS (fun q _ h => hFc q h) hFc (fun r7 u t H1 locs ht hvm hw hB hz1 hk1 hS => ?_)
  replace hP := hB.1
  rw [ht] at hP
  replace hD : va_D A (xW h a e cI cJ cO cE L I M J n cap fE sd si sa dl) := hB.2.weaken (fun _ q _ h9 => hFc q.1 h9)
  clear hB
  generalize H1 = H at hP hS ⊢
  replace hP : va_P (dC, dI) vwCl (xW h a e cI cJ cO cE L I M J n cap fE sd si sa dl) H := hP
  rcases hw with ⟨rfl, haj8, hbj8⟩ | ⟨rfl, noj8⟩
  · skip
    refine lv_if_ne (tgt := 11) hx hb dX8_make_6 (by decide) (fun _ => ?_) (fun c9 => absurd c9 (by decide))
    refine lv_iload_n hx hb dX8_make_11 rfl (lv_at hl 1 rfl) ?_
    refine lv_iconst (v := 3) hx hb dX8_make_12 (by decide) ?_
    refine lv_icmp_ne (tgt := 20) hx hb dX8_make_13 (by decide) (fun c9 => ?_) (fun c9 => ?_)
    · skip
      refine lv_bipush (v := 50) hx hb dX8_make_20 (by decide) ?_
      refine lv_istore (lv' := [(4, .int 50), (0, .ref h), (1, .int p0), (2, .int p1), (3, .int p2)]) hx hb dX8_make_22 hl (by decide) rfl (fun ls hl => ?_)
      refine lv_iload_n hx hb dX8_make_24 rfl (lv_at hl 3 rfl) ?_
      refine lv_iconst (v := 0) hx hb dX8_make_25 (by decide) ?_
      refine lv_iload hx hb dX8_make_26 (lv_at hl 0 rfl) ?_
      have hFc := mw_free hD hS hA
      refine va_calli (va_runS (As := [.int p1, .int 0, .int 50]) (rest := []) ⟨hx, hb, hml, hown, hts⟩ (c_y_within l dC dI h a e cI cJ cO cE L I M J n cap fE sd si sa dl (b) p1 0 50 H.size hX (by omega) ) (va_cwS 3 hts wc_y_make_y_within_57 rfl rfl rfl (by decide +kernel) ⟨Nat.le_of_ble_eq_true rfl, Nat.le_of_ble_eq_true rfl⟩) ⟨fun a9 U g mk q => by obtain ⟨q0, q1, qP, qK, qD, qN⟩ := q; exact ⟨q0, q1, qP, va_K.moved (u := U) (U := U.calling g mk a9) (Vm.Alike.refl U.vm) qK, qD, pw_N.same (u := U) (U := U.calling g mk a9) rfl qN⟩, fun U hU hW => ⟨rfl, by rw [hU], by rw [hU]; exact hP, va_K.moved hW.alike hK, hD.weaken (fun _ _ _ _ => trivial), pw_N.warm hW hN⟩⟩ rfl rfl hl.1 rfl (lv_room (Nat.le_of_ble_eq_true rfl)) dX8_make_28 ⟨Nat.le_of_ble_eq_true rfl, Nat.le_of_ble_eq_true rfl⟩) hS (fun q _ h => hFc q h) hFc (fun r10 u t H1 locs ht hvm hw hB hz1 hk1 hS => ?_)
      replace hP := hB.1
      rw [ht] at hP
      replace hD : va_D A (xW h a e cI cJ cO cE L I M J n cap fE sd si sa dl) := hB.2.weaken (fun _ q _ h9 => hFc q.1 h9)
      clear hB
      generalize H1 = H at hP hS ⊢
      replace hP : va_P (dC, dI) vwCl (xW h a e cI cJ cO cE L I M J n cap fE sd si sa dl) H := hP
      rcases hw with ⟨rfl, haj11, hbj11⟩ | ⟨rfl, noj11⟩
      · skip
        refine lv_if_eq (tgt := 44) hx hb dX8_make_31 (by decide) (fun c9 => absurd c9 (by decide)) (fun _ => ?_)
        refine lv_iload_n hx hb dX8_make_34 rfl (lv_at hl 4 rfl) ?_
        refine lv_iconst (v := 0) hx hb dX8_make_35 (by decide) ?_
        refine lv_iload hx hb dX8_make_36 (lv_at hl 0 rfl) ?_
        have hFc := mw_free hD hS hA
        refine va_calli (va_runS (As := [.int p2, .int 0, .int 50]) (rest := []) ⟨hx, hb, hml, hown, hts⟩ (c_y_within l dC dI h a e cI cJ cO cE L I M J n cap fE sd si sa dl (b) p2 0 50 H.size hX (by omega) ) (va_cwS 3 hts wc_y_make_y_within_57 rfl rfl rfl (by decide +kernel) ⟨Nat.le_of_ble_eq_true rfl, Nat.le_of_ble_eq_true rfl⟩) ⟨fun a9 U g mk q => by obtain ⟨q0, q1, qP, qK, qD, qN⟩ := q; exact ⟨q0, q1, qP, va_K.moved (u := U) (U := U.calling g mk a9) (Vm.Alike.refl U.vm) qK, qD, pw_N.same (u := U) (U := U.calling g mk a9) rfl qN⟩, fun U hU hW => ⟨rfl, by rw [hU], by rw [hU]; exact hP, va_K.moved hW.alike hK, hD.weaken (fun _ _ _ _ => trivial), pw_N.warm hW hN⟩⟩ rfl rfl hl.1 rfl (lv_room (Nat.le_of_ble_eq_true rfl)) dX8_make_38 ⟨Nat.le_of_ble_eq_true rfl, Nat.le_of_ble_eq_true rfl⟩) hS (fun q _ h => hFc q h) hFc (fun r12 u t H1 locs ht hvm hw hB hz1 hk1 hS => ?_)
        replace hP := hB.1
        rw [ht] at hP
        replace hD : va_D A (xW h a e cI cJ cO cE L I M J n cap fE sd si sa dl) := hB.2.weaken (fun _ q _ h9 => hFc q.1 h9)
        clear hB
        generalize H1 = H at hP hS ⊢
        replace hP : va_P (dC, dI) vwCl (xW h a e cI cJ cO cE L I M J n cap fE sd si sa dl) H := hP
        rcases hw with ⟨rfl, haj13, hbj13⟩ | ⟨rfl, noj13⟩
        · skip
          refine lv_if_ne (tgt := 46) hx hb dX8_make_41 (by decide) (fun _ => ?_) (fun c9 => absurd c9 (by decide))
          exact jn46 (by have k0 := haj8; have k1 := hbj8; have k2 := c9; have k3 := haj11; have k4 := hbj11; have k5 := haj13; have k6 := hbj13; simp only [p1_le, p1_lt, p1_eq, p1_m6, p1_m1, p1_0, p1_1, p1_2, p1_3, p1_4, p1_5, p1_6, p1_7, p1_8, p1_9, p1_10, p1_11, p1_12, p1_13, p1_14, p1_15, p1_16, p1_17, p1_18, p1_19, p1_20, p1_40, p1_50, p1_200, p1_1000] at k0 k1 k2 k3 k4 k5 k6 ⊢; omega) _ _ _ hP hD hS (lv_sub hl [1, 2, 3, 4] rfl)
        · skip
          refine lv_if_ne (tgt := 46) hx hb dX8_make_41 (by decide) (fun c9 => absurd (by decide) c9) (fun _ => ?_)
          refine lv_iconst (v := (-1)) hx hb dX8_make_44 (by decide) ?_
          rw [hQ]
          refine W.widen (k := 7) (n := 261) (by omega) (by omega) ?_
          exact W.iret (v := (-1)) hx hb hr (fun t ht hW => ⟨⟨(-1), (n, e, cap, fE, sd, I, M, si, sa, dl), rfl, Or.inr ⟨Or.inl (by have k0 := haj8; have k1 := hbj8; have k2 := c9; have k3 := haj11; have k4 := hbj11; have k5 := noj13; simp only [p1_le, p1_lt, p1_eq, p1_m6, p1_m1, p1_0, p1_1, p1_2, p1_3, p1_4, p1_5, p1_6, p1_7, p1_8, p1_9, p1_10, p1_11, p1_12, p1_13, p1_14, p1_15, p1_16, p1_17, p1_18, p1_19, p1_20, p1_40, p1_50, p1_200, p1_1000] at k0 k1 k2 k3 k4 k5 ⊢; omega), (if_neg (by have k0 := haj8; have k1 := hbj8; have k2 := c9; have k3 := haj11; have k4 := hbj11; have k5 := noj13; simp only [p1_le, p1_lt, p1_eq, p1_m6, p1_m1, p1_0, p1_1, p1_2, p1_3, p1_4, p1_5, p1_6, p1_7, p1_8, p1_9, p1_10, p1_11, p1_12, p1_13, p1_14, p1_15, p1_16, p1_17, p1_18, p1_19, p1_20, p1_40, p1_50, p1_200, p1_1000] at k0 k1 k2 k3 k4 k5 ⊢; omega)).symm, rfl⟩, by rw [ht]; exact hP, hD⟩, hS.F ht⟩) hS.2.2 dX8_make_45
      · skip
        refine lv_if_eq (tgt := 44) hx hb dX8_make_31 (by decide) (fun _ => ?_) (fun c9 => absurd (by decide) c9)
        refine lv_iconst (v := (-1)) hx hb dX8_make_44 (by decide) ?_
        rw [hQ]
        refine W.widen (k := 7) (n := 261) (by omega) (by omega) ?_
        exact W.iret (v := (-1)) hx hb hr (fun t ht hW => ⟨⟨(-1), (n, e, cap, fE, sd, I, M, si, sa, dl), rfl, Or.inr ⟨Or.inl (by have k0 := haj8; have k1 := hbj8; have k2 := c9; have k3 := noj11; simp only [p1_le, p1_lt, p1_eq, p1_m6, p1_m1, p1_0, p1_1, p1_2, p1_3, p1_4, p1_5, p1_6, p1_7, p1_8, p1_9, p1_10, p1_11, p1_12, p1_13, p1_14, p1_15, p1_16, p1_17, p1_18, p1_19, p1_20, p1_40, p1_50, p1_200, p1_1000] at k0 k1 k2 k3 ⊢; omega), (if_neg (by have k0 := haj8; have k1 := hbj8; have k2 := c9; have k3 := noj11; simp only [p1_le, p1_lt, p1_eq, p1_m6, p1_m1, p1_0, p1_1, p1_2, p1_3, p1_4, p1_5, p1_6, p1_7, p1_8, p1_9, p1_10, p1_11, p1_12, p1_13, p1_14, p1_15, p1_16, p1_17, p1_18, p1_19, p1_20, p1_40, p1_50, p1_200, p1_1000] at k0 k1 k2 k3 ⊢; omega)).symm, rfl⟩, by rw [ht]; exact hP, hD⟩, hS.F ht⟩) hS.2.2 dX8_make_45
    · skip
      refine lv_iconst (v := 0) hx hb dX8_make_16 (by decide) ?_
      refine lv_goto (tgt := 22) hx hb dX8_make_17 (by decide) ?_
      refine lv_istore (lv' := [(4, .int 0), (0, .ref h), (1, .int p0), (2, .int p1), (3, .int p2)]) hx hb dX8_make_22 hl (by decide) rfl (fun ls hl => ?_)
      refine lv_iload_n hx hb dX8_make_24 rfl (lv_at hl 3 rfl) ?_
      refine lv_iconst (v := 0) hx hb dX8_make_25 (by decide) ?_
      refine lv_iload hx hb dX8_make_26 (lv_at hl 0 rfl) ?_
      have hFc := mw_free hD hS hA
      refine va_calli (va_runS (As := [.int p1, .int 0, .int 0]) (rest := []) ⟨hx, hb, hml, hown, hts⟩ (c_y_within l dC dI h a e cI cJ cO cE L I M J n cap fE sd si sa dl (b) p1 0 0 H.size hX (by omega) ) (va_cwS 3 hts wc_y_make_y_within_57 rfl rfl rfl (by decide +kernel) ⟨Nat.le_of_ble_eq_true rfl, Nat.le_of_ble_eq_true rfl⟩) ⟨fun a9 U g mk q => by obtain ⟨q0, q1, qP, qK, qD, qN⟩ := q; exact ⟨q0, q1, qP, va_K.moved (u := U) (U := U.calling g mk a9) (Vm.Alike.refl U.vm) qK, qD, pw_N.same (u := U) (U := U.calling g mk a9) rfl qN⟩, fun U hU hW => ⟨rfl, by rw [hU], by rw [hU]; exact hP, va_K.moved hW.alike hK, hD.weaken (fun _ _ _ _ => trivial), pw_N.warm hW hN⟩⟩ rfl rfl hl.1 rfl (lv_room (Nat.le_of_ble_eq_true rfl)) dX8_make_28 ⟨Nat.le_of_ble_eq_true rfl, Nat.le_of_ble_eq_true rfl⟩) hS (fun q _ h => hFc q h) hFc (fun r14 u t H1 locs ht hvm hw hB hz1 hk1 hS => ?_)
      replace hP := hB.1
      rw [ht] at hP
      replace hD : va_D A (xW h a e cI cJ cO cE L I M J n cap fE sd si sa dl) := hB.2.weaken (fun _ q _ h9 => hFc q.1 h9)
      clear hB
      generalize H1 = H at hP hS ⊢
      replace hP : va_P (dC, dI) vwCl (xW h a e cI cJ cO cE L I M J n cap fE sd si sa dl) H := hP
      rcases hw with ⟨rfl, haj15, hbj15⟩ | ⟨rfl, noj15⟩
      · skip
        refine lv_if_eq (tgt := 44) hx hb dX8_make_31 (by decide) (fun c9 => absurd c9 (by decide)) (fun _ => ?_)
        refine lv_iload_n hx hb dX8_make_34 rfl (lv_at hl 4 rfl) ?_
        refine lv_iconst (v := 0) hx hb dX8_make_35 (by decide) ?_
        refine lv_iload hx hb dX8_make_36 (lv_at hl 0 rfl) ?_
        have hFc := mw_free hD hS hA
        refine va_calli (va_runS (As := [.int p2, .int 0, .int 0]) (rest := []) ⟨hx, hb, hml, hown, hts⟩ (c_y_within l dC dI h a e cI cJ cO cE L I M J n cap fE sd si sa dl (b) p2 0 0 H.size hX (by omega) ) (va_cwS 3 hts wc_y_make_y_within_57 rfl rfl rfl (by decide +kernel) ⟨Nat.le_of_ble_eq_true rfl, Nat.le_of_ble_eq_true rfl⟩) ⟨fun a9 U g mk q => by obtain ⟨q0, q1, qP, qK, qD, qN⟩ := q; exact ⟨q0, q1, qP, va_K.moved (u := U) (U := U.calling g mk a9) (Vm.Alike.refl U.vm) qK, qD, pw_N.same (u := U) (U := U.calling g mk a9) rfl qN⟩, fun U hU hW => ⟨rfl, by rw [hU], by rw [hU]; exact hP, va_K.moved hW.alike hK, hD.weaken (fun _ _ _ _ => trivial), pw_N.warm hW hN⟩⟩ rfl rfl hl.1 rfl (lv_room (Nat.le_of_ble_eq_true rfl)) dX8_make_38 ⟨Nat.le_of_ble_eq_true rfl, Nat.le_of_ble_eq_true rfl⟩) hS (fun q _ h => hFc q h) hFc (fun r16 u t H1 locs ht hvm hw hB hz1 hk1 hS => ?_)
        replace hP := hB.1
        rw [ht] at hP
        replace hD : va_D A (xW h a e cI cJ cO cE L I M J n cap fE sd si sa dl) := hB.2.weaken (fun _ q _ h9 => hFc q.1 h9)
        clear hB
        generalize H1 = H at hP hS ⊢
        replace hP : va_P (dC, dI) vwCl (xW h a e cI cJ cO cE L I M J n cap fE sd si sa dl) H := hP
        rcases hw with ⟨rfl, haj17, hbj17⟩ | ⟨rfl, noj17⟩
        · skip
          refine lv_if_ne (tgt := 46) hx hb dX8_make_41 (by decide) (fun _ => ?_) (fun c9 => absurd c9 (by decide))
          exact jn46 (by have k0 := haj8; have k1 := hbj8; have k2 := c9; have k3 := haj15; have k4 := hbj15; have k5 := haj17; have k6 := hbj17; simp only [p1_le, p1_lt, p1_eq, p1_m6, p1_m1, p1_0, p1_1, p1_2, p1_3, p1_4, p1_5, p1_6, p1_7, p1_8, p1_9, p1_10, p1_11, p1_12, p1_13, p1_14, p1_15, p1_16, p1_17, p1_18, p1_19, p1_20, p1_40, p1_50, p1_200, p1_1000] at k0 k1 k2 k3 k4 k5 k6 ⊢; omega) _ _ _ hP hD hS (lv_sub hl [1, 2, 3, 4] rfl)
        · skip
          refine lv_if_ne (tgt := 46) hx hb dX8_make_41 (by decide) (fun c9 => absurd (by decide) c9) (fun _ => ?_)
          refine lv_iconst (v := (-1)) hx hb dX8_make_44 (by decide) ?_
          rw [hQ]
          refine W.widen (k := 7) (n := 261) (by omega) (by omega) ?_
          exact W.iret (v := (-1)) hx hb hr (fun t ht hW => ⟨⟨(-1), (n, e, cap, fE, sd, I, M, si, sa, dl), rfl, Or.inr ⟨Or.inl (by have k0 := haj8; have k1 := hbj8; have k2 := c9; have k3 := haj15; have k4 := hbj15; have k5 := noj17; simp only [p1_le, p1_lt, p1_eq, p1_m6, p1_m1, p1_0, p1_1, p1_2, p1_3, p1_4, p1_5, p1_6, p1_7, p1_8, p1_9, p1_10, p1_11, p1_12, p1_13, p1_14, p1_15, p1_16, p1_17, p1_18, p1_19, p1_20, p1_40, p1_50, p1_200, p1_1000] at k0 k1 k2 k3 k4 k5 ⊢; omega), (if_neg (by have k0 := haj8; have k1 := hbj8; have k2 := c9; have k3 := haj15; have k4 := hbj15; have k5 := noj17; simp only [p1_le, p1_lt, p1_eq, p1_m6, p1_m1, p1_0, p1_1, p1_2, p1_3, p1_4, p1_5, p1_6, p1_7, p1_8, p1_9, p1_10, p1_11, p1_12, p1_13, p1_14, p1_15, p1_16, p1_17, p1_18, p1_19, p1_20, p1_40, p1_50, p1_200, p1_1000] at k0 k1 k2 k3 k4 k5 ⊢; omega)).symm, rfl⟩, by rw [ht]; exact hP, hD⟩, hS.F ht⟩) hS.2.2 dX8_make_45
      · skip
        refine lv_if_eq (tgt := 44) hx hb dX8_make_31 (by decide) (fun _ => ?_) (fun c9 => absurd (by decide) c9)
        refine lv_iconst (v := (-1)) hx hb dX8_make_44 (by decide) ?_
        rw [hQ]
        refine W.widen (k := 7) (n := 261) (by omega) (by omega) ?_
        exact W.iret (v := (-1)) hx hb hr (fun t ht hW => ⟨⟨(-1), (n, e, cap, fE, sd, I, M, si, sa, dl), rfl, Or.inr ⟨Or.inl (by have k0 := haj8; have k1 := hbj8; have k2 := c9; have k3 := noj15; simp only [p1_le, p1_lt, p1_eq, p1_m6, p1_m1, p1_0, p1_1, p1_2, p1_3, p1_4, p1_5, p1_6, p1_7, p1_8, p1_9, p1_10, p1_11, p1_12, p1_13, p1_14, p1_15, p1_16, p1_17, p1_18, p1_19, p1_20, p1_40, p1_50, p1_200, p1_1000] at k0 k1 k2 k3 ⊢; omega), (if_neg (by have k0 := haj8; have k1 := hbj8; have k2 := c9; have k3 := noj15; simp only [p1_le, p1_lt, p1_eq, p1_m6, p1_m1, p1_0, p1_1, p1_2, p1_3, p1_4, p1_5, p1_6, p1_7, p1_8, p1_9, p1_10, p1_11, p1_12, p1_13, p1_14, p1_15, p1_16, p1_17, p1_18, p1_19, p1_20, p1_40, p1_50, p1_200, p1_1000] at k0 k1 k2 k3 ⊢; omega)).symm, rfl⟩, by rw [ht]; exact hP, hD⟩, hS.F ht⟩) hS.2.2 dX8_make_45
  · skip
    refine lv_if_ne (tgt := 11) hx hb dX8_make_6 (by decide) (fun c9 => absurd (by decide) c9) (fun _ => ?_)
    refine lv_iconst (v := (-1)) hx hb dX8_make_9 (by decide) ?_
    rw [hQ]
    refine W.widen (k := 7) (n := 261) (by omega) (by omega) ?_
    exact W.iret (v := (-1)) hx hb hr (fun t ht hW => ⟨⟨(-1), (n, e, cap, fE, sd, I, M, si, sa, dl), rfl, Or.inr ⟨Or.inl (by have k0 := noj8; simp only [p1_le, p1_lt, p1_eq, p1_m6, p1_m1, p1_0, p1_1, p1_2, p1_3, p1_4, p1_5, p1_6, p1_7, p1_8, p1_9, p1_10, p1_11, p1_12, p1_13, p1_14, p1_15, p1_16, p1_17, p1_18, p1_19, p1_20, p1_40, p1_50, p1_200, p1_1000] at k0 ⊢; omega), (if_neg (by have k0 := noj8; simp only [p1_le, p1_lt, p1_eq, p1_m6, p1_m1, p1_0, p1_1, p1_2, p1_3, p1_4, p1_5, p1_6, p1_7, p1_8, p1_9, p1_10, p1_11, p1_12, p1_13, p1_14, p1_15, p1_16, p1_17, p1_18, p1_19, p1_20, p1_40, p1_50, p1_200, p1_1000] at k0 ⊢; omega)).symm, rfl⟩, by rw [ht]; exact hP, hD⟩, hS.F ht⟩) hS.2.2 dX8_make_10

end
section
def wq_w_is : List Cond := ([.code yX9_is cX9_is 2 (some .boolean), .fieldLink RX9 126 "ServiceTreeModel" "services" "I"] : List Cond) ++ (wsX90)
theorem in_w_is_X9 : ∀ w ∈ wsX90, w ∈ wq_w_is := fun _ h => List.mem_append_right _ (h)
set_option maxRecDepth 20000 in
theorem wi_w_is : ∀ w ∈ wq_w_is, w ∈ lw_tbl := List.forall_mem_append.mpr ⟨(wix [1003, 873] rfl), inKX9⟩
set_option maxRecDepth 20000 in
theorem wg_w_is : GoodIn wq_w_is wq_w_is := goodIn_sub (fun _ h => h) (by decide +kernel)
def rm_w_is : Room := { frames := 0, cells := 0, slots := 0, locals := 0 }
set_option maxHeartbeats 4000000 in
set_option maxRecDepth 100000 in
theorem c_w_is (l : Launch) (dC : Nat → ClassId) (dI : Nat → Nat → Nat) (h : Nat) (a : Nat → Nat) (k : Nat → ClassId) (F : Nat → Nat → Int32) (V : Nat → Int32) (n b : Nat) (p0 : Int32) (sz : Nat) (hI0 : InvM n b F V) (hb0 : b + 0 < 2147483648)  : Met l yX9_is wq_w_is rm_w_is (va_Pc [.ref h, .int p0] (fun U => U.heap.size = sz ∧ va_P (dC, dI) vwCl (mW h a k F V) U.heap ∧ va_K (dC, dI) vwCl (mT k) U ∧ va_D (fun _ => True) (mW h a k F V))) (va_Qi (fun (r : Int32) (u : (Nat → Nat → Int32) × (Nat → Int32)) => u.1 = F ∧ u.2 = V ∧ ((r = 1 ∧ ∃ j : Nat, j < n ∧ p0 = nI j) ∨ (r = 0 ∧ ¬ (0 ≤ p0 ∧ p0 < nI n)))) (fun (u : (Nat → Nat → Int32) × (Nat → Int32)) (t : State) => va_P (dC, dI) vwCl (mW h a k u.1 u.2) t.heap ∧ va_D (va_A (mW h a k F V) sz) (mW h a k u.1 u.2)) (va_A (mW h a k F V) sz)) 0 0 (va_A (mW h a k F V) sz) := by
  have hn : n ≤ 40 := hI0.1
  have hI : StM n b F V F V := StM.rf hI0
  have hU : ∀ j : Nat, j ∉ ([] : List Nat) → F j = F j := fun _ _ => rfl
  have hV : ∀ j : Nat, j ∉ ([] : List Nat) → V j = V j := fun _ _ => rfl
  refine Met.ofW (cc := cX9_is) (maxL := 2) (ret := (some .boolean)) (by decide) rfl ?_
  intro p e s m args below meth c s₁ B hml hv
  obtain ⟨rfl, hsz, hP, hK, hD0⟩ := hv
  have hx := B.exec
  have hb := B.bytes
  have hr := B.returns
  have hts := atoms_spec (ws := wq_w_is) B.pre
  have hown : s.vm.findClass RX9 = some m.cls := findClass_of_methodNamed B.named
  have hlocks := B.notSynchronized
  subst hsz
  have hD := hD0.self (sz := s.heap.size)
  generalize hAe : va_A (mW h a k F V) s.heap.size = A at hD ⊢
  have hA : ∀ q : Nat, s.heap.size ≤ q → A q := fun q h => by rw [← hAe]; exact Or.inr h
  have hS : va_S A s.heap s.heap [] := va_S.rf
  have hl := lv_entry ([.ref h, .int p0]) (n := 2) (Nat.le_of_ble_eq_true rfl)
  rw [lg_entry_eq]
  generalize (lg_sl ([.ref h, .int p0]) ++ List.replicate (2 - (lg_sl ([.ref h, .int p0])).length) Slot.unset).toArray = ls at hl ⊢
  have hl : lv_has ls 2 [(0, .ref h), (1, .int p0)] := hl
  refine lv_iload_n hx hb dX9_is_0 rfl (lv_at hl 1 rfl) ?_
  refine lv_if_lt (tgt := 16) hx hb dX9_is_1 (by decide) (fun c1 => ?_) (fun c1 => ?_)
  · skip
    refine lv_iconst (v := 0) hx hb dX9_is_16 (by decide) ?_
    exact W.zret (v := 0) hx hb hr (by decide) (fun t ht hW => ⟨⟨0, (F, V), rfl, ⟨rfl, rfl, Or.inr ⟨rfl, fun q9 => absurd c1 (xw_ge0 q9.1)⟩⟩, by rw [ht]; exact hP, hD⟩, hS.F ht⟩) hS.2.2 dX9_is_17
  · skip
    refine lv_iload_n hx hb dX9_is_4 rfl (lv_at hl 1 rfl) ?_
    refine lv_aload_n hx hb dX9_is_5 rfl (lv_at hl 0 rfl) ?_
    refine va_get (D := (dC, dI)) (ci := 10) (v := .int (V 21)) (C := RX9) (T := TX9) (N := 46) hx hb hts in_w_is_X9 hown hK hP 0 rfl rfl 21 (by decide) (hts (.fieldLink RX9 126 "ServiceTreeModel" "services" "I") (by decide +kernel)) (fun _ h9 => h9) rfl dX9_is_6 ?_
    refine p1_topr (v := .int (nI n)) (congrArg Value.int hI.1.2.1) ?_
    refine lv_icmp_ge (tgt := 16) hx hb dX9_is_9 (by decide) (fun c2 => ?_) (fun c2 => ?_)
    · skip
      refine lv_iconst (v := 0) hx hb dX9_is_16 (by decide) ?_
      exact W.zret (v := 0) hx hb hr (by decide) (fun t ht hW => ⟨⟨0, (F, V), rfl, ⟨rfl, rfl, Or.inr ⟨rfl, fun q9 => absurd q9.2 (Int32.not_lt.mpr c2)⟩⟩, by rw [ht]; exact hP, hD⟩, hS.F ht⟩) hS.2.2 dX9_is_17
    · skip
      refine lv_iconst (v := 1) hx hb dX9_is_12 (by decide) ?_
      refine lv_goto (tgt := 17) hx hb dX9_is_13 (by decide) ?_
      exact W.zret (v := 1) hx hb hr (by decide) (fun t ht hW => ⟨⟨1, (F, V), rfl, ⟨rfl, rfl, Or.inl ⟨rfl, mw_nI (by omega) c1 c2⟩⟩, by rw [ht]; exact hP, hD⟩, hS.F ht⟩) hS.2.2 dX9_is_17
def f_w_has (n : Nat) (ov : Nat) (av : Nat) (bv : Nat) (F : Nat → Nat → Int32) : Int32 := bnd (F 19 (nI ((((ov * 40) + av) * 40) + bv)).toNatClampNeg) (fun (x1 : Int32) => (x1))
def wq_w_has : List Cond := ([.code yX9_has cX9_has 4 (some .boolean), .fieldLink RX9 68 "ServiceTreeModel" "relation" "[Z"] : List Cond) ++ (wsX90)
theorem in_w_has_X9 : ∀ w ∈ wsX90, w ∈ wq_w_has := fun _ h => List.mem_append_right _ (h)
set_option maxRecDepth 20000 in
theorem wi_w_has : ∀ w ∈ wq_w_has, w ∈ lw_tbl := List.forall_mem_append.mpr ⟨(wix [1026, 871] rfl), inKX9⟩
set_option maxRecDepth 20000 in
theorem wg_w_has : GoodIn wq_w_has wq_w_has := goodIn_sub (fun _ h => h) (by decide +kernel)
def rm_w_has : Room := { frames := 0, cells := 0, slots := 0, locals := 0 }
set_option maxHeartbeats 4000000 in
set_option maxRecDepth 100000 in
theorem c_w_has (l : Launch) (dC : Nat → ClassId) (dI : Nat → Nat → Nat) (h : Nat) (a : Nat → Nat) (k : Nat → ClassId) (F : Nat → Nat → Int32) (V : Nat → Int32) (n b : Nat) (ov : Nat) (av : Nat) (bv : Nat) (sz : Nat) (hI0 : InvM n b F V) (hb0 : b + 0 < 2147483648) (hp0 : ov < 4) (hp1 : av < 40) (hp2 : bv < 40) : Met l yX9_has wq_w_has rm_w_has (va_Pc [.ref h, .int (nI ov), .int (nI av), .int (nI bv)] (fun U => U.heap.size = sz ∧ va_P (dC, dI) vwCl (mW h a k F V) U.heap ∧ va_K (dC, dI) vwCl (mT k) U ∧ va_D (fun _ => True) (mW h a k F V))) (va_Qi (fun (r : Int32) (u : (Nat → Nat → Int32) × (Nat → Int32)) => u.1 = F ∧ u.2 = V ∧ ((r = f_w_has n ov av bv F) ∧ (r = 0 ∨ r = 1))) (fun (u : (Nat → Nat → Int32) × (Nat → Int32)) (t : State) => va_P (dC, dI) vwCl (mW h a k u.1 u.2) t.heap ∧ va_D (va_A (mW h a k F V) sz) (mW h a k u.1 u.2)) (va_A (mW h a k F V) sz)) 0 0 (va_A (mW h a k F V) sz) := by
  have hn : n ≤ 40 := hI0.1
  have hI : StM n b F V F V := StM.rf hI0
  have hU : ∀ j : Nat, j ∉ ([] : List Nat) → F j = F j := fun _ _ => rfl
  have hV : ∀ j : Nat, j ∉ ([] : List Nat) → V j = V j := fun _ _ => rfl
  refine Met.ofW (cc := cX9_has) (maxL := 4) (ret := (some .boolean)) (by decide) rfl ?_
  intro p e s m args below meth c s₁ B hml hv
  obtain ⟨rfl, hsz, hP, hK, hD0⟩ := hv
  have hx := B.exec
  have hb := B.bytes
  have hr := B.returns
  have hts := atoms_spec (ws := wq_w_has) B.pre
  have hown : s.vm.findClass RX9 = some m.cls := findClass_of_methodNamed B.named
  have hlocks := B.notSynchronized
  subst hsz
  have hD := hD0.self (sz := s.heap.size)
  generalize hAe : va_A (mW h a k F V) s.heap.size = A at hD ⊢
  have hA : ∀ q : Nat, s.heap.size ≤ q → A q := fun q h => by rw [← hAe]; exact Or.inr h
  have hS : va_S A s.heap s.heap [] := va_S.rf
  have hl := lv_entry ([.ref h, .int (nI ov), .int (nI av), .int (nI bv)]) (n := 4) (Nat.le_of_ble_eq_true rfl)
  rw [lg_entry_eq]
  generalize (lg_sl ([.ref h, .int (nI ov), .int (nI av), .int (nI bv)]) ++ List.replicate (4 - (lg_sl ([.ref h, .int (nI ov), .int (nI av), .int (nI bv)])).length) Slot.unset).toArray = ls at hl ⊢
  have hl : lv_has ls 4 [(0, .ref h), (1, .int (nI ov)), (2, .int (nI av)), (3, .int (nI bv))] := hl
  obtain ⟨RES, hR0⟩ : ∃ R9, R9 = f_w_has n ov av bv F := ⟨_, rfl⟩
  have hZ9 := hR0
  unfold f_w_has at hZ9
  refine lv_aload_n hx hb dX9_has_0 rfl (lv_at hl 0 rfl) ?_
  refine va_get (D := (dC, dI)) (ci := 10) (v := .ref (a 19)) (C := RX9) (T := TX9) (N := 46) hx hb hts in_w_has_X9 hown hK hP 0 rfl rfl 19 (by decide) (hts (.fieldLink RX9 68 "ServiceTreeModel" "relation" "[Z") (by decide +kernel)) (fun _ h9 => h9) rfl dX9_has_1 ?_
  refine lv_iload_n hx hb dX9_has_4 rfl (lv_at hl 1 rfl) ?_
  refine lv_bipush (v := 40) hx hb dX9_has_5 (by decide) ?_
  refine lv_imul hx hb dX9_has_7 ?_
  refine p1_topr (v := .int (nI (ov * 40))) (congrArg Value.int (pk_mul ov 40)) ?_
  refine lv_iload_n hx hb dX9_has_8 rfl (lv_at hl 2 rfl) ?_
  refine lv_iadd hx hb dX9_has_9 ?_
  refine p1_topr (v := .int (nI ((ov * 40) + av))) (congrArg Value.int (nI_add (ov * 40) av)) ?_
  refine lv_bipush (v := 40) hx hb dX9_has_10 (by decide) ?_
  refine lv_imul hx hb dX9_has_12 ?_
  refine p1_topr (v := .int (nI (((ov * 40) + av) * 40))) (congrArg Value.int (pk_mul ((ov * 40) + av) 40)) ?_
  refine lv_iload_n hx hb dX9_has_13 rfl (lv_at hl 3 rfl) ?_
  refine lv_iadd hx hb dX9_has_14 ?_
  refine p1_topr (v := .int (nI ((((ov * 40) + av) * 40) + bv))) (congrArg Value.int (nI_add (((ov * 40) + av) * 40) bv)) ?_
  refine va_zald (n := 6400) (f := F 19) hx hb hK hP 20 19 rfl rfl (vp_in_nI (n := (((ov * 40) + av) * 40) + bv) (by omega) (by decide)) dX9_has_15 ?_
  refine lv_topi (fun x1 ex1 => ?_)
  replace hZ9 := bnd_s hZ9 ex1
  have bx1 : x1 = 0 ∨ x1 = 1 := by rw [ex1]; exact hI.1.2.2.2.2.2.2.2 (nI ((((ov * 40) + av) * 40) + bv)).toNatClampNeg
  exact W.zret (v := x1) hx hb hr (mw_nb bx1) (fun t ht hW => ⟨⟨x1, (F, V), rfl, ⟨rfl, rfl, ⟨hZ9.symm.trans hR0, bx1⟩⟩, by rw [ht]; exact hP, hD⟩, hS.F ht⟩) hS.2.2 dX9_has_16
def f_w_rests (n : Nat) (p0 : Int32)  : Int32 := if p0 = (0 : Int32) then (((1 : Int32))) else (if p0 = (4 : Int32) then (((1 : Int32))) else (((0 : Int32))))
def wq_w_rests : List Cond := ([.code yX9_rests cX9_rests 1 (some .boolean)] : List Cond) ++ (wsX90)
set_option maxRecDepth 20000 in
theorem wi_w_rests : ∀ w ∈ wq_w_rests, w ∈ lw_tbl := List.forall_mem_append.mpr ⟨(wix [1022] rfl), inKX9⟩
set_option maxRecDepth 20000 in
theorem wg_w_rests : GoodIn wq_w_rests wq_w_rests := goodIn_sub (fun _ h => h) (by decide +kernel)
def rm_w_rests : Room := { frames := 0, cells := 0, slots := 0, locals := 0 }
set_option maxHeartbeats 4000000 in
set_option maxRecDepth 100000 in
theorem c_w_rests (l : Launch) (dC : Nat → ClassId) (dI : Nat → Nat → Nat) (h : Nat) (a : Nat → Nat) (k : Nat → ClassId) (F : Nat → Nat → Int32) (V : Nat → Int32) (n b : Nat) (p0 : Int32) (sz : Nat) (hI0 : InvM n b F V) (hb0 : b + 0 < 2147483648)  : Met l yX9_rests wq_w_rests rm_w_rests (va_Pc [.int p0] (fun U => U.heap.size = sz ∧ va_P (dC, dI) vwCl (mW h a k F V) U.heap ∧ va_K (dC, dI) vwCl (mT k) U ∧ va_D (fun _ => True) (mW h a k F V))) (va_Qi (fun (r : Int32) (u : (Nat → Nat → Int32) × (Nat → Int32)) => u.1 = F ∧ u.2 = V ∧ (r = f_w_rests n p0 )) (fun (u : (Nat → Nat → Int32) × (Nat → Int32)) (t : State) => va_P (dC, dI) vwCl (mW h a k u.1 u.2) t.heap ∧ va_D (va_A (mW h a k F V) sz) (mW h a k u.1 u.2)) (va_A (mW h a k F V) sz)) 0 0 (va_A (mW h a k F V) sz) := by
  have hn : n ≤ 40 := hI0.1
  have hI : StM n b F V F V := StM.rf hI0
  have hU : ∀ j : Nat, j ∉ ([] : List Nat) → F j = F j := fun _ _ => rfl
  have hV : ∀ j : Nat, j ∉ ([] : List Nat) → V j = V j := fun _ _ => rfl
  refine Met.ofW (cc := cX9_rests) (maxL := 1) (ret := (some .boolean)) (by decide) rfl ?_
  intro p e s m args below meth c s₁ B hml hv
  obtain ⟨rfl, hsz, hP, hK, hD0⟩ := hv
  have hx := B.exec
  have hb := B.bytes
  have hr := B.returns
  have hts := atoms_spec (ws := wq_w_rests) B.pre
  have hown : s.vm.findClass RX9 = some m.cls := findClass_of_methodNamed B.named
  have hlocks := B.notSynchronized
  subst hsz
  have hD := hD0.self (sz := s.heap.size)
  generalize hAe : va_A (mW h a k F V) s.heap.size = A at hD ⊢
  have hA : ∀ q : Nat, s.heap.size ≤ q → A q := fun q h => by rw [← hAe]; exact Or.inr h
  have hS : va_S A s.heap s.heap [] := va_S.rf
  have hl := lv_entry ([.int p0]) (n := 1) (Nat.le_of_ble_eq_true rfl)
  rw [lg_entry_eq]
  generalize (lg_sl ([.int p0]) ++ List.replicate (1 - (lg_sl ([.int p0])).length) Slot.unset).toArray = ls at hl ⊢
  have hl : lv_has ls 1 [(0, .int p0)] := hl
  obtain ⟨RES, hR0⟩ : ∃ R9, R9 = f_w_rests n p0  := ⟨_, rfl⟩
  have hZ9 := hR0
  unfold f_w_rests at hZ9
  refine lv_iload_n hx hb dX9_rests_0 rfl (lv_at hl 0 rfl) ?_
  refine lv_if_eq (tgt := 9) hx hb dX9_rests_1 (by decide) (fun c1 => ?_) (fun c1 => ?_)
  · replace hZ9 := ite_t hZ9 c1
    refine lv_iconst (v := 1) hx hb dX9_rests_9 (by decide) ?_
    refine lv_goto (tgt := 14) hx hb dX9_rests_10 (by decide) ?_
    exact W.zret (v := 1) hx hb hr (by decide) (fun t ht hW => ⟨⟨1, (F, V), rfl, ⟨rfl, rfl, hZ9.symm.trans hR0⟩, by rw [ht]; exact hP, hD⟩, hS.F ht⟩) hS.2.2 dX9_rests_14
  · replace hZ9 := ite_f hZ9 c1
    refine lv_iload_n hx hb dX9_rests_4 rfl (lv_at hl 0 rfl) ?_
    refine lv_iconst (v := 4) hx hb dX9_rests_5 (by decide) ?_
    refine lv_icmp_ne (tgt := 13) hx hb dX9_rests_6 (by decide) (fun c2 => ?_) (fun c2 => ?_)
    · replace hZ9 := ite_f hZ9 c2
      refine lv_iconst (v := 0) hx hb dX9_rests_13 (by decide) ?_
      exact W.zret (v := 0) hx hb hr (by decide) (fun t ht hW => ⟨⟨0, (F, V), rfl, ⟨rfl, rfl, hZ9.symm.trans hR0⟩, by rw [ht]; exact hP, hD⟩, hS.F ht⟩) hS.2.2 dX9_rests_14
    · replace hZ9 := ite_t hZ9 c2
      refine lv_iconst (v := 1) hx hb dX9_rests_9 (by decide) ?_
      refine lv_goto (tgt := 14) hx hb dX9_rests_10 (by decide) ?_
      exact W.zret (v := 1) hx hb hr (by decide) (fun t ht hW => ⟨⟨1, (F, V), rfl, ⟨rfl, rfl, hZ9.symm.trans hR0⟩, by rw [ht]; exact hP, hD⟩, hS.F ht⟩) hS.2.2 dX9_rests_14
def f_w_waitsFor (n : Nat) (p0 : Int32) (p1 : Int32)  : Int32 := if p0 = (0 : Int32) then (((0 : Int32))) else (if p1 = (0 : Int32) then (((0 : Int32))) else (((1 : Int32))))
def wq_w_waitsFor : List Cond := ([.code yX9_waitsFor cX9_waitsFor 2 (some .boolean)] : List Cond) ++ (wsX90)
set_option maxRecDepth 20000 in
theorem wi_w_waitsFor : ∀ w ∈ wq_w_waitsFor, w ∈ lw_tbl := List.forall_mem_append.mpr ⟨(wix [1089] rfl), inKX9⟩
set_option maxRecDepth 20000 in
theorem wg_w_waitsFor : GoodIn wq_w_waitsFor wq_w_waitsFor := goodIn_sub (fun _ h => h) (by decide +kernel)
def rm_w_waitsFor : Room := { frames := 0, cells := 0, slots := 0, locals := 0 }
set_option maxHeartbeats 4000000 in
set_option maxRecDepth 100000 in
theorem c_w_waitsFor (l : Launch) (dC : Nat → ClassId) (dI : Nat → Nat → Nat) (h : Nat) (a : Nat → Nat) (k : Nat → ClassId) (F : Nat → Nat → Int32) (V : Nat → Int32) (n b : Nat) (p0 : Int32) (p1 : Int32) (sz : Nat) (hI0 : InvM n b F V) (hb0 : b + 0 < 2147483648)  : Met l yX9_waitsFor wq_w_waitsFor rm_w_waitsFor (va_Pc [.int p0, .int p1] (fun U => U.heap.size = sz ∧ va_P (dC, dI) vwCl (mW h a k F V) U.heap ∧ va_K (dC, dI) vwCl (mT k) U ∧ va_D (fun _ => True) (mW h a k F V))) (va_Qi (fun (r : Int32) (u : (Nat → Nat → Int32) × (Nat → Int32)) => u.1 = F ∧ u.2 = V ∧ (r = f_w_waitsFor n p0 p1 )) (fun (u : (Nat → Nat → Int32) × (Nat → Int32)) (t : State) => va_P (dC, dI) vwCl (mW h a k u.1 u.2) t.heap ∧ va_D (va_A (mW h a k F V) sz) (mW h a k u.1 u.2)) (va_A (mW h a k F V) sz)) 0 0 (va_A (mW h a k F V) sz) := by
  have hn : n ≤ 40 := hI0.1
  have hI : StM n b F V F V := StM.rf hI0
  have hU : ∀ j : Nat, j ∉ ([] : List Nat) → F j = F j := fun _ _ => rfl
  have hV : ∀ j : Nat, j ∉ ([] : List Nat) → V j = V j := fun _ _ => rfl
  refine Met.ofW (cc := cX9_waitsFor) (maxL := 2) (ret := (some .boolean)) (by decide) rfl ?_
  intro p e s m args below meth c s₁ B hml hv
  obtain ⟨rfl, hsz, hP, hK, hD0⟩ := hv
  have hx := B.exec
  have hb := B.bytes
  have hr := B.returns
  have hts := atoms_spec (ws := wq_w_waitsFor) B.pre
  have hown : s.vm.findClass RX9 = some m.cls := findClass_of_methodNamed B.named
  have hlocks := B.notSynchronized
  subst hsz
  have hD := hD0.self (sz := s.heap.size)
  generalize hAe : va_A (mW h a k F V) s.heap.size = A at hD ⊢
  have hA : ∀ q : Nat, s.heap.size ≤ q → A q := fun q h => by rw [← hAe]; exact Or.inr h
  have hS : va_S A s.heap s.heap [] := va_S.rf
  have hl := lv_entry ([.int p0, .int p1]) (n := 2) (Nat.le_of_ble_eq_true rfl)
  rw [lg_entry_eq]
  generalize (lg_sl ([.int p0, .int p1]) ++ List.replicate (2 - (lg_sl ([.int p0, .int p1])).length) Slot.unset).toArray = ls at hl ⊢
  have hl : lv_has ls 2 [(0, .int p0), (1, .int p1)] := hl
  obtain ⟨RES, hR0⟩ : ∃ R9, R9 = f_w_waitsFor n p0 p1  := ⟨_, rfl⟩
  have hZ9 := hR0
  unfold f_w_waitsFor at hZ9
  refine lv_iload_n hx hb dX9_waitsFor_0 rfl (lv_at hl 0 rfl) ?_
  refine lv_if_eq (tgt := 12) hx hb dX9_waitsFor_1 (by decide) (fun c1 => ?_) (fun c1 => ?_)
  · replace hZ9 := ite_t hZ9 c1
    refine lv_iconst (v := 0) hx hb dX9_waitsFor_12 (by decide) ?_
    exact W.zret (v := 0) hx hb hr (by decide) (fun t ht hW => ⟨⟨0, (F, V), rfl, ⟨rfl, rfl, hZ9.symm.trans hR0⟩, by rw [ht]; exact hP, hD⟩, hS.F ht⟩) hS.2.2 dX9_waitsFor_13
  · replace hZ9 := ite_f hZ9 c1
    refine lv_iload_n hx hb dX9_waitsFor_4 rfl (lv_at hl 1 rfl) ?_
    refine lv_if_eq (tgt := 12) hx hb dX9_waitsFor_5 (by decide) (fun c2 => ?_) (fun c2 => ?_)
    · replace hZ9 := ite_t hZ9 c2
      refine lv_iconst (v := 0) hx hb dX9_waitsFor_12 (by decide) ?_
      exact W.zret (v := 0) hx hb hr (by decide) (fun t ht hW => ⟨⟨0, (F, V), rfl, ⟨rfl, rfl, hZ9.symm.trans hR0⟩, by rw [ht]; exact hP, hD⟩, hS.F ht⟩) hS.2.2 dX9_waitsFor_13
    · replace hZ9 := ite_f hZ9 c2
      refine lv_iconst (v := 1) hx hb dX9_waitsFor_8 (by decide) ?_
      refine lv_goto (tgt := 13) hx hb dX9_waitsFor_9 (by decide) ?_
      exact W.zret (v := 1) hx hb hr (by decide) (fun t ht hW => ⟨⟨1, (F, V), rfl, ⟨rfl, rfl, hZ9.symm.trans hR0⟩, by rw [ht]; exact hP, hD⟩, hS.F ht⟩) hS.2.2 dX9_waitsFor_13
def f_w_to (n : Nat) (sv : Nat) (p1 : Int32) (F : Nat → Nat → Int32) (V : Nat → Int32) : (Nat → Nat → Int32) × (Nat → Int32) := bnd (va_up F 7 (upd (F 7) (nI sv).toNatClampNeg p1)) (fun (F1 : Nat → Nat → Int32) => bnd (V 22) (fun (x2 : Int32) => bnd (va_up F1 8 (upd (F1 8) (nI sv).toNatClampNeg x2)) (fun (F3 : Nat → Nat → Int32) => bnd ((V 45).toNatClampNeg) (fun (ch4 : Nat) => bnd (ch4 % 2000) (fun (m5 : Nat) => bnd (V 22) (fun (x6 : Int32) => bnd (va_up F3 42 (upd (F3 42) (nI m5).toNatClampNeg x6)) (fun (F7 : Nat → Nat → Int32) => bnd ((V 45).toNatClampNeg) (fun (ch8 : Nat) => bnd (ch8 % 2000) (fun (m9 : Nat) => bnd (va_up F7 43 (upd (F7 43) (nI m9).toNatClampNeg (nI sv))) (fun (F10 : Nat → Nat → Int32) => bnd ((V 45).toNatClampNeg) (fun (ch11 : Nat) => bnd (ch11 % 2000) (fun (m12 : Nat) => bnd (va_up F10 44 (upd (F10 44) (nI m12).toNatClampNeg p1)) (fun (F13 : Nat → Nat → Int32) => bnd ((V 45).toNatClampNeg) (fun (ch14 : Nat) => bnd (va_up V 45 (nI (ch14 + 1))) (fun (V15 : Nat → Int32) => bnd (va_up F13 11 (upd (F13 11) (nI sv).toNatClampNeg (vp_nar .boolean 0))) (fun (F16 : Nat → Nat → Int32) => if p1 = (2 : Int32) then (bnd (F16 9 (nI sv).toNatClampNeg) (fun (x18 : Int32) => bnd (x18.toNatClampNeg) (fun (m19 : Nat) => if 7 ≤ m19 then (bnd (F16 3 (nI ((8 * sv) + 7)).toNatClampNeg) (fun (x21 : Int32) => bnd (va_up F16 12 (upd (F16 12) (nI sv).toNatClampNeg x21)) (fun (F22 : Nat → Nat → Int32) => bnd (F22 9 (nI sv).toNatClampNeg) (fun (x23 : Int32) => bnd (x23.toNatClampNeg) (fun (m24 : Nat) => bnd (va_up F22 9 (upd (F22 9) (nI sv).toNatClampNeg (nI (m24 + 1)))) (fun (F25 : Nat → Nat → Int32) => (F25, V15))))))) else (bnd (F16 3 (nI ((8 * sv) + m19)).toNatClampNeg) (fun (x27 : Int32) => bnd (va_up F16 12 (upd (F16 12) (nI sv).toNatClampNeg x27)) (fun (F28 : Nat → Nat → Int32) => bnd (F28 9 (nI sv).toNatClampNeg) (fun (x29 : Int32) => bnd (x29.toNatClampNeg) (fun (m30 : Nat) => bnd (va_up F28 9 (upd (F28 9) (nI sv).toNatClampNeg (nI (m30 + 1)))) (fun (F31 : Nat → Nat → Int32) => (F31, V15)))))))))) else ((F16, V15))))))))))))))))))
def wq_w_to : List Cond := ([.code yX9_to cX9_to 3 none, .fieldLink RX9 31 "ServiceTreeModel" "state" "[I", .fieldLink RX9 34 "ServiceTreeModel" "since" "[I", .fieldLink RX9 129 "ServiceTreeModel" "tick" "I", .fieldLink RX9 117 "ServiceTreeModel" "changeTick" "[I", .fieldLink RX9 132 "ServiceTreeModel" "changes" "I", .fieldLink RX9 120 "ServiceTreeModel" "changeService" "[I", .fieldLink RX9 123 "ServiceTreeModel" "changeState" "[I", .fieldLink RX9 43 "ServiceTreeModel" "hasEnded" "[Z", .fieldLink RX9 47 "ServiceTreeModel" "lives" "[I", .fieldLink RX9 19 "ServiceTreeModel" "life" "[I", .fieldLink RX9 37 "ServiceTreeModel" "starts" "[I"] : List Cond) ++ (wsX90)
theorem in_w_to_X9 : ∀ w ∈ wsX90, w ∈ wq_w_to := fun _ h => List.mem_append_right _ (h)
set_option maxRecDepth 20000 in
theorem wi_w_to : ∀ w ∈ wq_w_to, w ∈ lw_tbl := List.forall_mem_append.mpr ⟨(wix [1093, 859, 860, 874, 894, 897, 895, 896, 863, 864, 855, 861] rfl), inKX9⟩
set_option maxRecDepth 20000 in
theorem wg_w_to : GoodIn wq_w_to wq_w_to := goodIn_sub (fun _ h => h) (by decide +kernel)
def rm_w_to : Room := { frames := 0, cells := 0, slots := 0, locals := 0 }
set_option maxHeartbeats 4000000 in
set_option maxRecDepth 100000 in
theorem c_w_to (l : Launch) (dC : Nat → ClassId) (dI : Nat → Nat → Nat) (h : Nat) (a : Nat → Nat) (k : Nat → ClassId) (F : Nat → Nat → Int32) (V : Nat → Int32) (n b : Nat) (sv : Nat) (p1 : Int32) (sz : Nat) (hI0 : InvM n b F V) (hb0 : b + 2 < 2147483648) (hp0 : sv < n) : Met l yX9_to wq_w_to rm_w_to (va_Pc [.ref h, .int (nI sv), .int p1] (fun U => U.heap.size = sz ∧ va_P (dC, dI) vwCl (mW h a k F V) U.heap ∧ va_K (dC, dI) vwCl (mT k) U ∧ va_D (fun _ => True) (mW h a k F V))) (va_Qv (fun (u : (Nat → Nat → Int32) × (Nat → Int32)) => StM n (b + 2) F V u.1 u.2 ∧ (∀ j : Nat, j ∉ ([7, 8, 9, 11, 12, 42, 43, 44] : List Nat) → u.1 j = F j) ∧ (∀ j : Nat, j ∉ ([45] : List Nat) → u.2 j = V j) ∧ (((u.1, u.2) = f_w_to n sv p1 F V) ∧ (u.1 7 = upd (F 7) (nI sv).toNatClampNeg p1))) (fun (u : (Nat → Nat → Int32) × (Nat → Int32)) (t : State) => va_P (dC, dI) vwCl (mW h a k u.1 u.2) t.heap ∧ va_D (va_A (mW h a k F V) sz) (mW h a k u.1 u.2)) (va_A (mW h a k F V) sz)) 0 0 (va_A (mW h a k F V) sz) := by
  have hn : n ≤ 40 := hI0.1
  have hI : StM n b F V F V := StM.rf hI0
  have hU : ∀ j : Nat, j ∉ ([7, 8, 9, 11, 12, 42, 43, 44] : List Nat) → F j = F j := fun _ _ => rfl
  have hV : ∀ j : Nat, j ∉ ([45] : List Nat) → V j = V j := fun _ _ => rfl
  refine Met.ofW (cc := cX9_to) (maxL := 3) (ret := none) (by decide) rfl ?_
  intro p e s m args below meth c s₁ B hml hv
  obtain ⟨rfl, hsz, hP, hK, hD0⟩ := hv
  have hx := B.exec
  have hb := B.bytes
  have hr := B.returns
  have hts := atoms_spec (ws := wq_w_to) B.pre
  have hown : s.vm.findClass RX9 = some m.cls := findClass_of_methodNamed B.named
  have hlocks := B.notSynchronized
  subst hsz
  have hD := hD0.self (sz := s.heap.size)
  generalize hAe : va_A (mW h a k F V) s.heap.size = A at hD ⊢
  have hA : ∀ q : Nat, s.heap.size ≤ q → A q := fun q h => by rw [← hAe]; exact Or.inr h
  have hS : va_S A s.heap s.heap [] := va_S.rf
  have hl := lv_entry ([.ref h, .int (nI sv), .int p1]) (n := 3) (Nat.le_of_ble_eq_true rfl)
  rw [lg_entry_eq]
  generalize (lg_sl ([.ref h, .int (nI sv), .int p1]) ++ List.replicate (3 - (lg_sl ([.ref h, .int (nI sv), .int p1])).length) Slot.unset).toArray = ls at hl ⊢
  have hl : lv_has ls 3 [(0, .ref h), (1, .int (nI sv)), (2, .int p1)] := hl
  obtain ⟨RES, hR0⟩ : ∃ R9, R9 = f_w_to n sv p1 F V := ⟨_, rfl⟩
  have hZ9 := hR0
  unfold f_w_to at hZ9
  refine lv_aload_n hx hb dX9_to_0 rfl (lv_at hl 0 rfl) ?_
  refine va_get (D := (dC, dI)) (ci := 10) (v := .ref (a 7)) (C := RX9) (T := TX9) (N := 46) hx hb hts in_w_to_X9 hown hK hP 0 rfl rfl 7 (by decide) (hts (.fieldLink RX9 31 "ServiceTreeModel" "state" "[I") (by decide +kernel)) (fun _ h9 => h9) rfl dX9_to_1 ?_
  refine lv_iload_n hx hb dX9_to_4 rfl (lv_at hl 1 rfl) ?_
  refine lv_iload_n hx hb dX9_to_5 rfl (lv_at hl 2 rfl) ?_
  refine va_iast (n := 40) (f := F 7) hx hb hK hP hD hS 8 7 rfl rfl (vp_in_nI (n := sv) (by omega) (by decide)) dX9_to_6 (fun H locs hP hD hS => ?_)
  rw [mW_set_7] at hP hD
  obtain ⟨F1, eF1⟩ : ∃ f9 : Nat → Nat → Int32, f9 = va_up F 7 (upd (F 7) (nI sv).toNatClampNeg p1) := ⟨_, rfl⟩
  rw [← eF1] at hP hD
  replace hZ9 := bnd_s hZ9 eF1
  replace hI : StM n (b) F V F1 V := ⟨by rw [eF1]; exact hI.1.setF (by decide), trivial⟩
  replace hU : ∀ j : Nat, j ∉ ([7, 8, 9, 11, 12, 42, 43, 44] : List Nat) → F1 j = F j := by rw [eF1]; exact mw_up (by decide) hU
  refine lv_aload_n hx hb dX9_to_7 rfl (lv_at hl 0 rfl) ?_
  refine va_get (D := (dC, dI)) (ci := 10) (v := .ref (a 8)) (C := RX9) (T := TX9) (N := 46) hx hb hts in_w_to_X9 hown hK hP 0 rfl rfl 8 (by decide) (hts (.fieldLink RX9 34 "ServiceTreeModel" "since" "[I") (by decide +kernel)) (fun _ h9 => h9) rfl dX9_to_8 ?_
  refine lv_iload_n hx hb dX9_to_11 rfl (lv_at hl 1 rfl) ?_
  refine lv_aload_n hx hb dX9_to_12 rfl (lv_at hl 0 rfl) ?_
  refine va_get (D := (dC, dI)) (ci := 10) (v := .int (V 22)) (C := RX9) (T := TX9) (N := 46) hx hb hts in_w_to_X9 hown hK hP 0 rfl rfl 22 (by decide) (hts (.fieldLink RX9 129 "ServiceTreeModel" "tick" "I") (by decide +kernel)) (fun _ h9 => h9) rfl dX9_to_13 ?_
  refine lv_topi (fun x2 ex2 => ?_)
  replace hZ9 := bnd_s hZ9 ex2
  refine va_iast (n := 40) (f := F1 8) hx hb hK hP hD hS 9 8 rfl rfl (vp_in_nI (n := sv) (by omega) (by decide)) dX9_to_16 (fun H locs hP hD hS => ?_)
  rw [mW_set_8] at hP hD
  obtain ⟨F3, eF3⟩ : ∃ f9 : Nat → Nat → Int32, f9 = va_up F1 8 (upd (F1 8) (nI sv).toNatClampNeg x2) := ⟨_, rfl⟩
  rw [← eF3] at hP hD
  replace hZ9 := bnd_s hZ9 eF3
  replace hI : StM n (b) F V F3 V := ⟨by rw [eF3]; exact hI.1.setF (by decide), trivial⟩
  replace hU : ∀ j : Nat, j ∉ ([7, 8, 9, 11, 12, 42, 43, 44] : List Nat) → F3 j = F j := by rw [eF3]; exact mw_up (by decide) hU
  refine lv_aload_n hx hb dX9_to_17 rfl (lv_at hl 0 rfl) ?_
  refine va_get (D := (dC, dI)) (ci := 10) (v := .ref (a 42)) (C := RX9) (T := TX9) (N := 46) hx hb hts in_w_to_X9 hown hK hP 0 rfl rfl 42 (by decide) (hts (.fieldLink RX9 117 "ServiceTreeModel" "changeTick" "[I") (by decide +kernel)) (fun _ h9 => h9) rfl dX9_to_18 ?_
  refine lv_aload_n hx hb dX9_to_21 rfl (lv_at hl 0 rfl) ?_
  refine va_get (D := (dC, dI)) (ci := 10) (v := .int (V 45)) (C := RX9) (T := TX9) (N := 46) hx hb hts in_w_to_X9 hown hK hP 0 rfl rfl 45 (by decide) (hts (.fieldLink RX9 132 "ServiceTreeModel" "changes" "I") (by decide +kernel)) (fun _ h9 => h9) rfl dX9_to_22 ?_
  obtain ⟨ch4, hch4, ech4⟩ := hI.1.2.2.2.1
  refine p1_topr (v := .int (nI ch4)) (congrArg Value.int ech4) ?_
  replace hZ9 := bnd_s hZ9 (show ch4 = (V 45).toNatClampNeg by rw [ech4, nI_clamp (by omega)])
  refine lv_sipush (v := 2000) hx hb dX9_to_25 (by decide) ?_
  refine lv_irem hx hb dX9_to_28 (by decide) ?_
  obtain ⟨m5, hm5, em5⟩ : ∃ z9 : Nat, z9 < 2000 ∧ z9 = ch4 % 2000 := ⟨_, Nat.mod_lt _ (by decide), rfl⟩
  refine p1_topr (v := .int (nI m5)) (congrArg Value.int (by rw [em5]; exact pk_rem (a := ch4) (d := 2000) (by omega) (by decide) (by decide))) ?_
  replace hZ9 := bnd_s hZ9 em5
  refine lv_aload_n hx hb dX9_to_29 rfl (lv_at hl 0 rfl) ?_
  refine va_get (D := (dC, dI)) (ci := 10) (v := .int (V 22)) (C := RX9) (T := TX9) (N := 46) hx hb hts in_w_to_X9 hown hK hP 0 rfl rfl 22 (by decide) (hts (.fieldLink RX9 129 "ServiceTreeModel" "tick" "I") (by decide +kernel)) (fun _ h9 => h9) rfl dX9_to_30 ?_
  refine lv_topi (fun x6 ex6 => ?_)
  replace hZ9 := bnd_s hZ9 ex6
  refine va_iast (n := 2000) (f := F3 42) hx hb hK hP hD hS 35 34 rfl rfl (vp_in_nI (n := m5) (by omega) (by decide)) dX9_to_33 (fun H locs hP hD hS => ?_)
  rw [mW_set_42] at hP hD
  obtain ⟨F7, eF7⟩ : ∃ f9 : Nat → Nat → Int32, f9 = va_up F3 42 (upd (F3 42) (nI m5).toNatClampNeg x6) := ⟨_, rfl⟩
  rw [← eF7] at hP hD
  replace hZ9 := bnd_s hZ9 eF7
  replace hI : StM n (b) F V F7 V := ⟨by rw [eF7]; exact hI.1.setF (by decide), trivial⟩
  replace hU : ∀ j : Nat, j ∉ ([7, 8, 9, 11, 12, 42, 43, 44] : List Nat) → F7 j = F j := by rw [eF7]; exact mw_up (by decide) hU
  refine lv_aload_n hx hb dX9_to_34 rfl (lv_at hl 0 rfl) ?_
  refine va_get (D := (dC, dI)) (ci := 10) (v := .ref (a 43)) (C := RX9) (T := TX9) (N := 46) hx hb hts in_w_to_X9 hown hK hP 0 rfl rfl 43 (by decide) (hts (.fieldLink RX9 120 "ServiceTreeModel" "changeService" "[I") (by decide +kernel)) (fun _ h9 => h9) rfl dX9_to_35 ?_
  refine lv_aload_n hx hb dX9_to_38 rfl (lv_at hl 0 rfl) ?_
  refine va_get (D := (dC, dI)) (ci := 10) (v := .int (V 45)) (C := RX9) (T := TX9) (N := 46) hx hb hts in_w_to_X9 hown hK hP 0 rfl rfl 45 (by decide) (hts (.fieldLink RX9 132 "ServiceTreeModel" "changes" "I") (by decide +kernel)) (fun _ h9 => h9) rfl dX9_to_39 ?_
  obtain ⟨ch8, hch8, ech8⟩ := hI.1.2.2.2.1
  refine p1_topr (v := .int (nI ch8)) (congrArg Value.int ech8) ?_
  replace hZ9 := bnd_s hZ9 (show ch8 = (V 45).toNatClampNeg by rw [ech8, nI_clamp (by omega)])
  refine lv_sipush (v := 2000) hx hb dX9_to_42 (by decide) ?_
  refine lv_irem hx hb dX9_to_45 (by decide) ?_
  obtain ⟨m9, hm9, em9⟩ : ∃ z9 : Nat, z9 < 2000 ∧ z9 = ch8 % 2000 := ⟨_, Nat.mod_lt _ (by decide), rfl⟩
  refine p1_topr (v := .int (nI m9)) (congrArg Value.int (by rw [em9]; exact pk_rem (a := ch8) (d := 2000) (by omega) (by decide) (by decide))) ?_
  replace hZ9 := bnd_s hZ9 em9
  refine lv_iload_n hx hb dX9_to_46 rfl (lv_at hl 1 rfl) ?_
  refine va_iast (n := 2000) (f := F7 43) hx hb hK hP hD hS 36 35 rfl rfl (vp_in_nI (n := m9) (by omega) (by decide)) dX9_to_47 (fun H locs hP hD hS => ?_)
  rw [mW_set_43] at hP hD
  obtain ⟨F10, eF10⟩ : ∃ f9 : Nat → Nat → Int32, f9 = va_up F7 43 (upd (F7 43) (nI m9).toNatClampNeg (nI sv)) := ⟨_, rfl⟩
  rw [← eF10] at hP hD
  replace hZ9 := bnd_s hZ9 eF10
  replace hI : StM n (b) F V F10 V := ⟨by rw [eF10]; exact hI.1.setF (by decide), trivial⟩
  replace hU : ∀ j : Nat, j ∉ ([7, 8, 9, 11, 12, 42, 43, 44] : List Nat) → F10 j = F j := by rw [eF10]; exact mw_up (by decide) hU
  refine lv_aload_n hx hb dX9_to_48 rfl (lv_at hl 0 rfl) ?_
  refine va_get (D := (dC, dI)) (ci := 10) (v := .ref (a 44)) (C := RX9) (T := TX9) (N := 46) hx hb hts in_w_to_X9 hown hK hP 0 rfl rfl 44 (by decide) (hts (.fieldLink RX9 123 "ServiceTreeModel" "changeState" "[I") (by decide +kernel)) (fun _ h9 => h9) rfl dX9_to_49 ?_
  refine lv_aload_n hx hb dX9_to_52 rfl (lv_at hl 0 rfl) ?_
  refine va_get (D := (dC, dI)) (ci := 10) (v := .int (V 45)) (C := RX9) (T := TX9) (N := 46) hx hb hts in_w_to_X9 hown hK hP 0 rfl rfl 45 (by decide) (hts (.fieldLink RX9 132 "ServiceTreeModel" "changes" "I") (by decide +kernel)) (fun _ h9 => h9) rfl dX9_to_53 ?_
  obtain ⟨ch11, hch11, ech11⟩ := hI.1.2.2.2.1
  refine p1_topr (v := .int (nI ch11)) (congrArg Value.int ech11) ?_
  replace hZ9 := bnd_s hZ9 (show ch11 = (V 45).toNatClampNeg by rw [ech11, nI_clamp (by omega)])
  refine lv_sipush (v := 2000) hx hb dX9_to_56 (by decide) ?_
  refine lv_irem hx hb dX9_to_59 (by decide) ?_
  obtain ⟨m12, hm12, em12⟩ : ∃ z9 : Nat, z9 < 2000 ∧ z9 = ch11 % 2000 := ⟨_, Nat.mod_lt _ (by decide), rfl⟩
  refine p1_topr (v := .int (nI m12)) (congrArg Value.int (by rw [em12]; exact pk_rem (a := ch11) (d := 2000) (by omega) (by decide) (by decide))) ?_
  replace hZ9 := bnd_s hZ9 em12
  refine lv_iload_n hx hb dX9_to_60 rfl (lv_at hl 2 rfl) ?_
  refine va_iast (n := 2000) (f := F10 44) hx hb hK hP hD hS 37 36 rfl rfl (vp_in_nI (n := m12) (by omega) (by decide)) dX9_to_61 (fun H locs hP hD hS => ?_)
  rw [mW_set_44] at hP hD
  obtain ⟨F13, eF13⟩ : ∃ f9 : Nat → Nat → Int32, f9 = va_up F10 44 (upd (F10 44) (nI m12).toNatClampNeg p1) := ⟨_, rfl⟩
  rw [← eF13] at hP hD
  replace hZ9 := bnd_s hZ9 eF13
  replace hI : StM n (b) F V F13 V := ⟨by rw [eF13]; exact hI.1.setF (by decide), trivial⟩
  replace hU : ∀ j : Nat, j ∉ ([7, 8, 9, 11, 12, 42, 43, 44] : List Nat) → F13 j = F j := by rw [eF13]; exact mw_up (by decide) hU
  refine lv_aload_n hx hb dX9_to_62 rfl (lv_at hl 0 rfl) ?_
  refine lv_dup hx hb dX9_to_63 rfl ?_
  refine va_get (D := (dC, dI)) (ci := 10) (v := .int (V 45)) (C := RX9) (T := TX9) (N := 46) hx hb hts in_w_to_X9 hown hK hP 0 rfl rfl 45 (by decide) (hts (.fieldLink RX9 132 "ServiceTreeModel" "changes" "I") (by decide +kernel)) (fun _ h9 => h9) rfl dX9_to_64 ?_
  obtain ⟨ch14, hch14, ech14⟩ := hI.1.2.2.2.1
  refine p1_topr (v := .int (nI ch14)) (congrArg Value.int ech14) ?_
  replace hZ9 := bnd_s hZ9 (show ch14 = (V 45).toNatClampNeg by rw [ech14, nI_clamp (by omega)])
  refine lv_iconst (v := 1) hx hb dX9_to_67 (by decide) ?_
  refine lv_iadd hx hb dX9_to_68 ?_
  refine p1_topr (v := .int (nI (ch14 + 1))) (congrArg Value.int (nI_add ch14 1)) ?_
  refine va_put (D := (dC, dI)) (ci := 10) (fs := mF a V) (v := .int (nI (ch14 + 1))) (ty := .int) (C := RX9) (T := TX9) (N := 46) hx hb hts in_w_to_X9 tyX9 tyX9_ok nmX9 hown hK hP hD hS 0 rfl rfl 45 (by decide) (hts (.fieldLink RX9 132 "ServiceTreeModel" "changes" "I") (by decide +kernel)) (fun _ h9 => h9) rfl (by decide +kernel) rfl rfl (Nat.le_of_ble_eq_true rfl) dX9_to_69 (fun H locs hP hD hS => ?_)
  rw [mW_put_45] at hP hD
  obtain ⟨V15, eV15⟩ : ∃ f9 : Nat → Int32, f9 = va_up V 45 (nI (ch14 + 1)) := ⟨_, rfl⟩
  rw [← eV15] at hP hD
  replace hZ9 := bnd_s hZ9 eV15
  replace hI := hI.mono (show b ≤ b + 1 by omega)
  replace hI : StM n (b + 1) F V F13 V15 := ⟨by rw [eV15]; exact hI.1.put45 (x := ch14 + 1) (by omega), trivial⟩
  replace hV : ∀ j : Nat, j ∉ ([45] : List Nat) → V15 j = V j := by rw [eV15]; exact mw_up (by decide) hV
  refine lv_aload_n hx hb dX9_to_72 rfl (lv_at hl 0 rfl) ?_
  refine va_get (D := (dC, dI)) (ci := 10) (v := .ref (a 11)) (C := RX9) (T := TX9) (N := 46) hx hb hts in_w_to_X9 hown hK hP 0 rfl rfl 11 (by decide) (hts (.fieldLink RX9 43 "ServiceTreeModel" "hasEnded" "[Z") (by decide +kernel)) (fun _ h9 => h9) rfl dX9_to_73 ?_
  refine lv_iload_n hx hb dX9_to_76 rfl (lv_at hl 1 rfl) ?_
  refine lv_iconst (v := 0) hx hb dX9_to_77 (by decide) ?_
  refine va_zast (n := 40) (f := F13 11) hx hb hK hP hD hS 12 11 rfl rfl (vp_in_nI (n := sv) (by omega) (by decide)) dX9_to_78 (fun H locs hP hD hS => ?_)
  rw [mW_set_11] at hP hD
  obtain ⟨F16, eF16⟩ : ∃ f9 : Nat → Nat → Int32, f9 = va_up F13 11 (upd (F13 11) (nI sv).toNatClampNeg (vp_nar .boolean 0)) := ⟨_, rfl⟩
  rw [← eF16] at hP hD
  replace hZ9 := bnd_s hZ9 eF16
  replace hI : StM n (b + 1) F V F16 V15 := ⟨by rw [eF16]; exact hI.1.setF (by decide), trivial⟩
  replace hU : ∀ j : Nat, j ∉ ([7, 8, 9, 11, 12, 42, 43, 44] : List Nat) → F16 j = F j := by rw [eF16]; exact mw_up (by decide) hU
  refine lv_iload_n hx hb dX9_to_79 rfl (lv_at hl 2 rfl) ?_
  refine lv_iconst (v := 2) hx hb dX9_to_80 (by decide) ?_
  refine lv_icmp_ne (tgt := 132) hx hb dX9_to_81 (by decide) (fun c17 => ?_) (fun c17 => ?_)
  · replace hZ9 := ite_f hZ9 c17
    exact W.vret hx hb hr (fun t ht hW => ⟨⟨(F16, V15), rfl, ⟨hI.mono (by omega), hU, hV, ⟨hZ9.symm.trans hR0, by simp [eF16, eF13, eF10, eF7, eF3, eF1, va_up]⟩⟩, by rw [ht]; exact hP, hD⟩, hS.F ht⟩) hS.2.2 dX9_to_132
  · replace hZ9 := ite_t hZ9 c17
    refine lv_aload_n hx hb dX9_to_84 rfl (lv_at hl 0 rfl) ?_
    refine va_get (D := (dC, dI)) (ci := 10) (v := .ref (a 12)) (C := RX9) (T := TX9) (N := 46) hx hb hts in_w_to_X9 hown hK hP 0 rfl rfl 12 (by decide) (hts (.fieldLink RX9 47 "ServiceTreeModel" "lives" "[I") (by decide +kernel)) (fun _ h9 => h9) rfl dX9_to_85 ?_
    refine lv_iload_n hx hb dX9_to_88 rfl (lv_at hl 1 rfl) ?_
    refine lv_aload_n hx hb dX9_to_89 rfl (lv_at hl 0 rfl) ?_
    refine va_get (D := (dC, dI)) (ci := 10) (v := .ref (a 3)) (C := RX9) (T := TX9) (N := 46) hx hb hts in_w_to_X9 hown hK hP 0 rfl rfl 3 (by decide) (hts (.fieldLink RX9 19 "ServiceTreeModel" "life" "[I") (by decide +kernel)) (fun _ h9 => h9) rfl dX9_to_90 ?_
    refine lv_bipush (v := 8) hx hb dX9_to_93 (by decide) ?_
    refine lv_iload_n hx hb dX9_to_95 rfl (lv_at hl 1 rfl) ?_
    refine lv_imul hx hb dX9_to_96 ?_
    refine p1_topr (v := .int (nI (8 * sv))) (congrArg Value.int (pk_mul 8 sv)) ?_
    refine lv_aload_n hx hb dX9_to_97 rfl (lv_at hl 0 rfl) ?_
    refine va_get (D := (dC, dI)) (ci := 10) (v := .ref (a 9)) (C := RX9) (T := TX9) (N := 46) hx hb hts in_w_to_X9 hown hK hP 0 rfl rfl 9 (by decide) (hts (.fieldLink RX9 37 "ServiceTreeModel" "starts" "[I") (by decide +kernel)) (fun _ h9 => h9) rfl dX9_to_98 ?_
    refine lv_iload_n hx hb dX9_to_101 rfl (lv_at hl 1 rfl) ?_
    refine va_iald (n := 40) (f := F16 9) hx hb hK hP 10 9 rfl rfl (vp_in_nI (n := sv) (by omega) (by decide)) dX9_to_102 ?_
    refine lv_topi (fun x18 ex18 => ?_)
    replace hZ9 := bnd_s hZ9 ex18
    obtain ⟨m19, hm19, qm19⟩ := hI.1.2.2.2.2.1 (nI sv).toNatClampNeg
    obtain rfl : x18 = nI m19 := ex18.trans qm19
    replace hZ9 := bnd_s hZ9 (show m19 = (nI m19).toNatClampNeg by rw [nI_clamp (by omega)])
    refine lv_bipush (v := 7) hx hb dX9_to_103 (by decide) ?_
    refine lv_icmp_ge (tgt := 117) hx hb dX9_to_105 (by decide) (fun c20 => ?_) (fun c20 => ?_)
    · replace c20 : 7 ≤ m19 := (nI_leI (a := 7) (b := m19) (by omega) (by omega)).mp c20
      replace hZ9 := ite_t hZ9 c20
      refine lv_bipush (v := 7) hx hb dX9_to_117 (by decide) ?_
      refine lv_iadd hx hb dX9_to_119 ?_
      refine p1_topr (v := .int (nI ((8 * sv) + 7))) (congrArg Value.int (nI_add (8 * sv) 7)) ?_
      refine va_iald (n := 320) (f := F16 3) hx hb hK hP 4 3 rfl rfl (vp_in_nI (n := (8 * sv) + 7) (by omega) (by decide)) dX9_to_120 ?_
      refine lv_topi (fun x21 ex21 => ?_)
      replace hZ9 := bnd_s hZ9 ex21
      refine va_iast (n := 40) (f := F16 12) hx hb hK hP hD hS 13 12 rfl rfl (vp_in_nI (n := sv) (by omega) (by decide)) dX9_to_121 (fun H locs hP hD hS => ?_)
      rw [mW_set_12] at hP hD
      obtain ⟨F22, eF22⟩ : ∃ f9 : Nat → Nat → Int32, f9 = va_up F16 12 (upd (F16 12) (nI sv).toNatClampNeg x21) := ⟨_, rfl⟩
      rw [← eF22] at hP hD
      replace hZ9 := bnd_s hZ9 eF22
      replace hI : StM n (b + 1) F V F22 V15 := ⟨by rw [eF22]; exact hI.1.setF (by decide), trivial⟩
      replace hU : ∀ j : Nat, j ∉ ([7, 8, 9, 11, 12, 42, 43, 44] : List Nat) → F22 j = F j := by rw [eF22]; exact mw_up (by decide) hU
      refine lv_aload_n hx hb dX9_to_122 rfl (lv_at hl 0 rfl) ?_
      refine va_get (D := (dC, dI)) (ci := 10) (v := .ref (a 9)) (C := RX9) (T := TX9) (N := 46) hx hb hts in_w_to_X9 hown hK hP 0 rfl rfl 9 (by decide) (hts (.fieldLink RX9 37 "ServiceTreeModel" "starts" "[I") (by decide +kernel)) (fun _ h9 => h9) rfl dX9_to_123 ?_
      refine lv_iload_n hx hb dX9_to_126 rfl (lv_at hl 1 rfl) ?_
      refine lv_dup2_11 hx hb dX9_to_127 rfl rfl ?_
      refine va_iald (n := 40) (f := F22 9) hx hb hK hP 10 9 rfl rfl (vp_in_nI (n := sv) (by omega) (by decide)) dX9_to_128 ?_
      refine lv_topi (fun x23 ex23 => ?_)
      replace hZ9 := bnd_s hZ9 ex23
      obtain ⟨m24, hm24, qm24⟩ := hI.1.2.2.2.2.1 (nI sv).toNatClampNeg
      obtain rfl : x23 = nI m24 := ex23.trans qm24
      replace hZ9 := bnd_s hZ9 (show m24 = (nI m24).toNatClampNeg by rw [nI_clamp (by omega)])
      refine lv_iconst (v := 1) hx hb dX9_to_129 (by decide) ?_
      refine lv_iadd hx hb dX9_to_130 ?_
      refine p1_topr (v := .int (nI (m24 + 1))) (congrArg Value.int (nI_add m24 1)) ?_
      refine va_iast (n := 40) (f := F22 9) hx hb hK hP hD hS 10 9 rfl rfl (vp_in_nI (n := sv) (by omega) (by decide)) dX9_to_131 (fun H locs hP hD hS => ?_)
      rw [mW_set_9] at hP hD
      obtain ⟨F25, eF25⟩ : ∃ f9 : Nat → Nat → Int32, f9 = va_up F22 9 (upd (F22 9) (nI sv).toNatClampNeg (nI (m24 + 1))) := ⟨_, rfl⟩
      rw [← eF25] at hP hD
      replace hZ9 := bnd_s hZ9 eF25
      replace hI := hI.mono (show b + 1 ≤ b + 1 + 1 by omega)
      replace hI : StM n (b + 1 + 1) F V F25 V15 := ⟨by rw [eF25]; exact hI.1.set9 (i := (nI sv).toNatClampNeg) (x := m24 + 1) (by omega), trivial⟩
      replace hU : ∀ j : Nat, j ∉ ([7, 8, 9, 11, 12, 42, 43, 44] : List Nat) → F25 j = F j := by rw [eF25]; exact mw_up (by decide) hU
      exact W.vret hx hb hr (fun t ht hW => ⟨⟨(F25, V15), rfl, ⟨hI.mono (by omega), hU, hV, ⟨hZ9.symm.trans hR0, by simp [eF25, eF22, eF16, eF13, eF10, eF7, eF3, eF1, va_up]⟩⟩, by rw [ht]; exact hP, hD⟩, hS.F ht⟩) hS.2.2 dX9_to_132
    · replace c20 : ¬ (7 ≤ m19) := fun q9 => c20 ((nI_leI (a := 7) (b := m19) (by omega) (by omega)).mpr q9)
      replace hZ9 := ite_f hZ9 c20
      refine lv_aload_n hx hb dX9_to_108 rfl (lv_at hl 0 rfl) ?_
      refine va_get (D := (dC, dI)) (ci := 10) (v := .ref (a 9)) (C := RX9) (T := TX9) (N := 46) hx hb hts in_w_to_X9 hown hK hP 0 rfl rfl 9 (by decide) (hts (.fieldLink RX9 37 "ServiceTreeModel" "starts" "[I") (by decide +kernel)) (fun _ h9 => h9) rfl dX9_to_109 ?_
      refine lv_iload_n hx hb dX9_to_112 rfl (lv_at hl 1 rfl) ?_
      refine va_iald (n := 40) (f := F16 9) hx hb hK hP 10 9 rfl rfl (vp_in_nI (n := sv) (by omega) (by decide)) dX9_to_113 ?_
      refine p1_topr (v := .int (nI m19)) (congrArg Value.int qm19) ?_
      refine lv_goto (tgt := 119) hx hb dX9_to_114 (by decide) ?_
      refine lv_iadd hx hb dX9_to_119 ?_
      refine p1_topr (v := .int (nI ((8 * sv) + m19))) (congrArg Value.int (nI_add (8 * sv) m19)) ?_
      refine va_iald (n := 320) (f := F16 3) hx hb hK hP 4 3 rfl rfl (vp_in_nI (n := (8 * sv) + m19) (by omega) (by decide)) dX9_to_120 ?_
      refine lv_topi (fun x27 ex27 => ?_)
      replace hZ9 := bnd_s hZ9 ex27
      refine va_iast (n := 40) (f := F16 12) hx hb hK hP hD hS 13 12 rfl rfl (vp_in_nI (n := sv) (by omega) (by decide)) dX9_to_121 (fun H locs hP hD hS => ?_)
      rw [mW_set_12] at hP hD
      obtain ⟨F28, eF28⟩ : ∃ f9 : Nat → Nat → Int32, f9 = va_up F16 12 (upd (F16 12) (nI sv).toNatClampNeg x27) := ⟨_, rfl⟩
      rw [← eF28] at hP hD
      replace hZ9 := bnd_s hZ9 eF28
      replace hI : StM n (b + 1) F V F28 V15 := ⟨by rw [eF28]; exact hI.1.setF (by decide), trivial⟩
      replace hU : ∀ j : Nat, j ∉ ([7, 8, 9, 11, 12, 42, 43, 44] : List Nat) → F28 j = F j := by rw [eF28]; exact mw_up (by decide) hU
      refine lv_aload_n hx hb dX9_to_122 rfl (lv_at hl 0 rfl) ?_
      refine va_get (D := (dC, dI)) (ci := 10) (v := .ref (a 9)) (C := RX9) (T := TX9) (N := 46) hx hb hts in_w_to_X9 hown hK hP 0 rfl rfl 9 (by decide) (hts (.fieldLink RX9 37 "ServiceTreeModel" "starts" "[I") (by decide +kernel)) (fun _ h9 => h9) rfl dX9_to_123 ?_
      refine lv_iload_n hx hb dX9_to_126 rfl (lv_at hl 1 rfl) ?_
      refine lv_dup2_11 hx hb dX9_to_127 rfl rfl ?_
      refine va_iald (n := 40) (f := F28 9) hx hb hK hP 10 9 rfl rfl (vp_in_nI (n := sv) (by omega) (by decide)) dX9_to_128 ?_
      refine lv_topi (fun x29 ex29 => ?_)
      replace hZ9 := bnd_s hZ9 ex29
      obtain ⟨m30, hm30, qm30⟩ := hI.1.2.2.2.2.1 (nI sv).toNatClampNeg
      obtain rfl : x29 = nI m30 := ex29.trans qm30
      replace hZ9 := bnd_s hZ9 (show m30 = (nI m30).toNatClampNeg by rw [nI_clamp (by omega)])
      refine lv_iconst (v := 1) hx hb dX9_to_129 (by decide) ?_
      refine lv_iadd hx hb dX9_to_130 ?_
      refine p1_topr (v := .int (nI (m30 + 1))) (congrArg Value.int (nI_add m30 1)) ?_
      refine va_iast (n := 40) (f := F28 9) hx hb hK hP hD hS 10 9 rfl rfl (vp_in_nI (n := sv) (by omega) (by decide)) dX9_to_131 (fun H locs hP hD hS => ?_)
      rw [mW_set_9] at hP hD
      obtain ⟨F31, eF31⟩ : ∃ f9 : Nat → Nat → Int32, f9 = va_up F28 9 (upd (F28 9) (nI sv).toNatClampNeg (nI (m30 + 1))) := ⟨_, rfl⟩
      rw [← eF31] at hP hD
      replace hZ9 := bnd_s hZ9 eF31
      replace hI := hI.mono (show b + 1 ≤ b + 1 + 1 by omega)
      replace hI : StM n (b + 1 + 1) F V F31 V15 := ⟨by rw [eF31]; exact hI.1.set9 (i := (nI sv).toNatClampNeg) (x := m30 + 1) (by omega), trivial⟩
      replace hU : ∀ j : Nat, j ∉ ([7, 8, 9, 11, 12, 42, 43, 44] : List Nat) → F31 j = F j := by rw [eF31]; exact mw_up (by decide) hU
      exact W.vret hx hb hr (fun t ht hW => ⟨⟨(F31, V15), rfl, ⟨hI.mono (by omega), hU, hV, ⟨hZ9.symm.trans hR0, by simp [eF31, eF28, eF16, eF13, eF10, eF7, eF3, eF1, va_up]⟩⟩, by rw [ht]; exact hP, hD⟩, hS.F ht⟩) hS.2.2 dX9_to_132
def f_w_jobs_4 (n : Nat) (F : Nat → Nat → Int32) : Nat → Nat → Int32 → (Nat → Int32 → Int32) → Int32
  | 0, i1, y5, K9_4 => K9_4 i1 y5
  | fu2 + 1, i1, y5, K9_4 => if n ≤ i1 then (K9_4 i1 y5) else (bnd (F 25 (nI i1).toNatClampNeg) (fun (x7 : Int32) => if x7 = (0 : Int32) then (bnd (y5 + (0 : Int32)) (fun (x9 : Int32) => f_w_jobs_4 n F fu2 (i1 + 1) x9 K9_4)) else (bnd (y5 + (1 : Int32)) (fun (x10 : Int32) => f_w_jobs_4 n F fu2 (i1 + 1) x10 K9_4))))
def f_w_jobs (n : Nat)  (F : Nat → Nat → Int32) : Int32 := f_w_jobs_4 n F (n + 1) (0 : Nat) (0 : Int32) (fun (i1 : Nat) (y5 : Int32) => (y5))
def wq_w_jobs : List Cond := ([.code yX9_jobs cX9_jobs 3 (some .int), .fieldLink RX9 126 "ServiceTreeModel" "services" "I", .fieldLink RX9 71 "ServiceTreeModel" "job" "[I"] : List Cond) ++ (wsX90)
theorem in_w_jobs_X9 : ∀ w ∈ wsX90, w ∈ wq_w_jobs := fun _ h => List.mem_append_right _ (h)
set_option maxRecDepth 20000 in
theorem wi_w_jobs : ∀ w ∈ wq_w_jobs, w ∈ lw_tbl := List.forall_mem_append.mpr ⟨(wix [1019, 873, 877] rfl), inKX9⟩
set_option maxRecDepth 20000 in
theorem wg_w_jobs : GoodIn wq_w_jobs wq_w_jobs := goodIn_sub (fun _ h => h) (by decide +kernel)
def rm_w_jobs : Room := { frames := 0, cells := 0, slots := 0, locals := 0 }
set_option maxHeartbeats 4000000 in
set_option maxRecDepth 100000 in
theorem c_w_jobs (l : Launch) (dC : Nat → ClassId) (dI : Nat → Nat → Nat) (h : Nat) (a : Nat → Nat) (k : Nat → ClassId) (F : Nat → Nat → Int32) (V : Nat → Int32) (n b : Nat)  (sz : Nat) (hI0 : InvM n b F V) (hb0 : b + 0 < 2147483648)  : Met l yX9_jobs wq_w_jobs rm_w_jobs (va_Pc [.ref h] (fun U => U.heap.size = sz ∧ va_P (dC, dI) vwCl (mW h a k F V) U.heap ∧ va_K (dC, dI) vwCl (mT k) U ∧ va_D (fun _ => True) (mW h a k F V))) (va_Qi (fun (r : Int32) (u : (Nat → Nat → Int32) × (Nat → Int32)) => u.1 = F ∧ u.2 = V ∧ (r = f_w_jobs n  F)) (fun (u : (Nat → Nat → Int32) × (Nat → Int32)) (t : State) => va_P (dC, dI) vwCl (mW h a k u.1 u.2) t.heap ∧ va_D (va_A (mW h a k F V) sz) (mW h a k u.1 u.2)) (va_A (mW h a k F V) sz)) 0 0 (va_A (mW h a k F V) sz) := by
  have hn : n ≤ 40 := hI0.1
  have hI : StM n b F V F V := StM.rf hI0
  have hU : ∀ j : Nat, j ∉ ([] : List Nat) → F j = F j := fun _ _ => rfl
  have hV : ∀ j : Nat, j ∉ ([] : List Nat) → V j = V j := fun _ _ => rfl
  refine Met.ofW (cc := cX9_jobs) (maxL := 3) (ret := (some .int)) (by decide) rfl ?_
  intro p e s m args below meth c s₁ B hml hv
  obtain ⟨rfl, hsz, hP, hK, hD0⟩ := hv
  have hx := B.exec
  have hb := B.bytes
  have hr := B.returns
  have hts := atoms_spec (ws := wq_w_jobs) B.pre
  have hown : s.vm.findClass RX9 = some m.cls := findClass_of_methodNamed B.named
  have hlocks := B.notSynchronized
  subst hsz
  have hD := hD0.self (sz := s.heap.size)
  generalize hAe : va_A (mW h a k F V) s.heap.size = A at hD ⊢
  have hA : ∀ q : Nat, s.heap.size ≤ q → A q := fun q h => by rw [← hAe]; exact Or.inr h
  have hS : va_S A s.heap s.heap [] := va_S.rf
  have hl := lv_entry ([.ref h]) (n := 3) (Nat.le_of_ble_eq_true rfl)
  rw [lg_entry_eq]
  generalize (lg_sl ([.ref h]) ++ List.replicate (3 - (lg_sl ([.ref h])).length) Slot.unset).toArray = ls at hl ⊢
  have hl : lv_has ls 3 [(0, .ref h)] := hl
  refine mw_Q (fun Q0 hQ => ?_)
  obtain ⟨RES, hR0⟩ : ∃ R9, R9 = f_w_jobs n  F := ⟨_, rfl⟩
  have hZ9 := hR0
  unfold f_w_jobs at hZ9
  refine lv_iconst (v := 0) hx hb dX9_jobs_0 (by decide) ?_
  refine lv_istore_n (lv' := [(1, .int 0), (0, .ref h)]) hx hb dX9_jobs_1 rfl hl (by decide) rfl (fun ls hl => ?_)
  refine lv_iconst (v := 0) hx hb dX9_jobs_2 (by decide) ?_
  refine lv_istore_n (lv' := [(2, .int 0), (1, .int 0), (0, .ref h)]) hx hb dX9_jobs_3 rfl hl (by decide) rfl (fun ls hl => ?_)
  obtain ⟨K9_4, hK9_4, hZ9⟩ := lp_gen hZ9
  have lp4 : ∀ (fu2 i1 : Nat) (y5 : Int32) (H : Heap) (locs : List Loc) (ls : Array Slot), n < i1 + fu2 → i1 ≤ n → RES = f_w_jobs_4 n F fu2 i1 y5 K9_4 → va_P (dC, dI) vwCl (mW h a k F V) H → va_D A (mW h a k F V) → va_S A s.heap H locs → lv_has ls 3 [(2, .int (nI i1)), (1, .int y5), (0, .ref h)] → W p l e (headSpec wq_w_jobs rm_w_jobs).room s m ([.ref h] : List Value).toArray below meth c H locs 0 0 Q0 (F0 m 4 ls []) := by
    intro fu2
    induction fu2 with
    | zero =>
      intro i1 y5 H locs ls hf hi
      exact absurd hf (by omega)
    | succ fu2 ih3 =>
      intro i1 y5 H locs ls hfi1 hii1 hZ9 hP hD hS hl
      rw [f_w_jobs_4] at hZ9
      refine lv_iload_n hx hb dX9_jobs_4 rfl (lv_at hl 0 rfl) ?_
      refine lv_aload_n hx hb dX9_jobs_5 rfl (lv_at hl 2 rfl) ?_
      refine va_get (D := (dC, dI)) (ci := 10) (v := .int (V 21)) (C := RX9) (T := TX9) (N := 46) hx hb hts in_w_jobs_X9 hown hK hP 0 rfl rfl 21 (by decide) (hts (.fieldLink RX9 126 "ServiceTreeModel" "services" "I") (by decide +kernel)) (fun _ h9 => h9) rfl dX9_jobs_6 ?_
      refine p1_topr (v := .int (nI n)) (congrArg Value.int hI.1.2.1) ?_
      refine lv_icmp_ge (tgt := 35) hx hb dX9_jobs_9 (by decide) (fun c6 => ?_) (fun c6 => ?_)
      · replace c6 : n ≤ i1 := (nI_leI (a := n) (b := i1) (by omega) (by omega)).mp c6
        replace hZ9 := ite_t hZ9 c6
        replace hZ9 := lp_app2 hK9_4 hZ9
        refine lv_iload_n hx hb dX9_jobs_35 rfl (lv_at hl 1 rfl) ?_
        rw [hQ]
        exact W.iret (v := y5) hx hb hr (fun t ht hW => ⟨⟨y5, (F, V), rfl, ⟨rfl, rfl, hZ9.symm.trans hR0⟩, by rw [ht]; exact hP, hD⟩, hS.F ht⟩) hS.2.2 dX9_jobs_36
      · replace c6 : ¬ (n ≤ i1) := fun q9 => c6 ((nI_leI (a := n) (b := i1) (by omega) (by omega)).mpr q9)
        replace hZ9 := ite_f hZ9 c6
        refine lv_iload_n hx hb dX9_jobs_12 rfl (lv_at hl 1 rfl) ?_
        refine lv_aload_n hx hb dX9_jobs_13 rfl (lv_at hl 2 rfl) ?_
        refine va_get (D := (dC, dI)) (ci := 10) (v := .ref (a 25)) (C := RX9) (T := TX9) (N := 46) hx hb hts in_w_jobs_X9 hown hK hP 0 rfl rfl 25 (by decide) (hts (.fieldLink RX9 71 "ServiceTreeModel" "job" "[I") (by decide +kernel)) (fun _ h9 => h9) rfl dX9_jobs_14 ?_
        refine lv_iload_n hx hb dX9_jobs_17 rfl (lv_at hl 0 rfl) ?_
        refine va_iald (n := 40) (f := F 25) hx hb hK hP 21 20 rfl rfl (vp_in_nI (n := i1) (by omega) (by decide)) dX9_jobs_18 ?_
        refine lv_topi (fun x7 ex7 => ?_)
        replace hZ9 := bnd_s hZ9 ex7
        refine lv_if_eq (tgt := 26) hx hb dX9_jobs_19 (by decide) (fun c8 => ?_) (fun c8 => ?_)
        · replace hZ9 := ite_t hZ9 c8
          refine lv_iconst (v := 0) hx hb dX9_jobs_26 (by decide) ?_
          refine lv_iadd hx hb dX9_jobs_27 ?_
          refine lv_topi (fun x9 ex9 => ?_)
          replace hZ9 := bnd_s hZ9 ex9
          refine lv_istore_n (lv' := [(1, .int x9), (2, .int (nI i1)), (0, .ref h)]) hx hb dX9_jobs_28 rfl hl (by decide) rfl (fun ls hl => ?_)
          refine lv_iinc (v := nI (i1 + 1)) (lv' := [(2, .int (nI (i1 + 1))), (1, .int x9), (0, .ref h)]) hx hb dX9_jobs_29 hl (k := 1) rfl (nI_add i1 1) (by decide) rfl (fun ls hl => ?_)
          refine lv_goto (tgt := 4) hx hb dX9_jobs_32 (by decide) ?_
          exact ih3 (i1 + 1) x9 _ _ _ (by omega) (by omega)  hZ9 hP hD hS (lv_sub hl [0, 1, 2] rfl)
        · replace hZ9 := ite_f hZ9 c8
          refine lv_iconst (v := 1) hx hb dX9_jobs_22 (by decide) ?_
          refine lv_goto (tgt := 27) hx hb dX9_jobs_23 (by decide) ?_
          refine lv_iadd hx hb dX9_jobs_27 ?_
          refine lv_topi (fun x10 ex10 => ?_)
          replace hZ9 := bnd_s hZ9 ex10
          refine lv_istore_n (lv' := [(1, .int x10), (2, .int (nI i1)), (0, .ref h)]) hx hb dX9_jobs_28 rfl hl (by decide) rfl (fun ls hl => ?_)
          refine lv_iinc (v := nI (i1 + 1)) (lv' := [(2, .int (nI (i1 + 1))), (1, .int x10), (0, .ref h)]) hx hb dX9_jobs_29 hl (k := 1) rfl (nI_add i1 1) (by decide) rfl (fun ls hl => ?_)
          refine lv_goto (tgt := 4) hx hb dX9_jobs_32 (by decide) ?_
          exact ih3 (i1 + 1) x10 _ _ _ (by omega) (by omega)  hZ9 hP hD hS (lv_sub hl [0, 1, 2] rfl)
  exact lp4 (n + 1) 0 0 _ _ _ (by omega) (by omega)  hZ9 hP hD hS hl
def wq_w_isPair : List Cond := ([.code yX9_isPair cX9_isPair 4 (some .boolean), .methodLink RX9 135 yX9_is, .instanceMethod yX9_is, .selects RX9 yX9_is yX9_is, .initialized RX9] : List Cond) ++ (wsX90 ++ (wq_w_is))
set_option maxRecDepth 20000 in
theorem wi_w_isPair : ∀ w ∈ wq_w_isPair, w ∈ lw_tbl := List.forall_mem_append.mpr ⟨(wix [1015, 1000, 1002, 32, 69] rfl), List.forall_mem_append.mpr ⟨inKX9, wi_w_is⟩⟩
set_option maxRecDepth 20000 in
theorem wg_w_isPair : GoodIn wq_w_isPair wq_w_isPair := goodIn_sub (fun _ h => h) (by decide +kernel)
set_option maxRecDepth 20000 in
theorem wc_w_isPair_w_is_135 : GoodIn wq_w_isPair (wsV RX9 135 RX9 yX9_is wq_w_is) := goodIn_app (goodIn_of _ (by decide +kernel)) (fun w h => ⟨List.mem_append_right _ (List.mem_append_right _ (h)), (wg_w_is w h).2⟩)
def rm_w_isPair : Room := { frames := 1, cells := 0, slots := 0, locals := 21 }
set_option maxHeartbeats 4000000 in
set_option maxRecDepth 100000 in
theorem c_w_isPair (l : Launch) (dC : Nat → ClassId) (dI : Nat → Nat → Nat) (h : Nat) (a : Nat → Nat) (k : Nat → ClassId) (F : Nat → Nat → Int32) (V : Nat → Int32) (n b : Nat) (p0 : Int32) (p1 : Int32) (p2 : Int32) (sz : Nat) (hI0 : InvM n b F V) (hb0 : b + 0 < 2147483648)  : Met l yX9_isPair wq_w_isPair rm_w_isPair (va_Pc [.ref h, .int p0, .int p1, .int p2] (fun U => U.heap.size = sz ∧ va_P (dC, dI) vwCl (mW h a k F V) U.heap ∧ va_K (dC, dI) vwCl (mT k) U ∧ va_D (fun _ => True) (mW h a k F V))) (va_Qi (fun (r : Int32) (u : (Nat → Nat → Int32) × (Nat → Int32)) => u.1 = F ∧ u.2 = V ∧ ((r = 1 ∧ ∃ ov av bv : Nat, ov < 4 ∧ av < n ∧ bv < n ∧ av ≠ bv ∧ p0 = nI ov ∧ p1 = nI av ∧ p2 = nI bv) ∨ (r = 0 ∧ ¬ ((0 ≤ p0 ∧ p0 ≤ 3) ∧ (0 ≤ p1 ∧ p1 < nI n) ∧ (0 ≤ p2 ∧ p2 < nI n) ∧ ¬ p1 = p2)))) (fun (u : (Nat → Nat → Int32) × (Nat → Int32)) (t : State) => va_P (dC, dI) vwCl (mW h a k u.1 u.2) t.heap ∧ va_D (va_A (mW h a k F V) sz) (mW h a k u.1 u.2)) (va_A (mW h a k F V) sz)) 0 0 (va_A (mW h a k F V) sz) := by
  have hn : n ≤ 40 := hI0.1
  have hI : StM n b F V F V := StM.rf hI0
  have hU : ∀ j : Nat, j ∉ ([] : List Nat) → F j = F j := fun _ _ => rfl
  have hV : ∀ j : Nat, j ∉ ([] : List Nat) → V j = V j := fun _ _ => rfl
  refine Met.ofW (cc := cX9_isPair) (maxL := 4) (ret := (some .boolean)) (by decide) rfl ?_
  intro p e s m args below meth c s₁ B hml hv
  obtain ⟨rfl, hsz, hP, hK, hD0⟩ := hv
  have hx := B.exec
  have hb := B.bytes
  have hr := B.returns
  have hts := atoms_spec (ws := wq_w_isPair) B.pre
  have hown : s.vm.findClass RX9 = some m.cls := findClass_of_methodNamed B.named
  have hlocks := B.notSynchronized
  subst hsz
  have hD := hD0.self (sz := s.heap.size)
  generalize hAe : va_A (mW h a k F V) s.heap.size = A at hD ⊢
  have hA : ∀ q : Nat, s.heap.size ≤ q → A q := fun q h => by rw [← hAe]; exact Or.inr h
  have hS : va_S A s.heap s.heap [] := va_S.rf
  have hl := lv_entry ([.ref h, .int p0, .int p1, .int p2]) (n := 4) (Nat.le_of_ble_eq_true rfl)
  rw [lg_entry_eq]
  generalize (lg_sl ([.ref h, .int p0, .int p1, .int p2]) ++ List.replicate (4 - (lg_sl ([.ref h, .int p0, .int p1, .int p2])).length) Slot.unset).toArray = ls at hl ⊢
  have hl : lv_has ls 4 [(0, .ref h), (1, .int p0), (2, .int p1), (3, .int p2)] := hl
  refine lv_iload_n hx hb dX9_isPair_0 rfl (lv_at hl 1 rfl) ?_
  refine lv_if_lt (tgt := 34) hx hb dX9_isPair_1 (by decide) (fun c1 => ?_) (fun c1 => ?_)
  · skip
    refine lv_iconst (v := 0) hx hb dX9_isPair_34 (by decide) ?_
    exact W.zret (v := 0) hx hb hr (by decide) (fun t ht hW => ⟨⟨0, (F, V), rfl, ⟨rfl, rfl, Or.inr ⟨rfl, fun q9 => (by first | exact c1 q9.1 | exact c1 q9.2.1 | exact c1 q9.2.2.1 | exact absurd c1 (xw_ge0 q9.1.1) | exact absurd c1 (Int32.not_lt.mpr q9.1.2) | exact q9.2.2.2 (by first | assumption | (subst_vars; rfl)))⟩⟩, by rw [ht]; exact hP, hD⟩, hS.F ht⟩) hS.2.2 dX9_isPair_35
  · skip
    refine lv_iload_n hx hb dX9_isPair_4 rfl (lv_at hl 1 rfl) ?_
    refine lv_iconst (v := 3) hx hb dX9_isPair_5 (by decide) ?_
    refine lv_icmp_gt (tgt := 34) hx hb dX9_isPair_6 (by decide) (fun c2 => ?_) (fun c2 => ?_)
    · skip
      refine lv_iconst (v := 0) hx hb dX9_isPair_34 (by decide) ?_
      exact W.zret (v := 0) hx hb hr (by decide) (fun t ht hW => ⟨⟨0, (F, V), rfl, ⟨rfl, rfl, Or.inr ⟨rfl, fun q9 => (by first | exact c2 q9.1 | exact c2 q9.2.1 | exact c2 q9.2.2.1 | exact absurd c2 (xw_ge0 q9.1.1) | exact absurd c2 (Int32.not_lt.mpr q9.1.2) | exact q9.2.2.2 (by first | assumption | (subst_vars; rfl)))⟩⟩, by rw [ht]; exact hP, hD⟩, hS.F ht⟩) hS.2.2 dX9_isPair_35
    · skip
      refine lv_aload_n hx hb dX9_isPair_9 rfl (lv_at hl 0 rfl) ?_
      refine lv_iload_n hx hb dX9_isPair_10 rfl (lv_at hl 2 rfl) ?_
      have hFc := mw_free hD hS hA
      refine va_calli (va_runV (As := [.int p1]) (rest := []) ⟨hx, hb, hml, hown, hts⟩ (c_w_is l dC dI h a k F V n (b) p1 s.heap.size hI.1 (by omega) ) (cwV 1 hts wc_w_isPair_w_is_135 rfl rfl rfl (by decide +kernel) ⟨Nat.le_of_ble_eq_true rfl, Nat.le_of_ble_eq_true rfl⟩) ⟨fun a9 U g mk q => by obtain ⟨q0, q1, qP, qK, qD⟩ := q; exact ⟨q0, q1, qP, va_K.moved (u := U) (U := U.calling g mk a9) (Vm.Alike.refl U.vm) qK, qD⟩, va_recv hK hP (ci := 10) (q0 := 0) rfl rfl, fun U hU hW => ⟨rfl, by rw [hU], by rw [hU]; exact hP, va_K.moved hW.alike hK, hD.weaken (fun _ _ _ _ => trivial)⟩⟩ rfl rfl hl.1 rfl (lv_room (Nat.le_of_ble_eq_true rfl)) dX9_isPair_11 ⟨Nat.le_of_ble_eq_true rfl, Nat.le_of_ble_eq_true rfl⟩) hS (fun q _ h => hFc q h) hFc (fun r3 u t H1 locs ht hvm hw hB hz1 hk1 hS => ?_)
      obtain ⟨F4, V5⟩ := u
      replace hP := hB.1
      rw [ht] at hP
      replace hD : va_D A (mW h a k F4 V5) := hB.2.weaken (fun _ q _ h9 => hFc q.1 h9)
      clear hB
      generalize H1 = H at hP hS ⊢
      replace hP : va_P (dC, dI) vwCl (mW h a k F4 V5) H := hP
      obtain ⟨hwF, hwV, hw⟩ : F4 = F ∧ V5 = V ∧ _ := hw
      rw [hwF, hwV] at hP hD
      rcases hw with ⟨rfl, j6, hj6, ej6⟩ | ⟨rfl, noj6⟩
      · skip
        skip
        subst ej6
        refine lv_if_eq (tgt := 34) hx hb dX9_isPair_14 (by decide) (fun c9 => absurd c9 (by decide)) (fun _ => ?_)
        refine lv_aload_n hx hb dX9_isPair_17 rfl (lv_at hl 0 rfl) ?_
        refine lv_iload_n hx hb dX9_isPair_18 rfl (lv_at hl 3 rfl) ?_
        have hFc := mw_free hD hS hA
        refine va_calli (va_runV (As := [.int p2]) (rest := []) ⟨hx, hb, hml, hown, hts⟩ (c_w_is l dC dI h a k F V n (b) p2 H.size hI.1 (by omega) ) (cwV 1 hts wc_w_isPair_w_is_135 rfl rfl rfl (by decide +kernel) ⟨Nat.le_of_ble_eq_true rfl, Nat.le_of_ble_eq_true rfl⟩) ⟨fun a9 U g mk q => by obtain ⟨q0, q1, qP, qK, qD⟩ := q; exact ⟨q0, q1, qP, va_K.moved (u := U) (U := U.calling g mk a9) (Vm.Alike.refl U.vm) qK, qD⟩, va_recv hK hP (ci := 10) (q0 := 0) rfl rfl, fun U hU hW => ⟨rfl, by rw [hU], by rw [hU]; exact hP, va_K.moved hW.alike hK, hD.weaken (fun _ _ _ _ => trivial)⟩⟩ rfl rfl hl.1 rfl (lv_room (Nat.le_of_ble_eq_true rfl)) dX9_isPair_19 ⟨Nat.le_of_ble_eq_true rfl, Nat.le_of_ble_eq_true rfl⟩) hS (fun q _ h => hFc q h) hFc (fun r7 u t H1 locs ht hvm hw hB hz1 hk1 hS => ?_)
        obtain ⟨F8, V9⟩ := u
        replace hP := hB.1
        rw [ht] at hP
        replace hD : va_D A (mW h a k F8 V9) := hB.2.weaken (fun _ q _ h9 => hFc q.1 h9)
        clear hB
        generalize H1 = H at hP hS ⊢
        replace hP : va_P (dC, dI) vwCl (mW h a k F8 V9) H := hP
        obtain ⟨hwF, hwV, hw⟩ : F8 = F ∧ V9 = V ∧ _ := hw
        rw [hwF, hwV] at hP hD
        rcases hw with ⟨rfl, j10, hj10, ej10⟩ | ⟨rfl, noj10⟩
        · skip
          skip
          subst ej10
          refine lv_if_eq (tgt := 34) hx hb dX9_isPair_22 (by decide) (fun c9 => absurd c9 (by decide)) (fun _ => ?_)
          refine lv_iload_n hx hb dX9_isPair_25 rfl (lv_at hl 2 rfl) ?_
          refine lv_iload_n hx hb dX9_isPair_26 rfl (lv_at hl 3 rfl) ?_
          refine lv_icmp_eq (tgt := 34) hx hb dX9_isPair_27 (by decide) (fun c11 => ?_) (fun c11 => ?_)
          · replace c11 : j6 = j10 := (nI_eq (a := j6) (b := j10) (by omega) (by omega)).mp c11
            skip
            refine lv_iconst (v := 0) hx hb dX9_isPair_34 (by decide) ?_
            exact W.zret (v := 0) hx hb hr (by decide) (fun t ht hW => ⟨⟨0, (F, V), rfl, ⟨rfl, rfl, Or.inr ⟨rfl, fun q9 => (by first | exact c2 q9.1 | exact c2 q9.2.1 | exact c2 q9.2.2.1 | exact absurd c2 (xw_ge0 q9.1.1) | exact absurd c2 (Int32.not_lt.mpr q9.1.2) | exact q9.2.2.2 (by first | assumption | (subst_vars; rfl)))⟩⟩, by rw [ht]; exact hP, hD⟩, hS.F ht⟩) hS.2.2 dX9_isPair_35
          · replace c11 : ¬ (j6 = j10) := fun q9 => c11 ((nI_eq (a := j6) (b := j10) (by omega) (by omega)).mpr q9)
            skip
            refine lv_iconst (v := 1) hx hb dX9_isPair_30 (by decide) ?_
            refine lv_goto (tgt := 35) hx hb dX9_isPair_31 (by decide) ?_
            exact W.zret (v := 1) hx hb hr (by decide) (fun t ht hW => ⟨⟨1, (F, V), rfl, ⟨rfl, rfl, (by obtain ⟨o9, ho9, eo9⟩ := mw_o c1 c2; exact Or.inl ⟨rfl, o9, j6, j10, ho9, by omega, by omega, by first | omega | (intro q9; subst q9; contradiction), eo9, rfl, rfl⟩)⟩, by rw [ht]; exact hP, hD⟩, hS.F ht⟩) hS.2.2 dX9_isPair_35
        · skip
          refine lv_if_eq (tgt := 34) hx hb dX9_isPair_22 (by decide) (fun _ => ?_) (fun c9 => absurd (by decide) c9)
          refine lv_iconst (v := 0) hx hb dX9_isPair_34 (by decide) ?_
          exact W.zret (v := 0) hx hb hr (by decide) (fun t ht hW => ⟨⟨0, (F, V), rfl, ⟨rfl, rfl, Or.inr ⟨rfl, fun q9 => (by first | exact noj10 q9.1 | exact noj10 q9.2.1 | exact noj10 q9.2.2.1 | exact absurd noj10 (xw_ge0 q9.1.1) | exact absurd noj10 (Int32.not_lt.mpr q9.1.2) | exact q9.2.2.2 (by first | assumption | (subst_vars; rfl)))⟩⟩, by rw [ht]; exact hP, hD⟩, hS.F ht⟩) hS.2.2 dX9_isPair_35
      · skip
        refine lv_if_eq (tgt := 34) hx hb dX9_isPair_14 (by decide) (fun _ => ?_) (fun c9 => absurd (by decide) c9)
        refine lv_iconst (v := 0) hx hb dX9_isPair_34 (by decide) ?_
        exact W.zret (v := 0) hx hb hr (by decide) (fun t ht hW => ⟨⟨0, (F, V), rfl, ⟨rfl, rfl, Or.inr ⟨rfl, fun q9 => (by first | exact noj6 q9.1 | exact noj6 q9.2.1 | exact noj6 q9.2.2.1 | exact absurd noj6 (xw_ge0 q9.1.1) | exact absurd noj6 (Int32.not_lt.mpr q9.1.2) | exact q9.2.2.2 (by first | assumption | (subst_vars; rfl)))⟩⟩, by rw [ht]; exact hP, hD⟩, hS.F ht⟩) hS.2.2 dX9_isPair_35
def f_w_set1 (n : Nat) (ov : Nat) (av : Nat) (bv : Nat) (F : Nat → Nat → Int32) (V : Nat → Int32) : (Nat → Nat → Int32) × (Nat → Int32) := bnd (va_up F 19 (upd (F 19) (nI ((((ov * 40) + av) * 40) + bv)).toNatClampNeg (vp_nar .boolean 1))) (fun (F1 : Nat → Nat → Int32) => if ov = 3 then (bnd (va_up F1 19 (upd (F1 19) (nI ((((ov * 40) + bv) * 40) + av)).toNatClampNeg (vp_nar .boolean 1))) (fun (F3 : Nat → Nat → Int32) => (F3, V))) else ((F1, V)))
def wq_w_set1 : List Cond := ([.code yX9_set cX9_set 5 none, .fieldLink RX9 68 "ServiceTreeModel" "relation" "[Z"] : List Cond) ++ (wsX90)
theorem in_w_set1_X9 : ∀ w ∈ wsX90, w ∈ wq_w_set1 := fun _ h => List.mem_append_right _ (h)
set_option maxRecDepth 20000 in
theorem wi_w_set1 : ∀ w ∈ wq_w_set1, w ∈ lw_tbl := List.forall_mem_append.mpr ⟨(wix [1030, 871] rfl), inKX9⟩
set_option maxRecDepth 20000 in
theorem wg_w_set1 : GoodIn wq_w_set1 wq_w_set1 := goodIn_sub (fun _ h => h) (by decide +kernel)
def rm_w_set1 : Room := { frames := 0, cells := 0, slots := 0, locals := 0 }
set_option maxHeartbeats 4000000 in
set_option maxRecDepth 100000 in
theorem c_w_set1 (l : Launch) (dC : Nat → ClassId) (dI : Nat → Nat → Nat) (h : Nat) (a : Nat → Nat) (k : Nat → ClassId) (F : Nat → Nat → Int32) (V : Nat → Int32) (n b : Nat) (ov : Nat) (av : Nat) (bv : Nat) (sz : Nat) (hI0 : InvM n b F V) (hb0 : b + 0 < 2147483648) (hp0 : ov < 4) (hp1 : av < 40) (hp2 : bv < 40) : Met l yX9_set wq_w_set1 rm_w_set1 (va_Pc [.ref h, .int (nI ov), .int (nI av), .int (nI bv), .int 1] (fun U => U.heap.size = sz ∧ va_P (dC, dI) vwCl (mW h a k F V) U.heap ∧ va_K (dC, dI) vwCl (mT k) U ∧ va_D (fun _ => True) (mW h a k F V))) (va_Qv (fun (u : (Nat → Nat → Int32) × (Nat → Int32)) => StM n (b + 0) F V u.1 u.2 ∧ (∀ j : Nat, j ∉ ([19] : List Nat) → u.1 j = F j) ∧ (∀ j : Nat, j ∉ ([] : List Nat) → u.2 j = V j) ∧ ((u.1, u.2) = f_w_set1 n ov av bv F V)) (fun (u : (Nat → Nat → Int32) × (Nat → Int32)) (t : State) => va_P (dC, dI) vwCl (mW h a k u.1 u.2) t.heap ∧ va_D (va_A (mW h a k F V) sz) (mW h a k u.1 u.2)) (va_A (mW h a k F V) sz)) 0 0 (va_A (mW h a k F V) sz) := by
  have hn : n ≤ 40 := hI0.1
  have hI : StM n b F V F V := StM.rf hI0
  have hU : ∀ j : Nat, j ∉ ([19] : List Nat) → F j = F j := fun _ _ => rfl
  have hV : ∀ j : Nat, j ∉ ([] : List Nat) → V j = V j := fun _ _ => rfl
  refine Met.ofW (cc := cX9_set) (maxL := 5) (ret := none) (by decide) rfl ?_
  intro p e s m args below meth c s₁ B hml hv
  obtain ⟨rfl, hsz, hP, hK, hD0⟩ := hv
  have hx := B.exec
  have hb := B.bytes
  have hr := B.returns
  have hts := atoms_spec (ws := wq_w_set1) B.pre
  have hown : s.vm.findClass RX9 = some m.cls := findClass_of_methodNamed B.named
  have hlocks := B.notSynchronized
  subst hsz
  have hD := hD0.self (sz := s.heap.size)
  generalize hAe : va_A (mW h a k F V) s.heap.size = A at hD ⊢
  have hA : ∀ q : Nat, s.heap.size ≤ q → A q := fun q h => by rw [← hAe]; exact Or.inr h
  have hS : va_S A s.heap s.heap [] := va_S.rf
  have hl := lv_entry ([.ref h, .int (nI ov), .int (nI av), .int (nI bv), .int 1]) (n := 5) (Nat.le_of_ble_eq_true rfl)
  rw [lg_entry_eq]
  generalize (lg_sl ([.ref h, .int (nI ov), .int (nI av), .int (nI bv), .int 1]) ++ List.replicate (5 - (lg_sl ([.ref h, .int (nI ov), .int (nI av), .int (nI bv), .int 1])).length) Slot.unset).toArray = ls at hl ⊢
  have hl : lv_has ls 5 [(0, .ref h), (1, .int (nI ov)), (2, .int (nI av)), (3, .int (nI bv)), (4, .int 1)] := hl
  obtain ⟨RES, hR0⟩ : ∃ R9, R9 = f_w_set1 n ov av bv F V := ⟨_, rfl⟩
  have hZ9 := hR0
  unfold f_w_set1 at hZ9
  refine lv_aload_n hx hb dX9_set_0 rfl (lv_at hl 0 rfl) ?_
  refine va_get (D := (dC, dI)) (ci := 10) (v := .ref (a 19)) (C := RX9) (T := TX9) (N := 46) hx hb hts in_w_set1_X9 hown hK hP 0 rfl rfl 19 (by decide) (hts (.fieldLink RX9 68 "ServiceTreeModel" "relation" "[Z") (by decide +kernel)) (fun _ h9 => h9) rfl dX9_set_1 ?_
  refine lv_iload_n hx hb dX9_set_4 rfl (lv_at hl 1 rfl) ?_
  refine lv_bipush (v := 40) hx hb dX9_set_5 (by decide) ?_
  refine lv_imul hx hb dX9_set_7 ?_
  refine p1_topr (v := .int (nI (ov * 40))) (congrArg Value.int (pk_mul ov 40)) ?_
  refine lv_iload_n hx hb dX9_set_8 rfl (lv_at hl 2 rfl) ?_
  refine lv_iadd hx hb dX9_set_9 ?_
  refine p1_topr (v := .int (nI ((ov * 40) + av))) (congrArg Value.int (nI_add (ov * 40) av)) ?_
  refine lv_bipush (v := 40) hx hb dX9_set_10 (by decide) ?_
  refine lv_imul hx hb dX9_set_12 ?_
  refine p1_topr (v := .int (nI (((ov * 40) + av) * 40))) (congrArg Value.int (pk_mul ((ov * 40) + av) 40)) ?_
  refine lv_iload_n hx hb dX9_set_13 rfl (lv_at hl 3 rfl) ?_
  refine lv_iadd hx hb dX9_set_14 ?_
  refine p1_topr (v := .int (nI ((((ov * 40) + av) * 40) + bv))) (congrArg Value.int (nI_add (((ov * 40) + av) * 40) bv)) ?_
  refine lv_iload hx hb dX9_set_15 (lv_at hl 4 rfl) ?_
  refine va_zast (n := 6400) (f := F 19) hx hb hK hP hD hS 20 19 rfl rfl (vp_in_nI (n := (((ov * 40) + av) * 40) + bv) (by omega) (by decide)) dX9_set_17 (fun H locs hP hD hS => ?_)
  rw [mW_set_19] at hP hD
  obtain ⟨F1, eF1⟩ : ∃ f9 : Nat → Nat → Int32, f9 = va_up F 19 (upd (F 19) (nI ((((ov * 40) + av) * 40) + bv)).toNatClampNeg (vp_nar .boolean 1)) := ⟨_, rfl⟩
  rw [← eF1] at hP hD
  replace hZ9 := bnd_s hZ9 eF1
  replace hI : StM n (b) F V F1 V := ⟨by rw [eF1]; exact hI.1.set19 (i := (nI ((((ov * 40) + av) * 40) + bv)).toNatClampNeg) (x := vp_nar .boolean 1) (by decide), trivial⟩
  replace hU : ∀ j : Nat, j ∉ ([19] : List Nat) → F1 j = F j := by rw [eF1]; exact mw_up (by decide) hU
  refine lv_iload_n hx hb dX9_set_18 rfl (lv_at hl 1 rfl) ?_
  refine lv_iconst (v := 3) hx hb dX9_set_19 (by decide) ?_
  refine lv_icmp_ne (tgt := 41) hx hb dX9_set_20 (by decide) (fun c2 => ?_) (fun c2 => ?_)
  · replace c2 : ¬ (ov = 3) := fun q9 => c2 ((nI_eq (a := ov) (b := 3) (by omega) (by omega)).mpr q9)
    replace hZ9 := ite_f hZ9 c2
    exact W.vret hx hb hr (fun t ht hW => ⟨⟨(F1, V), rfl, ⟨hI.mono (by omega), hU, hV, hZ9.symm.trans hR0⟩, by rw [ht]; exact hP, hD⟩, hS.F ht⟩) hS.2.2 dX9_set_41
  · replace c2 : ov = 3 := (nI_eq (a := ov) (b := 3) (by omega) (by omega)).mp c2
    replace hZ9 := ite_t hZ9 c2
    refine lv_aload_n hx hb dX9_set_23 rfl (lv_at hl 0 rfl) ?_
    refine va_get (D := (dC, dI)) (ci := 10) (v := .ref (a 19)) (C := RX9) (T := TX9) (N := 46) hx hb hts in_w_set1_X9 hown hK hP 0 rfl rfl 19 (by decide) (hts (.fieldLink RX9 68 "ServiceTreeModel" "relation" "[Z") (by decide +kernel)) (fun _ h9 => h9) rfl dX9_set_24 ?_
    refine lv_iload_n hx hb dX9_set_27 rfl (lv_at hl 1 rfl) ?_
    refine lv_bipush (v := 40) hx hb dX9_set_28 (by decide) ?_
    refine lv_imul hx hb dX9_set_30 ?_
    refine p1_topr (v := .int (nI (ov * 40))) (congrArg Value.int (pk_mul ov 40)) ?_
    refine lv_iload_n hx hb dX9_set_31 rfl (lv_at hl 3 rfl) ?_
    refine lv_iadd hx hb dX9_set_32 ?_
    refine p1_topr (v := .int (nI ((ov * 40) + bv))) (congrArg Value.int (nI_add (ov * 40) bv)) ?_
    refine lv_bipush (v := 40) hx hb dX9_set_33 (by decide) ?_
    refine lv_imul hx hb dX9_set_35 ?_
    refine p1_topr (v := .int (nI (((ov * 40) + bv) * 40))) (congrArg Value.int (pk_mul ((ov * 40) + bv) 40)) ?_
    refine lv_iload_n hx hb dX9_set_36 rfl (lv_at hl 2 rfl) ?_
    refine lv_iadd hx hb dX9_set_37 ?_
    refine p1_topr (v := .int (nI ((((ov * 40) + bv) * 40) + av))) (congrArg Value.int (nI_add (((ov * 40) + bv) * 40) av)) ?_
    refine lv_iload hx hb dX9_set_38 (lv_at hl 4 rfl) ?_
    refine va_zast (n := 6400) (f := F1 19) hx hb hK hP hD hS 20 19 rfl rfl (vp_in_nI (n := (((ov * 40) + bv) * 40) + av) (by omega) (by decide)) dX9_set_40 (fun H locs hP hD hS => ?_)
    rw [mW_set_19] at hP hD
    obtain ⟨F3, eF3⟩ : ∃ f9 : Nat → Nat → Int32, f9 = va_up F1 19 (upd (F1 19) (nI ((((ov * 40) + bv) * 40) + av)).toNatClampNeg (vp_nar .boolean 1)) := ⟨_, rfl⟩
    rw [← eF3] at hP hD
    replace hZ9 := bnd_s hZ9 eF3
    replace hI : StM n (b) F V F3 V := ⟨by rw [eF3]; exact hI.1.set19 (i := (nI ((((ov * 40) + bv) * 40) + av)).toNatClampNeg) (x := vp_nar .boolean 1) (by decide), trivial⟩
    replace hU : ∀ j : Nat, j ∉ ([19] : List Nat) → F3 j = F j := by rw [eF3]; exact mw_up (by decide) hU
    exact W.vret hx hb hr (fun t ht hW => ⟨⟨(F3, V), rfl, ⟨hI.mono (by omega), hU, hV, hZ9.symm.trans hR0⟩, by rw [ht]; exact hP, hD⟩, hS.F ht⟩) hS.2.2 dX9_set_41
def f_w_set0 (n : Nat) (ov : Nat) (av : Nat) (bv : Nat) (F : Nat → Nat → Int32) (V : Nat → Int32) : (Nat → Nat → Int32) × (Nat → Int32) := bnd (va_up F 19 (upd (F 19) (nI ((((ov * 40) + av) * 40) + bv)).toNatClampNeg (vp_nar .boolean 0))) (fun (F1 : Nat → Nat → Int32) => if ov = 3 then (bnd (va_up F1 19 (upd (F1 19) (nI ((((ov * 40) + bv) * 40) + av)).toNatClampNeg (vp_nar .boolean 0))) (fun (F3 : Nat → Nat → Int32) => (F3, V))) else ((F1, V)))
def wq_w_set0 : List Cond := ([.code yX9_set cX9_set 5 none, .fieldLink RX9 68 "ServiceTreeModel" "relation" "[Z"] : List Cond) ++ (wsX90)
theorem in_w_set0_X9 : ∀ w ∈ wsX90, w ∈ wq_w_set0 := fun _ h => List.mem_append_right _ (h)
set_option maxRecDepth 20000 in
theorem wi_w_set0 : ∀ w ∈ wq_w_set0, w ∈ lw_tbl := List.forall_mem_append.mpr ⟨(wix [1030, 871] rfl), inKX9⟩
set_option maxRecDepth 20000 in
theorem wg_w_set0 : GoodIn wq_w_set0 wq_w_set0 := goodIn_sub (fun _ h => h) (by decide +kernel)
def rm_w_set0 : Room := { frames := 0, cells := 0, slots := 0, locals := 0 }
set_option maxHeartbeats 4000000 in
set_option maxRecDepth 100000 in
theorem c_w_set0 (l : Launch) (dC : Nat → ClassId) (dI : Nat → Nat → Nat) (h : Nat) (a : Nat → Nat) (k : Nat → ClassId) (F : Nat → Nat → Int32) (V : Nat → Int32) (n b : Nat) (ov : Nat) (av : Nat) (bv : Nat) (sz : Nat) (hI0 : InvM n b F V) (hb0 : b + 0 < 2147483648) (hp0 : ov < 4) (hp1 : av < 40) (hp2 : bv < 40) : Met l yX9_set wq_w_set0 rm_w_set0 (va_Pc [.ref h, .int (nI ov), .int (nI av), .int (nI bv), .int 0] (fun U => U.heap.size = sz ∧ va_P (dC, dI) vwCl (mW h a k F V) U.heap ∧ va_K (dC, dI) vwCl (mT k) U ∧ va_D (fun _ => True) (mW h a k F V))) (va_Qv (fun (u : (Nat → Nat → Int32) × (Nat → Int32)) => StM n (b + 0) F V u.1 u.2 ∧ (∀ j : Nat, j ∉ ([19] : List Nat) → u.1 j = F j) ∧ (∀ j : Nat, j ∉ ([] : List Nat) → u.2 j = V j) ∧ ((u.1, u.2) = f_w_set0 n ov av bv F V)) (fun (u : (Nat → Nat → Int32) × (Nat → Int32)) (t : State) => va_P (dC, dI) vwCl (mW h a k u.1 u.2) t.heap ∧ va_D (va_A (mW h a k F V) sz) (mW h a k u.1 u.2)) (va_A (mW h a k F V) sz)) 0 0 (va_A (mW h a k F V) sz) := by
  have hn : n ≤ 40 := hI0.1
  have hI : StM n b F V F V := StM.rf hI0
  have hU : ∀ j : Nat, j ∉ ([19] : List Nat) → F j = F j := fun _ _ => rfl
  have hV : ∀ j : Nat, j ∉ ([] : List Nat) → V j = V j := fun _ _ => rfl
  refine Met.ofW (cc := cX9_set) (maxL := 5) (ret := none) (by decide) rfl ?_
  intro p e s m args below meth c s₁ B hml hv
  obtain ⟨rfl, hsz, hP, hK, hD0⟩ := hv
  have hx := B.exec
  have hb := B.bytes
  have hr := B.returns
  have hts := atoms_spec (ws := wq_w_set0) B.pre
  have hown : s.vm.findClass RX9 = some m.cls := findClass_of_methodNamed B.named
  have hlocks := B.notSynchronized
  subst hsz
  have hD := hD0.self (sz := s.heap.size)
  generalize hAe : va_A (mW h a k F V) s.heap.size = A at hD ⊢
  have hA : ∀ q : Nat, s.heap.size ≤ q → A q := fun q h => by rw [← hAe]; exact Or.inr h
  have hS : va_S A s.heap s.heap [] := va_S.rf
  have hl := lv_entry ([.ref h, .int (nI ov), .int (nI av), .int (nI bv), .int 0]) (n := 5) (Nat.le_of_ble_eq_true rfl)
  rw [lg_entry_eq]
  generalize (lg_sl ([.ref h, .int (nI ov), .int (nI av), .int (nI bv), .int 0]) ++ List.replicate (5 - (lg_sl ([.ref h, .int (nI ov), .int (nI av), .int (nI bv), .int 0])).length) Slot.unset).toArray = ls at hl ⊢
  have hl : lv_has ls 5 [(0, .ref h), (1, .int (nI ov)), (2, .int (nI av)), (3, .int (nI bv)), (4, .int 0)] := hl
  obtain ⟨RES, hR0⟩ : ∃ R9, R9 = f_w_set0 n ov av bv F V := ⟨_, rfl⟩
  have hZ9 := hR0
  unfold f_w_set0 at hZ9
  refine lv_aload_n hx hb dX9_set_0 rfl (lv_at hl 0 rfl) ?_
  refine va_get (D := (dC, dI)) (ci := 10) (v := .ref (a 19)) (C := RX9) (T := TX9) (N := 46) hx hb hts in_w_set0_X9 hown hK hP 0 rfl rfl 19 (by decide) (hts (.fieldLink RX9 68 "ServiceTreeModel" "relation" "[Z") (by decide +kernel)) (fun _ h9 => h9) rfl dX9_set_1 ?_
  refine lv_iload_n hx hb dX9_set_4 rfl (lv_at hl 1 rfl) ?_
  refine lv_bipush (v := 40) hx hb dX9_set_5 (by decide) ?_
  refine lv_imul hx hb dX9_set_7 ?_
  refine p1_topr (v := .int (nI (ov * 40))) (congrArg Value.int (pk_mul ov 40)) ?_
  refine lv_iload_n hx hb dX9_set_8 rfl (lv_at hl 2 rfl) ?_
  refine lv_iadd hx hb dX9_set_9 ?_
  refine p1_topr (v := .int (nI ((ov * 40) + av))) (congrArg Value.int (nI_add (ov * 40) av)) ?_
  refine lv_bipush (v := 40) hx hb dX9_set_10 (by decide) ?_
  refine lv_imul hx hb dX9_set_12 ?_
  refine p1_topr (v := .int (nI (((ov * 40) + av) * 40))) (congrArg Value.int (pk_mul ((ov * 40) + av) 40)) ?_
  refine lv_iload_n hx hb dX9_set_13 rfl (lv_at hl 3 rfl) ?_
  refine lv_iadd hx hb dX9_set_14 ?_
  refine p1_topr (v := .int (nI ((((ov * 40) + av) * 40) + bv))) (congrArg Value.int (nI_add (((ov * 40) + av) * 40) bv)) ?_
  refine lv_iload hx hb dX9_set_15 (lv_at hl 4 rfl) ?_
  refine va_zast (n := 6400) (f := F 19) hx hb hK hP hD hS 20 19 rfl rfl (vp_in_nI (n := (((ov * 40) + av) * 40) + bv) (by omega) (by decide)) dX9_set_17 (fun H locs hP hD hS => ?_)
  rw [mW_set_19] at hP hD
  obtain ⟨F1, eF1⟩ : ∃ f9 : Nat → Nat → Int32, f9 = va_up F 19 (upd (F 19) (nI ((((ov * 40) + av) * 40) + bv)).toNatClampNeg (vp_nar .boolean 0)) := ⟨_, rfl⟩
  rw [← eF1] at hP hD
  replace hZ9 := bnd_s hZ9 eF1
  replace hI : StM n (b) F V F1 V := ⟨by rw [eF1]; exact hI.1.set19 (i := (nI ((((ov * 40) + av) * 40) + bv)).toNatClampNeg) (x := vp_nar .boolean 0) (by decide), trivial⟩
  replace hU : ∀ j : Nat, j ∉ ([19] : List Nat) → F1 j = F j := by rw [eF1]; exact mw_up (by decide) hU
  refine lv_iload_n hx hb dX9_set_18 rfl (lv_at hl 1 rfl) ?_
  refine lv_iconst (v := 3) hx hb dX9_set_19 (by decide) ?_
  refine lv_icmp_ne (tgt := 41) hx hb dX9_set_20 (by decide) (fun c2 => ?_) (fun c2 => ?_)
  · replace c2 : ¬ (ov = 3) := fun q9 => c2 ((nI_eq (a := ov) (b := 3) (by omega) (by omega)).mpr q9)
    replace hZ9 := ite_f hZ9 c2
    exact W.vret hx hb hr (fun t ht hW => ⟨⟨(F1, V), rfl, ⟨hI.mono (by omega), hU, hV, hZ9.symm.trans hR0⟩, by rw [ht]; exact hP, hD⟩, hS.F ht⟩) hS.2.2 dX9_set_41
  · replace c2 : ov = 3 := (nI_eq (a := ov) (b := 3) (by omega) (by omega)).mp c2
    replace hZ9 := ite_t hZ9 c2
    refine lv_aload_n hx hb dX9_set_23 rfl (lv_at hl 0 rfl) ?_
    refine va_get (D := (dC, dI)) (ci := 10) (v := .ref (a 19)) (C := RX9) (T := TX9) (N := 46) hx hb hts in_w_set0_X9 hown hK hP 0 rfl rfl 19 (by decide) (hts (.fieldLink RX9 68 "ServiceTreeModel" "relation" "[Z") (by decide +kernel)) (fun _ h9 => h9) rfl dX9_set_24 ?_
    refine lv_iload_n hx hb dX9_set_27 rfl (lv_at hl 1 rfl) ?_
    refine lv_bipush (v := 40) hx hb dX9_set_28 (by decide) ?_
    refine lv_imul hx hb dX9_set_30 ?_
    refine p1_topr (v := .int (nI (ov * 40))) (congrArg Value.int (pk_mul ov 40)) ?_
    refine lv_iload_n hx hb dX9_set_31 rfl (lv_at hl 3 rfl) ?_
    refine lv_iadd hx hb dX9_set_32 ?_
    refine p1_topr (v := .int (nI ((ov * 40) + bv))) (congrArg Value.int (nI_add (ov * 40) bv)) ?_
    refine lv_bipush (v := 40) hx hb dX9_set_33 (by decide) ?_
    refine lv_imul hx hb dX9_set_35 ?_
    refine p1_topr (v := .int (nI (((ov * 40) + bv) * 40))) (congrArg Value.int (pk_mul ((ov * 40) + bv) 40)) ?_
    refine lv_iload_n hx hb dX9_set_36 rfl (lv_at hl 2 rfl) ?_
    refine lv_iadd hx hb dX9_set_37 ?_
    refine p1_topr (v := .int (nI ((((ov * 40) + bv) * 40) + av))) (congrArg Value.int (nI_add (((ov * 40) + bv) * 40) av)) ?_
    refine lv_iload hx hb dX9_set_38 (lv_at hl 4 rfl) ?_
    refine va_zast (n := 6400) (f := F1 19) hx hb hK hP hD hS 20 19 rfl rfl (vp_in_nI (n := (((ov * 40) + bv) * 40) + av) (by omega) (by decide)) dX9_set_40 (fun H locs hP hD hS => ?_)
    rw [mW_set_19] at hP hD
    obtain ⟨F3, eF3⟩ : ∃ f9 : Nat → Nat → Int32, f9 = va_up F1 19 (upd (F1 19) (nI ((((ov * 40) + bv) * 40) + av)).toNatClampNeg (vp_nar .boolean 0)) := ⟨_, rfl⟩
    rw [← eF3] at hP hD
    replace hZ9 := bnd_s hZ9 eF3
    replace hI : StM n (b) F V F3 V := ⟨by rw [eF3]; exact hI.1.set19 (i := (nI ((((ov * 40) + bv) * 40) + av)).toNatClampNeg) (x := vp_nar .boolean 0) (by decide), trivial⟩
    replace hU : ∀ j : Nat, j ∉ ([19] : List Nat) → F3 j = F j := by rw [eF3]; exact mw_up (by decide) hU
    exact W.vret hx hb hr (fun t ht hW => ⟨⟨(F3, V), rfl, ⟨hI.mono (by omega), hU, hV, hZ9.symm.trans hR0⟩, by rw [ht]; exact hP, hD⟩, hS.F ht⟩) hS.2.2 dX9_set_41

end
section
def f_w_relation (n : Nat) (p0 : Int32) (p1 : Int32) (p2 : Int32) (F : Nat → Nat → Int32) (V : Nat → Int32) : Int32 × (Nat → Nat → Int32) × (Nat → Int32) := if ((0 : Int32) ≤ p0 ∧ p0 ≤ (3 : Int32)) ∧ ((0 : Int32) ≤ p1 ∧ p1 < nI n) ∧ ((0 : Int32) ≤ p2 ∧ p2 < nI n) ∧ ¬ p1 = p2 then (bnd (p0.toNatClampNeg) (fun (o4 : Nat) => bnd (p1.toNatClampNeg) (fun (j5 : Nat) => bnd (p2.toNatClampNeg) (fun (j6 : Nat) => bnd (f_w_jobs n  F) (fun (r7 : Int32) => if r7 ≤ (0 : Int32) then (if o4 = 0 then (bnd (F 7 (nI j5).toNatClampNeg) (fun (x12 : Int32) => bnd (f_w_rests n x12 ) (fun (r13 : Int32) => if r13 = (0 : Int32) then (((-4 : Int32), F, V)) else (bnd (F 7 (nI j6).toNatClampNeg) (fun (x17 : Int32) => bnd (f_w_rests n x17 ) (fun (r18 : Int32) => if r18 = (0 : Int32) then (((-4 : Int32), F, V)) else (bnd (f_w_has n o4 j5 j6 F) (fun (r22 : Int32) => if r22 = (0 : Int32) then (bnd (V 20) (fun (x26 : Int32) => if x26 = (400 : Int32) then (((-6 : Int32), F, V)) else (bn2 (f_w_set1 n o4 j5 j6 F V) (fun (F29 : Nat → Nat → Int32) (V30 : Nat → Int32) => bnd (V30 20) (fun (x31 : Int32) => bnd (x31 + (1 : Int32)) (fun (x32 : Int32) => bnd (va_up V30 20 x32) (fun (V33 : Nat → Int32) => ((1 : Int32), F29, V33)))))))) else (((0 : Int32), F, V)))))))))) else (if o4 = 3 then (bnd (F 7 (nI j5).toNatClampNeg) (fun (x47 : Int32) => bnd (f_w_rests n x47 ) (fun (r48 : Int32) => if r48 = (0 : Int32) then (((-4 : Int32), F, V)) else (bnd (F 7 (nI j6).toNatClampNeg) (fun (x52 : Int32) => bnd (f_w_rests n x52 ) (fun (r53 : Int32) => if r53 = (0 : Int32) then (((-4 : Int32), F, V)) else (bnd (f_w_has n o4 j5 j6 F) (fun (r57 : Int32) => if r57 = (0 : Int32) then (bnd (V 20) (fun (x61 : Int32) => if x61 = (400 : Int32) then (((-6 : Int32), F, V)) else (bn2 (f_w_set1 n o4 j5 j6 F V) (fun (F64 : Nat → Nat → Int32) (V65 : Nat → Int32) => bnd (V65 20) (fun (x66 : Int32) => bnd (x66 + (1 : Int32)) (fun (x67 : Int32) => bnd (va_up V65 20 x67) (fun (V68 : Nat → Int32) => ((1 : Int32), F64, V68)))))))) else (((0 : Int32), F, V)))))))))) else (bnd (f_w_has n o4 j5 j6 F) (fun (r35 : Int32) => if r35 = (0 : Int32) then (bnd (V 20) (fun (x39 : Int32) => if x39 = (400 : Int32) then (((-6 : Int32), F, V)) else (bn2 (f_w_set1 n o4 j5 j6 F V) (fun (F42 : Nat → Nat → Int32) (V43 : Nat → Int32) => bnd (V43 20) (fun (x44 : Int32) => bnd (x44 + (1 : Int32)) (fun (x45 : Int32) => bnd (va_up V43 20 x45) (fun (V46 : Nat → Int32) => ((1 : Int32), F42, V46)))))))) else (((0 : Int32), F, V)))))) else (((-3 : Int32), F, V))))))) else (((-1 : Int32), F, V))
def wq_w_relation : List Cond := ([.code yX9_relation cX9_relation 4 (some .int), .fieldLink RX9 31 "ServiceTreeModel" "state" "[I", .fieldLink RX9 153 "ServiceTreeModel" "relations" "I", .methodLink RX9 139 yX9_isPair, .instanceMethod yX9_isPair, .selects RX9 yX9_isPair yX9_isPair, .initialized RX9, .methodLink RX9 143 yX9_jobs, .instanceMethod yX9_jobs, .selects RX9 yX9_jobs yX9_jobs, .methodLink RX9 147 yX9_rests, .static yX9_rests, .methodLink RX9 150 yX9_has, .instanceMethod yX9_has, .selects RX9 yX9_has yX9_has, .methodLink RX9 156 yX9_set, .instanceMethod yX9_set, .selects RX9 yX9_set yX9_set] : List Cond) ++ (wsX90 ++ (wq_w_isPair ++ (wq_w_jobs ++ (wq_w_rests ++ (wq_w_has ++ (wq_w_set1))))))
theorem in_w_relation_X9 : ∀ w ∈ wsX90, w ∈ wq_w_relation := fun _ h => List.mem_append_right _ (List.mem_append_left _ (h))
set_option maxRecDepth 20000 in
theorem wi_w_relation : ∀ w ∈ wq_w_relation, w ∈ lw_tbl := List.forall_mem_append.mpr ⟨(wix [1011, 859, 872, 1012, 1014, 33, 69, 1016, 1018, 34, 1020, 1021, 1023, 1025, 35, 1027, 1029, 36] rfl), List.forall_mem_append.mpr ⟨inKX9, List.forall_mem_append.mpr ⟨wi_w_isPair, List.forall_mem_append.mpr ⟨wi_w_jobs, List.forall_mem_append.mpr ⟨wi_w_rests, List.forall_mem_append.mpr ⟨wi_w_has, wi_w_set1⟩⟩⟩⟩⟩⟩
set_option maxRecDepth 20000 in
theorem wg_w_relation : GoodIn wq_w_relation wq_w_relation := goodIn_sub (fun _ h => h) (by decide +kernel)
set_option maxRecDepth 20000 in
theorem wc_w_relation_w_isPair_139 : GoodIn wq_w_relation (wsV RX9 139 RX9 yX9_isPair wq_w_isPair) := goodIn_app (goodIn_of _ (by decide +kernel)) (fun w h => ⟨List.mem_append_right _ (List.mem_append_right _ (List.mem_append_left _ (h))), (wg_w_isPair w h).2⟩)
set_option maxRecDepth 20000 in
theorem wc_w_relation_w_jobs_143 : GoodIn wq_w_relation (wsV RX9 143 RX9 yX9_jobs wq_w_jobs) := goodIn_app (goodIn_of _ (by decide +kernel)) (fun w h => ⟨List.mem_append_right _ (List.mem_append_right _ (List.mem_append_right _ (List.mem_append_left _ (h)))), (wg_w_jobs w h).2⟩)
set_option maxRecDepth 20000 in
theorem wc_w_relation_w_rests_147 : GoodIn wq_w_relation (va_wsS RX9 147 yX9_rests wq_w_rests) := goodIn_app (goodIn_of _ (by decide +kernel)) (fun w h => ⟨List.mem_append_right _ (List.mem_append_right _ (List.mem_append_right _ (List.mem_append_right _ (List.mem_append_left _ (h))))), (wg_w_rests w h).2⟩)
set_option maxRecDepth 20000 in
theorem wc_w_relation_w_has_150 : GoodIn wq_w_relation (wsV RX9 150 RX9 yX9_has wq_w_has) := goodIn_app (goodIn_of _ (by decide +kernel)) (fun w h => ⟨List.mem_append_right _ (List.mem_append_right _ (List.mem_append_right _ (List.mem_append_right _ (List.mem_append_right _ (List.mem_append_left _ (h)))))), (wg_w_has w h).2⟩)
set_option maxRecDepth 20000 in
theorem wc_w_relation_w_set1_156 : GoodIn wq_w_relation (wsV RX9 156 RX9 yX9_set wq_w_set1) := goodIn_app (goodIn_of _ (by decide +kernel)) (fun w h => ⟨List.mem_append_right _ (List.mem_append_right _ (List.mem_append_right _ (List.mem_append_right _ (List.mem_append_right _ (List.mem_append_right _ (h)))))), (wg_w_set1 w h).2⟩)
def rm_w_relation : Room := { frames := 2, cells := 0, slots := 0, locals := 44 }
set_option maxHeartbeats 4000000 in
set_option maxRecDepth 100000 in
theorem c_w_relation (l : Launch) (dC : Nat → ClassId) (dI : Nat → Nat → Nat) (h : Nat) (a : Nat → Nat) (k : Nat → ClassId) (F : Nat → Nat → Int32) (V : Nat → Int32) (n b : Nat) (p0 : Int32) (p1 : Int32) (p2 : Int32) (sz : Nat) (hI0 : InvM n b F V) (hb0 : b + 0 < 2147483648)  : Met l yX9_relation wq_w_relation rm_w_relation (va_Pc [.ref h, .int p0, .int p1, .int p2] (fun U => U.heap.size = sz ∧ va_P (dC, dI) vwCl (mW h a k F V) U.heap ∧ va_K (dC, dI) vwCl (mT k) U ∧ va_D (fun _ => True) (mW h a k F V))) (va_Qi (fun (r : Int32) (u : (Nat → Nat → Int32) × (Nat → Int32)) => StM n (b + 0) F V u.1 u.2 ∧ (∀ j : Nat, j ∉ ([19] : List Nat) → u.1 j = F j) ∧ (∀ j : Nat, j ∉ ([20] : List Nat) → u.2 j = V j) ∧ ((r, u.1, u.2) = f_w_relation n p0 p1 p2 F V)) (fun (u : (Nat → Nat → Int32) × (Nat → Int32)) (t : State) => va_P (dC, dI) vwCl (mW h a k u.1 u.2) t.heap ∧ va_D (va_A (mW h a k F V) sz) (mW h a k u.1 u.2)) (va_A (mW h a k F V) sz)) 0 0 (va_A (mW h a k F V) sz) := by
  have hn : n ≤ 40 := hI0.1
  have hI : StM n b F V F V := StM.rf hI0
  have hU : ∀ j : Nat, j ∉ ([19] : List Nat) → F j = F j := fun _ _ => rfl
  have hV : ∀ j : Nat, j ∉ ([20] : List Nat) → V j = V j := fun _ _ => rfl
  refine Met.ofW (cc := cX9_relation) (maxL := 4) (ret := (some .int)) (by decide) rfl ?_
  intro p e s m args below meth c s₁ B hml hv
  obtain ⟨rfl, hsz, hP, hK, hD0⟩ := hv
  have hx := B.exec
  have hb := B.bytes
  have hr := B.returns
  have hts := atoms_spec (ws := wq_w_relation) B.pre
  have hown : s.vm.findClass RX9 = some m.cls := findClass_of_methodNamed B.named
  have hlocks := B.notSynchronized
  subst hsz
  have hD := hD0.self (sz := s.heap.size)
  generalize hAe : va_A (mW h a k F V) s.heap.size = A at hD ⊢
  have hA : ∀ q : Nat, s.heap.size ≤ q → A q := fun q h => by rw [← hAe]; exact Or.inr h
  have hS : va_S A s.heap s.heap [] := va_S.rf
  have hl := lv_entry ([.ref h, .int p0, .int p1, .int p2]) (n := 4) (Nat.le_of_ble_eq_true rfl)
  rw [lg_entry_eq]
  generalize (lg_sl ([.ref h, .int p0, .int p1, .int p2]) ++ List.replicate (4 - (lg_sl ([.ref h, .int p0, .int p1, .int p2])).length) Slot.unset).toArray = ls at hl ⊢
  have hl : lv_has ls 4 [(0, .ref h), (1, .int p0), (2, .int p1), (3, .int p2)] := hl
  obtain ⟨RES, hR0⟩ : ∃ R9, R9 = f_w_relation n p0 p1 p2 F V := ⟨_, rfl⟩
  have hZ9 := hR0
  unfold f_w_relation at hZ9
  refine lv_aload_n hx hb dX9_relation_0 rfl (lv_at hl 0 rfl) ?_
  refine lv_iload_n hx hb dX9_relation_1 rfl (lv_at hl 1 rfl) ?_
  refine lv_iload_n hx hb dX9_relation_2 rfl (lv_at hl 2 rfl) ?_
  refine lv_iload_n hx hb dX9_relation_3 rfl (lv_at hl 3 rfl) ?_
  have hFc := mw_free hD hS hA
  refine va_calli (va_runV (As := [.int p0, .int p1, .int p2]) (rest := []) ⟨hx, hb, hml, hown, hts⟩ (c_w_isPair l dC dI h a k F V n (b) p0 p1 p2 s.heap.size hI.1 (by omega) ) (cwV 3 hts wc_w_relation_w_isPair_139 rfl rfl rfl (by decide +kernel) ⟨Nat.le_of_ble_eq_true rfl, Nat.le_of_ble_eq_true rfl⟩) ⟨fun a9 U g mk q => by obtain ⟨q0, q1, qP, qK, qD⟩ := q; exact ⟨q0, q1, qP, va_K.moved (u := U) (U := U.calling g mk a9) (Vm.Alike.refl U.vm) qK, qD⟩, va_recv hK hP (ci := 10) (q0 := 0) rfl rfl, fun U hU hW => ⟨rfl, by rw [hU], by rw [hU]; exact hP, va_K.moved hW.alike hK, hD.weaken (fun _ _ _ _ => trivial)⟩⟩ rfl rfl hl.1 rfl (lv_room (Nat.le_of_ble_eq_true rfl)) dX9_relation_4 ⟨Nat.le_of_ble_eq_true rfl, Nat.le_of_ble_eq_true rfl⟩) hS (fun q _ h => hFc q h) hFc (fun r1 u t H1 locs ht hvm hw hB hz1 hk1 hS => ?_)
  obtain ⟨F2, V3⟩ := u
  replace hP := hB.1
  rw [ht] at hP
  replace hD : va_D A (mW h a k F2 V3) := hB.2.weaken (fun _ q _ h9 => hFc q.1 h9)
  clear hB
  generalize H1 = H at hP hS ⊢
  replace hP : va_P (dC, dI) vwCl (mW h a k F2 V3) H := hP
  obtain ⟨hwF, hwV, hw⟩ : F2 = F ∧ V3 = V ∧ _ := hw
  rw [hwF, hwV] at hP hD
  rcases hw with ⟨rfl, o4, j5, j6, ho4, hj5, hj6, hneo4, eo4, ej5, ej6⟩ | ⟨rfl, noo4⟩
  · replace hZ9 := ite_t hZ9 (show ((0 : Int32) ≤ p0 ∧ p0 ≤ (3 : Int32)) ∧ ((0 : Int32) ≤ p1 ∧ p1 < nI n) ∧ ((0 : Int32) ≤ p2 ∧ p2 < nI n) ∧ ¬ p1 = p2 by rw [eo4, ej5, ej6]; exact ⟨⟨nI_pos' (by omega), nI_le (b := 3) (by omega) (by omega)⟩, ⟨nI_pos' (by omega), nI_lt hj5 (by omega)⟩, ⟨nI_pos' (by omega), nI_lt hj6 (by omega)⟩, fun q9 => hneo4 ((nI_eq (by omega) (by omega)).mp q9)⟩)
    replace hZ9 := bnd_s hZ9 (show o4 = p0.toNatClampNeg by rw [eo4, nI_clamp (by omega)])
    replace hZ9 := bnd_s hZ9 (show j5 = p1.toNatClampNeg by rw [ej5, nI_clamp (by omega)])
    replace hZ9 := bnd_s hZ9 (show j6 = p2.toNatClampNeg by rw [ej6, nI_clamp (by omega)])
    subst eo4
    subst ej5
    subst ej6
    refine lv_if_ne (tgt := 12) hx hb dX9_relation_7 (by decide) (fun _ => ?_) (fun c9 => absurd c9 (by decide))
    refine lv_aload_n hx hb dX9_relation_12 rfl (lv_at hl 0 rfl) ?_
    have hFc := mw_free hD hS hA
    refine va_calli (va_runV (As := []) (rest := []) ⟨hx, hb, hml, hown, hts⟩ (c_w_jobs l dC dI h a k F V n (b)  H.size hI.1 (by omega) ) (cwV 0 hts wc_w_relation_w_jobs_143 rfl rfl rfl (by decide +kernel) ⟨Nat.le_of_ble_eq_true rfl, Nat.le_of_ble_eq_true rfl⟩) ⟨fun a9 U g mk q => by obtain ⟨q0, q1, qP, qK, qD⟩ := q; exact ⟨q0, q1, qP, va_K.moved (u := U) (U := U.calling g mk a9) (Vm.Alike.refl U.vm) qK, qD⟩, va_recv hK hP (ci := 10) (q0 := 0) rfl rfl, fun U hU hW => ⟨rfl, by rw [hU], by rw [hU]; exact hP, va_K.moved hW.alike hK, hD.weaken (fun _ _ _ _ => trivial)⟩⟩ rfl rfl hl.1 rfl (lv_room (Nat.le_of_ble_eq_true rfl)) dX9_relation_13 ⟨Nat.le_of_ble_eq_true rfl, Nat.le_of_ble_eq_true rfl⟩) hS (fun q _ h => hFc q h) hFc (fun r7 u t H1 locs ht hvm hw hB hz1 hk1 hS => ?_)
    obtain ⟨F8, V9⟩ := u
    replace hP := hB.1
    rw [ht] at hP
    replace hD : va_D A (mW h a k F8 V9) := hB.2.weaken (fun _ q _ h9 => hFc q.1 h9)
    clear hB
    generalize H1 = H at hP hS ⊢
    replace hP : va_P (dC, dI) vwCl (mW h a k F8 V9) H := hP
    obtain ⟨hwF, hwV, hw⟩ : F8 = F ∧ V9 = V ∧ _ := hw
    rw [hwF, hwV] at hP hD
    replace hw : r7 = f_w_jobs n  F := hw
    replace hZ9 := bnd_s hZ9 hw
    refine lv_if_le (tgt := 22) hx hb dX9_relation_16 (by decide) (fun c10 => ?_) (fun c10 => ?_)
    · replace hZ9 := ite_t hZ9 c10
      refine lv_iload_n hx hb dX9_relation_22 rfl (lv_at hl 1 rfl) ?_
      refine lv_if_eq (tgt := 31) hx hb dX9_relation_23 (by decide) (fun c11 => ?_) (fun c11 => ?_)
      · replace c11 : o4 = 0 := (nI_eq (a := o4) (b := 0) (by omega) (by omega)).mp c11
        replace hZ9 := ite_t hZ9 c11
        refine lv_aload_n hx hb dX9_relation_31 rfl (lv_at hl 0 rfl) ?_
        refine va_get (D := (dC, dI)) (ci := 10) (v := .ref (a 7)) (C := RX9) (T := TX9) (N := 46) hx hb hts in_w_relation_X9 hown hK hP 0 rfl rfl 7 (by decide) (hts (.fieldLink RX9 31 "ServiceTreeModel" "state" "[I") (by decide +kernel)) (fun _ h9 => h9) rfl dX9_relation_32 ?_
        refine lv_iload_n hx hb dX9_relation_35 rfl (lv_at hl 2 rfl) ?_
        refine va_iald (n := 40) (f := F 7) hx hb hK hP 8 7 rfl rfl (vp_in_nI (n := j5) (by omega) (by decide)) dX9_relation_36 ?_
        refine lv_topi (fun x12 ex12 => ?_)
        replace hZ9 := bnd_s hZ9 ex12
        have hFc := mw_free hD hS hA
        refine va_calli (va_runS (As := [.int x12]) (rest := []) ⟨hx, hb, hml, hown, hts⟩ (c_w_rests l dC dI h a k F V n (b) x12 H.size hI.1 (by omega) ) (va_cwS 1 hts wc_w_relation_w_rests_147 rfl rfl rfl (by decide +kernel) ⟨Nat.le_of_ble_eq_true rfl, Nat.le_of_ble_eq_true rfl⟩) ⟨fun a9 U g mk q => by obtain ⟨q0, q1, qP, qK, qD⟩ := q; exact ⟨q0, q1, qP, va_K.moved (u := U) (U := U.calling g mk a9) (Vm.Alike.refl U.vm) qK, qD⟩, fun U hU hW => ⟨rfl, by rw [hU], by rw [hU]; exact hP, va_K.moved hW.alike hK, hD.weaken (fun _ _ _ _ => trivial)⟩⟩ rfl rfl hl.1 rfl (lv_room (Nat.le_of_ble_eq_true rfl)) dX9_relation_37 ⟨Nat.le_of_ble_eq_true rfl, Nat.le_of_ble_eq_true rfl⟩) hS (fun q _ h => hFc q h) hFc (fun r13 u t H1 locs ht hvm hw hB hz1 hk1 hS => ?_)
        obtain ⟨F14, V15⟩ := u
        replace hP := hB.1
        rw [ht] at hP
        replace hD : va_D A (mW h a k F14 V15) := hB.2.weaken (fun _ q _ h9 => hFc q.1 h9)
        clear hB
        generalize H1 = H at hP hS ⊢
        replace hP : va_P (dC, dI) vwCl (mW h a k F14 V15) H := hP
        obtain ⟨hwF, hwV, hw⟩ : F14 = F ∧ V15 = V ∧ _ := hw
        rw [hwF, hwV] at hP hD
        replace hw : r13 = f_w_rests n x12  := hw
        replace hZ9 := bnd_s hZ9 hw
        refine lv_if_eq (tgt := 55) hx hb dX9_relation_40 (by decide) (fun c16 => ?_) (fun c16 => ?_)
        · replace hZ9 := ite_t hZ9 c16
          refine lv_bipush (v := (-4)) hx hb dX9_relation_55 (by decide) ?_
          exact W.iret (v := (-4)) hx hb hr (fun t ht hW => ⟨⟨(-4), (F, V), rfl, ⟨hI.mono (by omega), hU, hV, hZ9.symm.trans hR0⟩, by rw [ht]; exact hP, hD⟩, hS.F ht⟩) hS.2.2 dX9_relation_57
        · replace hZ9 := ite_f hZ9 c16
          refine lv_aload_n hx hb dX9_relation_43 rfl (lv_at hl 0 rfl) ?_
          refine va_get (D := (dC, dI)) (ci := 10) (v := .ref (a 7)) (C := RX9) (T := TX9) (N := 46) hx hb hts in_w_relation_X9 hown hK hP 0 rfl rfl 7 (by decide) (hts (.fieldLink RX9 31 "ServiceTreeModel" "state" "[I") (by decide +kernel)) (fun _ h9 => h9) rfl dX9_relation_44 ?_
          refine lv_iload_n hx hb dX9_relation_47 rfl (lv_at hl 3 rfl) ?_
          refine va_iald (n := 40) (f := F 7) hx hb hK hP 8 7 rfl rfl (vp_in_nI (n := j6) (by omega) (by decide)) dX9_relation_48 ?_
          refine lv_topi (fun x17 ex17 => ?_)
          replace hZ9 := bnd_s hZ9 ex17
          have hFc := mw_free hD hS hA
          refine va_calli (va_runS (As := [.int x17]) (rest := []) ⟨hx, hb, hml, hown, hts⟩ (c_w_rests l dC dI h a k F V n (b) x17 H.size hI.1 (by omega) ) (va_cwS 1 hts wc_w_relation_w_rests_147 rfl rfl rfl (by decide +kernel) ⟨Nat.le_of_ble_eq_true rfl, Nat.le_of_ble_eq_true rfl⟩) ⟨fun a9 U g mk q => by obtain ⟨q0, q1, qP, qK, qD⟩ := q; exact ⟨q0, q1, qP, va_K.moved (u := U) (U := U.calling g mk a9) (Vm.Alike.refl U.vm) qK, qD⟩, fun U hU hW => ⟨rfl, by rw [hU], by rw [hU]; exact hP, va_K.moved hW.alike hK, hD.weaken (fun _ _ _ _ => trivial)⟩⟩ rfl rfl hl.1 rfl (lv_room (Nat.le_of_ble_eq_true rfl)) dX9_relation_49 ⟨Nat.le_of_ble_eq_true rfl, Nat.le_of_ble_eq_true rfl⟩) hS (fun q _ h => hFc q h) hFc (fun r18 u t H1 locs ht hvm hw hB hz1 hk1 hS => ?_)
          obtain ⟨F19, V20⟩ := u
          replace hP := hB.1
          rw [ht] at hP
          replace hD : va_D A (mW h a k F19 V20) := hB.2.weaken (fun _ q _ h9 => hFc q.1 h9)
          clear hB
          generalize H1 = H at hP hS ⊢
          replace hP : va_P (dC, dI) vwCl (mW h a k F19 V20) H := hP
          obtain ⟨hwF, hwV, hw⟩ : F19 = F ∧ V20 = V ∧ _ := hw
          rw [hwF, hwV] at hP hD
          replace hw : r18 = f_w_rests n x17  := hw
          replace hZ9 := bnd_s hZ9 hw
          refine lv_if_ne (tgt := 58) hx hb dX9_relation_52 (by decide) (fun c21 => ?_) (fun c21 => ?_)
          · replace hZ9 := ite_f hZ9 c21
            refine lv_aload_n hx hb dX9_relation_58 rfl (lv_at hl 0 rfl) ?_
            refine lv_iload_n hx hb dX9_relation_59 rfl (lv_at hl 1 rfl) ?_
            refine lv_iload_n hx hb dX9_relation_60 rfl (lv_at hl 2 rfl) ?_
            refine lv_iload_n hx hb dX9_relation_61 rfl (lv_at hl 3 rfl) ?_
            have hFc := mw_free hD hS hA
            refine va_calli (va_runV (As := [.int (nI o4), .int (nI j5), .int (nI j6)]) (rest := []) ⟨hx, hb, hml, hown, hts⟩ (c_w_has l dC dI h a k F V n (b) o4 j5 j6 H.size hI.1 (by omega) (by omega) (by omega) (by omega)) (cwV 3 hts wc_w_relation_w_has_150 rfl rfl rfl (by decide +kernel) ⟨Nat.le_of_ble_eq_true rfl, Nat.le_of_ble_eq_true rfl⟩) ⟨fun a9 U g mk q => by obtain ⟨q0, q1, qP, qK, qD⟩ := q; exact ⟨q0, q1, qP, va_K.moved (u := U) (U := U.calling g mk a9) (Vm.Alike.refl U.vm) qK, qD⟩, va_recv hK hP (ci := 10) (q0 := 0) rfl rfl, fun U hU hW => ⟨rfl, by rw [hU], by rw [hU]; exact hP, va_K.moved hW.alike hK, hD.weaken (fun _ _ _ _ => trivial)⟩⟩ rfl rfl hl.1 rfl (lv_room (Nat.le_of_ble_eq_true rfl)) dX9_relation_62 ⟨Nat.le_of_ble_eq_true rfl, Nat.le_of_ble_eq_true rfl⟩) hS (fun q _ h => hFc q h) hFc (fun r22 u t H1 locs ht hvm hw hB hz1 hk1 hS => ?_)
            obtain ⟨F23, V24⟩ := u
            replace hP := hB.1
            rw [ht] at hP
            replace hD : va_D A (mW h a k F23 V24) := hB.2.weaken (fun _ q _ h9 => hFc q.1 h9)
            clear hB
            generalize H1 = H at hP hS ⊢
            replace hP : va_P (dC, dI) vwCl (mW h a k F23 V24) H := hP
            obtain ⟨hwF, hwV, hw⟩ : F23 = F ∧ V24 = V ∧ _ := hw
            rw [hwF, hwV] at hP hD
            obtain ⟨hw, hwe⟩ := hw
            replace hw : r22 = f_w_has n o4 j5 j6 F := hw
            replace hZ9 := bnd_s hZ9 hw
            have br22 := hwe
            refine lv_if_eq (tgt := 70) hx hb dX9_relation_65 (by decide) (fun c25 => ?_) (fun c25 => ?_)
            · replace hZ9 := ite_t hZ9 c25
              refine lv_aload_n hx hb dX9_relation_70 rfl (lv_at hl 0 rfl) ?_
              refine va_get (D := (dC, dI)) (ci := 10) (v := .int (V 20)) (C := RX9) (T := TX9) (N := 46) hx hb hts in_w_relation_X9 hown hK hP 0 rfl rfl 20 (by decide) (hts (.fieldLink RX9 153 "ServiceTreeModel" "relations" "I") (by decide +kernel)) (fun _ h9 => h9) rfl dX9_relation_71 ?_
              refine lv_topi (fun x26 ex26 => ?_)
              replace hZ9 := bnd_s hZ9 ex26
              refine lv_sipush (v := 400) hx hb dX9_relation_74 (by decide) ?_
              refine lv_icmp_ne (tgt := 83) hx hb dX9_relation_77 (by decide) (fun c27 => ?_) (fun c27 => ?_)
              · replace hZ9 := ite_f hZ9 c27
                refine lv_aload_n hx hb dX9_relation_83 rfl (lv_at hl 0 rfl) ?_
                refine lv_iload_n hx hb dX9_relation_84 rfl (lv_at hl 1 rfl) ?_
                refine lv_iload_n hx hb dX9_relation_85 rfl (lv_at hl 2 rfl) ?_
                refine lv_iload_n hx hb dX9_relation_86 rfl (lv_at hl 3 rfl) ?_
                refine lv_iconst (v := 1) hx hb dX9_relation_87 (by decide) ?_
                have hFc := mw_free hD hS hA
                refine va_callv (va_runV (As := [.int (nI o4), .int (nI j5), .int (nI j6), .int 1]) (rest := []) ⟨hx, hb, hml, hown, hts⟩ (c_w_set1 l dC dI h a k F V n (b) o4 j5 j6 H.size hI.1 (by omega) (by omega) (by omega) (by omega)) (cwV 4 hts wc_w_relation_w_set1_156 rfl rfl rfl (by decide +kernel) ⟨Nat.le_of_ble_eq_true rfl, Nat.le_of_ble_eq_true rfl⟩) ⟨fun a9 U g mk q => by obtain ⟨q0, q1, qP, qK, qD⟩ := q; exact ⟨q0, q1, qP, va_K.moved (u := U) (U := U.calling g mk a9) (Vm.Alike.refl U.vm) qK, qD⟩, va_recv hK hP (ci := 10) (q0 := 0) rfl rfl, fun U hU hW => ⟨rfl, by rw [hU], by rw [hU]; exact hP, va_K.moved hW.alike hK, hD.weaken (fun _ _ _ _ => trivial)⟩⟩ rfl rfl hl.1 rfl (lv_room (Nat.le_of_ble_eq_true rfl)) dX9_relation_88 ⟨Nat.le_of_ble_eq_true rfl, Nat.le_of_ble_eq_true rfl⟩) hS (fun q _ h => hFc q h) hFc (fun u t H1 locs ht hvm hw hB hz1 hk1 hS => ?_)
                obtain ⟨F29, V30⟩ := u
                replace hP := hB.1
                rw [ht] at hP
                replace hD : va_D A (mW h a k F29 V30) := hB.2.weaken (fun _ q _ h9 => hFc q.1 h9)
                clear hB
                generalize H1 = H at hP hS ⊢
                replace hP : va_P (dC, dI) vwCl (mW h a k F29 V30) H := hP
                obtain ⟨hwI, hwU, hwV, hw⟩ := hw
                replace hU : ∀ j : Nat, j ∉ ([19] : List Nat) → F29 j = F j := mw_tr (by decide) hwU hU
                replace hV : ∀ j : Nat, j ∉ ([20] : List Nat) → V30 j = V j := mw_tr (by decide) hwV hV
                replace hI : StM n (b + 0) F V F29 V30 := hI.trans hwI
                replace hI : StM n (b) F V F29 V30 := hI
                replace hw : (F29, V30) = f_w_set1 n o4 j5 j6 F V := hw
                replace hZ9 := bn2_s hZ9 hw
                refine lv_aload_n hx hb dX9_relation_91 rfl (lv_at hl 0 rfl) ?_
                refine lv_dup hx hb dX9_relation_92 rfl ?_
                refine va_get (D := (dC, dI)) (ci := 10) (v := .int (V30 20)) (C := RX9) (T := TX9) (N := 46) hx hb hts in_w_relation_X9 hown hK hP 0 rfl rfl 20 (by decide) (hts (.fieldLink RX9 153 "ServiceTreeModel" "relations" "I") (by decide +kernel)) (fun _ h9 => h9) rfl dX9_relation_93 ?_
                refine lv_topi (fun x31 ex31 => ?_)
                replace hZ9 := bnd_s hZ9 ex31
                refine lv_iconst (v := 1) hx hb dX9_relation_96 (by decide) ?_
                refine lv_iadd hx hb dX9_relation_97 ?_
                refine lv_topi (fun x32 ex32 => ?_)
                replace hZ9 := bnd_s hZ9 ex32
                refine va_put (D := (dC, dI)) (ci := 10) (fs := mF a V30) (v := .int x32) (ty := .int) (C := RX9) (T := TX9) (N := 46) hx hb hts in_w_relation_X9 tyX9 tyX9_ok nmX9 hown hK hP hD hS 0 rfl rfl 20 (by decide) (hts (.fieldLink RX9 153 "ServiceTreeModel" "relations" "I") (by decide +kernel)) (fun _ h9 => h9) rfl (by decide +kernel) rfl rfl (Nat.le_of_ble_eq_true rfl) dX9_relation_98 (fun H locs hP hD hS => ?_)
                rw [mW_put_20] at hP hD
                obtain ⟨V33, eV33⟩ : ∃ f9 : Nat → Int32, f9 = va_up V30 20 x32 := ⟨_, rfl⟩
                rw [← eV33] at hP hD
                replace hZ9 := bnd_s hZ9 eV33
                replace hI : StM n (b) F V F29 V33 := ⟨by rw [eV33]; exact hI.1.setV (by decide), trivial⟩
                replace hV : ∀ j : Nat, j ∉ ([20] : List Nat) → V33 j = V j := by rw [eV33]; exact mw_up (by decide) hV
                refine lv_iconst (v := 1) hx hb dX9_relation_101 (by decide) ?_
                exact W.iret (v := 1) hx hb hr (fun t ht hW => ⟨⟨1, (F29, V33), rfl, ⟨hI.mono (by omega), hU, hV, hZ9.symm.trans hR0⟩, by rw [ht]; exact hP, hD⟩, hS.F ht⟩) hS.2.2 dX9_relation_102
              · replace hZ9 := ite_t hZ9 c27
                refine lv_bipush (v := (-6)) hx hb dX9_relation_80 (by decide) ?_
                exact W.iret (v := (-6)) hx hb hr (fun t ht hW => ⟨⟨(-6), (F, V), rfl, ⟨hI.mono (by omega), hU, hV, hZ9.symm.trans hR0⟩, by rw [ht]; exact hP, hD⟩, hS.F ht⟩) hS.2.2 dX9_relation_82
            · replace hZ9 := ite_f hZ9 c25
              refine lv_iconst (v := 0) hx hb dX9_relation_68 (by decide) ?_
              exact W.iret (v := 0) hx hb hr (fun t ht hW => ⟨⟨0, (F, V), rfl, ⟨hI.mono (by omega), hU, hV, hZ9.symm.trans hR0⟩, by rw [ht]; exact hP, hD⟩, hS.F ht⟩) hS.2.2 dX9_relation_69
          · replace hZ9 := ite_t hZ9 c21
            refine lv_bipush (v := (-4)) hx hb dX9_relation_55 (by decide) ?_
            exact W.iret (v := (-4)) hx hb hr (fun t ht hW => ⟨⟨(-4), (F, V), rfl, ⟨hI.mono (by omega), hU, hV, hZ9.symm.trans hR0⟩, by rw [ht]; exact hP, hD⟩, hS.F ht⟩) hS.2.2 dX9_relation_57
      · replace c11 : ¬ (o4 = 0) := fun q9 => c11 ((nI_eq (a := o4) (b := 0) (by omega) (by omega)).mpr q9)
        replace hZ9 := ite_f hZ9 c11
        refine lv_iload_n hx hb dX9_relation_26 rfl (lv_at hl 1 rfl) ?_
        refine lv_iconst (v := 3) hx hb dX9_relation_27 (by decide) ?_
        refine lv_icmp_ne (tgt := 58) hx hb dX9_relation_28 (by decide) (fun c34 => ?_) (fun c34 => ?_)
        · replace c34 : ¬ (o4 = 3) := fun q9 => c34 ((nI_eq (a := o4) (b := 3) (by omega) (by omega)).mpr q9)
          replace hZ9 := ite_f hZ9 c34
          refine lv_aload_n hx hb dX9_relation_58 rfl (lv_at hl 0 rfl) ?_
          refine lv_iload_n hx hb dX9_relation_59 rfl (lv_at hl 1 rfl) ?_
          refine lv_iload_n hx hb dX9_relation_60 rfl (lv_at hl 2 rfl) ?_
          refine lv_iload_n hx hb dX9_relation_61 rfl (lv_at hl 3 rfl) ?_
          have hFc := mw_free hD hS hA
          refine va_calli (va_runV (As := [.int (nI o4), .int (nI j5), .int (nI j6)]) (rest := []) ⟨hx, hb, hml, hown, hts⟩ (c_w_has l dC dI h a k F V n (b) o4 j5 j6 H.size hI.1 (by omega) (by omega) (by omega) (by omega)) (cwV 3 hts wc_w_relation_w_has_150 rfl rfl rfl (by decide +kernel) ⟨Nat.le_of_ble_eq_true rfl, Nat.le_of_ble_eq_true rfl⟩) ⟨fun a9 U g mk q => by obtain ⟨q0, q1, qP, qK, qD⟩ := q; exact ⟨q0, q1, qP, va_K.moved (u := U) (U := U.calling g mk a9) (Vm.Alike.refl U.vm) qK, qD⟩, va_recv hK hP (ci := 10) (q0 := 0) rfl rfl, fun U hU hW => ⟨rfl, by rw [hU], by rw [hU]; exact hP, va_K.moved hW.alike hK, hD.weaken (fun _ _ _ _ => trivial)⟩⟩ rfl rfl hl.1 rfl (lv_room (Nat.le_of_ble_eq_true rfl)) dX9_relation_62 ⟨Nat.le_of_ble_eq_true rfl, Nat.le_of_ble_eq_true rfl⟩) hS (fun q _ h => hFc q h) hFc (fun r35 u t H1 locs ht hvm hw hB hz1 hk1 hS => ?_)
          obtain ⟨F36, V37⟩ := u
          replace hP := hB.1
          rw [ht] at hP
          replace hD : va_D A (mW h a k F36 V37) := hB.2.weaken (fun _ q _ h9 => hFc q.1 h9)
          clear hB
          generalize H1 = H at hP hS ⊢
          replace hP : va_P (dC, dI) vwCl (mW h a k F36 V37) H := hP
          obtain ⟨hwF, hwV, hw⟩ : F36 = F ∧ V37 = V ∧ _ := hw
          rw [hwF, hwV] at hP hD
          obtain ⟨hw, hwe⟩ := hw
          replace hw : r35 = f_w_has n o4 j5 j6 F := hw
          replace hZ9 := bnd_s hZ9 hw
          have br35 := hwe
          refine lv_if_eq (tgt := 70) hx hb dX9_relation_65 (by decide) (fun c38 => ?_) (fun c38 => ?_)
          · replace hZ9 := ite_t hZ9 c38
            refine lv_aload_n hx hb dX9_relation_70 rfl (lv_at hl 0 rfl) ?_
            refine va_get (D := (dC, dI)) (ci := 10) (v := .int (V 20)) (C := RX9) (T := TX9) (N := 46) hx hb hts in_w_relation_X9 hown hK hP 0 rfl rfl 20 (by decide) (hts (.fieldLink RX9 153 "ServiceTreeModel" "relations" "I") (by decide +kernel)) (fun _ h9 => h9) rfl dX9_relation_71 ?_
            refine lv_topi (fun x39 ex39 => ?_)
            replace hZ9 := bnd_s hZ9 ex39
            refine lv_sipush (v := 400) hx hb dX9_relation_74 (by decide) ?_
            refine lv_icmp_ne (tgt := 83) hx hb dX9_relation_77 (by decide) (fun c40 => ?_) (fun c40 => ?_)
            · replace hZ9 := ite_f hZ9 c40
              refine lv_aload_n hx hb dX9_relation_83 rfl (lv_at hl 0 rfl) ?_
              refine lv_iload_n hx hb dX9_relation_84 rfl (lv_at hl 1 rfl) ?_
              refine lv_iload_n hx hb dX9_relation_85 rfl (lv_at hl 2 rfl) ?_
              refine lv_iload_n hx hb dX9_relation_86 rfl (lv_at hl 3 rfl) ?_
              refine lv_iconst (v := 1) hx hb dX9_relation_87 (by decide) ?_
              have hFc := mw_free hD hS hA
              refine va_callv (va_runV (As := [.int (nI o4), .int (nI j5), .int (nI j6), .int 1]) (rest := []) ⟨hx, hb, hml, hown, hts⟩ (c_w_set1 l dC dI h a k F V n (b) o4 j5 j6 H.size hI.1 (by omega) (by omega) (by omega) (by omega)) (cwV 4 hts wc_w_relation_w_set1_156 rfl rfl rfl (by decide +kernel) ⟨Nat.le_of_ble_eq_true rfl, Nat.le_of_ble_eq_true rfl⟩) ⟨fun a9 U g mk q => by obtain ⟨q0, q1, qP, qK, qD⟩ := q; exact ⟨q0, q1, qP, va_K.moved (u := U) (U := U.calling g mk a9) (Vm.Alike.refl U.vm) qK, qD⟩, va_recv hK hP (ci := 10) (q0 := 0) rfl rfl, fun U hU hW => ⟨rfl, by rw [hU], by rw [hU]; exact hP, va_K.moved hW.alike hK, hD.weaken (fun _ _ _ _ => trivial)⟩⟩ rfl rfl hl.1 rfl (lv_room (Nat.le_of_ble_eq_true rfl)) dX9_relation_88 ⟨Nat.le_of_ble_eq_true rfl, Nat.le_of_ble_eq_true rfl⟩) hS (fun q _ h => hFc q h) hFc (fun u t H1 locs ht hvm hw hB hz1 hk1 hS => ?_)
              obtain ⟨F42, V43⟩ := u
              replace hP := hB.1
              rw [ht] at hP
              replace hD : va_D A (mW h a k F42 V43) := hB.2.weaken (fun _ q _ h9 => hFc q.1 h9)
              clear hB
              generalize H1 = H at hP hS ⊢
              replace hP : va_P (dC, dI) vwCl (mW h a k F42 V43) H := hP
              obtain ⟨hwI, hwU, hwV, hw⟩ := hw
              replace hU : ∀ j : Nat, j ∉ ([19] : List Nat) → F42 j = F j := mw_tr (by decide) hwU hU
              replace hV : ∀ j : Nat, j ∉ ([20] : List Nat) → V43 j = V j := mw_tr (by decide) hwV hV
              replace hI : StM n (b + 0) F V F42 V43 := hI.trans hwI
              replace hI : StM n (b) F V F42 V43 := hI
              replace hw : (F42, V43) = f_w_set1 n o4 j5 j6 F V := hw
              replace hZ9 := bn2_s hZ9 hw
              refine lv_aload_n hx hb dX9_relation_91 rfl (lv_at hl 0 rfl) ?_
              refine lv_dup hx hb dX9_relation_92 rfl ?_
              refine va_get (D := (dC, dI)) (ci := 10) (v := .int (V43 20)) (C := RX9) (T := TX9) (N := 46) hx hb hts in_w_relation_X9 hown hK hP 0 rfl rfl 20 (by decide) (hts (.fieldLink RX9 153 "ServiceTreeModel" "relations" "I") (by decide +kernel)) (fun _ h9 => h9) rfl dX9_relation_93 ?_
              refine lv_topi (fun x44 ex44 => ?_)
              replace hZ9 := bnd_s hZ9 ex44
              refine lv_iconst (v := 1) hx hb dX9_relation_96 (by decide) ?_
              refine lv_iadd hx hb dX9_relation_97 ?_
              refine lv_topi (fun x45 ex45 => ?_)
              replace hZ9 := bnd_s hZ9 ex45
              refine va_put (D := (dC, dI)) (ci := 10) (fs := mF a V43) (v := .int x45) (ty := .int) (C := RX9) (T := TX9) (N := 46) hx hb hts in_w_relation_X9 tyX9 tyX9_ok nmX9 hown hK hP hD hS 0 rfl rfl 20 (by decide) (hts (.fieldLink RX9 153 "ServiceTreeModel" "relations" "I") (by decide +kernel)) (fun _ h9 => h9) rfl (by decide +kernel) rfl rfl (Nat.le_of_ble_eq_true rfl) dX9_relation_98 (fun H locs hP hD hS => ?_)
              rw [mW_put_20] at hP hD
              obtain ⟨V46, eV46⟩ : ∃ f9 : Nat → Int32, f9 = va_up V43 20 x45 := ⟨_, rfl⟩
              rw [← eV46] at hP hD
              replace hZ9 := bnd_s hZ9 eV46
              replace hI : StM n (b) F V F42 V46 := ⟨by rw [eV46]; exact hI.1.setV (by decide), trivial⟩
              replace hV : ∀ j : Nat, j ∉ ([20] : List Nat) → V46 j = V j := by rw [eV46]; exact mw_up (by decide) hV
              refine lv_iconst (v := 1) hx hb dX9_relation_101 (by decide) ?_
              exact W.iret (v := 1) hx hb hr (fun t ht hW => ⟨⟨1, (F42, V46), rfl, ⟨hI.mono (by omega), hU, hV, hZ9.symm.trans hR0⟩, by rw [ht]; exact hP, hD⟩, hS.F ht⟩) hS.2.2 dX9_relation_102
            · replace hZ9 := ite_t hZ9 c40
              refine lv_bipush (v := (-6)) hx hb dX9_relation_80 (by decide) ?_
              exact W.iret (v := (-6)) hx hb hr (fun t ht hW => ⟨⟨(-6), (F, V), rfl, ⟨hI.mono (by omega), hU, hV, hZ9.symm.trans hR0⟩, by rw [ht]; exact hP, hD⟩, hS.F ht⟩) hS.2.2 dX9_relation_82
          · replace hZ9 := ite_f hZ9 c38
            refine lv_iconst (v := 0) hx hb dX9_relation_68 (by decide) ?_
            exact W.iret (v := 0) hx hb hr (fun t ht hW => ⟨⟨0, (F, V), rfl, ⟨hI.mono (by omega), hU, hV, hZ9.symm.trans hR0⟩, by rw [ht]; exact hP, hD⟩, hS.F ht⟩) hS.2.2 dX9_relation_69
        · replace c34 : o4 = 3 := (nI_eq (a := o4) (b := 3) (by omega) (by omega)).mp c34
          replace hZ9 := ite_t hZ9 c34
          refine lv_aload_n hx hb dX9_relation_31 rfl (lv_at hl 0 rfl) ?_
          refine va_get (D := (dC, dI)) (ci := 10) (v := .ref (a 7)) (C := RX9) (T := TX9) (N := 46) hx hb hts in_w_relation_X9 hown hK hP 0 rfl rfl 7 (by decide) (hts (.fieldLink RX9 31 "ServiceTreeModel" "state" "[I") (by decide +kernel)) (fun _ h9 => h9) rfl dX9_relation_32 ?_
          refine lv_iload_n hx hb dX9_relation_35 rfl (lv_at hl 2 rfl) ?_
          refine va_iald (n := 40) (f := F 7) hx hb hK hP 8 7 rfl rfl (vp_in_nI (n := j5) (by omega) (by decide)) dX9_relation_36 ?_
          refine lv_topi (fun x47 ex47 => ?_)
          replace hZ9 := bnd_s hZ9 ex47
          have hFc := mw_free hD hS hA
          refine va_calli (va_runS (As := [.int x47]) (rest := []) ⟨hx, hb, hml, hown, hts⟩ (c_w_rests l dC dI h a k F V n (b) x47 H.size hI.1 (by omega) ) (va_cwS 1 hts wc_w_relation_w_rests_147 rfl rfl rfl (by decide +kernel) ⟨Nat.le_of_ble_eq_true rfl, Nat.le_of_ble_eq_true rfl⟩) ⟨fun a9 U g mk q => by obtain ⟨q0, q1, qP, qK, qD⟩ := q; exact ⟨q0, q1, qP, va_K.moved (u := U) (U := U.calling g mk a9) (Vm.Alike.refl U.vm) qK, qD⟩, fun U hU hW => ⟨rfl, by rw [hU], by rw [hU]; exact hP, va_K.moved hW.alike hK, hD.weaken (fun _ _ _ _ => trivial)⟩⟩ rfl rfl hl.1 rfl (lv_room (Nat.le_of_ble_eq_true rfl)) dX9_relation_37 ⟨Nat.le_of_ble_eq_true rfl, Nat.le_of_ble_eq_true rfl⟩) hS (fun q _ h => hFc q h) hFc (fun r48 u t H1 locs ht hvm hw hB hz1 hk1 hS => ?_)
          obtain ⟨F49, V50⟩ := u
          replace hP := hB.1
          rw [ht] at hP
          replace hD : va_D A (mW h a k F49 V50) := hB.2.weaken (fun _ q _ h9 => hFc q.1 h9)
          clear hB
          generalize H1 = H at hP hS ⊢
          replace hP : va_P (dC, dI) vwCl (mW h a k F49 V50) H := hP
          obtain ⟨hwF, hwV, hw⟩ : F49 = F ∧ V50 = V ∧ _ := hw
          rw [hwF, hwV] at hP hD
          replace hw : r48 = f_w_rests n x47  := hw
          replace hZ9 := bnd_s hZ9 hw
          refine lv_if_eq (tgt := 55) hx hb dX9_relation_40 (by decide) (fun c51 => ?_) (fun c51 => ?_)
          · replace hZ9 := ite_t hZ9 c51
            refine lv_bipush (v := (-4)) hx hb dX9_relation_55 (by decide) ?_
            exact W.iret (v := (-4)) hx hb hr (fun t ht hW => ⟨⟨(-4), (F, V), rfl, ⟨hI.mono (by omega), hU, hV, hZ9.symm.trans hR0⟩, by rw [ht]; exact hP, hD⟩, hS.F ht⟩) hS.2.2 dX9_relation_57
          · replace hZ9 := ite_f hZ9 c51
            refine lv_aload_n hx hb dX9_relation_43 rfl (lv_at hl 0 rfl) ?_
            refine va_get (D := (dC, dI)) (ci := 10) (v := .ref (a 7)) (C := RX9) (T := TX9) (N := 46) hx hb hts in_w_relation_X9 hown hK hP 0 rfl rfl 7 (by decide) (hts (.fieldLink RX9 31 "ServiceTreeModel" "state" "[I") (by decide +kernel)) (fun _ h9 => h9) rfl dX9_relation_44 ?_
            refine lv_iload_n hx hb dX9_relation_47 rfl (lv_at hl 3 rfl) ?_
            refine va_iald (n := 40) (f := F 7) hx hb hK hP 8 7 rfl rfl (vp_in_nI (n := j6) (by omega) (by decide)) dX9_relation_48 ?_
            refine lv_topi (fun x52 ex52 => ?_)
            replace hZ9 := bnd_s hZ9 ex52
            have hFc := mw_free hD hS hA
            refine va_calli (va_runS (As := [.int x52]) (rest := []) ⟨hx, hb, hml, hown, hts⟩ (c_w_rests l dC dI h a k F V n (b) x52 H.size hI.1 (by omega) ) (va_cwS 1 hts wc_w_relation_w_rests_147 rfl rfl rfl (by decide +kernel) ⟨Nat.le_of_ble_eq_true rfl, Nat.le_of_ble_eq_true rfl⟩) ⟨fun a9 U g mk q => by obtain ⟨q0, q1, qP, qK, qD⟩ := q; exact ⟨q0, q1, qP, va_K.moved (u := U) (U := U.calling g mk a9) (Vm.Alike.refl U.vm) qK, qD⟩, fun U hU hW => ⟨rfl, by rw [hU], by rw [hU]; exact hP, va_K.moved hW.alike hK, hD.weaken (fun _ _ _ _ => trivial)⟩⟩ rfl rfl hl.1 rfl (lv_room (Nat.le_of_ble_eq_true rfl)) dX9_relation_49 ⟨Nat.le_of_ble_eq_true rfl, Nat.le_of_ble_eq_true rfl⟩) hS (fun q _ h => hFc q h) hFc (fun r53 u t H1 locs ht hvm hw hB hz1 hk1 hS => ?_)
            obtain ⟨F54, V55⟩ := u
            replace hP := hB.1
            rw [ht] at hP
            replace hD : va_D A (mW h a k F54 V55) := hB.2.weaken (fun _ q _ h9 => hFc q.1 h9)
            clear hB
            generalize H1 = H at hP hS ⊢
            replace hP : va_P (dC, dI) vwCl (mW h a k F54 V55) H := hP
            obtain ⟨hwF, hwV, hw⟩ : F54 = F ∧ V55 = V ∧ _ := hw
            rw [hwF, hwV] at hP hD
            replace hw : r53 = f_w_rests n x52  := hw
            replace hZ9 := bnd_s hZ9 hw
            refine lv_if_ne (tgt := 58) hx hb dX9_relation_52 (by decide) (fun c56 => ?_) (fun c56 => ?_)
            · replace hZ9 := ite_f hZ9 c56
              refine lv_aload_n hx hb dX9_relation_58 rfl (lv_at hl 0 rfl) ?_
              refine lv_iload_n hx hb dX9_relation_59 rfl (lv_at hl 1 rfl) ?_
              refine lv_iload_n hx hb dX9_relation_60 rfl (lv_at hl 2 rfl) ?_
              refine lv_iload_n hx hb dX9_relation_61 rfl (lv_at hl 3 rfl) ?_
              have hFc := mw_free hD hS hA
              refine va_calli (va_runV (As := [.int (nI o4), .int (nI j5), .int (nI j6)]) (rest := []) ⟨hx, hb, hml, hown, hts⟩ (c_w_has l dC dI h a k F V n (b) o4 j5 j6 H.size hI.1 (by omega) (by omega) (by omega) (by omega)) (cwV 3 hts wc_w_relation_w_has_150 rfl rfl rfl (by decide +kernel) ⟨Nat.le_of_ble_eq_true rfl, Nat.le_of_ble_eq_true rfl⟩) ⟨fun a9 U g mk q => by obtain ⟨q0, q1, qP, qK, qD⟩ := q; exact ⟨q0, q1, qP, va_K.moved (u := U) (U := U.calling g mk a9) (Vm.Alike.refl U.vm) qK, qD⟩, va_recv hK hP (ci := 10) (q0 := 0) rfl rfl, fun U hU hW => ⟨rfl, by rw [hU], by rw [hU]; exact hP, va_K.moved hW.alike hK, hD.weaken (fun _ _ _ _ => trivial)⟩⟩ rfl rfl hl.1 rfl (lv_room (Nat.le_of_ble_eq_true rfl)) dX9_relation_62 ⟨Nat.le_of_ble_eq_true rfl, Nat.le_of_ble_eq_true rfl⟩) hS (fun q _ h => hFc q h) hFc (fun r57 u t H1 locs ht hvm hw hB hz1 hk1 hS => ?_)
              obtain ⟨F58, V59⟩ := u
              replace hP := hB.1
              rw [ht] at hP
              replace hD : va_D A (mW h a k F58 V59) := hB.2.weaken (fun _ q _ h9 => hFc q.1 h9)
              clear hB
              generalize H1 = H at hP hS ⊢
              replace hP : va_P (dC, dI) vwCl (mW h a k F58 V59) H := hP
              obtain ⟨hwF, hwV, hw⟩ : F58 = F ∧ V59 = V ∧ _ := hw
              rw [hwF, hwV] at hP hD
              obtain ⟨hw, hwe⟩ := hw
              replace hw : r57 = f_w_has n o4 j5 j6 F := hw
              replace hZ9 := bnd_s hZ9 hw
              have br57 := hwe
              refine lv_if_eq (tgt := 70) hx hb dX9_relation_65 (by decide) (fun c60 => ?_) (fun c60 => ?_)
              · replace hZ9 := ite_t hZ9 c60
                refine lv_aload_n hx hb dX9_relation_70 rfl (lv_at hl 0 rfl) ?_
                refine va_get (D := (dC, dI)) (ci := 10) (v := .int (V 20)) (C := RX9) (T := TX9) (N := 46) hx hb hts in_w_relation_X9 hown hK hP 0 rfl rfl 20 (by decide) (hts (.fieldLink RX9 153 "ServiceTreeModel" "relations" "I") (by decide +kernel)) (fun _ h9 => h9) rfl dX9_relation_71 ?_
                refine lv_topi (fun x61 ex61 => ?_)
                replace hZ9 := bnd_s hZ9 ex61
                refine lv_sipush (v := 400) hx hb dX9_relation_74 (by decide) ?_
                refine lv_icmp_ne (tgt := 83) hx hb dX9_relation_77 (by decide) (fun c62 => ?_) (fun c62 => ?_)
                · replace hZ9 := ite_f hZ9 c62
                  refine lv_aload_n hx hb dX9_relation_83 rfl (lv_at hl 0 rfl) ?_
                  refine lv_iload_n hx hb dX9_relation_84 rfl (lv_at hl 1 rfl) ?_
                  refine lv_iload_n hx hb dX9_relation_85 rfl (lv_at hl 2 rfl) ?_
                  refine lv_iload_n hx hb dX9_relation_86 rfl (lv_at hl 3 rfl) ?_
                  refine lv_iconst (v := 1) hx hb dX9_relation_87 (by decide) ?_
                  have hFc := mw_free hD hS hA
                  refine va_callv (va_runV (As := [.int (nI o4), .int (nI j5), .int (nI j6), .int 1]) (rest := []) ⟨hx, hb, hml, hown, hts⟩ (c_w_set1 l dC dI h a k F V n (b) o4 j5 j6 H.size hI.1 (by omega) (by omega) (by omega) (by omega)) (cwV 4 hts wc_w_relation_w_set1_156 rfl rfl rfl (by decide +kernel) ⟨Nat.le_of_ble_eq_true rfl, Nat.le_of_ble_eq_true rfl⟩) ⟨fun a9 U g mk q => by obtain ⟨q0, q1, qP, qK, qD⟩ := q; exact ⟨q0, q1, qP, va_K.moved (u := U) (U := U.calling g mk a9) (Vm.Alike.refl U.vm) qK, qD⟩, va_recv hK hP (ci := 10) (q0 := 0) rfl rfl, fun U hU hW => ⟨rfl, by rw [hU], by rw [hU]; exact hP, va_K.moved hW.alike hK, hD.weaken (fun _ _ _ _ => trivial)⟩⟩ rfl rfl hl.1 rfl (lv_room (Nat.le_of_ble_eq_true rfl)) dX9_relation_88 ⟨Nat.le_of_ble_eq_true rfl, Nat.le_of_ble_eq_true rfl⟩) hS (fun q _ h => hFc q h) hFc (fun u t H1 locs ht hvm hw hB hz1 hk1 hS => ?_)
                  obtain ⟨F64, V65⟩ := u
                  replace hP := hB.1
                  rw [ht] at hP
                  replace hD : va_D A (mW h a k F64 V65) := hB.2.weaken (fun _ q _ h9 => hFc q.1 h9)
                  clear hB
                  generalize H1 = H at hP hS ⊢
                  replace hP : va_P (dC, dI) vwCl (mW h a k F64 V65) H := hP
                  obtain ⟨hwI, hwU, hwV, hw⟩ := hw
                  replace hU : ∀ j : Nat, j ∉ ([19] : List Nat) → F64 j = F j := mw_tr (by decide) hwU hU
                  replace hV : ∀ j : Nat, j ∉ ([20] : List Nat) → V65 j = V j := mw_tr (by decide) hwV hV
                  replace hI : StM n (b + 0) F V F64 V65 := hI.trans hwI
                  replace hI : StM n (b) F V F64 V65 := hI
                  replace hw : (F64, V65) = f_w_set1 n o4 j5 j6 F V := hw
                  replace hZ9 := bn2_s hZ9 hw
                  refine lv_aload_n hx hb dX9_relation_91 rfl (lv_at hl 0 rfl) ?_
                  refine lv_dup hx hb dX9_relation_92 rfl ?_
                  refine va_get (D := (dC, dI)) (ci := 10) (v := .int (V65 20)) (C := RX9) (T := TX9) (N := 46) hx hb hts in_w_relation_X9 hown hK hP 0 rfl rfl 20 (by decide) (hts (.fieldLink RX9 153 "ServiceTreeModel" "relations" "I") (by decide +kernel)) (fun _ h9 => h9) rfl dX9_relation_93 ?_
                  refine lv_topi (fun x66 ex66 => ?_)
                  replace hZ9 := bnd_s hZ9 ex66
                  refine lv_iconst (v := 1) hx hb dX9_relation_96 (by decide) ?_
                  refine lv_iadd hx hb dX9_relation_97 ?_
                  refine lv_topi (fun x67 ex67 => ?_)
                  replace hZ9 := bnd_s hZ9 ex67
                  refine va_put (D := (dC, dI)) (ci := 10) (fs := mF a V65) (v := .int x67) (ty := .int) (C := RX9) (T := TX9) (N := 46) hx hb hts in_w_relation_X9 tyX9 tyX9_ok nmX9 hown hK hP hD hS 0 rfl rfl 20 (by decide) (hts (.fieldLink RX9 153 "ServiceTreeModel" "relations" "I") (by decide +kernel)) (fun _ h9 => h9) rfl (by decide +kernel) rfl rfl (Nat.le_of_ble_eq_true rfl) dX9_relation_98 (fun H locs hP hD hS => ?_)
                  rw [mW_put_20] at hP hD
                  obtain ⟨V68, eV68⟩ : ∃ f9 : Nat → Int32, f9 = va_up V65 20 x67 := ⟨_, rfl⟩
                  rw [← eV68] at hP hD
                  replace hZ9 := bnd_s hZ9 eV68
                  replace hI : StM n (b) F V F64 V68 := ⟨by rw [eV68]; exact hI.1.setV (by decide), trivial⟩
                  replace hV : ∀ j : Nat, j ∉ ([20] : List Nat) → V68 j = V j := by rw [eV68]; exact mw_up (by decide) hV
                  refine lv_iconst (v := 1) hx hb dX9_relation_101 (by decide) ?_
                  exact W.iret (v := 1) hx hb hr (fun t ht hW => ⟨⟨1, (F64, V68), rfl, ⟨hI.mono (by omega), hU, hV, hZ9.symm.trans hR0⟩, by rw [ht]; exact hP, hD⟩, hS.F ht⟩) hS.2.2 dX9_relation_102
                · replace hZ9 := ite_t hZ9 c62
                  refine lv_bipush (v := (-6)) hx hb dX9_relation_80 (by decide) ?_
                  exact W.iret (v := (-6)) hx hb hr (fun t ht hW => ⟨⟨(-6), (F, V), rfl, ⟨hI.mono (by omega), hU, hV, hZ9.symm.trans hR0⟩, by rw [ht]; exact hP, hD⟩, hS.F ht⟩) hS.2.2 dX9_relation_82
              · replace hZ9 := ite_f hZ9 c60
                refine lv_iconst (v := 0) hx hb dX9_relation_68 (by decide) ?_
                exact W.iret (v := 0) hx hb hr (fun t ht hW => ⟨⟨0, (F, V), rfl, ⟨hI.mono (by omega), hU, hV, hZ9.symm.trans hR0⟩, by rw [ht]; exact hP, hD⟩, hS.F ht⟩) hS.2.2 dX9_relation_69
            · replace hZ9 := ite_t hZ9 c56
              refine lv_bipush (v := (-4)) hx hb dX9_relation_55 (by decide) ?_
              exact W.iret (v := (-4)) hx hb hr (fun t ht hW => ⟨⟨(-4), (F, V), rfl, ⟨hI.mono (by omega), hU, hV, hZ9.symm.trans hR0⟩, by rw [ht]; exact hP, hD⟩, hS.F ht⟩) hS.2.2 dX9_relation_57
    · replace hZ9 := ite_f hZ9 c10
      refine lv_bipush (v := (-3)) hx hb dX9_relation_19 (by decide) ?_
      exact W.iret (v := (-3)) hx hb hr (fun t ht hW => ⟨⟨(-3), (F, V), rfl, ⟨hI.mono (by omega), hU, hV, hZ9.symm.trans hR0⟩, by rw [ht]; exact hP, hD⟩, hS.F ht⟩) hS.2.2 dX9_relation_21
  · replace hZ9 := ite_f hZ9 noo4
    refine lv_if_ne (tgt := 12) hx hb dX9_relation_7 (by decide) (fun c9 => absurd (by decide) c9) (fun _ => ?_)
    refine lv_iconst (v := (-1)) hx hb dX9_relation_10 (by decide) ?_
    exact W.iret (v := (-1)) hx hb hr (fun t ht hW => ⟨⟨(-1), (F, V), rfl, ⟨hI.mono (by omega), hU, hV, hZ9.symm.trans hR0⟩, by rw [ht]; exact hP, hD⟩, hS.F ht⟩) hS.2.2 dX9_relation_11
def f_w_undo (n : Nat) (p0 : Int32) (p1 : Int32) (p2 : Int32) (F : Nat → Nat → Int32) (V : Nat → Int32) : Int32 × (Nat → Nat → Int32) × (Nat → Int32) := if ((0 : Int32) ≤ p0 ∧ p0 ≤ (3 : Int32)) ∧ ((0 : Int32) ≤ p1 ∧ p1 < nI n) ∧ ((0 : Int32) ≤ p2 ∧ p2 < nI n) ∧ ¬ p1 = p2 then (bnd (p0.toNatClampNeg) (fun (o4 : Nat) => bnd (p1.toNatClampNeg) (fun (j5 : Nat) => bnd (p2.toNatClampNeg) (fun (j6 : Nat) => bnd (f_w_jobs n  F) (fun (r7 : Int32) => if r7 ≤ (0 : Int32) then (bnd (f_w_has n o4 j5 j6 F) (fun (r11 : Int32) => if r11 = (0 : Int32) then (((0 : Int32), F, V)) else (bn2 (f_w_set0 n o4 j5 j6 F V) (fun (F16 : Nat → Nat → Int32) (V17 : Nat → Int32) => bnd (V17 20) (fun (x18 : Int32) => bnd (x18 - (1 : Int32)) (fun (x19 : Int32) => bnd (va_up V17 20 x19) (fun (V20 : Nat → Int32) => ((1 : Int32), F16, V20)))))))) else (((-3 : Int32), F, V))))))) else (((-1 : Int32), F, V))
def wq_w_undo : List Cond := ([.code yX9_undo cX9_undo 4 (some .int), .fieldLink RX9 153 "ServiceTreeModel" "relations" "I", .methodLink RX9 139 yX9_isPair, .instanceMethod yX9_isPair, .selects RX9 yX9_isPair yX9_isPair, .initialized RX9, .methodLink RX9 143 yX9_jobs, .instanceMethod yX9_jobs, .selects RX9 yX9_jobs yX9_jobs, .methodLink RX9 150 yX9_has, .instanceMethod yX9_has, .selects RX9 yX9_has yX9_has, .methodLink RX9 156 yX9_set, .instanceMethod yX9_set, .selects RX9 yX9_set yX9_set] : List Cond) ++ (wsX90 ++ (wq_w_isPair ++ (wq_w_jobs ++ (wq_w_has ++ (wq_w_set0)))))
theorem in_w_undo_X9 : ∀ w ∈ wsX90, w ∈ wq_w_undo := fun _ h => List.mem_append_right _ (List.mem_append_left _ (h))
set_option maxRecDepth 20000 in
theorem wi_w_undo : ∀ w ∈ wq_w_undo, w ∈ lw_tbl := List.forall_mem_append.mpr ⟨(wix [1034, 872, 1012, 1014, 33, 69, 1016, 1018, 34, 1023, 1025, 35, 1027, 1029, 36] rfl), List.forall_mem_append.mpr ⟨inKX9, List.forall_mem_append.mpr ⟨wi_w_isPair, List.forall_mem_append.mpr ⟨wi_w_jobs, List.forall_mem_append.mpr ⟨wi_w_has, wi_w_set0⟩⟩⟩⟩⟩
set_option maxRecDepth 20000 in
theorem wg_w_undo : GoodIn wq_w_undo wq_w_undo := goodIn_sub (fun _ h => h) (by decide +kernel)
set_option maxRecDepth 20000 in
theorem wc_w_undo_w_isPair_139 : GoodIn wq_w_undo (wsV RX9 139 RX9 yX9_isPair wq_w_isPair) := goodIn_app (goodIn_of _ (by decide +kernel)) (fun w h => ⟨List.mem_append_right _ (List.mem_append_right _ (List.mem_append_left _ (h))), (wg_w_isPair w h).2⟩)
set_option maxRecDepth 20000 in
theorem wc_w_undo_w_jobs_143 : GoodIn wq_w_undo (wsV RX9 143 RX9 yX9_jobs wq_w_jobs) := goodIn_app (goodIn_of _ (by decide +kernel)) (fun w h => ⟨List.mem_append_right _ (List.mem_append_right _ (List.mem_append_right _ (List.mem_append_left _ (h)))), (wg_w_jobs w h).2⟩)
set_option maxRecDepth 20000 in
theorem wc_w_undo_w_has_150 : GoodIn wq_w_undo (wsV RX9 150 RX9 yX9_has wq_w_has) := goodIn_app (goodIn_of _ (by decide +kernel)) (fun w h => ⟨List.mem_append_right _ (List.mem_append_right _ (List.mem_append_right _ (List.mem_append_right _ (List.mem_append_left _ (h))))), (wg_w_has w h).2⟩)
set_option maxRecDepth 20000 in
theorem wc_w_undo_w_set0_156 : GoodIn wq_w_undo (wsV RX9 156 RX9 yX9_set wq_w_set0) := goodIn_app (goodIn_of _ (by decide +kernel)) (fun w h => ⟨List.mem_append_right _ (List.mem_append_right _ (List.mem_append_right _ (List.mem_append_right _ (List.mem_append_right _ (h))))), (wg_w_set0 w h).2⟩)
def rm_w_undo : Room := { frames := 2, cells := 0, slots := 0, locals := 44 }
set_option maxHeartbeats 4000000 in
set_option maxRecDepth 100000 in
theorem c_w_undo (l : Launch) (dC : Nat → ClassId) (dI : Nat → Nat → Nat) (h : Nat) (a : Nat → Nat) (k : Nat → ClassId) (F : Nat → Nat → Int32) (V : Nat → Int32) (n b : Nat) (p0 : Int32) (p1 : Int32) (p2 : Int32) (sz : Nat) (hI0 : InvM n b F V) (hb0 : b + 0 < 2147483648)  : Met l yX9_undo wq_w_undo rm_w_undo (va_Pc [.ref h, .int p0, .int p1, .int p2] (fun U => U.heap.size = sz ∧ va_P (dC, dI) vwCl (mW h a k F V) U.heap ∧ va_K (dC, dI) vwCl (mT k) U ∧ va_D (fun _ => True) (mW h a k F V))) (va_Qi (fun (r : Int32) (u : (Nat → Nat → Int32) × (Nat → Int32)) => StM n (b + 0) F V u.1 u.2 ∧ (∀ j : Nat, j ∉ ([19] : List Nat) → u.1 j = F j) ∧ (∀ j : Nat, j ∉ ([20] : List Nat) → u.2 j = V j) ∧ ((r, u.1, u.2) = f_w_undo n p0 p1 p2 F V)) (fun (u : (Nat → Nat → Int32) × (Nat → Int32)) (t : State) => va_P (dC, dI) vwCl (mW h a k u.1 u.2) t.heap ∧ va_D (va_A (mW h a k F V) sz) (mW h a k u.1 u.2)) (va_A (mW h a k F V) sz)) 0 0 (va_A (mW h a k F V) sz) := by
  have hn : n ≤ 40 := hI0.1
  have hI : StM n b F V F V := StM.rf hI0
  have hU : ∀ j : Nat, j ∉ ([19] : List Nat) → F j = F j := fun _ _ => rfl
  have hV : ∀ j : Nat, j ∉ ([20] : List Nat) → V j = V j := fun _ _ => rfl
  refine Met.ofW (cc := cX9_undo) (maxL := 4) (ret := (some .int)) (by decide) rfl ?_
  intro p e s m args below meth c s₁ B hml hv
  obtain ⟨rfl, hsz, hP, hK, hD0⟩ := hv
  have hx := B.exec
  have hb := B.bytes
  have hr := B.returns
  have hts := atoms_spec (ws := wq_w_undo) B.pre
  have hown : s.vm.findClass RX9 = some m.cls := findClass_of_methodNamed B.named
  have hlocks := B.notSynchronized
  subst hsz
  have hD := hD0.self (sz := s.heap.size)
  generalize hAe : va_A (mW h a k F V) s.heap.size = A at hD ⊢
  have hA : ∀ q : Nat, s.heap.size ≤ q → A q := fun q h => by rw [← hAe]; exact Or.inr h
  have hS : va_S A s.heap s.heap [] := va_S.rf
  have hl := lv_entry ([.ref h, .int p0, .int p1, .int p2]) (n := 4) (Nat.le_of_ble_eq_true rfl)
  rw [lg_entry_eq]
  generalize (lg_sl ([.ref h, .int p0, .int p1, .int p2]) ++ List.replicate (4 - (lg_sl ([.ref h, .int p0, .int p1, .int p2])).length) Slot.unset).toArray = ls at hl ⊢
  have hl : lv_has ls 4 [(0, .ref h), (1, .int p0), (2, .int p1), (3, .int p2)] := hl
  obtain ⟨RES, hR0⟩ : ∃ R9, R9 = f_w_undo n p0 p1 p2 F V := ⟨_, rfl⟩
  have hZ9 := hR0
  unfold f_w_undo at hZ9
  refine lv_aload_n hx hb dX9_undo_0 rfl (lv_at hl 0 rfl) ?_
  refine lv_iload_n hx hb dX9_undo_1 rfl (lv_at hl 1 rfl) ?_
  refine lv_iload_n hx hb dX9_undo_2 rfl (lv_at hl 2 rfl) ?_
  refine lv_iload_n hx hb dX9_undo_3 rfl (lv_at hl 3 rfl) ?_
  have hFc := mw_free hD hS hA
  refine va_calli (va_runV (As := [.int p0, .int p1, .int p2]) (rest := []) ⟨hx, hb, hml, hown, hts⟩ (c_w_isPair l dC dI h a k F V n (b) p0 p1 p2 s.heap.size hI.1 (by omega) ) (cwV 3 hts wc_w_undo_w_isPair_139 rfl rfl rfl (by decide +kernel) ⟨Nat.le_of_ble_eq_true rfl, Nat.le_of_ble_eq_true rfl⟩) ⟨fun a9 U g mk q => by obtain ⟨q0, q1, qP, qK, qD⟩ := q; exact ⟨q0, q1, qP, va_K.moved (u := U) (U := U.calling g mk a9) (Vm.Alike.refl U.vm) qK, qD⟩, va_recv hK hP (ci := 10) (q0 := 0) rfl rfl, fun U hU hW => ⟨rfl, by rw [hU], by rw [hU]; exact hP, va_K.moved hW.alike hK, hD.weaken (fun _ _ _ _ => trivial)⟩⟩ rfl rfl hl.1 rfl (lv_room (Nat.le_of_ble_eq_true rfl)) dX9_undo_4 ⟨Nat.le_of_ble_eq_true rfl, Nat.le_of_ble_eq_true rfl⟩) hS (fun q _ h => hFc q h) hFc (fun r1 u t H1 locs ht hvm hw hB hz1 hk1 hS => ?_)
  obtain ⟨F2, V3⟩ := u
  replace hP := hB.1
  rw [ht] at hP
  replace hD : va_D A (mW h a k F2 V3) := hB.2.weaken (fun _ q _ h9 => hFc q.1 h9)
  clear hB
  generalize H1 = H at hP hS ⊢
  replace hP : va_P (dC, dI) vwCl (mW h a k F2 V3) H := hP
  obtain ⟨hwF, hwV, hw⟩ : F2 = F ∧ V3 = V ∧ _ := hw
  rw [hwF, hwV] at hP hD
  rcases hw with ⟨rfl, o4, j5, j6, ho4, hj5, hj6, hneo4, eo4, ej5, ej6⟩ | ⟨rfl, noo4⟩
  · replace hZ9 := ite_t hZ9 (show ((0 : Int32) ≤ p0 ∧ p0 ≤ (3 : Int32)) ∧ ((0 : Int32) ≤ p1 ∧ p1 < nI n) ∧ ((0 : Int32) ≤ p2 ∧ p2 < nI n) ∧ ¬ p1 = p2 by rw [eo4, ej5, ej6]; exact ⟨⟨nI_pos' (by omega), nI_le (b := 3) (by omega) (by omega)⟩, ⟨nI_pos' (by omega), nI_lt hj5 (by omega)⟩, ⟨nI_pos' (by omega), nI_lt hj6 (by omega)⟩, fun q9 => hneo4 ((nI_eq (by omega) (by omega)).mp q9)⟩)
    replace hZ9 := bnd_s hZ9 (show o4 = p0.toNatClampNeg by rw [eo4, nI_clamp (by omega)])
    replace hZ9 := bnd_s hZ9 (show j5 = p1.toNatClampNeg by rw [ej5, nI_clamp (by omega)])
    replace hZ9 := bnd_s hZ9 (show j6 = p2.toNatClampNeg by rw [ej6, nI_clamp (by omega)])
    subst eo4
    subst ej5
    subst ej6
    refine lv_if_ne (tgt := 12) hx hb dX9_undo_7 (by decide) (fun _ => ?_) (fun c9 => absurd c9 (by decide))
    refine lv_aload_n hx hb dX9_undo_12 rfl (lv_at hl 0 rfl) ?_
    have hFc := mw_free hD hS hA
    refine va_calli (va_runV (As := []) (rest := []) ⟨hx, hb, hml, hown, hts⟩ (c_w_jobs l dC dI h a k F V n (b)  H.size hI.1 (by omega) ) (cwV 0 hts wc_w_undo_w_jobs_143 rfl rfl rfl (by decide +kernel) ⟨Nat.le_of_ble_eq_true rfl, Nat.le_of_ble_eq_true rfl⟩) ⟨fun a9 U g mk q => by obtain ⟨q0, q1, qP, qK, qD⟩ := q; exact ⟨q0, q1, qP, va_K.moved (u := U) (U := U.calling g mk a9) (Vm.Alike.refl U.vm) qK, qD⟩, va_recv hK hP (ci := 10) (q0 := 0) rfl rfl, fun U hU hW => ⟨rfl, by rw [hU], by rw [hU]; exact hP, va_K.moved hW.alike hK, hD.weaken (fun _ _ _ _ => trivial)⟩⟩ rfl rfl hl.1 rfl (lv_room (Nat.le_of_ble_eq_true rfl)) dX9_undo_13 ⟨Nat.le_of_ble_eq_true rfl, Nat.le_of_ble_eq_true rfl⟩) hS (fun q _ h => hFc q h) hFc (fun r7 u t H1 locs ht hvm hw hB hz1 hk1 hS => ?_)
    obtain ⟨F8, V9⟩ := u
    replace hP := hB.1
    rw [ht] at hP
    replace hD : va_D A (mW h a k F8 V9) := hB.2.weaken (fun _ q _ h9 => hFc q.1 h9)
    clear hB
    generalize H1 = H at hP hS ⊢
    replace hP : va_P (dC, dI) vwCl (mW h a k F8 V9) H := hP
    obtain ⟨hwF, hwV, hw⟩ : F8 = F ∧ V9 = V ∧ _ := hw
    rw [hwF, hwV] at hP hD
    replace hw : r7 = f_w_jobs n  F := hw
    replace hZ9 := bnd_s hZ9 hw
    refine lv_if_le (tgt := 22) hx hb dX9_undo_16 (by decide) (fun c10 => ?_) (fun c10 => ?_)
    · replace hZ9 := ite_t hZ9 c10
      refine lv_aload_n hx hb dX9_undo_22 rfl (lv_at hl 0 rfl) ?_
      refine lv_iload_n hx hb dX9_undo_23 rfl (lv_at hl 1 rfl) ?_
      refine lv_iload_n hx hb dX9_undo_24 rfl (lv_at hl 2 rfl) ?_
      refine lv_iload_n hx hb dX9_undo_25 rfl (lv_at hl 3 rfl) ?_
      have hFc := mw_free hD hS hA
      refine va_calli (va_runV (As := [.int (nI o4), .int (nI j5), .int (nI j6)]) (rest := []) ⟨hx, hb, hml, hown, hts⟩ (c_w_has l dC dI h a k F V n (b) o4 j5 j6 H.size hI.1 (by omega) (by omega) (by omega) (by omega)) (cwV 3 hts wc_w_undo_w_has_150 rfl rfl rfl (by decide +kernel) ⟨Nat.le_of_ble_eq_true rfl, Nat.le_of_ble_eq_true rfl⟩) ⟨fun a9 U g mk q => by obtain ⟨q0, q1, qP, qK, qD⟩ := q; exact ⟨q0, q1, qP, va_K.moved (u := U) (U := U.calling g mk a9) (Vm.Alike.refl U.vm) qK, qD⟩, va_recv hK hP (ci := 10) (q0 := 0) rfl rfl, fun U hU hW => ⟨rfl, by rw [hU], by rw [hU]; exact hP, va_K.moved hW.alike hK, hD.weaken (fun _ _ _ _ => trivial)⟩⟩ rfl rfl hl.1 rfl (lv_room (Nat.le_of_ble_eq_true rfl)) dX9_undo_26 ⟨Nat.le_of_ble_eq_true rfl, Nat.le_of_ble_eq_true rfl⟩) hS (fun q _ h => hFc q h) hFc (fun r11 u t H1 locs ht hvm hw hB hz1 hk1 hS => ?_)
      obtain ⟨F12, V13⟩ := u
      replace hP := hB.1
      rw [ht] at hP
      replace hD : va_D A (mW h a k F12 V13) := hB.2.weaken (fun _ q _ h9 => hFc q.1 h9)
      clear hB
      generalize H1 = H at hP hS ⊢
      replace hP : va_P (dC, dI) vwCl (mW h a k F12 V13) H := hP
      obtain ⟨hwF, hwV, hw⟩ : F12 = F ∧ V13 = V ∧ _ := hw
      rw [hwF, hwV] at hP hD
      obtain ⟨hw, hwe⟩ := hw
      replace hw : r11 = f_w_has n o4 j5 j6 F := hw
      replace hZ9 := bnd_s hZ9 hw
      have br11 := hwe
      refine lv_if_ne (tgt := 34) hx hb dX9_undo_29 (by decide) (fun c14 => ?_) (fun c14 => ?_)
      · replace hZ9 := ite_f hZ9 c14
        refine lv_aload_n hx hb dX9_undo_34 rfl (lv_at hl 0 rfl) ?_
        refine lv_iload_n hx hb dX9_undo_35 rfl (lv_at hl 1 rfl) ?_
        refine lv_iload_n hx hb dX9_undo_36 rfl (lv_at hl 2 rfl) ?_
        refine lv_iload_n hx hb dX9_undo_37 rfl (lv_at hl 3 rfl) ?_
        refine lv_iconst (v := 0) hx hb dX9_undo_38 (by decide) ?_
        have hFc := mw_free hD hS hA
        refine va_callv (va_runV (As := [.int (nI o4), .int (nI j5), .int (nI j6), .int 0]) (rest := []) ⟨hx, hb, hml, hown, hts⟩ (c_w_set0 l dC dI h a k F V n (b) o4 j5 j6 H.size hI.1 (by omega) (by omega) (by omega) (by omega)) (cwV 4 hts wc_w_undo_w_set0_156 rfl rfl rfl (by decide +kernel) ⟨Nat.le_of_ble_eq_true rfl, Nat.le_of_ble_eq_true rfl⟩) ⟨fun a9 U g mk q => by obtain ⟨q0, q1, qP, qK, qD⟩ := q; exact ⟨q0, q1, qP, va_K.moved (u := U) (U := U.calling g mk a9) (Vm.Alike.refl U.vm) qK, qD⟩, va_recv hK hP (ci := 10) (q0 := 0) rfl rfl, fun U hU hW => ⟨rfl, by rw [hU], by rw [hU]; exact hP, va_K.moved hW.alike hK, hD.weaken (fun _ _ _ _ => trivial)⟩⟩ rfl rfl hl.1 rfl (lv_room (Nat.le_of_ble_eq_true rfl)) dX9_undo_39 ⟨Nat.le_of_ble_eq_true rfl, Nat.le_of_ble_eq_true rfl⟩) hS (fun q _ h => hFc q h) hFc (fun u t H1 locs ht hvm hw hB hz1 hk1 hS => ?_)
        obtain ⟨F16, V17⟩ := u
        replace hP := hB.1
        rw [ht] at hP
        replace hD : va_D A (mW h a k F16 V17) := hB.2.weaken (fun _ q _ h9 => hFc q.1 h9)
        clear hB
        generalize H1 = H at hP hS ⊢
        replace hP : va_P (dC, dI) vwCl (mW h a k F16 V17) H := hP
        obtain ⟨hwI, hwU, hwV, hw⟩ := hw
        replace hU : ∀ j : Nat, j ∉ ([19] : List Nat) → F16 j = F j := mw_tr (by decide) hwU hU
        replace hV : ∀ j : Nat, j ∉ ([20] : List Nat) → V17 j = V j := mw_tr (by decide) hwV hV
        replace hI : StM n (b + 0) F V F16 V17 := hI.trans hwI
        replace hI : StM n (b) F V F16 V17 := hI
        replace hw : (F16, V17) = f_w_set0 n o4 j5 j6 F V := hw
        replace hZ9 := bn2_s hZ9 hw
        refine lv_aload_n hx hb dX9_undo_42 rfl (lv_at hl 0 rfl) ?_
        refine lv_dup hx hb dX9_undo_43 rfl ?_
        refine va_get (D := (dC, dI)) (ci := 10) (v := .int (V17 20)) (C := RX9) (T := TX9) (N := 46) hx hb hts in_w_undo_X9 hown hK hP 0 rfl rfl 20 (by decide) (hts (.fieldLink RX9 153 "ServiceTreeModel" "relations" "I") (by decide +kernel)) (fun _ h9 => h9) rfl dX9_undo_44 ?_
        refine lv_topi (fun x18 ex18 => ?_)
        replace hZ9 := bnd_s hZ9 ex18
        refine lv_iconst (v := 1) hx hb dX9_undo_47 (by decide) ?_
        refine lv_isub hx hb dX9_undo_48 ?_
        refine lv_topi (fun x19 ex19 => ?_)
        replace hZ9 := bnd_s hZ9 ex19
        refine va_put (D := (dC, dI)) (ci := 10) (fs := mF a V17) (v := .int x19) (ty := .int) (C := RX9) (T := TX9) (N := 46) hx hb hts in_w_undo_X9 tyX9 tyX9_ok nmX9 hown hK hP hD hS 0 rfl rfl 20 (by decide) (hts (.fieldLink RX9 153 "ServiceTreeModel" "relations" "I") (by decide +kernel)) (fun _ h9 => h9) rfl (by decide +kernel) rfl rfl (Nat.le_of_ble_eq_true rfl) dX9_undo_49 (fun H locs hP hD hS => ?_)
        rw [mW_put_20] at hP hD
        obtain ⟨V20, eV20⟩ : ∃ f9 : Nat → Int32, f9 = va_up V17 20 x19 := ⟨_, rfl⟩
        rw [← eV20] at hP hD
        replace hZ9 := bnd_s hZ9 eV20
        replace hI : StM n (b) F V F16 V20 := ⟨by rw [eV20]; exact hI.1.setV (by decide), trivial⟩
        replace hV : ∀ j : Nat, j ∉ ([20] : List Nat) → V20 j = V j := by rw [eV20]; exact mw_up (by decide) hV
        refine lv_iconst (v := 1) hx hb dX9_undo_52 (by decide) ?_
        exact W.iret (v := 1) hx hb hr (fun t ht hW => ⟨⟨1, (F16, V20), rfl, ⟨hI.mono (by omega), hU, hV, hZ9.symm.trans hR0⟩, by rw [ht]; exact hP, hD⟩, hS.F ht⟩) hS.2.2 dX9_undo_53
      · replace hZ9 := ite_t hZ9 c14
        refine lv_iconst (v := 0) hx hb dX9_undo_32 (by decide) ?_
        exact W.iret (v := 0) hx hb hr (fun t ht hW => ⟨⟨0, (F, V), rfl, ⟨hI.mono (by omega), hU, hV, hZ9.symm.trans hR0⟩, by rw [ht]; exact hP, hD⟩, hS.F ht⟩) hS.2.2 dX9_undo_33
    · replace hZ9 := ite_f hZ9 c10
      refine lv_bipush (v := (-3)) hx hb dX9_undo_19 (by decide) ?_
      exact W.iret (v := (-3)) hx hb hr (fun t ht hW => ⟨⟨(-3), (F, V), rfl, ⟨hI.mono (by omega), hU, hV, hZ9.symm.trans hR0⟩, by rw [ht]; exact hP, hD⟩, hS.F ht⟩) hS.2.2 dX9_undo_21
  · replace hZ9 := ite_f hZ9 noo4
    refine lv_if_ne (tgt := 12) hx hb dX9_undo_7 (by decide) (fun c9 => absurd (by decide) c9) (fun _ => ?_)
    refine lv_iconst (v := (-1)) hx hb dX9_undo_10 (by decide) ?_
    exact W.iret (v := (-1)) hx hb hr (fun t ht hW => ⟨⟨(-1), (F, V), rfl, ⟨hI.mono (by omega), hU, hV, hZ9.symm.trans hR0⟩, by rw [ht]; exact hP, hD⟩, hS.F ht⟩) hS.2.2 dX9_undo_11

end
section
def f_w_clash_member_15 (n : Nat) (F : Nat → Nat → Int32) (i1 : Nat) : Nat → Nat → Int32 → (Nat → Int32 → Int32) → Int32
  | 0, i7, y11, K9_15 => K9_15 i7 y11
  | fu8 + 1, i7, y11, K9_15 => if n ≤ i7 then (K9_15 i7 y11) else (if y11 = (0 : Int32) then (bnd (F 27 (nI i1).toNatClampNeg) (fun (x14 : Int32) => if x14 = (0 : Int32) then (f_w_clash_member_15 n F i1 fu8 (i7 + 1) (0 : Int32) K9_15) else (bnd (F 27 (nI i7).toNatClampNeg) (fun (x16 : Int32) => if x16 = (0 : Int32) then (f_w_clash_member_15 n F i1 fu8 (i7 + 1) (0 : Int32) K9_15) else (bnd (f_w_has n 3 i1 i7 F) (fun (r18 : Int32) => if r18 = (0 : Int32) then (f_w_clash_member_15 n F i1 fu8 (i7 + 1) (0 : Int32) K9_15) else (f_w_clash_member_15 n F i1 fu8 (i7 + 1) (1 : Int32) K9_15))))))) else (f_w_clash_member_15 n F i1 fu8 (i7 + 1) (1 : Int32) K9_15))
def f_w_clash_member_4 (n : Nat) (F : Nat → Nat → Int32) : Nat → Nat → Int32 → (Nat → Int32 → Int32) → Int32
  | 0, i1, y5, K9_4 => K9_4 i1 y5
  | fu2 + 1, i1, y5, K9_4 => if n ≤ i1 then (K9_4 i1 y5) else (f_w_clash_member_15 n F i1 (n + 1) (0 : Nat) y5 (fun (i7 : Nat) (y11 : Int32) => f_w_clash_member_4 n F fu2 (i1 + 1) y11 K9_4))
def f_w_clash_member (n : Nat)  (F : Nat → Nat → Int32) : Int32 := f_w_clash_member_4 n F (n + 1) (0 : Nat) (0 : Int32) (fun (i1 : Nat) (y5 : Int32) => (y5))
def wq_w_clash_member : List Cond := ([.code yX9_clash cX9_clash 5 (some .boolean), .fieldLink RX9 126 "ServiceTreeModel" "services" "I", .methodLink RX9 150 yX9_has, .instanceMethod yX9_has, .selects RX9 yX9_has yX9_has, .initialized RX9] : List Cond) ++ (wsX90 ++ (wq_w_has))
theorem in_w_clash_member_X9 : ∀ w ∈ wsX90, w ∈ wq_w_clash_member := fun _ h => List.mem_append_right _ (List.mem_append_left _ (h))
set_option maxRecDepth 20000 in
theorem wi_w_clash_member : ∀ w ∈ wq_w_clash_member, w ∈ lw_tbl := List.forall_mem_append.mpr ⟨(wix [1066, 873, 1023, 1025, 35, 69] rfl), List.forall_mem_append.mpr ⟨inKX9, wi_w_has⟩⟩
set_option maxRecDepth 20000 in
theorem wg_w_clash_member : GoodIn wq_w_clash_member wq_w_clash_member := goodIn_sub (fun _ h => h) (by decide +kernel)
set_option maxRecDepth 20000 in
theorem wc_w_clash_member_w_has_150 : GoodIn wq_w_clash_member (wsV RX9 150 RX9 yX9_has wq_w_has) := goodIn_app (goodIn_of _ (by decide +kernel)) (fun w h => ⟨List.mem_append_right _ (List.mem_append_right _ (h)), (wg_w_has w h).2⟩)
def rm_w_clash_member : Room := { frames := 1, cells := 0, slots := 0, locals := 23 }
set_option maxHeartbeats 4000000 in
set_option maxRecDepth 100000 in
theorem c_w_clash_member (l : Launch) (dC : Nat → ClassId) (dI : Nat → Nat → Nat) (h : Nat) (a : Nat → Nat) (k : Nat → ClassId) (F : Nat → Nat → Int32) (V : Nat → Int32) (n b : Nat)  (sz : Nat) (hI0 : InvM n b F V) (hb0 : b + 0 < 2147483648)  : Met l yX9_clash wq_w_clash_member rm_w_clash_member (va_Pc [.ref h, .ref (a 27)] (fun U => U.heap.size = sz ∧ va_P (dC, dI) vwCl (mW h a k F V) U.heap ∧ va_K (dC, dI) vwCl (mT k) U ∧ va_D (fun _ => True) (mW h a k F V))) (va_Qi (fun (r : Int32) (u : (Nat → Nat → Int32) × (Nat → Int32)) => u.1 = F ∧ u.2 = V ∧ ((r = f_w_clash_member n  F) ∧ (r = 0 ∨ r = 1))) (fun (u : (Nat → Nat → Int32) × (Nat → Int32)) (t : State) => va_P (dC, dI) vwCl (mW h a k u.1 u.2) t.heap ∧ va_D (va_A (mW h a k F V) sz) (mW h a k u.1 u.2)) (va_A (mW h a k F V) sz)) 0 0 (va_A (mW h a k F V) sz) := by
  have hn : n ≤ 40 := hI0.1
  have hI : StM n b F V F V := StM.rf hI0
  have hU : ∀ j : Nat, j ∉ ([] : List Nat) → F j = F j := fun _ _ => rfl
  have hV : ∀ j : Nat, j ∉ ([] : List Nat) → V j = V j := fun _ _ => rfl
  refine Met.ofW (cc := cX9_clash) (maxL := 5) (ret := (some .boolean)) (by decide) rfl ?_
  intro p e s m args below meth c s₁ B hml hv
  obtain ⟨rfl, hsz, hP, hK, hD0⟩ := hv
  have hx := B.exec
  have hb := B.bytes
  have hr := B.returns
  have hts := atoms_spec (ws := wq_w_clash_member) B.pre
  have hown : s.vm.findClass RX9 = some m.cls := findClass_of_methodNamed B.named
  have hlocks := B.notSynchronized
  subst hsz
  have hD := hD0.self (sz := s.heap.size)
  generalize hAe : va_A (mW h a k F V) s.heap.size = A at hD ⊢
  have hA : ∀ q : Nat, s.heap.size ≤ q → A q := fun q h => by rw [← hAe]; exact Or.inr h
  have hS : va_S A s.heap s.heap [] := va_S.rf
  have hl := lv_entry ([.ref h, .ref (a 27)]) (n := 5) (Nat.le_of_ble_eq_true rfl)
  rw [lg_entry_eq]
  generalize (lg_sl ([.ref h, .ref (a 27)]) ++ List.replicate (5 - (lg_sl ([.ref h, .ref (a 27)])).length) Slot.unset).toArray = ls at hl ⊢
  have hl : lv_has ls 5 [(0, .ref h), (1, .ref (a 27))] := hl
  refine mw_Q (fun Q0 hQ => ?_)
  obtain ⟨RES, hR0⟩ : ∃ R9, R9 = f_w_clash_member n  F := ⟨_, rfl⟩
  have hZ9 := hR0
  unfold f_w_clash_member at hZ9
  refine lv_iconst (v := 0) hx hb dX9_clash_0 (by decide) ?_
  refine lv_istore_n (lv' := [(2, .int 0), (0, .ref h), (1, .ref (a 27))]) hx hb dX9_clash_1 rfl hl (by decide) rfl (fun ls hl => ?_)
  refine lv_iconst (v := 0) hx hb dX9_clash_2 (by decide) ?_
  refine lv_istore_n (lv' := [(3, .int 0), (2, .int 0), (0, .ref h), (1, .ref (a 27))]) hx hb dX9_clash_3 rfl hl (by decide) rfl (fun ls hl => ?_)
  obtain ⟨K9_4, hK9_4, hZ9⟩ := lp_gen hZ9
  have lp4 : ∀ (fu2 i1 : Nat) (y5 : Int32) (H : Heap) (locs : List Loc) (ls : Array Slot), n < i1 + fu2 → i1 ≤ n → (y5 = 0 ∨ y5 = 1) → RES = f_w_clash_member_4 n F fu2 i1 y5 K9_4 → va_P (dC, dI) vwCl (mW h a k F V) H → va_D A (mW h a k F V) → va_S A s.heap H locs → lv_has ls 5 [(3, .int (nI i1)), (2, .int y5), (0, .ref h), (1, .ref (a 27))] → W p l e (headSpec wq_w_clash_member rm_w_clash_member).room s m ([.ref h, .ref (a 27)] : List Value).toArray below meth c H locs 0 0 Q0 (F0 m 4 ls []) := by
    intro fu2
    induction fu2 with
    | zero =>
      intro i1 y5 H locs ls hf hi
      exact absurd hf (by omega)
    | succ fu2 ih3 =>
      intro i1 y5 H locs ls hfi1 hii1 hb2_i1 hZ9 hP hD hS hl
      rw [f_w_clash_member_4] at hZ9
      refine lv_iload_n hx hb dX9_clash_4 rfl (lv_at hl 0 rfl) ?_
      refine lv_aload_n hx hb dX9_clash_5 rfl (lv_at hl 2 rfl) ?_
      refine va_get (D := (dC, dI)) (ci := 10) (v := .int (V 21)) (C := RX9) (T := TX9) (N := 46) hx hb hts in_w_clash_member_X9 hown hK hP 0 rfl rfl 21 (by decide) (hts (.fieldLink RX9 126 "ServiceTreeModel" "services" "I") (by decide +kernel)) (fun _ h9 => h9) rfl dX9_clash_6 ?_
      refine p1_topr (v := .int (nI n)) (congrArg Value.int hI.1.2.1) ?_
      refine lv_icmp_ge (tgt := 70) hx hb dX9_clash_9 (by decide) (fun c6 => ?_) (fun c6 => ?_)
      · replace c6 : n ≤ i1 := (nI_leI (a := n) (b := i1) (by omega) (by omega)).mp c6
        replace hZ9 := ite_t hZ9 c6
        replace hZ9 := lp_app2 hK9_4 hZ9
        refine lv_iload_n hx hb dX9_clash_70 rfl (lv_at hl 1 rfl) ?_
        rw [hQ]
        exact W.zret (v := y5) hx hb hr (mw_nb hb2_i1) (fun t ht hW => ⟨⟨y5, (F, V), rfl, ⟨rfl, rfl, ⟨hZ9.symm.trans hR0, hb2_i1⟩⟩, by rw [ht]; exact hP, hD⟩, hS.F ht⟩) hS.2.2 dX9_clash_71
      · replace c6 : ¬ (n ≤ i1) := fun q9 => c6 ((nI_leI (a := n) (b := i1) (by omega) (by omega)).mpr q9)
        replace hZ9 := ite_f hZ9 c6
        refine lv_iconst (v := 0) hx hb dX9_clash_12 (by decide) ?_
        refine lv_istore (lv' := [(4, .int 0), (3, .int (nI i1)), (2, .int y5), (0, .ref h), (1, .ref (a 27))]) hx hb dX9_clash_13 hl (by decide) rfl (fun ls hl => ?_)
        obtain ⟨K9_15, hK9_15, hZ9⟩ := lp_gen hZ9
        have lp10 : ∀ (fu8 i7 : Nat) (y11 : Int32) (H : Heap) (locs : List Loc) (ls : Array Slot), n < i7 + fu8 → i7 ≤ n → (y11 = 0 ∨ y11 = 1) → RES = f_w_clash_member_15 n F i1 fu8 i7 y11 K9_15 → va_P (dC, dI) vwCl (mW h a k F V) H → va_D A (mW h a k F V) → va_S A s.heap H locs → lv_has ls 5 [(4, .int (nI i7)), (3, .int (nI i1)), (2, .int y11), (0, .ref h), (1, .ref (a 27))] → W p l e (headSpec wq_w_clash_member rm_w_clash_member).room s m ([.ref h, .ref (a 27)] : List Value).toArray below meth c H locs 0 0 Q0 (F0 m 15 ls []) := by
          intro fu8
          induction fu8 with
          | zero =>
            intro i7 y11 H locs ls hf hi
            exact absurd hf (by omega)
          | succ fu8 ih9 =>
            intro i7 y11 H locs ls hfi7 hii7 hb2_i7 hZ9 hP hD hS hl
            rw [f_w_clash_member_15] at hZ9
            refine lv_iload hx hb dX9_clash_15 (lv_at hl 0 rfl) ?_
            refine lv_aload_n hx hb dX9_clash_17 rfl (lv_at hl 3 rfl) ?_
            refine va_get (D := (dC, dI)) (ci := 10) (v := .int (V 21)) (C := RX9) (T := TX9) (N := 46) hx hb hts in_w_clash_member_X9 hown hK hP 0 rfl rfl 21 (by decide) (hts (.fieldLink RX9 126 "ServiceTreeModel" "services" "I") (by decide +kernel)) (fun _ h9 => h9) rfl dX9_clash_18 ?_
            refine p1_topr (v := .int (nI n)) (congrArg Value.int hI.1.2.1) ?_
            refine lv_icmp_ge (tgt := 64) hx hb dX9_clash_21 (by decide) (fun c12 => ?_) (fun c12 => ?_)
            · replace c12 : n ≤ i7 := (nI_leI (a := n) (b := i7) (by omega) (by omega)).mp c12
              replace hZ9 := ite_t hZ9 c12
              replace hZ9 := lp_app2 hK9_15 hZ9
              refine lv_iinc (v := nI (i1 + 1)) (lv' := [(3, .int (nI (i1 + 1))), (4, .int (nI i7)), (2, .int y11), (0, .ref h), (1, .ref (a 27))]) hx hb dX9_clash_64 hl (k := 1) rfl (nI_add i1 1) (by decide) rfl (fun ls hl => ?_)
              refine lv_goto (tgt := 4) hx hb dX9_clash_67 (by decide) ?_
              exact ih3 (i1 + 1) y11 _ _ _ (by omega) (by omega) hb2_i7 hZ9 hP hD hS (lv_sub hl [0, 2, 3, 4] rfl)
            · replace c12 : ¬ (n ≤ i7) := fun q9 => c12 ((nI_leI (a := n) (b := i7) (by omega) (by omega)).mpr q9)
              replace hZ9 := ite_f hZ9 c12
              refine lv_iload_n hx hb dX9_clash_24 rfl (lv_at hl 2 rfl) ?_
              refine lv_if_ne (tgt := 52) hx hb dX9_clash_25 (by decide) (fun c13 => ?_) (fun c13 => ?_)
              · replace hZ9 := ite_f hZ9 c13
                refine lv_iconst (v := 1) hx hb dX9_clash_52 (by decide) ?_
                refine lv_goto (tgt := 57) hx hb dX9_clash_53 (by decide) ?_
                refine lv_istore_n (lv' := [(2, .int 1), (4, .int (nI i7)), (3, .int (nI i1)), (0, .ref h), (1, .ref (a 27))]) hx hb dX9_clash_57 rfl hl (by decide) rfl (fun ls hl => ?_)
                refine lv_iinc (v := nI (i7 + 1)) (lv' := [(4, .int (nI (i7 + 1))), (2, .int 1), (3, .int (nI i1)), (0, .ref h), (1, .ref (a 27))]) hx hb dX9_clash_58 hl (k := 1) rfl (nI_add i7 1) (by decide) rfl (fun ls hl => ?_)
                refine lv_goto (tgt := 15) hx hb dX9_clash_61 (by decide) ?_
                exact ih9 (i7 + 1) 1 _ _ _ (by omega) (by omega) (Or.inr rfl) hZ9 hP hD hS (lv_sub hl [0, 2, 1, 3, 4] rfl)
              · replace hZ9 := ite_t hZ9 c13
                refine lv_aload_n hx hb dX9_clash_28 rfl (lv_at hl 4 rfl) ?_
                refine lv_iload_n hx hb dX9_clash_29 rfl (lv_at hl 1 rfl) ?_
                refine va_zald (n := 40) (f := F 27) hx hb hK hP 23 22 rfl rfl (vp_in_nI (n := i1) (by omega) (by decide)) dX9_clash_30 ?_
                refine lv_topi (fun x14 ex14 => ?_)
                replace hZ9 := bnd_s hZ9 ex14
                refine lv_if_eq (tgt := 56) hx hb dX9_clash_31 (by decide) (fun c15 => ?_) (fun c15 => ?_)
                · replace hZ9 := ite_t hZ9 c15
                  refine lv_iconst (v := 0) hx hb dX9_clash_56 (by decide) ?_
                  refine lv_istore_n (lv' := [(2, .int 0), (4, .int (nI i7)), (3, .int (nI i1)), (0, .ref h), (1, .ref (a 27))]) hx hb dX9_clash_57 rfl hl (by decide) rfl (fun ls hl => ?_)
                  refine lv_iinc (v := nI (i7 + 1)) (lv' := [(4, .int (nI (i7 + 1))), (2, .int 0), (3, .int (nI i1)), (0, .ref h), (1, .ref (a 27))]) hx hb dX9_clash_58 hl (k := 1) rfl (nI_add i7 1) (by decide) rfl (fun ls hl => ?_)
                  refine lv_goto (tgt := 15) hx hb dX9_clash_61 (by decide) ?_
                  exact ih9 (i7 + 1) 0 _ _ _ (by omega) (by omega) (Or.inl rfl) hZ9 hP hD hS (lv_sub hl [0, 2, 1, 3, 4] rfl)
                · replace hZ9 := ite_f hZ9 c15
                  refine lv_aload_n hx hb dX9_clash_34 rfl (lv_at hl 4 rfl) ?_
                  refine lv_iload hx hb dX9_clash_35 (lv_at hl 0 rfl) ?_
                  refine va_zald (n := 40) (f := F 27) hx hb hK hP 23 22 rfl rfl (vp_in_nI (n := i7) (by omega) (by decide)) dX9_clash_37 ?_
                  refine lv_topi (fun x16 ex16 => ?_)
                  replace hZ9 := bnd_s hZ9 ex16
                  refine lv_if_eq (tgt := 56) hx hb dX9_clash_38 (by decide) (fun c17 => ?_) (fun c17 => ?_)
                  · replace hZ9 := ite_t hZ9 c17
                    refine lv_iconst (v := 0) hx hb dX9_clash_56 (by decide) ?_
                    refine lv_istore_n (lv' := [(2, .int 0), (4, .int (nI i7)), (3, .int (nI i1)), (0, .ref h), (1, .ref (a 27))]) hx hb dX9_clash_57 rfl hl (by decide) rfl (fun ls hl => ?_)
                    refine lv_iinc (v := nI (i7 + 1)) (lv' := [(4, .int (nI (i7 + 1))), (2, .int 0), (3, .int (nI i1)), (0, .ref h), (1, .ref (a 27))]) hx hb dX9_clash_58 hl (k := 1) rfl (nI_add i7 1) (by decide) rfl (fun ls hl => ?_)
                    refine lv_goto (tgt := 15) hx hb dX9_clash_61 (by decide) ?_
                    exact ih9 (i7 + 1) 0 _ _ _ (by omega) (by omega) (Or.inl rfl) hZ9 hP hD hS (lv_sub hl [0, 2, 1, 3, 4] rfl)
                  · replace hZ9 := ite_f hZ9 c17
                    refine lv_aload_n hx hb dX9_clash_41 rfl (lv_at hl 3 rfl) ?_
                    refine lv_iconst (v := 3) hx hb dX9_clash_42 (by decide) ?_
                    refine lv_iload_n hx hb dX9_clash_43 rfl (lv_at hl 1 rfl) ?_
                    refine lv_iload hx hb dX9_clash_44 (lv_at hl 0 rfl) ?_
                    have hFc := mw_free hD hS hA
                    refine va_calli (va_runV (As := [.int 3, .int (nI i1), .int (nI i7)]) (rest := []) ⟨hx, hb, hml, hown, hts⟩ (c_w_has l dC dI h a k F V n (b) 3 i1 i7 H.size hI.1 (by omega) (by omega) (by omega) (by omega)) (cwV 3 hts wc_w_clash_member_w_has_150 rfl rfl rfl (by decide +kernel) ⟨Nat.le_of_ble_eq_true rfl, Nat.le_of_ble_eq_true rfl⟩) ⟨fun a9 U g mk q => by obtain ⟨q0, q1, qP, qK, qD⟩ := q; exact ⟨q0, q1, qP, va_K.moved (u := U) (U := U.calling g mk a9) (Vm.Alike.refl U.vm) qK, qD⟩, va_recv hK hP (ci := 10) (q0 := 0) rfl rfl, fun U hU hW => ⟨rfl, by rw [hU], by rw [hU]; exact hP, va_K.moved hW.alike hK, hD.weaken (fun _ _ _ _ => trivial)⟩⟩ rfl rfl hl.1 rfl (lv_room (Nat.le_of_ble_eq_true rfl)) dX9_clash_46 ⟨Nat.le_of_ble_eq_true rfl, Nat.le_of_ble_eq_true rfl⟩) hS (fun q _ h => hFc q h) hFc (fun r18 u t H1 locs ht hvm hw hB hz1 hk1 hS => ?_)
                    obtain ⟨F19, V20⟩ := u
                    replace hP := hB.1
                    rw [ht] at hP
                    replace hD : va_D A (mW h a k F19 V20) := hB.2.weaken (fun _ q _ h9 => hFc q.1 h9)
                    clear hB
                    generalize H1 = H at hP hS ⊢
                    replace hP : va_P (dC, dI) vwCl (mW h a k F19 V20) H := hP
                    obtain ⟨hwF, hwV, hw⟩ : F19 = F ∧ V20 = V ∧ _ := hw
                    rw [hwF, hwV] at hP hD
                    obtain ⟨hw, hwe⟩ := hw
                    replace hw : r18 = f_w_has n 3 i1 i7 F := hw
                    replace hZ9 := bnd_s hZ9 hw
                    have br18 := hwe
                    refine lv_if_eq (tgt := 56) hx hb dX9_clash_49 (by decide) (fun c21 => ?_) (fun c21 => ?_)
                    · replace hZ9 := ite_t hZ9 c21
                      refine lv_iconst (v := 0) hx hb dX9_clash_56 (by decide) ?_
                      refine lv_istore_n (lv' := [(2, .int 0), (4, .int (nI i7)), (3, .int (nI i1)), (0, .ref h), (1, .ref (a 27))]) hx hb dX9_clash_57 rfl hl (by decide) rfl (fun ls hl => ?_)
                      refine lv_iinc (v := nI (i7 + 1)) (lv' := [(4, .int (nI (i7 + 1))), (2, .int 0), (3, .int (nI i1)), (0, .ref h), (1, .ref (a 27))]) hx hb dX9_clash_58 hl (k := 1) rfl (nI_add i7 1) (by decide) rfl (fun ls hl => ?_)
                      refine lv_goto (tgt := 15) hx hb dX9_clash_61 (by decide) ?_
                      exact ih9 (i7 + 1) 0 _ _ _ (by omega) (by omega) (Or.inl rfl) hZ9 hP hD hS (lv_sub hl [0, 2, 1, 3, 4] rfl)
                    · replace hZ9 := ite_f hZ9 c21
                      refine lv_iconst (v := 1) hx hb dX9_clash_52 (by decide) ?_
                      refine lv_goto (tgt := 57) hx hb dX9_clash_53 (by decide) ?_
                      refine lv_istore_n (lv' := [(2, .int 1), (4, .int (nI i7)), (3, .int (nI i1)), (0, .ref h), (1, .ref (a 27))]) hx hb dX9_clash_57 rfl hl (by decide) rfl (fun ls hl => ?_)
                      refine lv_iinc (v := nI (i7 + 1)) (lv' := [(4, .int (nI (i7 + 1))), (2, .int 1), (3, .int (nI i1)), (0, .ref h), (1, .ref (a 27))]) hx hb dX9_clash_58 hl (k := 1) rfl (nI_add i7 1) (by decide) rfl (fun ls hl => ?_)
                      refine lv_goto (tgt := 15) hx hb dX9_clash_61 (by decide) ?_
                      exact ih9 (i7 + 1) 1 _ _ _ (by omega) (by omega) (Or.inr rfl) hZ9 hP hD hS (lv_sub hl [0, 2, 1, 3, 4] rfl)
        exact lp10 (n + 1) 0 y5 _ _ _ (by omega) (by omega) hb2_i1 hZ9 hP hD hS hl
  exact lp4 (n + 1) 0 0 _ _ _ (by omega) (by omega) (Or.inl rfl) hZ9 hP hD hS hl
def f_w_clash_more_15 (n : Nat) (F : Nat → Nat → Int32) (i1 : Nat) : Nat → Nat → Int32 → (Nat → Int32 → Int32) → Int32
  | 0, i7, y11, K9_15 => K9_15 i7 y11
  | fu8 + 1, i7, y11, K9_15 => if n ≤ i7 then (K9_15 i7 y11) else (if y11 = (0 : Int32) then (bnd (F 28 (nI i1).toNatClampNeg) (fun (x14 : Int32) => if x14 = (0 : Int32) then (f_w_clash_more_15 n F i1 fu8 (i7 + 1) (0 : Int32) K9_15) else (bnd (F 28 (nI i7).toNatClampNeg) (fun (x16 : Int32) => if x16 = (0 : Int32) then (f_w_clash_more_15 n F i1 fu8 (i7 + 1) (0 : Int32) K9_15) else (bnd (f_w_has n 3 i1 i7 F) (fun (r18 : Int32) => if r18 = (0 : Int32) then (f_w_clash_more_15 n F i1 fu8 (i7 + 1) (0 : Int32) K9_15) else (f_w_clash_more_15 n F i1 fu8 (i7 + 1) (1 : Int32) K9_15))))))) else (f_w_clash_more_15 n F i1 fu8 (i7 + 1) (1 : Int32) K9_15))
def f_w_clash_more_4 (n : Nat) (F : Nat → Nat → Int32) : Nat → Nat → Int32 → (Nat → Int32 → Int32) → Int32
  | 0, i1, y5, K9_4 => K9_4 i1 y5
  | fu2 + 1, i1, y5, K9_4 => if n ≤ i1 then (K9_4 i1 y5) else (f_w_clash_more_15 n F i1 (n + 1) (0 : Nat) y5 (fun (i7 : Nat) (y11 : Int32) => f_w_clash_more_4 n F fu2 (i1 + 1) y11 K9_4))
def f_w_clash_more (n : Nat)  (F : Nat → Nat → Int32) : Int32 := f_w_clash_more_4 n F (n + 1) (0 : Nat) (0 : Int32) (fun (i1 : Nat) (y5 : Int32) => (y5))
def wq_w_clash_more : List Cond := ([.code yX9_clash cX9_clash 5 (some .boolean), .fieldLink RX9 126 "ServiceTreeModel" "services" "I", .methodLink RX9 150 yX9_has, .instanceMethod yX9_has, .selects RX9 yX9_has yX9_has, .initialized RX9] : List Cond) ++ (wsX90 ++ (wq_w_has))
theorem in_w_clash_more_X9 : ∀ w ∈ wsX90, w ∈ wq_w_clash_more := fun _ h => List.mem_append_right _ (List.mem_append_left _ (h))
set_option maxRecDepth 20000 in
theorem wi_w_clash_more : ∀ w ∈ wq_w_clash_more, w ∈ lw_tbl := List.forall_mem_append.mpr ⟨(wix [1066, 873, 1023, 1025, 35, 69] rfl), List.forall_mem_append.mpr ⟨inKX9, wi_w_has⟩⟩
set_option maxRecDepth 20000 in
theorem wg_w_clash_more : GoodIn wq_w_clash_more wq_w_clash_more := goodIn_sub (fun _ h => h) (by decide +kernel)
set_option maxRecDepth 20000 in
theorem wc_w_clash_more_w_has_150 : GoodIn wq_w_clash_more (wsV RX9 150 RX9 yX9_has wq_w_has) := goodIn_app (goodIn_of _ (by decide +kernel)) (fun w h => ⟨List.mem_append_right _ (List.mem_append_right _ (h)), (wg_w_has w h).2⟩)
def rm_w_clash_more : Room := { frames := 1, cells := 0, slots := 0, locals := 23 }
set_option maxHeartbeats 4000000 in
set_option maxRecDepth 100000 in
theorem c_w_clash_more (l : Launch) (dC : Nat → ClassId) (dI : Nat → Nat → Nat) (h : Nat) (a : Nat → Nat) (k : Nat → ClassId) (F : Nat → Nat → Int32) (V : Nat → Int32) (n b : Nat)  (sz : Nat) (hI0 : InvM n b F V) (hb0 : b + 0 < 2147483648)  : Met l yX9_clash wq_w_clash_more rm_w_clash_more (va_Pc [.ref h, .ref (a 28)] (fun U => U.heap.size = sz ∧ va_P (dC, dI) vwCl (mW h a k F V) U.heap ∧ va_K (dC, dI) vwCl (mT k) U ∧ va_D (fun _ => True) (mW h a k F V))) (va_Qi (fun (r : Int32) (u : (Nat → Nat → Int32) × (Nat → Int32)) => u.1 = F ∧ u.2 = V ∧ ((r = f_w_clash_more n  F) ∧ (r = 0 ∨ r = 1))) (fun (u : (Nat → Nat → Int32) × (Nat → Int32)) (t : State) => va_P (dC, dI) vwCl (mW h a k u.1 u.2) t.heap ∧ va_D (va_A (mW h a k F V) sz) (mW h a k u.1 u.2)) (va_A (mW h a k F V) sz)) 0 0 (va_A (mW h a k F V) sz) := by
  have hn : n ≤ 40 := hI0.1
  have hI : StM n b F V F V := StM.rf hI0
  have hU : ∀ j : Nat, j ∉ ([] : List Nat) → F j = F j := fun _ _ => rfl
  have hV : ∀ j : Nat, j ∉ ([] : List Nat) → V j = V j := fun _ _ => rfl
  refine Met.ofW (cc := cX9_clash) (maxL := 5) (ret := (some .boolean)) (by decide) rfl ?_
  intro p e s m args below meth c s₁ B hml hv
  obtain ⟨rfl, hsz, hP, hK, hD0⟩ := hv
  have hx := B.exec
  have hb := B.bytes
  have hr := B.returns
  have hts := atoms_spec (ws := wq_w_clash_more) B.pre
  have hown : s.vm.findClass RX9 = some m.cls := findClass_of_methodNamed B.named
  have hlocks := B.notSynchronized
  subst hsz
  have hD := hD0.self (sz := s.heap.size)
  generalize hAe : va_A (mW h a k F V) s.heap.size = A at hD ⊢
  have hA : ∀ q : Nat, s.heap.size ≤ q → A q := fun q h => by rw [← hAe]; exact Or.inr h
  have hS : va_S A s.heap s.heap [] := va_S.rf
  have hl := lv_entry ([.ref h, .ref (a 28)]) (n := 5) (Nat.le_of_ble_eq_true rfl)
  rw [lg_entry_eq]
  generalize (lg_sl ([.ref h, .ref (a 28)]) ++ List.replicate (5 - (lg_sl ([.ref h, .ref (a 28)])).length) Slot.unset).toArray = ls at hl ⊢
  have hl : lv_has ls 5 [(0, .ref h), (1, .ref (a 28))] := hl
  refine mw_Q (fun Q0 hQ => ?_)
  obtain ⟨RES, hR0⟩ : ∃ R9, R9 = f_w_clash_more n  F := ⟨_, rfl⟩
  have hZ9 := hR0
  unfold f_w_clash_more at hZ9
  refine lv_iconst (v := 0) hx hb dX9_clash_0 (by decide) ?_
  refine lv_istore_n (lv' := [(2, .int 0), (0, .ref h), (1, .ref (a 28))]) hx hb dX9_clash_1 rfl hl (by decide) rfl (fun ls hl => ?_)
  refine lv_iconst (v := 0) hx hb dX9_clash_2 (by decide) ?_
  refine lv_istore_n (lv' := [(3, .int 0), (2, .int 0), (0, .ref h), (1, .ref (a 28))]) hx hb dX9_clash_3 rfl hl (by decide) rfl (fun ls hl => ?_)
  obtain ⟨K9_4, hK9_4, hZ9⟩ := lp_gen hZ9
  have lp4 : ∀ (fu2 i1 : Nat) (y5 : Int32) (H : Heap) (locs : List Loc) (ls : Array Slot), n < i1 + fu2 → i1 ≤ n → (y5 = 0 ∨ y5 = 1) → RES = f_w_clash_more_4 n F fu2 i1 y5 K9_4 → va_P (dC, dI) vwCl (mW h a k F V) H → va_D A (mW h a k F V) → va_S A s.heap H locs → lv_has ls 5 [(3, .int (nI i1)), (2, .int y5), (0, .ref h), (1, .ref (a 28))] → W p l e (headSpec wq_w_clash_more rm_w_clash_more).room s m ([.ref h, .ref (a 28)] : List Value).toArray below meth c H locs 0 0 Q0 (F0 m 4 ls []) := by
    intro fu2
    induction fu2 with
    | zero =>
      intro i1 y5 H locs ls hf hi
      exact absurd hf (by omega)
    | succ fu2 ih3 =>
      intro i1 y5 H locs ls hfi1 hii1 hb2_i1 hZ9 hP hD hS hl
      rw [f_w_clash_more_4] at hZ9
      refine lv_iload_n hx hb dX9_clash_4 rfl (lv_at hl 0 rfl) ?_
      refine lv_aload_n hx hb dX9_clash_5 rfl (lv_at hl 2 rfl) ?_
      refine va_get (D := (dC, dI)) (ci := 10) (v := .int (V 21)) (C := RX9) (T := TX9) (N := 46) hx hb hts in_w_clash_more_X9 hown hK hP 0 rfl rfl 21 (by decide) (hts (.fieldLink RX9 126 "ServiceTreeModel" "services" "I") (by decide +kernel)) (fun _ h9 => h9) rfl dX9_clash_6 ?_
      refine p1_topr (v := .int (nI n)) (congrArg Value.int hI.1.2.1) ?_
      refine lv_icmp_ge (tgt := 70) hx hb dX9_clash_9 (by decide) (fun c6 => ?_) (fun c6 => ?_)
      · replace c6 : n ≤ i1 := (nI_leI (a := n) (b := i1) (by omega) (by omega)).mp c6
        replace hZ9 := ite_t hZ9 c6
        replace hZ9 := lp_app2 hK9_4 hZ9
        refine lv_iload_n hx hb dX9_clash_70 rfl (lv_at hl 1 rfl) ?_
        rw [hQ]
        exact W.zret (v := y5) hx hb hr (mw_nb hb2_i1) (fun t ht hW => ⟨⟨y5, (F, V), rfl, ⟨rfl, rfl, ⟨hZ9.symm.trans hR0, hb2_i1⟩⟩, by rw [ht]; exact hP, hD⟩, hS.F ht⟩) hS.2.2 dX9_clash_71
      · replace c6 : ¬ (n ≤ i1) := fun q9 => c6 ((nI_leI (a := n) (b := i1) (by omega) (by omega)).mpr q9)
        replace hZ9 := ite_f hZ9 c6
        refine lv_iconst (v := 0) hx hb dX9_clash_12 (by decide) ?_
        refine lv_istore (lv' := [(4, .int 0), (3, .int (nI i1)), (2, .int y5), (0, .ref h), (1, .ref (a 28))]) hx hb dX9_clash_13 hl (by decide) rfl (fun ls hl => ?_)
        obtain ⟨K9_15, hK9_15, hZ9⟩ := lp_gen hZ9
        have lp10 : ∀ (fu8 i7 : Nat) (y11 : Int32) (H : Heap) (locs : List Loc) (ls : Array Slot), n < i7 + fu8 → i7 ≤ n → (y11 = 0 ∨ y11 = 1) → RES = f_w_clash_more_15 n F i1 fu8 i7 y11 K9_15 → va_P (dC, dI) vwCl (mW h a k F V) H → va_D A (mW h a k F V) → va_S A s.heap H locs → lv_has ls 5 [(4, .int (nI i7)), (3, .int (nI i1)), (2, .int y11), (0, .ref h), (1, .ref (a 28))] → W p l e (headSpec wq_w_clash_more rm_w_clash_more).room s m ([.ref h, .ref (a 28)] : List Value).toArray below meth c H locs 0 0 Q0 (F0 m 15 ls []) := by
          intro fu8
          induction fu8 with
          | zero =>
            intro i7 y11 H locs ls hf hi
            exact absurd hf (by omega)
          | succ fu8 ih9 =>
            intro i7 y11 H locs ls hfi7 hii7 hb2_i7 hZ9 hP hD hS hl
            rw [f_w_clash_more_15] at hZ9
            refine lv_iload hx hb dX9_clash_15 (lv_at hl 0 rfl) ?_
            refine lv_aload_n hx hb dX9_clash_17 rfl (lv_at hl 3 rfl) ?_
            refine va_get (D := (dC, dI)) (ci := 10) (v := .int (V 21)) (C := RX9) (T := TX9) (N := 46) hx hb hts in_w_clash_more_X9 hown hK hP 0 rfl rfl 21 (by decide) (hts (.fieldLink RX9 126 "ServiceTreeModel" "services" "I") (by decide +kernel)) (fun _ h9 => h9) rfl dX9_clash_18 ?_
            refine p1_topr (v := .int (nI n)) (congrArg Value.int hI.1.2.1) ?_
            refine lv_icmp_ge (tgt := 64) hx hb dX9_clash_21 (by decide) (fun c12 => ?_) (fun c12 => ?_)
            · replace c12 : n ≤ i7 := (nI_leI (a := n) (b := i7) (by omega) (by omega)).mp c12
              replace hZ9 := ite_t hZ9 c12
              replace hZ9 := lp_app2 hK9_15 hZ9
              refine lv_iinc (v := nI (i1 + 1)) (lv' := [(3, .int (nI (i1 + 1))), (4, .int (nI i7)), (2, .int y11), (0, .ref h), (1, .ref (a 28))]) hx hb dX9_clash_64 hl (k := 1) rfl (nI_add i1 1) (by decide) rfl (fun ls hl => ?_)
              refine lv_goto (tgt := 4) hx hb dX9_clash_67 (by decide) ?_
              exact ih3 (i1 + 1) y11 _ _ _ (by omega) (by omega) hb2_i7 hZ9 hP hD hS (lv_sub hl [0, 2, 3, 4] rfl)
            · replace c12 : ¬ (n ≤ i7) := fun q9 => c12 ((nI_leI (a := n) (b := i7) (by omega) (by omega)).mpr q9)
              replace hZ9 := ite_f hZ9 c12
              refine lv_iload_n hx hb dX9_clash_24 rfl (lv_at hl 2 rfl) ?_
              refine lv_if_ne (tgt := 52) hx hb dX9_clash_25 (by decide) (fun c13 => ?_) (fun c13 => ?_)
              · replace hZ9 := ite_f hZ9 c13
                refine lv_iconst (v := 1) hx hb dX9_clash_52 (by decide) ?_
                refine lv_goto (tgt := 57) hx hb dX9_clash_53 (by decide) ?_
                refine lv_istore_n (lv' := [(2, .int 1), (4, .int (nI i7)), (3, .int (nI i1)), (0, .ref h), (1, .ref (a 28))]) hx hb dX9_clash_57 rfl hl (by decide) rfl (fun ls hl => ?_)
                refine lv_iinc (v := nI (i7 + 1)) (lv' := [(4, .int (nI (i7 + 1))), (2, .int 1), (3, .int (nI i1)), (0, .ref h), (1, .ref (a 28))]) hx hb dX9_clash_58 hl (k := 1) rfl (nI_add i7 1) (by decide) rfl (fun ls hl => ?_)
                refine lv_goto (tgt := 15) hx hb dX9_clash_61 (by decide) ?_
                exact ih9 (i7 + 1) 1 _ _ _ (by omega) (by omega) (Or.inr rfl) hZ9 hP hD hS (lv_sub hl [0, 2, 1, 3, 4] rfl)
              · replace hZ9 := ite_t hZ9 c13
                refine lv_aload_n hx hb dX9_clash_28 rfl (lv_at hl 4 rfl) ?_
                refine lv_iload_n hx hb dX9_clash_29 rfl (lv_at hl 1 rfl) ?_
                refine va_zald (n := 40) (f := F 28) hx hb hK hP 24 23 rfl rfl (vp_in_nI (n := i1) (by omega) (by decide)) dX9_clash_30 ?_
                refine lv_topi (fun x14 ex14 => ?_)
                replace hZ9 := bnd_s hZ9 ex14
                refine lv_if_eq (tgt := 56) hx hb dX9_clash_31 (by decide) (fun c15 => ?_) (fun c15 => ?_)
                · replace hZ9 := ite_t hZ9 c15
                  refine lv_iconst (v := 0) hx hb dX9_clash_56 (by decide) ?_
                  refine lv_istore_n (lv' := [(2, .int 0), (4, .int (nI i7)), (3, .int (nI i1)), (0, .ref h), (1, .ref (a 28))]) hx hb dX9_clash_57 rfl hl (by decide) rfl (fun ls hl => ?_)
                  refine lv_iinc (v := nI (i7 + 1)) (lv' := [(4, .int (nI (i7 + 1))), (2, .int 0), (3, .int (nI i1)), (0, .ref h), (1, .ref (a 28))]) hx hb dX9_clash_58 hl (k := 1) rfl (nI_add i7 1) (by decide) rfl (fun ls hl => ?_)
                  refine lv_goto (tgt := 15) hx hb dX9_clash_61 (by decide) ?_
                  exact ih9 (i7 + 1) 0 _ _ _ (by omega) (by omega) (Or.inl rfl) hZ9 hP hD hS (lv_sub hl [0, 2, 1, 3, 4] rfl)
                · replace hZ9 := ite_f hZ9 c15
                  refine lv_aload_n hx hb dX9_clash_34 rfl (lv_at hl 4 rfl) ?_
                  refine lv_iload hx hb dX9_clash_35 (lv_at hl 0 rfl) ?_
                  refine va_zald (n := 40) (f := F 28) hx hb hK hP 24 23 rfl rfl (vp_in_nI (n := i7) (by omega) (by decide)) dX9_clash_37 ?_
                  refine lv_topi (fun x16 ex16 => ?_)
                  replace hZ9 := bnd_s hZ9 ex16
                  refine lv_if_eq (tgt := 56) hx hb dX9_clash_38 (by decide) (fun c17 => ?_) (fun c17 => ?_)
                  · replace hZ9 := ite_t hZ9 c17
                    refine lv_iconst (v := 0) hx hb dX9_clash_56 (by decide) ?_
                    refine lv_istore_n (lv' := [(2, .int 0), (4, .int (nI i7)), (3, .int (nI i1)), (0, .ref h), (1, .ref (a 28))]) hx hb dX9_clash_57 rfl hl (by decide) rfl (fun ls hl => ?_)
                    refine lv_iinc (v := nI (i7 + 1)) (lv' := [(4, .int (nI (i7 + 1))), (2, .int 0), (3, .int (nI i1)), (0, .ref h), (1, .ref (a 28))]) hx hb dX9_clash_58 hl (k := 1) rfl (nI_add i7 1) (by decide) rfl (fun ls hl => ?_)
                    refine lv_goto (tgt := 15) hx hb dX9_clash_61 (by decide) ?_
                    exact ih9 (i7 + 1) 0 _ _ _ (by omega) (by omega) (Or.inl rfl) hZ9 hP hD hS (lv_sub hl [0, 2, 1, 3, 4] rfl)
                  · replace hZ9 := ite_f hZ9 c17
                    refine lv_aload_n hx hb dX9_clash_41 rfl (lv_at hl 3 rfl) ?_
                    refine lv_iconst (v := 3) hx hb dX9_clash_42 (by decide) ?_
                    refine lv_iload_n hx hb dX9_clash_43 rfl (lv_at hl 1 rfl) ?_
                    refine lv_iload hx hb dX9_clash_44 (lv_at hl 0 rfl) ?_
                    have hFc := mw_free hD hS hA
                    refine va_calli (va_runV (As := [.int 3, .int (nI i1), .int (nI i7)]) (rest := []) ⟨hx, hb, hml, hown, hts⟩ (c_w_has l dC dI h a k F V n (b) 3 i1 i7 H.size hI.1 (by omega) (by omega) (by omega) (by omega)) (cwV 3 hts wc_w_clash_more_w_has_150 rfl rfl rfl (by decide +kernel) ⟨Nat.le_of_ble_eq_true rfl, Nat.le_of_ble_eq_true rfl⟩) ⟨fun a9 U g mk q => by obtain ⟨q0, q1, qP, qK, qD⟩ := q; exact ⟨q0, q1, qP, va_K.moved (u := U) (U := U.calling g mk a9) (Vm.Alike.refl U.vm) qK, qD⟩, va_recv hK hP (ci := 10) (q0 := 0) rfl rfl, fun U hU hW => ⟨rfl, by rw [hU], by rw [hU]; exact hP, va_K.moved hW.alike hK, hD.weaken (fun _ _ _ _ => trivial)⟩⟩ rfl rfl hl.1 rfl (lv_room (Nat.le_of_ble_eq_true rfl)) dX9_clash_46 ⟨Nat.le_of_ble_eq_true rfl, Nat.le_of_ble_eq_true rfl⟩) hS (fun q _ h => hFc q h) hFc (fun r18 u t H1 locs ht hvm hw hB hz1 hk1 hS => ?_)
                    obtain ⟨F19, V20⟩ := u
                    replace hP := hB.1
                    rw [ht] at hP
                    replace hD : va_D A (mW h a k F19 V20) := hB.2.weaken (fun _ q _ h9 => hFc q.1 h9)
                    clear hB
                    generalize H1 = H at hP hS ⊢
                    replace hP : va_P (dC, dI) vwCl (mW h a k F19 V20) H := hP
                    obtain ⟨hwF, hwV, hw⟩ : F19 = F ∧ V20 = V ∧ _ := hw
                    rw [hwF, hwV] at hP hD
                    obtain ⟨hw, hwe⟩ := hw
                    replace hw : r18 = f_w_has n 3 i1 i7 F := hw
                    replace hZ9 := bnd_s hZ9 hw
                    have br18 := hwe
                    refine lv_if_eq (tgt := 56) hx hb dX9_clash_49 (by decide) (fun c21 => ?_) (fun c21 => ?_)
                    · replace hZ9 := ite_t hZ9 c21
                      refine lv_iconst (v := 0) hx hb dX9_clash_56 (by decide) ?_
                      refine lv_istore_n (lv' := [(2, .int 0), (4, .int (nI i7)), (3, .int (nI i1)), (0, .ref h), (1, .ref (a 28))]) hx hb dX9_clash_57 rfl hl (by decide) rfl (fun ls hl => ?_)
                      refine lv_iinc (v := nI (i7 + 1)) (lv' := [(4, .int (nI (i7 + 1))), (2, .int 0), (3, .int (nI i1)), (0, .ref h), (1, .ref (a 28))]) hx hb dX9_clash_58 hl (k := 1) rfl (nI_add i7 1) (by decide) rfl (fun ls hl => ?_)
                      refine lv_goto (tgt := 15) hx hb dX9_clash_61 (by decide) ?_
                      exact ih9 (i7 + 1) 0 _ _ _ (by omega) (by omega) (Or.inl rfl) hZ9 hP hD hS (lv_sub hl [0, 2, 1, 3, 4] rfl)
                    · replace hZ9 := ite_f hZ9 c21
                      refine lv_iconst (v := 1) hx hb dX9_clash_52 (by decide) ?_
                      refine lv_goto (tgt := 57) hx hb dX9_clash_53 (by decide) ?_
                      refine lv_istore_n (lv' := [(2, .int 1), (4, .int (nI i7)), (3, .int (nI i1)), (0, .ref h), (1, .ref (a 28))]) hx hb dX9_clash_57 rfl hl (by decide) rfl (fun ls hl => ?_)
                      refine lv_iinc (v := nI (i7 + 1)) (lv' := [(4, .int (nI (i7 + 1))), (2, .int 1), (3, .int (nI i1)), (0, .ref h), (1, .ref (a 28))]) hx hb dX9_clash_58 hl (k := 1) rfl (nI_add i7 1) (by decide) rfl (fun ls hl => ?_)
                      refine lv_goto (tgt := 15) hx hb dX9_clash_61 (by decide) ?_
                      exact ih9 (i7 + 1) 1 _ _ _ (by omega) (by omega) (Or.inr rfl) hZ9 hP hD hS (lv_sub hl [0, 2, 1, 3, 4] rfl)
        exact lp10 (n + 1) 0 y5 _ _ _ (by omega) (by omega) hb2_i1 hZ9 hP hD hS hl
  exact lp4 (n + 1) 0 0 _ _ _ (by omega) (by omega) (Or.inl rfl) hZ9 hP hD hS hl
def f_w_hasNeeds_4 (n : Nat) (sv : Nat) (F : Nat → Nat → Int32) : Nat → Nat → Int32 → (Nat → Int32 → Int32) → Int32
  | 0, i1, y5, K9_4 => K9_4 i1 y5
  | fu2 + 1, i1, y5, K9_4 => if n ≤ i1 then (K9_4 i1 y5) else (if y5 = (0 : Int32) then (f_w_hasNeeds_4 n sv F fu2 (i1 + 1) (0 : Int32) K9_4) else (bnd (f_w_has n 0 sv i1 F) (fun (r8 : Int32) => if r8 = (0 : Int32) then (f_w_hasNeeds_4 n sv F fu2 (i1 + 1) (1 : Int32) K9_4) else (bnd (F 7 (nI i1).toNatClampNeg) (fun (x12 : Int32) => if x12 = (2 : Int32) then (f_w_hasNeeds_4 n sv F fu2 (i1 + 1) (1 : Int32) K9_4) else (f_w_hasNeeds_4 n sv F fu2 (i1 + 1) (0 : Int32) K9_4))))))
def f_w_hasNeeds (n : Nat) (sv : Nat) (F : Nat → Nat → Int32) : Int32 := f_w_hasNeeds_4 n sv F (n + 1) (0 : Nat) (1 : Int32) (fun (i1 : Nat) (y5 : Int32) => (y5))
def wq_w_hasNeeds : List Cond := ([.code yX9_hasNeeds cX9_hasNeeds 4 (some .boolean), .fieldLink RX9 126 "ServiceTreeModel" "services" "I", .fieldLink RX9 31 "ServiceTreeModel" "state" "[I", .methodLink RX9 150 yX9_has, .instanceMethod yX9_has, .selects RX9 yX9_has yX9_has, .initialized RX9] : List Cond) ++ (wsX90 ++ (wq_w_has))
theorem in_w_hasNeeds_X9 : ∀ w ∈ wsX90, w ∈ wq_w_hasNeeds := fun _ h => List.mem_append_right _ (List.mem_append_left _ (h))
set_option maxRecDepth 20000 in
theorem wi_w_hasNeeds : ∀ w ∈ wq_w_hasNeeds, w ∈ lw_tbl := List.forall_mem_append.mpr ⟨(wix [1113, 873, 859, 1023, 1025, 35, 69] rfl), List.forall_mem_append.mpr ⟨inKX9, wi_w_has⟩⟩
set_option maxRecDepth 20000 in
theorem wg_w_hasNeeds : GoodIn wq_w_hasNeeds wq_w_hasNeeds := goodIn_sub (fun _ h => h) (by decide +kernel)
set_option maxRecDepth 20000 in
theorem wc_w_hasNeeds_w_has_150 : GoodIn wq_w_hasNeeds (wsV RX9 150 RX9 yX9_has wq_w_has) := goodIn_app (goodIn_of _ (by decide +kernel)) (fun w h => ⟨List.mem_append_right _ (List.mem_append_right _ (h)), (wg_w_has w h).2⟩)
def rm_w_hasNeeds : Room := { frames := 1, cells := 0, slots := 0, locals := 23 }
set_option maxHeartbeats 4000000 in
set_option maxRecDepth 100000 in
theorem c_w_hasNeeds (l : Launch) (dC : Nat → ClassId) (dI : Nat → Nat → Nat) (h : Nat) (a : Nat → Nat) (k : Nat → ClassId) (F : Nat → Nat → Int32) (V : Nat → Int32) (n b : Nat) (sv : Nat) (sz : Nat) (hI0 : InvM n b F V) (hb0 : b + 0 < 2147483648) (hp0 : sv < n) : Met l yX9_hasNeeds wq_w_hasNeeds rm_w_hasNeeds (va_Pc [.ref h, .int (nI sv)] (fun U => U.heap.size = sz ∧ va_P (dC, dI) vwCl (mW h a k F V) U.heap ∧ va_K (dC, dI) vwCl (mT k) U ∧ va_D (fun _ => True) (mW h a k F V))) (va_Qi (fun (r : Int32) (u : (Nat → Nat → Int32) × (Nat → Int32)) => u.1 = F ∧ u.2 = V ∧ ((r = f_w_hasNeeds n sv F) ∧ (r = 0 ∨ r = 1))) (fun (u : (Nat → Nat → Int32) × (Nat → Int32)) (t : State) => va_P (dC, dI) vwCl (mW h a k u.1 u.2) t.heap ∧ va_D (va_A (mW h a k F V) sz) (mW h a k u.1 u.2)) (va_A (mW h a k F V) sz)) 0 0 (va_A (mW h a k F V) sz) := by
  have hn : n ≤ 40 := hI0.1
  have hI : StM n b F V F V := StM.rf hI0
  have hU : ∀ j : Nat, j ∉ ([] : List Nat) → F j = F j := fun _ _ => rfl
  have hV : ∀ j : Nat, j ∉ ([] : List Nat) → V j = V j := fun _ _ => rfl
  refine Met.ofW (cc := cX9_hasNeeds) (maxL := 4) (ret := (some .boolean)) (by decide) rfl ?_
  intro p e s m args below meth c s₁ B hml hv
  obtain ⟨rfl, hsz, hP, hK, hD0⟩ := hv
  have hx := B.exec
  have hb := B.bytes
  have hr := B.returns
  have hts := atoms_spec (ws := wq_w_hasNeeds) B.pre
  have hown : s.vm.findClass RX9 = some m.cls := findClass_of_methodNamed B.named
  have hlocks := B.notSynchronized
  subst hsz
  have hD := hD0.self (sz := s.heap.size)
  generalize hAe : va_A (mW h a k F V) s.heap.size = A at hD ⊢
  have hA : ∀ q : Nat, s.heap.size ≤ q → A q := fun q h => by rw [← hAe]; exact Or.inr h
  have hS : va_S A s.heap s.heap [] := va_S.rf
  have hl := lv_entry ([.ref h, .int (nI sv)]) (n := 4) (Nat.le_of_ble_eq_true rfl)
  rw [lg_entry_eq]
  generalize (lg_sl ([.ref h, .int (nI sv)]) ++ List.replicate (4 - (lg_sl ([.ref h, .int (nI sv)])).length) Slot.unset).toArray = ls at hl ⊢
  have hl : lv_has ls 4 [(0, .ref h), (1, .int (nI sv))] := hl
  refine mw_Q (fun Q0 hQ => ?_)
  obtain ⟨RES, hR0⟩ : ∃ R9, R9 = f_w_hasNeeds n sv F := ⟨_, rfl⟩
  have hZ9 := hR0
  unfold f_w_hasNeeds at hZ9
  refine lv_iconst (v := 1) hx hb dX9_hasNeeds_0 (by decide) ?_
  refine lv_istore_n (lv' := [(2, .int 1), (0, .ref h), (1, .int (nI sv))]) hx hb dX9_hasNeeds_1 rfl hl (by decide) rfl (fun ls hl => ?_)
  refine lv_iconst (v := 0) hx hb dX9_hasNeeds_2 (by decide) ?_
  refine lv_istore_n (lv' := [(3, .int 0), (2, .int 1), (0, .ref h), (1, .int (nI sv))]) hx hb dX9_hasNeeds_3 rfl hl (by decide) rfl (fun ls hl => ?_)
  obtain ⟨K9_4, hK9_4, hZ9⟩ := lp_gen hZ9
  have lp4 : ∀ (fu2 i1 : Nat) (y5 : Int32) (H : Heap) (locs : List Loc) (ls : Array Slot), n < i1 + fu2 → i1 ≤ n → (y5 = 0 ∨ y5 = 1) → RES = f_w_hasNeeds_4 n sv F fu2 i1 y5 K9_4 → va_P (dC, dI) vwCl (mW h a k F V) H → va_D A (mW h a k F V) → va_S A s.heap H locs → lv_has ls 4 [(3, .int (nI i1)), (2, .int y5), (0, .ref h), (1, .int (nI sv))] → W p l e (headSpec wq_w_hasNeeds rm_w_hasNeeds).room s m ([.ref h, .int (nI sv)] : List Value).toArray below meth c H locs 0 0 Q0 (F0 m 4 ls []) := by
    intro fu2
    induction fu2 with
    | zero =>
      intro i1 y5 H locs ls hf hi
      exact absurd hf (by omega)
    | succ fu2 ih3 =>
      intro i1 y5 H locs ls hfi1 hii1 hb2_i1 hZ9 hP hD hS hl
      rw [f_w_hasNeeds_4] at hZ9
      refine lv_iload_n hx hb dX9_hasNeeds_4 rfl (lv_at hl 0 rfl) ?_
      refine lv_aload_n hx hb dX9_hasNeeds_5 rfl (lv_at hl 2 rfl) ?_
      refine va_get (D := (dC, dI)) (ci := 10) (v := .int (V 21)) (C := RX9) (T := TX9) (N := 46) hx hb hts in_w_hasNeeds_X9 hown hK hP 0 rfl rfl 21 (by decide) (hts (.fieldLink RX9 126 "ServiceTreeModel" "services" "I") (by decide +kernel)) (fun _ h9 => h9) rfl dX9_hasNeeds_6 ?_
      refine p1_topr (v := .int (nI n)) (congrArg Value.int hI.1.2.1) ?_
      refine lv_icmp_ge (tgt := 48) hx hb dX9_hasNeeds_9 (by decide) (fun c6 => ?_) (fun c6 => ?_)
      · replace c6 : n ≤ i1 := (nI_leI (a := n) (b := i1) (by omega) (by omega)).mp c6
        replace hZ9 := ite_t hZ9 c6
        replace hZ9 := lp_app2 hK9_4 hZ9
        refine lv_iload_n hx hb dX9_hasNeeds_48 rfl (lv_at hl 1 rfl) ?_
        rw [hQ]
        exact W.zret (v := y5) hx hb hr (mw_nb hb2_i1) (fun t ht hW => ⟨⟨y5, (F, V), rfl, ⟨rfl, rfl, ⟨hZ9.symm.trans hR0, hb2_i1⟩⟩, by rw [ht]; exact hP, hD⟩, hS.F ht⟩) hS.2.2 dX9_hasNeeds_49
      · replace c6 : ¬ (n ≤ i1) := fun q9 => c6 ((nI_leI (a := n) (b := i1) (by omega) (by omega)).mpr q9)
        replace hZ9 := ite_f hZ9 c6
        refine lv_iload_n hx hb dX9_hasNeeds_12 rfl (lv_at hl 1 rfl) ?_
        refine lv_if_eq (tgt := 40) hx hb dX9_hasNeeds_13 (by decide) (fun c7 => ?_) (fun c7 => ?_)
        · replace hZ9 := ite_t hZ9 c7
          refine lv_iconst (v := 0) hx hb dX9_hasNeeds_40 (by decide) ?_
          refine lv_istore_n (lv' := [(2, .int 0), (3, .int (nI i1)), (0, .ref h), (1, .int (nI sv))]) hx hb dX9_hasNeeds_41 rfl hl (by decide) rfl (fun ls hl => ?_)
          refine lv_iinc (v := nI (i1 + 1)) (lv' := [(3, .int (nI (i1 + 1))), (2, .int 0), (0, .ref h), (1, .int (nI sv))]) hx hb dX9_hasNeeds_42 hl (k := 1) rfl (nI_add i1 1) (by decide) rfl (fun ls hl => ?_)
          refine lv_goto (tgt := 4) hx hb dX9_hasNeeds_45 (by decide) ?_
          exact ih3 (i1 + 1) 0 _ _ _ (by omega) (by omega) (Or.inl rfl) hZ9 hP hD hS (lv_sub hl [0, 1, 2, 3] rfl)
        · replace hZ9 := ite_f hZ9 c7
          refine lv_aload_n hx hb dX9_hasNeeds_16 rfl (lv_at hl 2 rfl) ?_
          refine lv_iconst (v := 0) hx hb dX9_hasNeeds_17 (by decide) ?_
          refine lv_iload_n hx hb dX9_hasNeeds_18 rfl (lv_at hl 3 rfl) ?_
          refine lv_iload_n hx hb dX9_hasNeeds_19 rfl (lv_at hl 0 rfl) ?_
          have hFc := mw_free hD hS hA
          refine va_calli (va_runV (As := [.int 0, .int (nI sv), .int (nI i1)]) (rest := []) ⟨hx, hb, hml, hown, hts⟩ (c_w_has l dC dI h a k F V n (b) 0 sv i1 H.size hI.1 (by omega) (by omega) (by omega) (by omega)) (cwV 3 hts wc_w_hasNeeds_w_has_150 rfl rfl rfl (by decide +kernel) ⟨Nat.le_of_ble_eq_true rfl, Nat.le_of_ble_eq_true rfl⟩) ⟨fun a9 U g mk q => by obtain ⟨q0, q1, qP, qK, qD⟩ := q; exact ⟨q0, q1, qP, va_K.moved (u := U) (U := U.calling g mk a9) (Vm.Alike.refl U.vm) qK, qD⟩, va_recv hK hP (ci := 10) (q0 := 0) rfl rfl, fun U hU hW => ⟨rfl, by rw [hU], by rw [hU]; exact hP, va_K.moved hW.alike hK, hD.weaken (fun _ _ _ _ => trivial)⟩⟩ rfl rfl hl.1 rfl (lv_room (Nat.le_of_ble_eq_true rfl)) dX9_hasNeeds_20 ⟨Nat.le_of_ble_eq_true rfl, Nat.le_of_ble_eq_true rfl⟩) hS (fun q _ h => hFc q h) hFc (fun r8 u t H1 locs ht hvm hw hB hz1 hk1 hS => ?_)
          obtain ⟨F9, V10⟩ := u
          replace hP := hB.1
          rw [ht] at hP
          replace hD : va_D A (mW h a k F9 V10) := hB.2.weaken (fun _ q _ h9 => hFc q.1 h9)
          clear hB
          generalize H1 = H at hP hS ⊢
          replace hP : va_P (dC, dI) vwCl (mW h a k F9 V10) H := hP
          obtain ⟨hwF, hwV, hw⟩ : F9 = F ∧ V10 = V ∧ _ := hw
          rw [hwF, hwV] at hP hD
          obtain ⟨hw, hwe⟩ := hw
          replace hw : r8 = f_w_has n 0 sv i1 F := hw
          replace hZ9 := bnd_s hZ9 hw
          have br8 := hwe
          refine lv_if_eq (tgt := 36) hx hb dX9_hasNeeds_23 (by decide) (fun c11 => ?_) (fun c11 => ?_)
          · replace hZ9 := ite_t hZ9 c11
            refine lv_iconst (v := 1) hx hb dX9_hasNeeds_36 (by decide) ?_
            refine lv_goto (tgt := 41) hx hb dX9_hasNeeds_37 (by decide) ?_
            refine lv_istore_n (lv' := [(2, .int 1), (3, .int (nI i1)), (0, .ref h), (1, .int (nI sv))]) hx hb dX9_hasNeeds_41 rfl hl (by decide) rfl (fun ls hl => ?_)
            refine lv_iinc (v := nI (i1 + 1)) (lv' := [(3, .int (nI (i1 + 1))), (2, .int 1), (0, .ref h), (1, .int (nI sv))]) hx hb dX9_hasNeeds_42 hl (k := 1) rfl (nI_add i1 1) (by decide) rfl (fun ls hl => ?_)
            refine lv_goto (tgt := 4) hx hb dX9_hasNeeds_45 (by decide) ?_
            exact ih3 (i1 + 1) 1 _ _ _ (by omega) (by omega) (Or.inr rfl) hZ9 hP hD hS (lv_sub hl [0, 1, 2, 3] rfl)
          · replace hZ9 := ite_f hZ9 c11
            refine lv_aload_n hx hb dX9_hasNeeds_26 rfl (lv_at hl 2 rfl) ?_
            refine va_get (D := (dC, dI)) (ci := 10) (v := .ref (a 7)) (C := RX9) (T := TX9) (N := 46) hx hb hts in_w_hasNeeds_X9 hown hK hP 0 rfl rfl 7 (by decide) (hts (.fieldLink RX9 31 "ServiceTreeModel" "state" "[I") (by decide +kernel)) (fun _ h9 => h9) rfl dX9_hasNeeds_27 ?_
            refine lv_iload_n hx hb dX9_hasNeeds_30 rfl (lv_at hl 0 rfl) ?_
            refine va_iald (n := 40) (f := F 7) hx hb hK hP 8 7 rfl rfl (vp_in_nI (n := i1) (by omega) (by decide)) dX9_hasNeeds_31 ?_
            refine lv_topi (fun x12 ex12 => ?_)
            replace hZ9 := bnd_s hZ9 ex12
            refine lv_iconst (v := 2) hx hb dX9_hasNeeds_32 (by decide) ?_
            refine lv_icmp_ne (tgt := 40) hx hb dX9_hasNeeds_33 (by decide) (fun c13 => ?_) (fun c13 => ?_)
            · replace hZ9 := ite_f hZ9 c13
              refine lv_iconst (v := 0) hx hb dX9_hasNeeds_40 (by decide) ?_
              refine lv_istore_n (lv' := [(2, .int 0), (3, .int (nI i1)), (0, .ref h), (1, .int (nI sv))]) hx hb dX9_hasNeeds_41 rfl hl (by decide) rfl (fun ls hl => ?_)
              refine lv_iinc (v := nI (i1 + 1)) (lv' := [(3, .int (nI (i1 + 1))), (2, .int 0), (0, .ref h), (1, .int (nI sv))]) hx hb dX9_hasNeeds_42 hl (k := 1) rfl (nI_add i1 1) (by decide) rfl (fun ls hl => ?_)
              refine lv_goto (tgt := 4) hx hb dX9_hasNeeds_45 (by decide) ?_
              exact ih3 (i1 + 1) 0 _ _ _ (by omega) (by omega) (Or.inl rfl) hZ9 hP hD hS (lv_sub hl [0, 1, 2, 3] rfl)
            · replace hZ9 := ite_t hZ9 c13
              refine lv_iconst (v := 1) hx hb dX9_hasNeeds_36 (by decide) ?_
              refine lv_goto (tgt := 41) hx hb dX9_hasNeeds_37 (by decide) ?_
              refine lv_istore_n (lv' := [(2, .int 1), (3, .int (nI i1)), (0, .ref h), (1, .int (nI sv))]) hx hb dX9_hasNeeds_41 rfl hl (by decide) rfl (fun ls hl => ?_)
              refine lv_iinc (v := nI (i1 + 1)) (lv' := [(3, .int (nI (i1 + 1))), (2, .int 1), (0, .ref h), (1, .int (nI sv))]) hx hb dX9_hasNeeds_42 hl (k := 1) rfl (nI_add i1 1) (by decide) rfl (fun ls hl => ?_)
              refine lv_goto (tgt := 4) hx hb dX9_hasNeeds_45 (by decide) ?_
              exact ih3 (i1 + 1) 1 _ _ _ (by omega) (by omega) (Or.inr rfl) hZ9 hP hD hS (lv_sub hl [0, 1, 2, 3] rfl)
  exact lp4 (n + 1) 0 1 _ _ _ (by omega) (by omega) (Or.inr rfl) hZ9 hP hD hS hl
def f_w_isUpOrWaiting (n : Nat) (sv : Nat) (F : Nat → Nat → Int32) : Int32 := bnd (F 7 (nI sv).toNatClampNeg) (fun (x1 : Int32) => if x1 = (2 : Int32) then (((1 : Int32))) else (if x1 = (5 : Int32) then (((1 : Int32))) else (((0 : Int32)))))
def wq_w_isUpOrWaiting : List Cond := ([.code yX9_isUpOrWaiting cX9_isUpOrWaiting 2 (some .boolean), .fieldLink RX9 31 "ServiceTreeModel" "state" "[I"] : List Cond) ++ (wsX90)
theorem in_w_isUpOrWaiting_X9 : ∀ w ∈ wsX90, w ∈ wq_w_isUpOrWaiting := fun _ h => List.mem_append_right _ (h)
set_option maxRecDepth 20000 in
theorem wi_w_isUpOrWaiting : ∀ w ∈ wq_w_isUpOrWaiting, w ∈ lw_tbl := List.forall_mem_append.mpr ⟨(wix [1050, 859] rfl), inKX9⟩
set_option maxRecDepth 20000 in
theorem wg_w_isUpOrWaiting : GoodIn wq_w_isUpOrWaiting wq_w_isUpOrWaiting := goodIn_sub (fun _ h => h) (by decide +kernel)
def rm_w_isUpOrWaiting : Room := { frames := 0, cells := 0, slots := 0, locals := 0 }
set_option maxHeartbeats 4000000 in
set_option maxRecDepth 100000 in
theorem c_w_isUpOrWaiting (l : Launch) (dC : Nat → ClassId) (dI : Nat → Nat → Nat) (h : Nat) (a : Nat → Nat) (k : Nat → ClassId) (F : Nat → Nat → Int32) (V : Nat → Int32) (n b : Nat) (sv : Nat) (sz : Nat) (hI0 : InvM n b F V) (hb0 : b + 0 < 2147483648) (hp0 : sv < n) : Met l yX9_isUpOrWaiting wq_w_isUpOrWaiting rm_w_isUpOrWaiting (va_Pc [.ref h, .int (nI sv)] (fun U => U.heap.size = sz ∧ va_P (dC, dI) vwCl (mW h a k F V) U.heap ∧ va_K (dC, dI) vwCl (mT k) U ∧ va_D (fun _ => True) (mW h a k F V))) (va_Qi (fun (r : Int32) (u : (Nat → Nat → Int32) × (Nat → Int32)) => u.1 = F ∧ u.2 = V ∧ (r = f_w_isUpOrWaiting n sv F)) (fun (u : (Nat → Nat → Int32) × (Nat → Int32)) (t : State) => va_P (dC, dI) vwCl (mW h a k u.1 u.2) t.heap ∧ va_D (va_A (mW h a k F V) sz) (mW h a k u.1 u.2)) (va_A (mW h a k F V) sz)) 0 0 (va_A (mW h a k F V) sz) := by
  have hn : n ≤ 40 := hI0.1
  have hI : StM n b F V F V := StM.rf hI0
  have hU : ∀ j : Nat, j ∉ ([] : List Nat) → F j = F j := fun _ _ => rfl
  have hV : ∀ j : Nat, j ∉ ([] : List Nat) → V j = V j := fun _ _ => rfl
  refine Met.ofW (cc := cX9_isUpOrWaiting) (maxL := 2) (ret := (some .boolean)) (by decide) rfl ?_
  intro p e s m args below meth c s₁ B hml hv
  obtain ⟨rfl, hsz, hP, hK, hD0⟩ := hv
  have hx := B.exec
  have hb := B.bytes
  have hr := B.returns
  have hts := atoms_spec (ws := wq_w_isUpOrWaiting) B.pre
  have hown : s.vm.findClass RX9 = some m.cls := findClass_of_methodNamed B.named
  have hlocks := B.notSynchronized
  subst hsz
  have hD := hD0.self (sz := s.heap.size)
  generalize hAe : va_A (mW h a k F V) s.heap.size = A at hD ⊢
  have hA : ∀ q : Nat, s.heap.size ≤ q → A q := fun q h => by rw [← hAe]; exact Or.inr h
  have hS : va_S A s.heap s.heap [] := va_S.rf
  have hl := lv_entry ([.ref h, .int (nI sv)]) (n := 2) (Nat.le_of_ble_eq_true rfl)
  rw [lg_entry_eq]
  generalize (lg_sl ([.ref h, .int (nI sv)]) ++ List.replicate (2 - (lg_sl ([.ref h, .int (nI sv)])).length) Slot.unset).toArray = ls at hl ⊢
  have hl : lv_has ls 2 [(0, .ref h), (1, .int (nI sv))] := hl
  obtain ⟨RES, hR0⟩ : ∃ R9, R9 = f_w_isUpOrWaiting n sv F := ⟨_, rfl⟩
  have hZ9 := hR0
  unfold f_w_isUpOrWaiting at hZ9
  refine lv_aload_n hx hb dX9_isUpOrWaiting_0 rfl (lv_at hl 0 rfl) ?_
  refine va_get (D := (dC, dI)) (ci := 10) (v := .ref (a 7)) (C := RX9) (T := TX9) (N := 46) hx hb hts in_w_isUpOrWaiting_X9 hown hK hP 0 rfl rfl 7 (by decide) (hts (.fieldLink RX9 31 "ServiceTreeModel" "state" "[I") (by decide +kernel)) (fun _ h9 => h9) rfl dX9_isUpOrWaiting_1 ?_
  refine lv_iload_n hx hb dX9_isUpOrWaiting_4 rfl (lv_at hl 1 rfl) ?_
  refine va_iald (n := 40) (f := F 7) hx hb hK hP 8 7 rfl rfl (vp_in_nI (n := sv) (by omega) (by decide)) dX9_isUpOrWaiting_5 ?_
  refine lv_topi (fun x1 ex1 => ?_)
  replace hZ9 := bnd_s hZ9 ex1
  refine lv_iconst (v := 2) hx hb dX9_isUpOrWaiting_6 (by decide) ?_
  refine lv_icmp_eq (tgt := 20) hx hb dX9_isUpOrWaiting_7 (by decide) (fun c2 => ?_) (fun c2 => ?_)
  · replace hZ9 := ite_t hZ9 c2
    refine lv_iconst (v := 1) hx hb dX9_isUpOrWaiting_20 (by decide) ?_
    refine lv_goto (tgt := 25) hx hb dX9_isUpOrWaiting_21 (by decide) ?_
    exact W.zret (v := 1) hx hb hr (by decide) (fun t ht hW => ⟨⟨1, (F, V), rfl, ⟨rfl, rfl, hZ9.symm.trans hR0⟩, by rw [ht]; exact hP, hD⟩, hS.F ht⟩) hS.2.2 dX9_isUpOrWaiting_25
  · replace hZ9 := ite_f hZ9 c2
    refine lv_aload_n hx hb dX9_isUpOrWaiting_10 rfl (lv_at hl 0 rfl) ?_
    refine va_get (D := (dC, dI)) (ci := 10) (v := .ref (a 7)) (C := RX9) (T := TX9) (N := 46) hx hb hts in_w_isUpOrWaiting_X9 hown hK hP 0 rfl rfl 7 (by decide) (hts (.fieldLink RX9 31 "ServiceTreeModel" "state" "[I") (by decide +kernel)) (fun _ h9 => h9) rfl dX9_isUpOrWaiting_11 ?_
    refine lv_iload_n hx hb dX9_isUpOrWaiting_14 rfl (lv_at hl 1 rfl) ?_
    refine va_iald (n := 40) (f := F 7) hx hb hK hP 8 7 rfl rfl (vp_in_nI (n := sv) (by omega) (by decide)) dX9_isUpOrWaiting_15 ?_
    refine p1_topr (v := .int x1) (congrArg Value.int ex1.symm) ?_
    refine lv_iconst (v := 5) hx hb dX9_isUpOrWaiting_16 (by decide) ?_
    refine lv_icmp_ne (tgt := 24) hx hb dX9_isUpOrWaiting_17 (by decide) (fun c4 => ?_) (fun c4 => ?_)
    · replace hZ9 := ite_f hZ9 c4
      refine lv_iconst (v := 0) hx hb dX9_isUpOrWaiting_24 (by decide) ?_
      exact W.zret (v := 0) hx hb hr (by decide) (fun t ht hW => ⟨⟨0, (F, V), rfl, ⟨rfl, rfl, hZ9.symm.trans hR0⟩, by rw [ht]; exact hP, hD⟩, hS.F ht⟩) hS.2.2 dX9_isUpOrWaiting_25
    · replace hZ9 := ite_t hZ9 c4
      refine lv_iconst (v := 1) hx hb dX9_isUpOrWaiting_20 (by decide) ?_
      refine lv_goto (tgt := 25) hx hb dX9_isUpOrWaiting_21 (by decide) ?_
      exact W.zret (v := 1) hx hb hr (by decide) (fun t ht hW => ⟨⟨1, (F, V), rfl, ⟨rfl, rfl, hZ9.symm.trans hR0⟩, by rw [ht]; exact hP, hD⟩, hS.F ht⟩) hS.2.2 dX9_isUpOrWaiting_25
def f_w_many_4 (n : Nat) (nv : Nat) (F : Nat → Nat → Int32) : Nat → Nat → Int32 → (Nat → Int32 → Int32) → Int32
  | 0, i1, y5, K9_4 => K9_4 i1 y5
  | fu2 + 1, i1, y5, K9_4 => if nv ≤ i1 then (K9_4 i1 y5) else (bnd (F 30 (nI i1).toNatClampNeg) (fun (x7 : Int32) => if x7 = (0 : Int32) then (bnd (y5 + (0 : Int32)) (fun (x9 : Int32) => f_w_many_4 n nv F fu2 (i1 + 1) x9 K9_4)) else (bnd (y5 + (1 : Int32)) (fun (x10 : Int32) => f_w_many_4 n nv F fu2 (i1 + 1) x10 K9_4))))
def f_w_many (n : Nat) (nv : Nat) (F : Nat → Nat → Int32) : Int32 := f_w_many_4 n nv F (nv + 1) (0 : Nat) (0 : Int32) (fun (i1 : Nat) (y5 : Int32) => (y5))
def wq_w_many : List Cond := ([.code yX9_many cX9_many 4 (some .int)] : List Cond) ++ (wsX90)
set_option maxRecDepth 20000 in
theorem wi_w_many : ∀ w ∈ wq_w_many, w ∈ lw_tbl := List.forall_mem_append.mpr ⟨(wix [1116] rfl), inKX9⟩
set_option maxRecDepth 20000 in
theorem wg_w_many : GoodIn wq_w_many wq_w_many := goodIn_sub (fun _ h => h) (by decide +kernel)
def rm_w_many : Room := { frames := 0, cells := 0, slots := 0, locals := 0 }
set_option maxHeartbeats 4000000 in
set_option maxRecDepth 100000 in
theorem c_w_many (l : Launch) (dC : Nat → ClassId) (dI : Nat → Nat → Nat) (h : Nat) (a : Nat → Nat) (k : Nat → ClassId) (F : Nat → Nat → Int32) (V : Nat → Int32) (n b : Nat) (nv : Nat) (sz : Nat) (hI0 : InvM n b F V) (hb0 : b + 0 < 2147483648) (hp0 : nv = n) : Met l yX9_many wq_w_many rm_w_many (va_Pc [.ref (a 30), .int (nI nv)] (fun U => U.heap.size = sz ∧ va_P (dC, dI) vwCl (mW h a k F V) U.heap ∧ va_K (dC, dI) vwCl (mT k) U ∧ va_D (fun _ => True) (mW h a k F V))) (va_Qi (fun (r : Int32) (u : (Nat → Nat → Int32) × (Nat → Int32)) => u.1 = F ∧ u.2 = V ∧ (r = f_w_many n nv F)) (fun (u : (Nat → Nat → Int32) × (Nat → Int32)) (t : State) => va_P (dC, dI) vwCl (mW h a k u.1 u.2) t.heap ∧ va_D (va_A (mW h a k F V) sz) (mW h a k u.1 u.2)) (va_A (mW h a k F V) sz)) 0 0 (va_A (mW h a k F V) sz) := by
  have hn : n ≤ 40 := hI0.1
  have hI : StM n b F V F V := StM.rf hI0
  have hU : ∀ j : Nat, j ∉ ([] : List Nat) → F j = F j := fun _ _ => rfl
  have hV : ∀ j : Nat, j ∉ ([] : List Nat) → V j = V j := fun _ _ => rfl
  refine Met.ofW (cc := cX9_many) (maxL := 4) (ret := (some .int)) (by decide) rfl ?_
  intro p e s m args below meth c s₁ B hml hv
  obtain ⟨rfl, hsz, hP, hK, hD0⟩ := hv
  have hx := B.exec
  have hb := B.bytes
  have hr := B.returns
  have hts := atoms_spec (ws := wq_w_many) B.pre
  have hown : s.vm.findClass RX9 = some m.cls := findClass_of_methodNamed B.named
  have hlocks := B.notSynchronized
  subst hsz
  have hD := hD0.self (sz := s.heap.size)
  generalize hAe : va_A (mW h a k F V) s.heap.size = A at hD ⊢
  have hA : ∀ q : Nat, s.heap.size ≤ q → A q := fun q h => by rw [← hAe]; exact Or.inr h
  have hS : va_S A s.heap s.heap [] := va_S.rf
  have hl := lv_entry ([.ref (a 30), .int (nI nv)]) (n := 4) (Nat.le_of_ble_eq_true rfl)
  rw [lg_entry_eq]
  generalize (lg_sl ([.ref (a 30), .int (nI nv)]) ++ List.replicate (4 - (lg_sl ([.ref (a 30), .int (nI nv)])).length) Slot.unset).toArray = ls at hl ⊢
  have hl : lv_has ls 4 [(0, .ref (a 30)), (1, .int (nI nv))] := hl
  refine mw_Q (fun Q0 hQ => ?_)
  obtain ⟨RES, hR0⟩ : ∃ R9, R9 = f_w_many n nv F := ⟨_, rfl⟩
  have hZ9 := hR0
  unfold f_w_many at hZ9
  refine lv_iconst (v := 0) hx hb dX9_many_0 (by decide) ?_
  refine lv_istore_n (lv' := [(2, .int 0), (0, .ref (a 30)), (1, .int (nI nv))]) hx hb dX9_many_1 rfl hl (by decide) rfl (fun ls hl => ?_)
  refine lv_iconst (v := 0) hx hb dX9_many_2 (by decide) ?_
  refine lv_istore_n (lv' := [(3, .int 0), (2, .int 0), (0, .ref (a 30)), (1, .int (nI nv))]) hx hb dX9_many_3 rfl hl (by decide) rfl (fun ls hl => ?_)
  obtain ⟨K9_4, hK9_4, hZ9⟩ := lp_gen hZ9
  have lp4 : ∀ (fu2 i1 : Nat) (y5 : Int32) (H : Heap) (locs : List Loc) (ls : Array Slot), nv < i1 + fu2 → i1 ≤ nv → RES = f_w_many_4 n nv F fu2 i1 y5 K9_4 → va_P (dC, dI) vwCl (mW h a k F V) H → va_D A (mW h a k F V) → va_S A s.heap H locs → lv_has ls 4 [(3, .int (nI i1)), (2, .int y5), (0, .ref (a 30)), (1, .int (nI nv))] → W p l e (headSpec wq_w_many rm_w_many).room s m ([.ref (a 30), .int (nI nv)] : List Value).toArray below meth c H locs 0 0 Q0 (F0 m 4 ls []) := by
    intro fu2
    induction fu2 with
    | zero =>
      intro i1 y5 H locs ls hf hi
      exact absurd hf (by omega)
    | succ fu2 ih3 =>
      intro i1 y5 H locs ls hfi1 hii1 hZ9 hP hD hS hl
      rw [f_w_many_4] at hZ9
      refine lv_iload_n hx hb dX9_many_4 rfl (lv_at hl 0 rfl) ?_
      refine lv_iload_n hx hb dX9_many_5 rfl (lv_at hl 3 rfl) ?_
      refine lv_icmp_ge (tgt := 29) hx hb dX9_many_6 (by decide) (fun c6 => ?_) (fun c6 => ?_)
      · replace c6 : nv ≤ i1 := (nI_leI (a := nv) (b := i1) (by omega) (by omega)).mp c6
        replace hZ9 := ite_t hZ9 c6
        replace hZ9 := lp_app2 hK9_4 hZ9
        refine lv_iload_n hx hb dX9_many_29 rfl (lv_at hl 1 rfl) ?_
        rw [hQ]
        exact W.iret (v := y5) hx hb hr (fun t ht hW => ⟨⟨y5, (F, V), rfl, ⟨rfl, rfl, hZ9.symm.trans hR0⟩, by rw [ht]; exact hP, hD⟩, hS.F ht⟩) hS.2.2 dX9_many_30
      · replace c6 : ¬ (nv ≤ i1) := fun q9 => c6 ((nI_leI (a := nv) (b := i1) (by omega) (by omega)).mpr q9)
        replace hZ9 := ite_f hZ9 c6
        refine lv_iload_n hx hb dX9_many_9 rfl (lv_at hl 1 rfl) ?_
        refine lv_aload_n hx hb dX9_many_10 rfl (lv_at hl 2 rfl) ?_
        refine lv_iload_n hx hb dX9_many_11 rfl (lv_at hl 0 rfl) ?_
        refine va_iald (n := 40) (f := F 30) hx hb hK hP 26 25 rfl rfl (vp_in_nI (n := i1) (by omega) (by decide)) dX9_many_12 ?_
        refine lv_topi (fun x7 ex7 => ?_)
        replace hZ9 := bnd_s hZ9 ex7
        refine lv_if_eq (tgt := 20) hx hb dX9_many_13 (by decide) (fun c8 => ?_) (fun c8 => ?_)
        · replace hZ9 := ite_t hZ9 c8
          refine lv_iconst (v := 0) hx hb dX9_many_20 (by decide) ?_
          refine lv_iadd hx hb dX9_many_21 ?_
          refine lv_topi (fun x9 ex9 => ?_)
          replace hZ9 := bnd_s hZ9 ex9
          refine lv_istore_n (lv' := [(2, .int x9), (3, .int (nI i1)), (0, .ref (a 30)), (1, .int (nI nv))]) hx hb dX9_many_22 rfl hl (by decide) rfl (fun ls hl => ?_)
          refine lv_iinc (v := nI (i1 + 1)) (lv' := [(3, .int (nI (i1 + 1))), (2, .int x9), (0, .ref (a 30)), (1, .int (nI nv))]) hx hb dX9_many_23 hl (k := 1) rfl (nI_add i1 1) (by decide) rfl (fun ls hl => ?_)
          refine lv_goto (tgt := 4) hx hb dX9_many_26 (by decide) ?_
          exact ih3 (i1 + 1) x9 _ _ _ (by omega) (by omega)  hZ9 hP hD hS (lv_sub hl [0, 1, 2, 3] rfl)
        · replace hZ9 := ite_f hZ9 c8
          refine lv_iconst (v := 1) hx hb dX9_many_16 (by decide) ?_
          refine lv_goto (tgt := 21) hx hb dX9_many_17 (by decide) ?_
          refine lv_iadd hx hb dX9_many_21 ?_
          refine lv_topi (fun x10 ex10 => ?_)
          replace hZ9 := bnd_s hZ9 ex10
          refine lv_istore_n (lv' := [(2, .int x10), (3, .int (nI i1)), (0, .ref (a 30)), (1, .int (nI nv))]) hx hb dX9_many_22 rfl hl (by decide) rfl (fun ls hl => ?_)
          refine lv_iinc (v := nI (i1 + 1)) (lv' := [(3, .int (nI (i1 + 1))), (2, .int x10), (0, .ref (a 30)), (1, .int (nI nv))]) hx hb dX9_many_23 hl (k := 1) rfl (nI_add i1 1) (by decide) rfl (fun ls hl => ?_)
          refine lv_goto (tgt := 4) hx hb dX9_many_26 (by decide) ?_
          exact ih3 (i1 + 1) x10 _ _ _ (by omega) (by omega)  hZ9 hP hD hS (lv_sub hl [0, 1, 2, 3] rfl)
  exact lp4 (nv + 1) 0 0 _ _ _ (by omega) (by omega)  hZ9 hP hD hS hl
def f_w_waitsAmong_job (n : Nat) (av : Nat) (bv : Nat) (F : Nat → Nat → Int32) : Int32 := bnd (F 25 (nI av).toNatClampNeg) (fun (x1 : Int32) => bnd (F 25 (nI bv).toNatClampNeg) (fun (x2 : Int32) => bnd (f_w_waitsFor n x1 x2 ) (fun (r3 : Int32) => if r3 = (0 : Int32) then (((0 : Int32))) else (if av = bv then (((0 : Int32))) else (if x1 = (1 : Int32) then (if x2 = (1 : Int32) then (bnd (f_w_has n 0 av bv F) (fun (r25 : Int32) => if r25 = (0 : Int32) then (bnd (f_w_has n 2 av bv F) (fun (r29 : Int32) => if r29 = (0 : Int32) then (((0 : Int32))) else (((1 : Int32))))) else (((1 : Int32))))) else (bnd (f_w_has n 3 av bv F) (fun (r22 : Int32) => (r22)))) else (if x2 = (2 : Int32) then (bnd (f_w_has n 0 bv av F) (fun (r12 : Int32) => if r12 = (0 : Int32) then (bnd (f_w_has n 2 bv av F) (fun (r16 : Int32) => if r16 = (0 : Int32) then (((0 : Int32))) else (((1 : Int32))))) else (((1 : Int32))))) else (((0 : Int32)))))))))
def wq_w_waitsAmong_job : List Cond := ([.code yX9_waitsAmong cX9_waitsAmong 4 (some .boolean), .methodLink RX9 163 yX9_waitsFor, .static yX9_waitsFor, .initialized RX9, .methodLink RX9 150 yX9_has, .instanceMethod yX9_has, .selects RX9 yX9_has yX9_has] : List Cond) ++ (wsX90 ++ (wq_w_waitsFor ++ (wq_w_has)))
set_option maxRecDepth 20000 in
theorem wi_w_waitsAmong_job : ∀ w ∈ wq_w_waitsAmong_job, w ∈ lw_tbl := List.forall_mem_append.mpr ⟨(wix [1086, 1087, 1088, 69, 1023, 1025, 35] rfl), List.forall_mem_append.mpr ⟨inKX9, List.forall_mem_append.mpr ⟨wi_w_waitsFor, wi_w_has⟩⟩⟩
set_option maxRecDepth 20000 in
theorem wg_w_waitsAmong_job : GoodIn wq_w_waitsAmong_job wq_w_waitsAmong_job := goodIn_sub (fun _ h => h) (by decide +kernel)
set_option maxRecDepth 20000 in
theorem wc_w_waitsAmong_job_w_waitsFor_163 : GoodIn wq_w_waitsAmong_job (va_wsS RX9 163 yX9_waitsFor wq_w_waitsFor) := goodIn_app (goodIn_of _ (by decide +kernel)) (fun w h => ⟨List.mem_append_right _ (List.mem_append_right _ (List.mem_append_left _ (h))), (wg_w_waitsFor w h).2⟩)
set_option maxRecDepth 20000 in
theorem wc_w_waitsAmong_job_w_has_150 : GoodIn wq_w_waitsAmong_job (wsV RX9 150 RX9 yX9_has wq_w_has) := goodIn_app (goodIn_of _ (by decide +kernel)) (fun w h => ⟨List.mem_append_right _ (List.mem_append_right _ (List.mem_append_right _ (h))), (wg_w_has w h).2⟩)
def rm_w_waitsAmong_job : Room := { frames := 1, cells := 0, slots := 0, locals := 23 }
set_option maxHeartbeats 4000000 in
set_option maxRecDepth 100000 in
theorem c_w_waitsAmong_job (l : Launch) (dC : Nat → ClassId) (dI : Nat → Nat → Nat) (h : Nat) (a : Nat → Nat) (k : Nat → ClassId) (F : Nat → Nat → Int32) (V : Nat → Int32) (n b : Nat) (av : Nat) (bv : Nat) (sz : Nat) (hI0 : InvM n b F V) (hb0 : b + 0 < 2147483648) (hp0 : av < n) (hp1 : bv < n) : Met l yX9_waitsAmong wq_w_waitsAmong_job rm_w_waitsAmong_job (va_Pc [.ref h, .ref (a 25), .int (nI av), .int (nI bv)] (fun U => U.heap.size = sz ∧ va_P (dC, dI) vwCl (mW h a k F V) U.heap ∧ va_K (dC, dI) vwCl (mT k) U ∧ va_D (fun _ => True) (mW h a k F V))) (va_Qi (fun (r : Int32) (u : (Nat → Nat → Int32) × (Nat → Int32)) => u.1 = F ∧ u.2 = V ∧ ((r = f_w_waitsAmong_job n av bv F) ∧ (r = 0 ∨ r = 1))) (fun (u : (Nat → Nat → Int32) × (Nat → Int32)) (t : State) => va_P (dC, dI) vwCl (mW h a k u.1 u.2) t.heap ∧ va_D (va_A (mW h a k F V) sz) (mW h a k u.1 u.2)) (va_A (mW h a k F V) sz)) 0 0 (va_A (mW h a k F V) sz) := by
  have hn : n ≤ 40 := hI0.1
  have hI : StM n b F V F V := StM.rf hI0
  have hU : ∀ j : Nat, j ∉ ([] : List Nat) → F j = F j := fun _ _ => rfl
  have hV : ∀ j : Nat, j ∉ ([] : List Nat) → V j = V j := fun _ _ => rfl
  refine Met.ofW (cc := cX9_waitsAmong) (maxL := 4) (ret := (some .boolean)) (by decide) rfl ?_
  intro p e s m args below meth c s₁ B hml hv
  obtain ⟨rfl, hsz, hP, hK, hD0⟩ := hv
  have hx := B.exec
  have hb := B.bytes
  have hr := B.returns
  have hts := atoms_spec (ws := wq_w_waitsAmong_job) B.pre
  have hown : s.vm.findClass RX9 = some m.cls := findClass_of_methodNamed B.named
  have hlocks := B.notSynchronized
  subst hsz
  have hD := hD0.self (sz := s.heap.size)
  generalize hAe : va_A (mW h a k F V) s.heap.size = A at hD ⊢
  have hA : ∀ q : Nat, s.heap.size ≤ q → A q := fun q h => by rw [← hAe]; exact Or.inr h
  have hS : va_S A s.heap s.heap [] := va_S.rf
  have hl := lv_entry ([.ref h, .ref (a 25), .int (nI av), .int (nI bv)]) (n := 4) (Nat.le_of_ble_eq_true rfl)
  rw [lg_entry_eq]
  generalize (lg_sl ([.ref h, .ref (a 25), .int (nI av), .int (nI bv)]) ++ List.replicate (4 - (lg_sl ([.ref h, .ref (a 25), .int (nI av), .int (nI bv)])).length) Slot.unset).toArray = ls at hl ⊢
  have hl : lv_has ls 4 [(0, .ref h), (1, .ref (a 25)), (2, .int (nI av)), (3, .int (nI bv))] := hl
  obtain ⟨RES, hR0⟩ : ∃ R9, R9 = f_w_waitsAmong_job n av bv F := ⟨_, rfl⟩
  have hZ9 := hR0
  unfold f_w_waitsAmong_job at hZ9
  refine lv_aload_n hx hb dX9_waitsAmong_0 rfl (lv_at hl 1 rfl) ?_
  refine lv_iload_n hx hb dX9_waitsAmong_1 rfl (lv_at hl 2 rfl) ?_
  refine va_iald (n := 40) (f := F 25) hx hb hK hP 21 20 rfl rfl (vp_in_nI (n := av) (by omega) (by decide)) dX9_waitsAmong_2 ?_
  refine lv_topi (fun x1 ex1 => ?_)
  replace hZ9 := bnd_s hZ9 ex1
  refine lv_aload_n hx hb dX9_waitsAmong_3 rfl (lv_at hl 1 rfl) ?_
  refine lv_iload_n hx hb dX9_waitsAmong_4 rfl (lv_at hl 3 rfl) ?_
  refine va_iald (n := 40) (f := F 25) hx hb hK hP 21 20 rfl rfl (vp_in_nI (n := bv) (by omega) (by decide)) dX9_waitsAmong_5 ?_
  refine lv_topi (fun x2 ex2 => ?_)
  replace hZ9 := bnd_s hZ9 ex2
  have hFc := mw_free hD hS hA
  refine va_calli (va_runS (As := [.int x1, .int x2]) (rest := []) ⟨hx, hb, hml, hown, hts⟩ (c_w_waitsFor l dC dI h a k F V n (b) x1 x2 s.heap.size hI.1 (by omega) ) (va_cwS 2 hts wc_w_waitsAmong_job_w_waitsFor_163 rfl rfl rfl (by decide +kernel) ⟨Nat.le_of_ble_eq_true rfl, Nat.le_of_ble_eq_true rfl⟩) ⟨fun a9 U g mk q => by obtain ⟨q0, q1, qP, qK, qD⟩ := q; exact ⟨q0, q1, qP, va_K.moved (u := U) (U := U.calling g mk a9) (Vm.Alike.refl U.vm) qK, qD⟩, fun U hU hW => ⟨rfl, by rw [hU], by rw [hU]; exact hP, va_K.moved hW.alike hK, hD.weaken (fun _ _ _ _ => trivial)⟩⟩ rfl rfl hl.1 rfl (lv_room (Nat.le_of_ble_eq_true rfl)) dX9_waitsAmong_6 ⟨Nat.le_of_ble_eq_true rfl, Nat.le_of_ble_eq_true rfl⟩) hS (fun q _ h => hFc q h) hFc (fun r3 u t H1 locs ht hvm hw hB hz1 hk1 hS => ?_)
  obtain ⟨F4, V5⟩ := u
  replace hP := hB.1
  rw [ht] at hP
  replace hD : va_D A (mW h a k F4 V5) := hB.2.weaken (fun _ q _ h9 => hFc q.1 h9)
  clear hB
  generalize H1 = H at hP hS ⊢
  replace hP : va_P (dC, dI) vwCl (mW h a k F4 V5) H := hP
  obtain ⟨hwF, hwV, hw⟩ : F4 = F ∧ V5 = V ∧ _ := hw
  rw [hwF, hwV] at hP hD
  replace hw : r3 = f_w_waitsFor n x1 x2  := hw
  replace hZ9 := bnd_s hZ9 hw
  refine lv_if_eq (tgt := 17) hx hb dX9_waitsAmong_9 (by decide) (fun c6 => ?_) (fun c6 => ?_)
  · replace hZ9 := ite_t hZ9 c6
    refine lv_iconst (v := 0) hx hb dX9_waitsAmong_17 (by decide) ?_
    exact W.zret (v := 0) hx hb hr (by decide) (fun t ht hW => ⟨⟨0, (F, V), rfl, ⟨rfl, rfl, ⟨hZ9.symm.trans hR0, Or.inl rfl⟩⟩, by rw [ht]; exact hP, hD⟩, hS.F ht⟩) hS.2.2 dX9_waitsAmong_18
  · replace hZ9 := ite_f hZ9 c6
    refine lv_iload_n hx hb dX9_waitsAmong_12 rfl (lv_at hl 2 rfl) ?_
    refine lv_iload_n hx hb dX9_waitsAmong_13 rfl (lv_at hl 3 rfl) ?_
    refine lv_icmp_ne (tgt := 19) hx hb dX9_waitsAmong_14 (by decide) (fun c7 => ?_) (fun c7 => ?_)
    · replace c7 : ¬ (av = bv) := fun q9 => c7 ((nI_eq (a := av) (b := bv) (by omega) (by omega)).mpr q9)
      replace hZ9 := ite_f hZ9 c7
      refine lv_aload_n hx hb dX9_waitsAmong_19 rfl (lv_at hl 1 rfl) ?_
      refine lv_iload_n hx hb dX9_waitsAmong_20 rfl (lv_at hl 2 rfl) ?_
      refine va_iald (n := 40) (f := F 25) hx hb hK hP 21 20 rfl rfl (vp_in_nI (n := av) (by omega) (by decide)) dX9_waitsAmong_21 ?_
      refine p1_topr (v := .int x1) (congrArg Value.int ex1.symm) ?_
      refine lv_iconst (v := 1) hx hb dX9_waitsAmong_22 (by decide) ?_
      refine lv_icmp_ne (tgt := 69) hx hb dX9_waitsAmong_23 (by decide) (fun c9 => ?_) (fun c9 => ?_)
      · replace hZ9 := ite_f hZ9 c9
        refine lv_aload_n hx hb dX9_waitsAmong_69 rfl (lv_at hl 1 rfl) ?_
        refine lv_iload_n hx hb dX9_waitsAmong_70 rfl (lv_at hl 3 rfl) ?_
        refine va_iald (n := 40) (f := F 25) hx hb hK hP 21 20 rfl rfl (vp_in_nI (n := bv) (by omega) (by decide)) dX9_waitsAmong_71 ?_
        refine p1_topr (v := .int x2) (congrArg Value.int ex2.symm) ?_
        refine lv_iconst (v := 2) hx hb dX9_waitsAmong_72 (by decide) ?_
        refine lv_icmp_ne (tgt := 100) hx hb dX9_waitsAmong_73 (by decide) (fun c11 => ?_) (fun c11 => ?_)
        · replace hZ9 := ite_f hZ9 c11
          refine lv_iconst (v := 0) hx hb dX9_waitsAmong_100 (by decide) ?_
          exact W.zret (v := 0) hx hb hr (by decide) (fun t ht hW => ⟨⟨0, (F, V), rfl, ⟨rfl, rfl, ⟨hZ9.symm.trans hR0, Or.inl rfl⟩⟩, by rw [ht]; exact hP, hD⟩, hS.F ht⟩) hS.2.2 dX9_waitsAmong_101
        · replace hZ9 := ite_t hZ9 c11
          refine lv_aload_n hx hb dX9_waitsAmong_76 rfl (lv_at hl 0 rfl) ?_
          refine lv_iconst (v := 0) hx hb dX9_waitsAmong_77 (by decide) ?_
          refine lv_iload_n hx hb dX9_waitsAmong_78 rfl (lv_at hl 3 rfl) ?_
          refine lv_iload_n hx hb dX9_waitsAmong_79 rfl (lv_at hl 2 rfl) ?_
          have hFc := mw_free hD hS hA
          refine va_calli (va_runV (As := [.int 0, .int (nI bv), .int (nI av)]) (rest := []) ⟨hx, hb, hml, hown, hts⟩ (c_w_has l dC dI h a k F V n (b) 0 bv av H.size hI.1 (by omega) (by omega) (by omega) (by omega)) (cwV 3 hts wc_w_waitsAmong_job_w_has_150 rfl rfl rfl (by decide +kernel) ⟨Nat.le_of_ble_eq_true rfl, Nat.le_of_ble_eq_true rfl⟩) ⟨fun a9 U g mk q => by obtain ⟨q0, q1, qP, qK, qD⟩ := q; exact ⟨q0, q1, qP, va_K.moved (u := U) (U := U.calling g mk a9) (Vm.Alike.refl U.vm) qK, qD⟩, va_recv hK hP (ci := 10) (q0 := 0) rfl rfl, fun U hU hW => ⟨rfl, by rw [hU], by rw [hU]; exact hP, va_K.moved hW.alike hK, hD.weaken (fun _ _ _ _ => trivial)⟩⟩ rfl rfl hl.1 rfl (lv_room (Nat.le_of_ble_eq_true rfl)) dX9_waitsAmong_80 ⟨Nat.le_of_ble_eq_true rfl, Nat.le_of_ble_eq_true rfl⟩) hS (fun q _ h => hFc q h) hFc (fun r12 u t H1 locs ht hvm hw hB hz1 hk1 hS => ?_)
          obtain ⟨F13, V14⟩ := u
          replace hP := hB.1
          rw [ht] at hP
          replace hD : va_D A (mW h a k F13 V14) := hB.2.weaken (fun _ q _ h9 => hFc q.1 h9)
          clear hB
          generalize H1 = H at hP hS ⊢
          replace hP : va_P (dC, dI) vwCl (mW h a k F13 V14) H := hP
          obtain ⟨hwF, hwV, hw⟩ : F13 = F ∧ V14 = V ∧ _ := hw
          rw [hwF, hwV] at hP hD
          obtain ⟨hw, hwe⟩ := hw
          replace hw : r12 = f_w_has n 0 bv av F := hw
          replace hZ9 := bnd_s hZ9 hw
          have br12 := hwe
          refine lv_if_ne (tgt := 96) hx hb dX9_waitsAmong_83 (by decide) (fun c15 => ?_) (fun c15 => ?_)
          · replace hZ9 := ite_f hZ9 c15
            refine lv_iconst (v := 1) hx hb dX9_waitsAmong_96 (by decide) ?_
            refine lv_goto (tgt := 101) hx hb dX9_waitsAmong_97 (by decide) ?_
            exact W.zret (v := 1) hx hb hr (by decide) (fun t ht hW => ⟨⟨1, (F, V), rfl, ⟨rfl, rfl, ⟨hZ9.symm.trans hR0, Or.inr rfl⟩⟩, by rw [ht]; exact hP, hD⟩, hS.F ht⟩) hS.2.2 dX9_waitsAmong_101
          · replace hZ9 := ite_t hZ9 c15
            refine lv_aload_n hx hb dX9_waitsAmong_86 rfl (lv_at hl 0 rfl) ?_
            refine lv_iconst (v := 2) hx hb dX9_waitsAmong_87 (by decide) ?_
            refine lv_iload_n hx hb dX9_waitsAmong_88 rfl (lv_at hl 3 rfl) ?_
            refine lv_iload_n hx hb dX9_waitsAmong_89 rfl (lv_at hl 2 rfl) ?_
            have hFc := mw_free hD hS hA
            refine va_calli (va_runV (As := [.int 2, .int (nI bv), .int (nI av)]) (rest := []) ⟨hx, hb, hml, hown, hts⟩ (c_w_has l dC dI h a k F V n (b) 2 bv av H.size hI.1 (by omega) (by omega) (by omega) (by omega)) (cwV 3 hts wc_w_waitsAmong_job_w_has_150 rfl rfl rfl (by decide +kernel) ⟨Nat.le_of_ble_eq_true rfl, Nat.le_of_ble_eq_true rfl⟩) ⟨fun a9 U g mk q => by obtain ⟨q0, q1, qP, qK, qD⟩ := q; exact ⟨q0, q1, qP, va_K.moved (u := U) (U := U.calling g mk a9) (Vm.Alike.refl U.vm) qK, qD⟩, va_recv hK hP (ci := 10) (q0 := 0) rfl rfl, fun U hU hW => ⟨rfl, by rw [hU], by rw [hU]; exact hP, va_K.moved hW.alike hK, hD.weaken (fun _ _ _ _ => trivial)⟩⟩ rfl rfl hl.1 rfl (lv_room (Nat.le_of_ble_eq_true rfl)) dX9_waitsAmong_90 ⟨Nat.le_of_ble_eq_true rfl, Nat.le_of_ble_eq_true rfl⟩) hS (fun q _ h => hFc q h) hFc (fun r16 u t H1 locs ht hvm hw hB hz1 hk1 hS => ?_)
            obtain ⟨F17, V18⟩ := u
            replace hP := hB.1
            rw [ht] at hP
            replace hD : va_D A (mW h a k F17 V18) := hB.2.weaken (fun _ q _ h9 => hFc q.1 h9)
            clear hB
            generalize H1 = H at hP hS ⊢
            replace hP : va_P (dC, dI) vwCl (mW h a k F17 V18) H := hP
            obtain ⟨hwF, hwV, hw⟩ : F17 = F ∧ V18 = V ∧ _ := hw
            rw [hwF, hwV] at hP hD
            obtain ⟨hw, hwe⟩ := hw
            replace hw : r16 = f_w_has n 2 bv av F := hw
            replace hZ9 := bnd_s hZ9 hw
            have br16 := hwe
            refine lv_if_eq (tgt := 100) hx hb dX9_waitsAmong_93 (by decide) (fun c19 => ?_) (fun c19 => ?_)
            · replace hZ9 := ite_t hZ9 c19
              refine lv_iconst (v := 0) hx hb dX9_waitsAmong_100 (by decide) ?_
              exact W.zret (v := 0) hx hb hr (by decide) (fun t ht hW => ⟨⟨0, (F, V), rfl, ⟨rfl, rfl, ⟨hZ9.symm.trans hR0, Or.inl rfl⟩⟩, by rw [ht]; exact hP, hD⟩, hS.F ht⟩) hS.2.2 dX9_waitsAmong_101
            · replace hZ9 := ite_f hZ9 c19
              refine lv_iconst (v := 1) hx hb dX9_waitsAmong_96 (by decide) ?_
              refine lv_goto (tgt := 101) hx hb dX9_waitsAmong_97 (by decide) ?_
              exact W.zret (v := 1) hx hb hr (by decide) (fun t ht hW => ⟨⟨1, (F, V), rfl, ⟨rfl, rfl, ⟨hZ9.symm.trans hR0, Or.inr rfl⟩⟩, by rw [ht]; exact hP, hD⟩, hS.F ht⟩) hS.2.2 dX9_waitsAmong_101
      · replace hZ9 := ite_t hZ9 c9
        refine lv_aload_n hx hb dX9_waitsAmong_26 rfl (lv_at hl 1 rfl) ?_
        refine lv_iload_n hx hb dX9_waitsAmong_27 rfl (lv_at hl 3 rfl) ?_
        refine va_iald (n := 40) (f := F 25) hx hb hK hP 21 20 rfl rfl (vp_in_nI (n := bv) (by omega) (by decide)) dX9_waitsAmong_28 ?_
        refine p1_topr (v := .int x2) (congrArg Value.int ex2.symm) ?_
        refine lv_iconst (v := 1) hx hb dX9_waitsAmong_29 (by decide) ?_
        refine lv_icmp_ne (tgt := 61) hx hb dX9_waitsAmong_30 (by decide) (fun c21 => ?_) (fun c21 => ?_)
        · replace hZ9 := ite_f hZ9 c21
          refine lv_aload_n hx hb dX9_waitsAmong_61 rfl (lv_at hl 0 rfl) ?_
          refine lv_iconst (v := 3) hx hb dX9_waitsAmong_62 (by decide) ?_
          refine lv_iload_n hx hb dX9_waitsAmong_63 rfl (lv_at hl 2 rfl) ?_
          refine lv_iload_n hx hb dX9_waitsAmong_64 rfl (lv_at hl 3 rfl) ?_
          have hFc := mw_free hD hS hA
          refine va_calli (va_runV (As := [.int 3, .int (nI av), .int (nI bv)]) (rest := []) ⟨hx, hb, hml, hown, hts⟩ (c_w_has l dC dI h a k F V n (b) 3 av bv H.size hI.1 (by omega) (by omega) (by omega) (by omega)) (cwV 3 hts wc_w_waitsAmong_job_w_has_150 rfl rfl rfl (by decide +kernel) ⟨Nat.le_of_ble_eq_true rfl, Nat.le_of_ble_eq_true rfl⟩) ⟨fun a9 U g mk q => by obtain ⟨q0, q1, qP, qK, qD⟩ := q; exact ⟨q0, q1, qP, va_K.moved (u := U) (U := U.calling g mk a9) (Vm.Alike.refl U.vm) qK, qD⟩, va_recv hK hP (ci := 10) (q0 := 0) rfl rfl, fun U hU hW => ⟨rfl, by rw [hU], by rw [hU]; exact hP, va_K.moved hW.alike hK, hD.weaken (fun _ _ _ _ => trivial)⟩⟩ rfl rfl hl.1 rfl (lv_room (Nat.le_of_ble_eq_true rfl)) dX9_waitsAmong_65 ⟨Nat.le_of_ble_eq_true rfl, Nat.le_of_ble_eq_true rfl⟩) hS (fun q _ h => hFc q h) hFc (fun r22 u t H1 locs ht hvm hw hB hz1 hk1 hS => ?_)
          obtain ⟨F23, V24⟩ := u
          replace hP := hB.1
          rw [ht] at hP
          replace hD : va_D A (mW h a k F23 V24) := hB.2.weaken (fun _ q _ h9 => hFc q.1 h9)
          clear hB
          generalize H1 = H at hP hS ⊢
          replace hP : va_P (dC, dI) vwCl (mW h a k F23 V24) H := hP
          obtain ⟨hwF, hwV, hw⟩ : F23 = F ∧ V24 = V ∧ _ := hw
          rw [hwF, hwV] at hP hD
          obtain ⟨hw, hwe⟩ := hw
          replace hw : r22 = f_w_has n 3 av bv F := hw
          replace hZ9 := bnd_s hZ9 hw
          have br22 := hwe
          exact W.zret (v := r22) hx hb hr (mw_nb br22) (fun t ht hW => ⟨⟨r22, (F, V), rfl, ⟨rfl, rfl, ⟨hZ9.symm.trans hR0, br22⟩⟩, by rw [ht]; exact hP, hD⟩, hS.F ht⟩) hS.2.2 dX9_waitsAmong_68
        · replace hZ9 := ite_t hZ9 c21
          refine lv_aload_n hx hb dX9_waitsAmong_33 rfl (lv_at hl 0 rfl) ?_
          refine lv_iconst (v := 0) hx hb dX9_waitsAmong_34 (by decide) ?_
          refine lv_iload_n hx hb dX9_waitsAmong_35 rfl (lv_at hl 2 rfl) ?_
          refine lv_iload_n hx hb dX9_waitsAmong_36 rfl (lv_at hl 3 rfl) ?_
          have hFc := mw_free hD hS hA
          refine va_calli (va_runV (As := [.int 0, .int (nI av), .int (nI bv)]) (rest := []) ⟨hx, hb, hml, hown, hts⟩ (c_w_has l dC dI h a k F V n (b) 0 av bv H.size hI.1 (by omega) (by omega) (by omega) (by omega)) (cwV 3 hts wc_w_waitsAmong_job_w_has_150 rfl rfl rfl (by decide +kernel) ⟨Nat.le_of_ble_eq_true rfl, Nat.le_of_ble_eq_true rfl⟩) ⟨fun a9 U g mk q => by obtain ⟨q0, q1, qP, qK, qD⟩ := q; exact ⟨q0, q1, qP, va_K.moved (u := U) (U := U.calling g mk a9) (Vm.Alike.refl U.vm) qK, qD⟩, va_recv hK hP (ci := 10) (q0 := 0) rfl rfl, fun U hU hW => ⟨rfl, by rw [hU], by rw [hU]; exact hP, va_K.moved hW.alike hK, hD.weaken (fun _ _ _ _ => trivial)⟩⟩ rfl rfl hl.1 rfl (lv_room (Nat.le_of_ble_eq_true rfl)) dX9_waitsAmong_37 ⟨Nat.le_of_ble_eq_true rfl, Nat.le_of_ble_eq_true rfl⟩) hS (fun q _ h => hFc q h) hFc (fun r25 u t H1 locs ht hvm hw hB hz1 hk1 hS => ?_)
          obtain ⟨F26, V27⟩ := u
          replace hP := hB.1
          rw [ht] at hP
          replace hD : va_D A (mW h a k F26 V27) := hB.2.weaken (fun _ q _ h9 => hFc q.1 h9)
          clear hB
          generalize H1 = H at hP hS ⊢
          replace hP : va_P (dC, dI) vwCl (mW h a k F26 V27) H := hP
          obtain ⟨hwF, hwV, hw⟩ : F26 = F ∧ V27 = V ∧ _ := hw
          rw [hwF, hwV] at hP hD
          obtain ⟨hw, hwe⟩ := hw
          replace hw : r25 = f_w_has n 0 av bv F := hw
          replace hZ9 := bnd_s hZ9 hw
          have br25 := hwe
          refine lv_if_ne (tgt := 53) hx hb dX9_waitsAmong_40 (by decide) (fun c28 => ?_) (fun c28 => ?_)
          · replace hZ9 := ite_f hZ9 c28
            refine lv_iconst (v := 1) hx hb dX9_waitsAmong_53 (by decide) ?_
            refine lv_goto (tgt := 68) hx hb dX9_waitsAmong_54 (by decide) ?_
            exact W.zret (v := 1) hx hb hr (by decide) (fun t ht hW => ⟨⟨1, (F, V), rfl, ⟨rfl, rfl, ⟨hZ9.symm.trans hR0, Or.inr rfl⟩⟩, by rw [ht]; exact hP, hD⟩, hS.F ht⟩) hS.2.2 dX9_waitsAmong_68
          · replace hZ9 := ite_t hZ9 c28
            refine lv_aload_n hx hb dX9_waitsAmong_43 rfl (lv_at hl 0 rfl) ?_
            refine lv_iconst (v := 2) hx hb dX9_waitsAmong_44 (by decide) ?_
            refine lv_iload_n hx hb dX9_waitsAmong_45 rfl (lv_at hl 2 rfl) ?_
            refine lv_iload_n hx hb dX9_waitsAmong_46 rfl (lv_at hl 3 rfl) ?_
            have hFc := mw_free hD hS hA
            refine va_calli (va_runV (As := [.int 2, .int (nI av), .int (nI bv)]) (rest := []) ⟨hx, hb, hml, hown, hts⟩ (c_w_has l dC dI h a k F V n (b) 2 av bv H.size hI.1 (by omega) (by omega) (by omega) (by omega)) (cwV 3 hts wc_w_waitsAmong_job_w_has_150 rfl rfl rfl (by decide +kernel) ⟨Nat.le_of_ble_eq_true rfl, Nat.le_of_ble_eq_true rfl⟩) ⟨fun a9 U g mk q => by obtain ⟨q0, q1, qP, qK, qD⟩ := q; exact ⟨q0, q1, qP, va_K.moved (u := U) (U := U.calling g mk a9) (Vm.Alike.refl U.vm) qK, qD⟩, va_recv hK hP (ci := 10) (q0 := 0) rfl rfl, fun U hU hW => ⟨rfl, by rw [hU], by rw [hU]; exact hP, va_K.moved hW.alike hK, hD.weaken (fun _ _ _ _ => trivial)⟩⟩ rfl rfl hl.1 rfl (lv_room (Nat.le_of_ble_eq_true rfl)) dX9_waitsAmong_47 ⟨Nat.le_of_ble_eq_true rfl, Nat.le_of_ble_eq_true rfl⟩) hS (fun q _ h => hFc q h) hFc (fun r29 u t H1 locs ht hvm hw hB hz1 hk1 hS => ?_)
            obtain ⟨F30, V31⟩ := u
            replace hP := hB.1
            rw [ht] at hP
            replace hD : va_D A (mW h a k F30 V31) := hB.2.weaken (fun _ q _ h9 => hFc q.1 h9)
            clear hB
            generalize H1 = H at hP hS ⊢
            replace hP : va_P (dC, dI) vwCl (mW h a k F30 V31) H := hP
            obtain ⟨hwF, hwV, hw⟩ : F30 = F ∧ V31 = V ∧ _ := hw
            rw [hwF, hwV] at hP hD
            obtain ⟨hw, hwe⟩ := hw
            replace hw : r29 = f_w_has n 2 av bv F := hw
            replace hZ9 := bnd_s hZ9 hw
            have br29 := hwe
            refine lv_if_eq (tgt := 57) hx hb dX9_waitsAmong_50 (by decide) (fun c32 => ?_) (fun c32 => ?_)
            · replace hZ9 := ite_t hZ9 c32
              refine lv_iconst (v := 0) hx hb dX9_waitsAmong_57 (by decide) ?_
              refine lv_goto (tgt := 68) hx hb dX9_waitsAmong_58 (by decide) ?_
              exact W.zret (v := 0) hx hb hr (by decide) (fun t ht hW => ⟨⟨0, (F, V), rfl, ⟨rfl, rfl, ⟨hZ9.symm.trans hR0, Or.inl rfl⟩⟩, by rw [ht]; exact hP, hD⟩, hS.F ht⟩) hS.2.2 dX9_waitsAmong_68
            · replace hZ9 := ite_f hZ9 c32
              refine lv_iconst (v := 1) hx hb dX9_waitsAmong_53 (by decide) ?_
              refine lv_goto (tgt := 68) hx hb dX9_waitsAmong_54 (by decide) ?_
              exact W.zret (v := 1) hx hb hr (by decide) (fun t ht hW => ⟨⟨1, (F, V), rfl, ⟨rfl, rfl, ⟨hZ9.symm.trans hR0, Or.inr rfl⟩⟩, by rw [ht]; exact hP, hD⟩, hS.F ht⟩) hS.2.2 dX9_waitsAmong_68
    · replace c7 : av = bv := (nI_eq (a := av) (b := bv) (by omega) (by omega)).mp c7
      replace hZ9 := ite_t hZ9 c7
      refine lv_iconst (v := 0) hx hb dX9_waitsAmong_17 (by decide) ?_
      exact W.zret (v := 0) hx hb hr (by decide) (fun t ht hW => ⟨⟨0, (F, V), rfl, ⟨rfl, rfl, ⟨hZ9.symm.trans hR0, Or.inl rfl⟩⟩, by rw [ht]; exact hP, hD⟩, hS.F ht⟩) hS.2.2 dX9_waitsAmong_18
def f_w_waitsAmong_newJob (n : Nat) (av : Nat) (bv : Nat) (F : Nat → Nat → Int32) : Int32 := bnd (F 30 (nI av).toNatClampNeg) (fun (x1 : Int32) => bnd (F 30 (nI bv).toNatClampNeg) (fun (x2 : Int32) => bnd (f_w_waitsFor n x1 x2 ) (fun (r3 : Int32) => if r3 = (0 : Int32) then (((0 : Int32))) else (if av = bv then (((0 : Int32))) else (if x1 = (1 : Int32) then (if x2 = (1 : Int32) then (bnd (f_w_has n 0 av bv F) (fun (r25 : Int32) => if r25 = (0 : Int32) then (bnd (f_w_has n 2 av bv F) (fun (r29 : Int32) => if r29 = (0 : Int32) then (((0 : Int32))) else (((1 : Int32))))) else (((1 : Int32))))) else (bnd (f_w_has n 3 av bv F) (fun (r22 : Int32) => (r22)))) else (if x2 = (2 : Int32) then (bnd (f_w_has n 0 bv av F) (fun (r12 : Int32) => if r12 = (0 : Int32) then (bnd (f_w_has n 2 bv av F) (fun (r16 : Int32) => if r16 = (0 : Int32) then (((0 : Int32))) else (((1 : Int32))))) else (((1 : Int32))))) else (((0 : Int32)))))))))
def wq_w_waitsAmong_newJob : List Cond := ([.code yX9_waitsAmong cX9_waitsAmong 4 (some .boolean), .methodLink RX9 163 yX9_waitsFor, .static yX9_waitsFor, .initialized RX9, .methodLink RX9 150 yX9_has, .instanceMethod yX9_has, .selects RX9 yX9_has yX9_has] : List Cond) ++ (wsX90 ++ (wq_w_waitsFor ++ (wq_w_has)))
set_option maxRecDepth 20000 in
theorem wi_w_waitsAmong_newJob : ∀ w ∈ wq_w_waitsAmong_newJob, w ∈ lw_tbl := List.forall_mem_append.mpr ⟨(wix [1086, 1087, 1088, 69, 1023, 1025, 35] rfl), List.forall_mem_append.mpr ⟨inKX9, List.forall_mem_append.mpr ⟨wi_w_waitsFor, wi_w_has⟩⟩⟩
set_option maxRecDepth 20000 in
theorem wg_w_waitsAmong_newJob : GoodIn wq_w_waitsAmong_newJob wq_w_waitsAmong_newJob := goodIn_sub (fun _ h => h) (by decide +kernel)
set_option maxRecDepth 20000 in
theorem wc_w_waitsAmong_newJob_w_waitsFor_163 : GoodIn wq_w_waitsAmong_newJob (va_wsS RX9 163 yX9_waitsFor wq_w_waitsFor) := goodIn_app (goodIn_of _ (by decide +kernel)) (fun w h => ⟨List.mem_append_right _ (List.mem_append_right _ (List.mem_append_left _ (h))), (wg_w_waitsFor w h).2⟩)
set_option maxRecDepth 20000 in
theorem wc_w_waitsAmong_newJob_w_has_150 : GoodIn wq_w_waitsAmong_newJob (wsV RX9 150 RX9 yX9_has wq_w_has) := goodIn_app (goodIn_of _ (by decide +kernel)) (fun w h => ⟨List.mem_append_right _ (List.mem_append_right _ (List.mem_append_right _ (h))), (wg_w_has w h).2⟩)
def rm_w_waitsAmong_newJob : Room := { frames := 1, cells := 0, slots := 0, locals := 23 }
set_option maxHeartbeats 4000000 in
set_option maxRecDepth 100000 in
theorem c_w_waitsAmong_newJob (l : Launch) (dC : Nat → ClassId) (dI : Nat → Nat → Nat) (h : Nat) (a : Nat → Nat) (k : Nat → ClassId) (F : Nat → Nat → Int32) (V : Nat → Int32) (n b : Nat) (av : Nat) (bv : Nat) (sz : Nat) (hI0 : InvM n b F V) (hb0 : b + 0 < 2147483648) (hp0 : av < n) (hp1 : bv < n) : Met l yX9_waitsAmong wq_w_waitsAmong_newJob rm_w_waitsAmong_newJob (va_Pc [.ref h, .ref (a 30), .int (nI av), .int (nI bv)] (fun U => U.heap.size = sz ∧ va_P (dC, dI) vwCl (mW h a k F V) U.heap ∧ va_K (dC, dI) vwCl (mT k) U ∧ va_D (fun _ => True) (mW h a k F V))) (va_Qi (fun (r : Int32) (u : (Nat → Nat → Int32) × (Nat → Int32)) => u.1 = F ∧ u.2 = V ∧ ((r = f_w_waitsAmong_newJob n av bv F) ∧ (r = 0 ∨ r = 1))) (fun (u : (Nat → Nat → Int32) × (Nat → Int32)) (t : State) => va_P (dC, dI) vwCl (mW h a k u.1 u.2) t.heap ∧ va_D (va_A (mW h a k F V) sz) (mW h a k u.1 u.2)) (va_A (mW h a k F V) sz)) 0 0 (va_A (mW h a k F V) sz) := by
  have hn : n ≤ 40 := hI0.1
  have hI : StM n b F V F V := StM.rf hI0
  have hU : ∀ j : Nat, j ∉ ([] : List Nat) → F j = F j := fun _ _ => rfl
  have hV : ∀ j : Nat, j ∉ ([] : List Nat) → V j = V j := fun _ _ => rfl
  refine Met.ofW (cc := cX9_waitsAmong) (maxL := 4) (ret := (some .boolean)) (by decide) rfl ?_
  intro p e s m args below meth c s₁ B hml hv
  obtain ⟨rfl, hsz, hP, hK, hD0⟩ := hv
  have hx := B.exec
  have hb := B.bytes
  have hr := B.returns
  have hts := atoms_spec (ws := wq_w_waitsAmong_newJob) B.pre
  have hown : s.vm.findClass RX9 = some m.cls := findClass_of_methodNamed B.named
  have hlocks := B.notSynchronized
  subst hsz
  have hD := hD0.self (sz := s.heap.size)
  generalize hAe : va_A (mW h a k F V) s.heap.size = A at hD ⊢
  have hA : ∀ q : Nat, s.heap.size ≤ q → A q := fun q h => by rw [← hAe]; exact Or.inr h
  have hS : va_S A s.heap s.heap [] := va_S.rf
  have hl := lv_entry ([.ref h, .ref (a 30), .int (nI av), .int (nI bv)]) (n := 4) (Nat.le_of_ble_eq_true rfl)
  rw [lg_entry_eq]
  generalize (lg_sl ([.ref h, .ref (a 30), .int (nI av), .int (nI bv)]) ++ List.replicate (4 - (lg_sl ([.ref h, .ref (a 30), .int (nI av), .int (nI bv)])).length) Slot.unset).toArray = ls at hl ⊢
  have hl : lv_has ls 4 [(0, .ref h), (1, .ref (a 30)), (2, .int (nI av)), (3, .int (nI bv))] := hl
  obtain ⟨RES, hR0⟩ : ∃ R9, R9 = f_w_waitsAmong_newJob n av bv F := ⟨_, rfl⟩
  have hZ9 := hR0
  unfold f_w_waitsAmong_newJob at hZ9
  refine lv_aload_n hx hb dX9_waitsAmong_0 rfl (lv_at hl 1 rfl) ?_
  refine lv_iload_n hx hb dX9_waitsAmong_1 rfl (lv_at hl 2 rfl) ?_
  refine va_iald (n := 40) (f := F 30) hx hb hK hP 26 25 rfl rfl (vp_in_nI (n := av) (by omega) (by decide)) dX9_waitsAmong_2 ?_
  refine lv_topi (fun x1 ex1 => ?_)
  replace hZ9 := bnd_s hZ9 ex1
  refine lv_aload_n hx hb dX9_waitsAmong_3 rfl (lv_at hl 1 rfl) ?_
  refine lv_iload_n hx hb dX9_waitsAmong_4 rfl (lv_at hl 3 rfl) ?_
  refine va_iald (n := 40) (f := F 30) hx hb hK hP 26 25 rfl rfl (vp_in_nI (n := bv) (by omega) (by decide)) dX9_waitsAmong_5 ?_
  refine lv_topi (fun x2 ex2 => ?_)
  replace hZ9 := bnd_s hZ9 ex2
  have hFc := mw_free hD hS hA
  refine va_calli (va_runS (As := [.int x1, .int x2]) (rest := []) ⟨hx, hb, hml, hown, hts⟩ (c_w_waitsFor l dC dI h a k F V n (b) x1 x2 s.heap.size hI.1 (by omega) ) (va_cwS 2 hts wc_w_waitsAmong_newJob_w_waitsFor_163 rfl rfl rfl (by decide +kernel) ⟨Nat.le_of_ble_eq_true rfl, Nat.le_of_ble_eq_true rfl⟩) ⟨fun a9 U g mk q => by obtain ⟨q0, q1, qP, qK, qD⟩ := q; exact ⟨q0, q1, qP, va_K.moved (u := U) (U := U.calling g mk a9) (Vm.Alike.refl U.vm) qK, qD⟩, fun U hU hW => ⟨rfl, by rw [hU], by rw [hU]; exact hP, va_K.moved hW.alike hK, hD.weaken (fun _ _ _ _ => trivial)⟩⟩ rfl rfl hl.1 rfl (lv_room (Nat.le_of_ble_eq_true rfl)) dX9_waitsAmong_6 ⟨Nat.le_of_ble_eq_true rfl, Nat.le_of_ble_eq_true rfl⟩) hS (fun q _ h => hFc q h) hFc (fun r3 u t H1 locs ht hvm hw hB hz1 hk1 hS => ?_)
  obtain ⟨F4, V5⟩ := u
  replace hP := hB.1
  rw [ht] at hP
  replace hD : va_D A (mW h a k F4 V5) := hB.2.weaken (fun _ q _ h9 => hFc q.1 h9)
  clear hB
  generalize H1 = H at hP hS ⊢
  replace hP : va_P (dC, dI) vwCl (mW h a k F4 V5) H := hP
  obtain ⟨hwF, hwV, hw⟩ : F4 = F ∧ V5 = V ∧ _ := hw
  rw [hwF, hwV] at hP hD
  replace hw : r3 = f_w_waitsFor n x1 x2  := hw
  replace hZ9 := bnd_s hZ9 hw
  refine lv_if_eq (tgt := 17) hx hb dX9_waitsAmong_9 (by decide) (fun c6 => ?_) (fun c6 => ?_)
  · replace hZ9 := ite_t hZ9 c6
    refine lv_iconst (v := 0) hx hb dX9_waitsAmong_17 (by decide) ?_
    exact W.zret (v := 0) hx hb hr (by decide) (fun t ht hW => ⟨⟨0, (F, V), rfl, ⟨rfl, rfl, ⟨hZ9.symm.trans hR0, Or.inl rfl⟩⟩, by rw [ht]; exact hP, hD⟩, hS.F ht⟩) hS.2.2 dX9_waitsAmong_18
  · replace hZ9 := ite_f hZ9 c6
    refine lv_iload_n hx hb dX9_waitsAmong_12 rfl (lv_at hl 2 rfl) ?_
    refine lv_iload_n hx hb dX9_waitsAmong_13 rfl (lv_at hl 3 rfl) ?_
    refine lv_icmp_ne (tgt := 19) hx hb dX9_waitsAmong_14 (by decide) (fun c7 => ?_) (fun c7 => ?_)
    · replace c7 : ¬ (av = bv) := fun q9 => c7 ((nI_eq (a := av) (b := bv) (by omega) (by omega)).mpr q9)
      replace hZ9 := ite_f hZ9 c7
      refine lv_aload_n hx hb dX9_waitsAmong_19 rfl (lv_at hl 1 rfl) ?_
      refine lv_iload_n hx hb dX9_waitsAmong_20 rfl (lv_at hl 2 rfl) ?_
      refine va_iald (n := 40) (f := F 30) hx hb hK hP 26 25 rfl rfl (vp_in_nI (n := av) (by omega) (by decide)) dX9_waitsAmong_21 ?_
      refine p1_topr (v := .int x1) (congrArg Value.int ex1.symm) ?_
      refine lv_iconst (v := 1) hx hb dX9_waitsAmong_22 (by decide) ?_
      refine lv_icmp_ne (tgt := 69) hx hb dX9_waitsAmong_23 (by decide) (fun c9 => ?_) (fun c9 => ?_)
      · replace hZ9 := ite_f hZ9 c9
        refine lv_aload_n hx hb dX9_waitsAmong_69 rfl (lv_at hl 1 rfl) ?_
        refine lv_iload_n hx hb dX9_waitsAmong_70 rfl (lv_at hl 3 rfl) ?_
        refine va_iald (n := 40) (f := F 30) hx hb hK hP 26 25 rfl rfl (vp_in_nI (n := bv) (by omega) (by decide)) dX9_waitsAmong_71 ?_
        refine p1_topr (v := .int x2) (congrArg Value.int ex2.symm) ?_
        refine lv_iconst (v := 2) hx hb dX9_waitsAmong_72 (by decide) ?_
        refine lv_icmp_ne (tgt := 100) hx hb dX9_waitsAmong_73 (by decide) (fun c11 => ?_) (fun c11 => ?_)
        · replace hZ9 := ite_f hZ9 c11
          refine lv_iconst (v := 0) hx hb dX9_waitsAmong_100 (by decide) ?_
          exact W.zret (v := 0) hx hb hr (by decide) (fun t ht hW => ⟨⟨0, (F, V), rfl, ⟨rfl, rfl, ⟨hZ9.symm.trans hR0, Or.inl rfl⟩⟩, by rw [ht]; exact hP, hD⟩, hS.F ht⟩) hS.2.2 dX9_waitsAmong_101
        · replace hZ9 := ite_t hZ9 c11
          refine lv_aload_n hx hb dX9_waitsAmong_76 rfl (lv_at hl 0 rfl) ?_
          refine lv_iconst (v := 0) hx hb dX9_waitsAmong_77 (by decide) ?_
          refine lv_iload_n hx hb dX9_waitsAmong_78 rfl (lv_at hl 3 rfl) ?_
          refine lv_iload_n hx hb dX9_waitsAmong_79 rfl (lv_at hl 2 rfl) ?_
          have hFc := mw_free hD hS hA
          refine va_calli (va_runV (As := [.int 0, .int (nI bv), .int (nI av)]) (rest := []) ⟨hx, hb, hml, hown, hts⟩ (c_w_has l dC dI h a k F V n (b) 0 bv av H.size hI.1 (by omega) (by omega) (by omega) (by omega)) (cwV 3 hts wc_w_waitsAmong_newJob_w_has_150 rfl rfl rfl (by decide +kernel) ⟨Nat.le_of_ble_eq_true rfl, Nat.le_of_ble_eq_true rfl⟩) ⟨fun a9 U g mk q => by obtain ⟨q0, q1, qP, qK, qD⟩ := q; exact ⟨q0, q1, qP, va_K.moved (u := U) (U := U.calling g mk a9) (Vm.Alike.refl U.vm) qK, qD⟩, va_recv hK hP (ci := 10) (q0 := 0) rfl rfl, fun U hU hW => ⟨rfl, by rw [hU], by rw [hU]; exact hP, va_K.moved hW.alike hK, hD.weaken (fun _ _ _ _ => trivial)⟩⟩ rfl rfl hl.1 rfl (lv_room (Nat.le_of_ble_eq_true rfl)) dX9_waitsAmong_80 ⟨Nat.le_of_ble_eq_true rfl, Nat.le_of_ble_eq_true rfl⟩) hS (fun q _ h => hFc q h) hFc (fun r12 u t H1 locs ht hvm hw hB hz1 hk1 hS => ?_)
          obtain ⟨F13, V14⟩ := u
          replace hP := hB.1
          rw [ht] at hP
          replace hD : va_D A (mW h a k F13 V14) := hB.2.weaken (fun _ q _ h9 => hFc q.1 h9)
          clear hB
          generalize H1 = H at hP hS ⊢
          replace hP : va_P (dC, dI) vwCl (mW h a k F13 V14) H := hP
          obtain ⟨hwF, hwV, hw⟩ : F13 = F ∧ V14 = V ∧ _ := hw
          rw [hwF, hwV] at hP hD
          obtain ⟨hw, hwe⟩ := hw
          replace hw : r12 = f_w_has n 0 bv av F := hw
          replace hZ9 := bnd_s hZ9 hw
          have br12 := hwe
          refine lv_if_ne (tgt := 96) hx hb dX9_waitsAmong_83 (by decide) (fun c15 => ?_) (fun c15 => ?_)
          · replace hZ9 := ite_f hZ9 c15
            refine lv_iconst (v := 1) hx hb dX9_waitsAmong_96 (by decide) ?_
            refine lv_goto (tgt := 101) hx hb dX9_waitsAmong_97 (by decide) ?_
            exact W.zret (v := 1) hx hb hr (by decide) (fun t ht hW => ⟨⟨1, (F, V), rfl, ⟨rfl, rfl, ⟨hZ9.symm.trans hR0, Or.inr rfl⟩⟩, by rw [ht]; exact hP, hD⟩, hS.F ht⟩) hS.2.2 dX9_waitsAmong_101
          · replace hZ9 := ite_t hZ9 c15
            refine lv_aload_n hx hb dX9_waitsAmong_86 rfl (lv_at hl 0 rfl) ?_
            refine lv_iconst (v := 2) hx hb dX9_waitsAmong_87 (by decide) ?_
            refine lv_iload_n hx hb dX9_waitsAmong_88 rfl (lv_at hl 3 rfl) ?_
            refine lv_iload_n hx hb dX9_waitsAmong_89 rfl (lv_at hl 2 rfl) ?_
            have hFc := mw_free hD hS hA
            refine va_calli (va_runV (As := [.int 2, .int (nI bv), .int (nI av)]) (rest := []) ⟨hx, hb, hml, hown, hts⟩ (c_w_has l dC dI h a k F V n (b) 2 bv av H.size hI.1 (by omega) (by omega) (by omega) (by omega)) (cwV 3 hts wc_w_waitsAmong_newJob_w_has_150 rfl rfl rfl (by decide +kernel) ⟨Nat.le_of_ble_eq_true rfl, Nat.le_of_ble_eq_true rfl⟩) ⟨fun a9 U g mk q => by obtain ⟨q0, q1, qP, qK, qD⟩ := q; exact ⟨q0, q1, qP, va_K.moved (u := U) (U := U.calling g mk a9) (Vm.Alike.refl U.vm) qK, qD⟩, va_recv hK hP (ci := 10) (q0 := 0) rfl rfl, fun U hU hW => ⟨rfl, by rw [hU], by rw [hU]; exact hP, va_K.moved hW.alike hK, hD.weaken (fun _ _ _ _ => trivial)⟩⟩ rfl rfl hl.1 rfl (lv_room (Nat.le_of_ble_eq_true rfl)) dX9_waitsAmong_90 ⟨Nat.le_of_ble_eq_true rfl, Nat.le_of_ble_eq_true rfl⟩) hS (fun q _ h => hFc q h) hFc (fun r16 u t H1 locs ht hvm hw hB hz1 hk1 hS => ?_)
            obtain ⟨F17, V18⟩ := u
            replace hP := hB.1
            rw [ht] at hP
            replace hD : va_D A (mW h a k F17 V18) := hB.2.weaken (fun _ q _ h9 => hFc q.1 h9)
            clear hB
            generalize H1 = H at hP hS ⊢
            replace hP : va_P (dC, dI) vwCl (mW h a k F17 V18) H := hP
            obtain ⟨hwF, hwV, hw⟩ : F17 = F ∧ V18 = V ∧ _ := hw
            rw [hwF, hwV] at hP hD
            obtain ⟨hw, hwe⟩ := hw
            replace hw : r16 = f_w_has n 2 bv av F := hw
            replace hZ9 := bnd_s hZ9 hw
            have br16 := hwe
            refine lv_if_eq (tgt := 100) hx hb dX9_waitsAmong_93 (by decide) (fun c19 => ?_) (fun c19 => ?_)
            · replace hZ9 := ite_t hZ9 c19
              refine lv_iconst (v := 0) hx hb dX9_waitsAmong_100 (by decide) ?_
              exact W.zret (v := 0) hx hb hr (by decide) (fun t ht hW => ⟨⟨0, (F, V), rfl, ⟨rfl, rfl, ⟨hZ9.symm.trans hR0, Or.inl rfl⟩⟩, by rw [ht]; exact hP, hD⟩, hS.F ht⟩) hS.2.2 dX9_waitsAmong_101
            · replace hZ9 := ite_f hZ9 c19
              refine lv_iconst (v := 1) hx hb dX9_waitsAmong_96 (by decide) ?_
              refine lv_goto (tgt := 101) hx hb dX9_waitsAmong_97 (by decide) ?_
              exact W.zret (v := 1) hx hb hr (by decide) (fun t ht hW => ⟨⟨1, (F, V), rfl, ⟨rfl, rfl, ⟨hZ9.symm.trans hR0, Or.inr rfl⟩⟩, by rw [ht]; exact hP, hD⟩, hS.F ht⟩) hS.2.2 dX9_waitsAmong_101
      · replace hZ9 := ite_t hZ9 c9
        refine lv_aload_n hx hb dX9_waitsAmong_26 rfl (lv_at hl 1 rfl) ?_
        refine lv_iload_n hx hb dX9_waitsAmong_27 rfl (lv_at hl 3 rfl) ?_
        refine va_iald (n := 40) (f := F 30) hx hb hK hP 26 25 rfl rfl (vp_in_nI (n := bv) (by omega) (by decide)) dX9_waitsAmong_28 ?_
        refine p1_topr (v := .int x2) (congrArg Value.int ex2.symm) ?_
        refine lv_iconst (v := 1) hx hb dX9_waitsAmong_29 (by decide) ?_
        refine lv_icmp_ne (tgt := 61) hx hb dX9_waitsAmong_30 (by decide) (fun c21 => ?_) (fun c21 => ?_)
        · replace hZ9 := ite_f hZ9 c21
          refine lv_aload_n hx hb dX9_waitsAmong_61 rfl (lv_at hl 0 rfl) ?_
          refine lv_iconst (v := 3) hx hb dX9_waitsAmong_62 (by decide) ?_
          refine lv_iload_n hx hb dX9_waitsAmong_63 rfl (lv_at hl 2 rfl) ?_
          refine lv_iload_n hx hb dX9_waitsAmong_64 rfl (lv_at hl 3 rfl) ?_
          have hFc := mw_free hD hS hA
          refine va_calli (va_runV (As := [.int 3, .int (nI av), .int (nI bv)]) (rest := []) ⟨hx, hb, hml, hown, hts⟩ (c_w_has l dC dI h a k F V n (b) 3 av bv H.size hI.1 (by omega) (by omega) (by omega) (by omega)) (cwV 3 hts wc_w_waitsAmong_newJob_w_has_150 rfl rfl rfl (by decide +kernel) ⟨Nat.le_of_ble_eq_true rfl, Nat.le_of_ble_eq_true rfl⟩) ⟨fun a9 U g mk q => by obtain ⟨q0, q1, qP, qK, qD⟩ := q; exact ⟨q0, q1, qP, va_K.moved (u := U) (U := U.calling g mk a9) (Vm.Alike.refl U.vm) qK, qD⟩, va_recv hK hP (ci := 10) (q0 := 0) rfl rfl, fun U hU hW => ⟨rfl, by rw [hU], by rw [hU]; exact hP, va_K.moved hW.alike hK, hD.weaken (fun _ _ _ _ => trivial)⟩⟩ rfl rfl hl.1 rfl (lv_room (Nat.le_of_ble_eq_true rfl)) dX9_waitsAmong_65 ⟨Nat.le_of_ble_eq_true rfl, Nat.le_of_ble_eq_true rfl⟩) hS (fun q _ h => hFc q h) hFc (fun r22 u t H1 locs ht hvm hw hB hz1 hk1 hS => ?_)
          obtain ⟨F23, V24⟩ := u
          replace hP := hB.1
          rw [ht] at hP
          replace hD : va_D A (mW h a k F23 V24) := hB.2.weaken (fun _ q _ h9 => hFc q.1 h9)
          clear hB
          generalize H1 = H at hP hS ⊢
          replace hP : va_P (dC, dI) vwCl (mW h a k F23 V24) H := hP
          obtain ⟨hwF, hwV, hw⟩ : F23 = F ∧ V24 = V ∧ _ := hw
          rw [hwF, hwV] at hP hD
          obtain ⟨hw, hwe⟩ := hw
          replace hw : r22 = f_w_has n 3 av bv F := hw
          replace hZ9 := bnd_s hZ9 hw
          have br22 := hwe
          exact W.zret (v := r22) hx hb hr (mw_nb br22) (fun t ht hW => ⟨⟨r22, (F, V), rfl, ⟨rfl, rfl, ⟨hZ9.symm.trans hR0, br22⟩⟩, by rw [ht]; exact hP, hD⟩, hS.F ht⟩) hS.2.2 dX9_waitsAmong_68
        · replace hZ9 := ite_t hZ9 c21
          refine lv_aload_n hx hb dX9_waitsAmong_33 rfl (lv_at hl 0 rfl) ?_
          refine lv_iconst (v := 0) hx hb dX9_waitsAmong_34 (by decide) ?_
          refine lv_iload_n hx hb dX9_waitsAmong_35 rfl (lv_at hl 2 rfl) ?_
          refine lv_iload_n hx hb dX9_waitsAmong_36 rfl (lv_at hl 3 rfl) ?_
          have hFc := mw_free hD hS hA
          refine va_calli (va_runV (As := [.int 0, .int (nI av), .int (nI bv)]) (rest := []) ⟨hx, hb, hml, hown, hts⟩ (c_w_has l dC dI h a k F V n (b) 0 av bv H.size hI.1 (by omega) (by omega) (by omega) (by omega)) (cwV 3 hts wc_w_waitsAmong_newJob_w_has_150 rfl rfl rfl (by decide +kernel) ⟨Nat.le_of_ble_eq_true rfl, Nat.le_of_ble_eq_true rfl⟩) ⟨fun a9 U g mk q => by obtain ⟨q0, q1, qP, qK, qD⟩ := q; exact ⟨q0, q1, qP, va_K.moved (u := U) (U := U.calling g mk a9) (Vm.Alike.refl U.vm) qK, qD⟩, va_recv hK hP (ci := 10) (q0 := 0) rfl rfl, fun U hU hW => ⟨rfl, by rw [hU], by rw [hU]; exact hP, va_K.moved hW.alike hK, hD.weaken (fun _ _ _ _ => trivial)⟩⟩ rfl rfl hl.1 rfl (lv_room (Nat.le_of_ble_eq_true rfl)) dX9_waitsAmong_37 ⟨Nat.le_of_ble_eq_true rfl, Nat.le_of_ble_eq_true rfl⟩) hS (fun q _ h => hFc q h) hFc (fun r25 u t H1 locs ht hvm hw hB hz1 hk1 hS => ?_)
          obtain ⟨F26, V27⟩ := u
          replace hP := hB.1
          rw [ht] at hP
          replace hD : va_D A (mW h a k F26 V27) := hB.2.weaken (fun _ q _ h9 => hFc q.1 h9)
          clear hB
          generalize H1 = H at hP hS ⊢
          replace hP : va_P (dC, dI) vwCl (mW h a k F26 V27) H := hP
          obtain ⟨hwF, hwV, hw⟩ : F26 = F ∧ V27 = V ∧ _ := hw
          rw [hwF, hwV] at hP hD
          obtain ⟨hw, hwe⟩ := hw
          replace hw : r25 = f_w_has n 0 av bv F := hw
          replace hZ9 := bnd_s hZ9 hw
          have br25 := hwe
          refine lv_if_ne (tgt := 53) hx hb dX9_waitsAmong_40 (by decide) (fun c28 => ?_) (fun c28 => ?_)
          · replace hZ9 := ite_f hZ9 c28
            refine lv_iconst (v := 1) hx hb dX9_waitsAmong_53 (by decide) ?_
            refine lv_goto (tgt := 68) hx hb dX9_waitsAmong_54 (by decide) ?_
            exact W.zret (v := 1) hx hb hr (by decide) (fun t ht hW => ⟨⟨1, (F, V), rfl, ⟨rfl, rfl, ⟨hZ9.symm.trans hR0, Or.inr rfl⟩⟩, by rw [ht]; exact hP, hD⟩, hS.F ht⟩) hS.2.2 dX9_waitsAmong_68
          · replace hZ9 := ite_t hZ9 c28
            refine lv_aload_n hx hb dX9_waitsAmong_43 rfl (lv_at hl 0 rfl) ?_
            refine lv_iconst (v := 2) hx hb dX9_waitsAmong_44 (by decide) ?_
            refine lv_iload_n hx hb dX9_waitsAmong_45 rfl (lv_at hl 2 rfl) ?_
            refine lv_iload_n hx hb dX9_waitsAmong_46 rfl (lv_at hl 3 rfl) ?_
            have hFc := mw_free hD hS hA
            refine va_calli (va_runV (As := [.int 2, .int (nI av), .int (nI bv)]) (rest := []) ⟨hx, hb, hml, hown, hts⟩ (c_w_has l dC dI h a k F V n (b) 2 av bv H.size hI.1 (by omega) (by omega) (by omega) (by omega)) (cwV 3 hts wc_w_waitsAmong_newJob_w_has_150 rfl rfl rfl (by decide +kernel) ⟨Nat.le_of_ble_eq_true rfl, Nat.le_of_ble_eq_true rfl⟩) ⟨fun a9 U g mk q => by obtain ⟨q0, q1, qP, qK, qD⟩ := q; exact ⟨q0, q1, qP, va_K.moved (u := U) (U := U.calling g mk a9) (Vm.Alike.refl U.vm) qK, qD⟩, va_recv hK hP (ci := 10) (q0 := 0) rfl rfl, fun U hU hW => ⟨rfl, by rw [hU], by rw [hU]; exact hP, va_K.moved hW.alike hK, hD.weaken (fun _ _ _ _ => trivial)⟩⟩ rfl rfl hl.1 rfl (lv_room (Nat.le_of_ble_eq_true rfl)) dX9_waitsAmong_47 ⟨Nat.le_of_ble_eq_true rfl, Nat.le_of_ble_eq_true rfl⟩) hS (fun q _ h => hFc q h) hFc (fun r29 u t H1 locs ht hvm hw hB hz1 hk1 hS => ?_)
            obtain ⟨F30, V31⟩ := u
            replace hP := hB.1
            rw [ht] at hP
            replace hD : va_D A (mW h a k F30 V31) := hB.2.weaken (fun _ q _ h9 => hFc q.1 h9)
            clear hB
            generalize H1 = H at hP hS ⊢
            replace hP : va_P (dC, dI) vwCl (mW h a k F30 V31) H := hP
            obtain ⟨hwF, hwV, hw⟩ : F30 = F ∧ V31 = V ∧ _ := hw
            rw [hwF, hwV] at hP hD
            obtain ⟨hw, hwe⟩ := hw
            replace hw : r29 = f_w_has n 2 av bv F := hw
            replace hZ9 := bnd_s hZ9 hw
            have br29 := hwe
            refine lv_if_eq (tgt := 57) hx hb dX9_waitsAmong_50 (by decide) (fun c32 => ?_) (fun c32 => ?_)
            · replace hZ9 := ite_t hZ9 c32
              refine lv_iconst (v := 0) hx hb dX9_waitsAmong_57 (by decide) ?_
              refine lv_goto (tgt := 68) hx hb dX9_waitsAmong_58 (by decide) ?_
              exact W.zret (v := 0) hx hb hr (by decide) (fun t ht hW => ⟨⟨0, (F, V), rfl, ⟨rfl, rfl, ⟨hZ9.symm.trans hR0, Or.inl rfl⟩⟩, by rw [ht]; exact hP, hD⟩, hS.F ht⟩) hS.2.2 dX9_waitsAmong_68
            · replace hZ9 := ite_f hZ9 c32
              refine lv_iconst (v := 1) hx hb dX9_waitsAmong_53 (by decide) ?_
              refine lv_goto (tgt := 68) hx hb dX9_waitsAmong_54 (by decide) ?_
              exact W.zret (v := 1) hx hb hr (by decide) (fun t ht hW => ⟨⟨1, (F, V), rfl, ⟨rfl, rfl, ⟨hZ9.symm.trans hR0, Or.inr rfl⟩⟩, by rw [ht]; exact hP, hD⟩, hS.F ht⟩) hS.2.2 dX9_waitsAmong_68
    · replace c7 : av = bv := (nI_eq (a := av) (b := bv) (by omega) (by omega)).mp c7
      replace hZ9 := ite_t hZ9 c7
      refine lv_iconst (v := 0) hx hb dX9_waitsAmong_17 (by decide) ?_
      exact W.zret (v := 0) hx hb hr (by decide) (fun t ht hW => ⟨⟨0, (F, V), rfl, ⟨rfl, rfl, ⟨hZ9.symm.trans hR0, Or.inl rfl⟩⟩, by rw [ht]; exact hP, hD⟩, hS.F ht⟩) hS.2.2 dX9_waitsAmong_18
def f_w_waitsForAny_4 (n : Nat) (sv : Nat) (F : Nat → Nat → Int32) : Nat → Nat → Int32 → (Nat → Int32 → Int32) → Int32
  | 0, i1, y5, K9_4 => K9_4 i1 y5
  | fu2 + 1, i1, y5, K9_4 => if n ≤ i1 then (K9_4 i1 y5) else (if y5 = (0 : Int32) then (bnd (f_w_waitsAmong_job n sv i1 F) (fun (r8 : Int32) => if r8 = (0 : Int32) then (f_w_waitsForAny_4 n sv F fu2 (i1 + 1) (0 : Int32) K9_4) else (f_w_waitsForAny_4 n sv F fu2 (i1 + 1) (1 : Int32) K9_4))) else (f_w_waitsForAny_4 n sv F fu2 (i1 + 1) (1 : Int32) K9_4))
def f_w_waitsForAny (n : Nat) (sv : Nat) (F : Nat → Nat → Int32) : Int32 := f_w_waitsForAny_4 n sv F (n + 1) (0 : Nat) (0 : Int32) (fun (i1 : Nat) (y5 : Int32) => (y5))
def wq_w_waitsForAny : List Cond := ([.code yX9_waitsForAny cX9_waitsForAny 4 (some .boolean), .fieldLink RX9 126 "ServiceTreeModel" "services" "I", .fieldLink RX9 71 "ServiceTreeModel" "job" "[I", .methodLink RX9 167 yX9_waitsAmong, .instanceMethod yX9_waitsAmong, .selects RX9 yX9_waitsAmong yX9_waitsAmong, .initialized RX9] : List Cond) ++ (wsX90 ++ (wq_w_waitsAmong_job))
theorem in_w_waitsForAny_X9 : ∀ w ∈ wsX90, w ∈ wq_w_waitsForAny := fun _ h => List.mem_append_right _ (List.mem_append_left _ (h))
set_option maxRecDepth 20000 in
theorem wi_w_waitsForAny : ∀ w ∈ wq_w_waitsForAny, w ∈ lw_tbl := List.forall_mem_append.mpr ⟨(wix [1105, 873, 877, 1083, 1085, 47, 69] rfl), List.forall_mem_append.mpr ⟨inKX9, wi_w_waitsAmong_job⟩⟩
set_option maxRecDepth 20000 in
theorem wg_w_waitsForAny : GoodIn wq_w_waitsForAny wq_w_waitsForAny := goodIn_sub (fun _ h => h) (by decide +kernel)
set_option maxRecDepth 20000 in
theorem wc_w_waitsForAny_w_waitsAmong_job_167 : GoodIn wq_w_waitsForAny (wsV RX9 167 RX9 yX9_waitsAmong wq_w_waitsAmong_job) := goodIn_app (goodIn_of _ (by decide +kernel)) (fun w h => ⟨List.mem_append_right _ (List.mem_append_right _ (h)), (wg_w_waitsAmong_job w h).2⟩)
def rm_w_waitsForAny : Room := { frames := 2, cells := 0, slots := 0, locals := 46 }
set_option maxHeartbeats 4000000 in
set_option maxRecDepth 100000 in
theorem c_w_waitsForAny (l : Launch) (dC : Nat → ClassId) (dI : Nat → Nat → Nat) (h : Nat) (a : Nat → Nat) (k : Nat → ClassId) (F : Nat → Nat → Int32) (V : Nat → Int32) (n b : Nat) (sv : Nat) (sz : Nat) (hI0 : InvM n b F V) (hb0 : b + 0 < 2147483648) (hp0 : sv < n) : Met l yX9_waitsForAny wq_w_waitsForAny rm_w_waitsForAny (va_Pc [.ref h, .int (nI sv)] (fun U => U.heap.size = sz ∧ va_P (dC, dI) vwCl (mW h a k F V) U.heap ∧ va_K (dC, dI) vwCl (mT k) U ∧ va_D (fun _ => True) (mW h a k F V))) (va_Qi (fun (r : Int32) (u : (Nat → Nat → Int32) × (Nat → Int32)) => u.1 = F ∧ u.2 = V ∧ ((r = f_w_waitsForAny n sv F) ∧ (r = 0 ∨ r = 1))) (fun (u : (Nat → Nat → Int32) × (Nat → Int32)) (t : State) => va_P (dC, dI) vwCl (mW h a k u.1 u.2) t.heap ∧ va_D (va_A (mW h a k F V) sz) (mW h a k u.1 u.2)) (va_A (mW h a k F V) sz)) 0 0 (va_A (mW h a k F V) sz) := by
  have hn : n ≤ 40 := hI0.1
  have hI : StM n b F V F V := StM.rf hI0
  have hU : ∀ j : Nat, j ∉ ([] : List Nat) → F j = F j := fun _ _ => rfl
  have hV : ∀ j : Nat, j ∉ ([] : List Nat) → V j = V j := fun _ _ => rfl
  refine Met.ofW (cc := cX9_waitsForAny) (maxL := 4) (ret := (some .boolean)) (by decide) rfl ?_
  intro p e s m args below meth c s₁ B hml hv
  obtain ⟨rfl, hsz, hP, hK, hD0⟩ := hv
  have hx := B.exec
  have hb := B.bytes
  have hr := B.returns
  have hts := atoms_spec (ws := wq_w_waitsForAny) B.pre
  have hown : s.vm.findClass RX9 = some m.cls := findClass_of_methodNamed B.named
  have hlocks := B.notSynchronized
  subst hsz
  have hD := hD0.self (sz := s.heap.size)
  generalize hAe : va_A (mW h a k F V) s.heap.size = A at hD ⊢
  have hA : ∀ q : Nat, s.heap.size ≤ q → A q := fun q h => by rw [← hAe]; exact Or.inr h
  have hS : va_S A s.heap s.heap [] := va_S.rf
  have hl := lv_entry ([.ref h, .int (nI sv)]) (n := 4) (Nat.le_of_ble_eq_true rfl)
  rw [lg_entry_eq]
  generalize (lg_sl ([.ref h, .int (nI sv)]) ++ List.replicate (4 - (lg_sl ([.ref h, .int (nI sv)])).length) Slot.unset).toArray = ls at hl ⊢
  have hl : lv_has ls 4 [(0, .ref h), (1, .int (nI sv))] := hl
  refine mw_Q (fun Q0 hQ => ?_)
  obtain ⟨RES, hR0⟩ : ∃ R9, R9 = f_w_waitsForAny n sv F := ⟨_, rfl⟩
  have hZ9 := hR0
  unfold f_w_waitsForAny at hZ9
  refine lv_iconst (v := 0) hx hb dX9_waitsForAny_0 (by decide) ?_
  refine lv_istore_n (lv' := [(2, .int 0), (0, .ref h), (1, .int (nI sv))]) hx hb dX9_waitsForAny_1 rfl hl (by decide) rfl (fun ls hl => ?_)
  refine lv_iconst (v := 0) hx hb dX9_waitsForAny_2 (by decide) ?_
  refine lv_istore_n (lv' := [(3, .int 0), (2, .int 0), (0, .ref h), (1, .int (nI sv))]) hx hb dX9_waitsForAny_3 rfl hl (by decide) rfl (fun ls hl => ?_)
  obtain ⟨K9_4, hK9_4, hZ9⟩ := lp_gen hZ9
  have lp4 : ∀ (fu2 i1 : Nat) (y5 : Int32) (H : Heap) (locs : List Loc) (ls : Array Slot), n < i1 + fu2 → i1 ≤ n → (y5 = 0 ∨ y5 = 1) → RES = f_w_waitsForAny_4 n sv F fu2 i1 y5 K9_4 → va_P (dC, dI) vwCl (mW h a k F V) H → va_D A (mW h a k F V) → va_S A s.heap H locs → lv_has ls 4 [(3, .int (nI i1)), (2, .int y5), (0, .ref h), (1, .int (nI sv))] → W p l e (headSpec wq_w_waitsForAny rm_w_waitsForAny).room s m ([.ref h, .int (nI sv)] : List Value).toArray below meth c H locs 0 0 Q0 (F0 m 4 ls []) := by
    intro fu2
    induction fu2 with
    | zero =>
      intro i1 y5 H locs ls hf hi
      exact absurd hf (by omega)
    | succ fu2 ih3 =>
      intro i1 y5 H locs ls hfi1 hii1 hb2_i1 hZ9 hP hD hS hl
      rw [f_w_waitsForAny_4] at hZ9
      refine lv_iload_n hx hb dX9_waitsForAny_4 rfl (lv_at hl 0 rfl) ?_
      refine lv_aload_n hx hb dX9_waitsForAny_5 rfl (lv_at hl 2 rfl) ?_
      refine va_get (D := (dC, dI)) (ci := 10) (v := .int (V 21)) (C := RX9) (T := TX9) (N := 46) hx hb hts in_w_waitsForAny_X9 hown hK hP 0 rfl rfl 21 (by decide) (hts (.fieldLink RX9 126 "ServiceTreeModel" "services" "I") (by decide +kernel)) (fun _ h9 => h9) rfl dX9_waitsForAny_6 ?_
      refine p1_topr (v := .int (nI n)) (congrArg Value.int hI.1.2.1) ?_
      refine lv_icmp_ge (tgt := 41) hx hb dX9_waitsForAny_9 (by decide) (fun c6 => ?_) (fun c6 => ?_)
      · replace c6 : n ≤ i1 := (nI_leI (a := n) (b := i1) (by omega) (by omega)).mp c6
        replace hZ9 := ite_t hZ9 c6
        replace hZ9 := lp_app2 hK9_4 hZ9
        refine lv_iload_n hx hb dX9_waitsForAny_41 rfl (lv_at hl 1 rfl) ?_
        rw [hQ]
        exact W.zret (v := y5) hx hb hr (mw_nb hb2_i1) (fun t ht hW => ⟨⟨y5, (F, V), rfl, ⟨rfl, rfl, ⟨hZ9.symm.trans hR0, hb2_i1⟩⟩, by rw [ht]; exact hP, hD⟩, hS.F ht⟩) hS.2.2 dX9_waitsForAny_42
      · replace c6 : ¬ (n ≤ i1) := fun q9 => c6 ((nI_leI (a := n) (b := i1) (by omega) (by omega)).mpr q9)
        replace hZ9 := ite_f hZ9 c6
        refine lv_iload_n hx hb dX9_waitsForAny_12 rfl (lv_at hl 1 rfl) ?_
        refine lv_if_ne (tgt := 29) hx hb dX9_waitsForAny_13 (by decide) (fun c7 => ?_) (fun c7 => ?_)
        · replace hZ9 := ite_f hZ9 c7
          refine lv_iconst (v := 1) hx hb dX9_waitsForAny_29 (by decide) ?_
          refine lv_goto (tgt := 34) hx hb dX9_waitsForAny_30 (by decide) ?_
          refine lv_istore_n (lv' := [(2, .int 1), (3, .int (nI i1)), (0, .ref h), (1, .int (nI sv))]) hx hb dX9_waitsForAny_34 rfl hl (by decide) rfl (fun ls hl => ?_)
          refine lv_iinc (v := nI (i1 + 1)) (lv' := [(3, .int (nI (i1 + 1))), (2, .int 1), (0, .ref h), (1, .int (nI sv))]) hx hb dX9_waitsForAny_35 hl (k := 1) rfl (nI_add i1 1) (by decide) rfl (fun ls hl => ?_)
          refine lv_goto (tgt := 4) hx hb dX9_waitsForAny_38 (by decide) ?_
          exact ih3 (i1 + 1) 1 _ _ _ (by omega) (by omega) (Or.inr rfl) hZ9 hP hD hS (lv_sub hl [0, 1, 2, 3] rfl)
        · replace hZ9 := ite_t hZ9 c7
          refine lv_aload_n hx hb dX9_waitsForAny_16 rfl (lv_at hl 2 rfl) ?_
          refine lv_aload_n hx hb dX9_waitsForAny_17 rfl (lv_at hl 2 rfl) ?_
          refine va_get (D := (dC, dI)) (ci := 10) (v := .ref (a 25)) (C := RX9) (T := TX9) (N := 46) hx hb hts in_w_waitsForAny_X9 hown hK hP 0 rfl rfl 25 (by decide) (hts (.fieldLink RX9 71 "ServiceTreeModel" "job" "[I") (by decide +kernel)) (fun _ h9 => h9) rfl dX9_waitsForAny_18 ?_
          refine lv_iload_n hx hb dX9_waitsForAny_21 rfl (lv_at hl 3 rfl) ?_
          refine lv_iload_n hx hb dX9_waitsForAny_22 rfl (lv_at hl 0 rfl) ?_
          have hFc := mw_free hD hS hA
          refine va_calli (va_runV (As := [.ref (a 25), .int (nI sv), .int (nI i1)]) (rest := []) ⟨hx, hb, hml, hown, hts⟩ (c_w_waitsAmong_job l dC dI h a k F V n (b) sv i1 H.size hI.1 (by omega) (by omega) (by omega)) (cwV 3 hts wc_w_waitsForAny_w_waitsAmong_job_167 rfl rfl rfl (by decide +kernel) ⟨Nat.le_of_ble_eq_true rfl, Nat.le_of_ble_eq_true rfl⟩) ⟨fun a9 U g mk q => by obtain ⟨q0, q1, qP, qK, qD⟩ := q; exact ⟨q0, q1, qP, va_K.moved (u := U) (U := U.calling g mk a9) (Vm.Alike.refl U.vm) qK, qD⟩, va_recv hK hP (ci := 10) (q0 := 0) rfl rfl, fun U hU hW => ⟨rfl, by rw [hU], by rw [hU]; exact hP, va_K.moved hW.alike hK, hD.weaken (fun _ _ _ _ => trivial)⟩⟩ rfl rfl hl.1 rfl (lv_room (Nat.le_of_ble_eq_true rfl)) dX9_waitsForAny_23 ⟨Nat.le_of_ble_eq_true rfl, Nat.le_of_ble_eq_true rfl⟩) hS (fun q _ h => hFc q h) hFc (fun r8 u t H1 locs ht hvm hw hB hz1 hk1 hS => ?_)
          obtain ⟨F9, V10⟩ := u
          replace hP := hB.1
          rw [ht] at hP
          replace hD : va_D A (mW h a k F9 V10) := hB.2.weaken (fun _ q _ h9 => hFc q.1 h9)
          clear hB
          generalize H1 = H at hP hS ⊢
          replace hP : va_P (dC, dI) vwCl (mW h a k F9 V10) H := hP
          obtain ⟨hwF, hwV, hw⟩ : F9 = F ∧ V10 = V ∧ _ := hw
          rw [hwF, hwV] at hP hD
          obtain ⟨hw, hwe⟩ := hw
          replace hw : r8 = f_w_waitsAmong_job n sv i1 F := hw
          replace hZ9 := bnd_s hZ9 hw
          have br8 := hwe
          refine lv_if_eq (tgt := 33) hx hb dX9_waitsForAny_26 (by decide) (fun c11 => ?_) (fun c11 => ?_)
          · replace hZ9 := ite_t hZ9 c11
            refine lv_iconst (v := 0) hx hb dX9_waitsForAny_33 (by decide) ?_
            refine lv_istore_n (lv' := [(2, .int 0), (3, .int (nI i1)), (0, .ref h), (1, .int (nI sv))]) hx hb dX9_waitsForAny_34 rfl hl (by decide) rfl (fun ls hl => ?_)
            refine lv_iinc (v := nI (i1 + 1)) (lv' := [(3, .int (nI (i1 + 1))), (2, .int 0), (0, .ref h), (1, .int (nI sv))]) hx hb dX9_waitsForAny_35 hl (k := 1) rfl (nI_add i1 1) (by decide) rfl (fun ls hl => ?_)
            refine lv_goto (tgt := 4) hx hb dX9_waitsForAny_38 (by decide) ?_
            exact ih3 (i1 + 1) 0 _ _ _ (by omega) (by omega) (Or.inl rfl) hZ9 hP hD hS (lv_sub hl [0, 1, 2, 3] rfl)
          · replace hZ9 := ite_f hZ9 c11
            refine lv_iconst (v := 1) hx hb dX9_waitsForAny_29 (by decide) ?_
            refine lv_goto (tgt := 34) hx hb dX9_waitsForAny_30 (by decide) ?_
            refine lv_istore_n (lv' := [(2, .int 1), (3, .int (nI i1)), (0, .ref h), (1, .int (nI sv))]) hx hb dX9_waitsForAny_34 rfl hl (by decide) rfl (fun ls hl => ?_)
            refine lv_iinc (v := nI (i1 + 1)) (lv' := [(3, .int (nI (i1 + 1))), (2, .int 1), (0, .ref h), (1, .int (nI sv))]) hx hb dX9_waitsForAny_35 hl (k := 1) rfl (nI_add i1 1) (by decide) rfl (fun ls hl => ?_)
            refine lv_goto (tgt := 4) hx hb dX9_waitsForAny_38 (by decide) ?_
            exact ih3 (i1 + 1) 1 _ _ _ (by omega) (by omega) (Or.inr rfl) hZ9 hP hD hS (lv_sub hl [0, 1, 2, 3] rfl)
  exact lp4 (n + 1) 0 0 _ _ _ (by omega) (by omega) (Or.inl rfl) hZ9 hP hD hS hl
def f_w_in_15 (n : Nat) (p0 : Int32) (F : Nat → Nat → Int32) : Nat → Nat → Int32 → (Nat → Int32 → Int32) → Int32
  | 0, i3, y7, K9_15 => K9_15 i3 y7
  | fu4 + 1, i3, y7, K9_15 => if n ≤ i3 then (K9_15 i3 y7) else (bnd (F 7 (nI i3).toNatClampNeg) (fun (x9 : Int32) => if x9 = p0 then (bnd (y7 + (1 : Int32)) (fun (x12 : Int32) => f_w_in_15 n p0 F fu4 (i3 + 1) x12 K9_15)) else (bnd (y7 + (0 : Int32)) (fun (x11 : Int32) => f_w_in_15 n p0 F fu4 (i3 + 1) x11 K9_15))))
def f_w_in (n : Nat) (p0 : Int32) (F : Nat → Nat → Int32) : Int32 := if p0 < (0 : Int32) then (((-1 : Int32))) else (if p0 ≤ (5 : Int32) then (f_w_in_15 n p0 F (n + 1) (0 : Nat) (0 : Int32) (fun (i3 : Nat) (y7 : Int32) => (y7))) else (((-1 : Int32))))
def wq_w_in : List Cond := ([.code yX9_in cX9_in 4 (some .int), .fieldLink RX9 126 "ServiceTreeModel" "services" "I", .fieldLink RX9 31 "ServiceTreeModel" "state" "[I"] : List Cond) ++ (wsX90)
theorem in_w_in_X9 : ∀ w ∈ wsX90, w ∈ wq_w_in := fun _ h => List.mem_append_right _ (h)
set_option maxRecDepth 20000 in
theorem wi_w_in : ∀ w ∈ wq_w_in, w ∈ lw_tbl := List.forall_mem_append.mpr ⟨(wix [1046, 873, 859] rfl), inKX9⟩
set_option maxRecDepth 20000 in
theorem wg_w_in : GoodIn wq_w_in wq_w_in := goodIn_sub (fun _ h => h) (by decide +kernel)
def rm_w_in : Room := { frames := 0, cells := 0, slots := 0, locals := 0 }
set_option maxHeartbeats 4000000 in
set_option maxRecDepth 100000 in
theorem c_w_in (l : Launch) (dC : Nat → ClassId) (dI : Nat → Nat → Nat) (h : Nat) (a : Nat → Nat) (k : Nat → ClassId) (F : Nat → Nat → Int32) (V : Nat → Int32) (n b : Nat) (p0 : Int32) (sz : Nat) (hI0 : InvM n b F V) (hb0 : b + 0 < 2147483648)  : Met l yX9_in wq_w_in rm_w_in (va_Pc [.ref h, .int p0] (fun U => U.heap.size = sz ∧ va_P (dC, dI) vwCl (mW h a k F V) U.heap ∧ va_K (dC, dI) vwCl (mT k) U ∧ va_D (fun _ => True) (mW h a k F V))) (va_Qi (fun (r : Int32) (u : (Nat → Nat → Int32) × (Nat → Int32)) => u.1 = F ∧ u.2 = V ∧ (r = f_w_in n p0 F)) (fun (u : (Nat → Nat → Int32) × (Nat → Int32)) (t : State) => va_P (dC, dI) vwCl (mW h a k u.1 u.2) t.heap ∧ va_D (va_A (mW h a k F V) sz) (mW h a k u.1 u.2)) (va_A (mW h a k F V) sz)) 0 0 (va_A (mW h a k F V) sz) := by
  have hn : n ≤ 40 := hI0.1
  have hI : StM n b F V F V := StM.rf hI0
  have hU : ∀ j : Nat, j ∉ ([] : List Nat) → F j = F j := fun _ _ => rfl
  have hV : ∀ j : Nat, j ∉ ([] : List Nat) → V j = V j := fun _ _ => rfl
  refine Met.ofW (cc := cX9_in) (maxL := 4) (ret := (some .int)) (by decide) rfl ?_
  intro p e s m args below meth c s₁ B hml hv
  obtain ⟨rfl, hsz, hP, hK, hD0⟩ := hv
  have hx := B.exec
  have hb := B.bytes
  have hr := B.returns
  have hts := atoms_spec (ws := wq_w_in) B.pre
  have hown : s.vm.findClass RX9 = some m.cls := findClass_of_methodNamed B.named
  have hlocks := B.notSynchronized
  subst hsz
  have hD := hD0.self (sz := s.heap.size)
  generalize hAe : va_A (mW h a k F V) s.heap.size = A at hD ⊢
  have hA : ∀ q : Nat, s.heap.size ≤ q → A q := fun q h => by rw [← hAe]; exact Or.inr h
  have hS : va_S A s.heap s.heap [] := va_S.rf
  have hl := lv_entry ([.ref h, .int p0]) (n := 4) (Nat.le_of_ble_eq_true rfl)
  rw [lg_entry_eq]
  generalize (lg_sl ([.ref h, .int p0]) ++ List.replicate (4 - (lg_sl ([.ref h, .int p0])).length) Slot.unset).toArray = ls at hl ⊢
  have hl : lv_has ls 4 [(0, .ref h), (1, .int p0)] := hl
  refine mw_Q (fun Q0 hQ => ?_)
  obtain ⟨RES, hR0⟩ : ∃ R9, R9 = f_w_in n p0 F := ⟨_, rfl⟩
  have hZ9 := hR0
  unfold f_w_in at hZ9
  refine lv_iload_n hx hb dX9_in_0 rfl (lv_at hl 1 rfl) ?_
  refine lv_if_lt (tgt := 9) hx hb dX9_in_1 (by decide) (fun c1 => ?_) (fun c1 => ?_)
  · replace hZ9 := ite_t hZ9 c1
    refine lv_iconst (v := (-1)) hx hb dX9_in_9 (by decide) ?_
    rw [hQ]
    exact W.iret (v := (-1)) hx hb hr (fun t ht hW => ⟨⟨(-1), (F, V), rfl, ⟨rfl, rfl, hZ9.symm.trans hR0⟩, by rw [ht]; exact hP, hD⟩, hS.F ht⟩) hS.2.2 dX9_in_10
  · replace hZ9 := ite_f hZ9 c1
    refine lv_iload_n hx hb dX9_in_4 rfl (lv_at hl 1 rfl) ?_
    refine lv_iconst (v := 5) hx hb dX9_in_5 (by decide) ?_
    refine lv_icmp_le (tgt := 11) hx hb dX9_in_6 (by decide) (fun c2 => ?_) (fun c2 => ?_)
    · replace hZ9 := ite_t hZ9 c2
      refine lv_iconst (v := 0) hx hb dX9_in_11 (by decide) ?_
      refine lv_istore_n (lv' := [(2, .int 0), (0, .ref h), (1, .int p0)]) hx hb dX9_in_12 rfl hl (by decide) rfl (fun ls hl => ?_)
      refine lv_iconst (v := 0) hx hb dX9_in_13 (by decide) ?_
      refine lv_istore_n (lv' := [(3, .int 0), (2, .int 0), (0, .ref h), (1, .int p0)]) hx hb dX9_in_14 rfl hl (by decide) rfl (fun ls hl => ?_)
      obtain ⟨K9_15, hK9_15, hZ9⟩ := lp_gen hZ9
      have lp6 : ∀ (fu4 i3 : Nat) (y7 : Int32) (H : Heap) (locs : List Loc) (ls : Array Slot), n < i3 + fu4 → i3 ≤ n → RES = f_w_in_15 n p0 F fu4 i3 y7 K9_15 → va_P (dC, dI) vwCl (mW h a k F V) H → va_D A (mW h a k F V) → va_S A s.heap H locs → lv_has ls 4 [(3, .int (nI i3)), (2, .int y7), (0, .ref h), (1, .int p0)] → W p l e (headSpec wq_w_in rm_w_in).room s m ([.ref h, .int p0] : List Value).toArray below meth c H locs 0 0 Q0 (F0 m 15 ls []) := by
        intro fu4
        induction fu4 with
        | zero =>
          intro i3 y7 H locs ls hf hi
          exact absurd hf (by omega)
        | succ fu4 ih5 =>
          intro i3 y7 H locs ls hfi3 hii3 hZ9 hP hD hS hl
          rw [f_w_in_15] at hZ9
          refine lv_iload_n hx hb dX9_in_15 rfl (lv_at hl 0 rfl) ?_
          refine lv_aload_n hx hb dX9_in_16 rfl (lv_at hl 2 rfl) ?_
          refine va_get (D := (dC, dI)) (ci := 10) (v := .int (V 21)) (C := RX9) (T := TX9) (N := 46) hx hb hts in_w_in_X9 hown hK hP 0 rfl rfl 21 (by decide) (hts (.fieldLink RX9 126 "ServiceTreeModel" "services" "I") (by decide +kernel)) (fun _ h9 => h9) rfl dX9_in_17 ?_
          refine p1_topr (v := .int (nI n)) (congrArg Value.int hI.1.2.1) ?_
          refine lv_icmp_ge (tgt := 47) hx hb dX9_in_20 (by decide) (fun c8 => ?_) (fun c8 => ?_)
          · replace c8 : n ≤ i3 := (nI_leI (a := n) (b := i3) (by omega) (by omega)).mp c8
            replace hZ9 := ite_t hZ9 c8
            replace hZ9 := lp_app2 hK9_15 hZ9
            refine lv_iload_n hx hb dX9_in_47 rfl (lv_at hl 1 rfl) ?_
            rw [hQ]
            exact W.iret (v := y7) hx hb hr (fun t ht hW => ⟨⟨y7, (F, V), rfl, ⟨rfl, rfl, hZ9.symm.trans hR0⟩, by rw [ht]; exact hP, hD⟩, hS.F ht⟩) hS.2.2 dX9_in_48
          · replace c8 : ¬ (n ≤ i3) := fun q9 => c8 ((nI_leI (a := n) (b := i3) (by omega) (by omega)).mpr q9)
            replace hZ9 := ite_f hZ9 c8
            refine lv_iload_n hx hb dX9_in_23 rfl (lv_at hl 1 rfl) ?_
            refine lv_aload_n hx hb dX9_in_24 rfl (lv_at hl 2 rfl) ?_
            refine va_get (D := (dC, dI)) (ci := 10) (v := .ref (a 7)) (C := RX9) (T := TX9) (N := 46) hx hb hts in_w_in_X9 hown hK hP 0 rfl rfl 7 (by decide) (hts (.fieldLink RX9 31 "ServiceTreeModel" "state" "[I") (by decide +kernel)) (fun _ h9 => h9) rfl dX9_in_25 ?_
            refine lv_iload_n hx hb dX9_in_28 rfl (lv_at hl 0 rfl) ?_
            refine va_iald (n := 40) (f := F 7) hx hb hK hP 8 7 rfl rfl (vp_in_nI (n := i3) (by omega) (by decide)) dX9_in_29 ?_
            refine lv_topi (fun x9 ex9 => ?_)
            replace hZ9 := bnd_s hZ9 ex9
            refine lv_iload_n hx hb dX9_in_30 rfl (lv_at hl 3 rfl) ?_
            refine lv_icmp_ne (tgt := 38) hx hb dX9_in_31 (by decide) (fun c10 => ?_) (fun c10 => ?_)
            · replace hZ9 := ite_f hZ9 c10
              refine lv_iconst (v := 0) hx hb dX9_in_38 (by decide) ?_
              refine lv_iadd hx hb dX9_in_39 ?_
              refine lv_topi (fun x11 ex11 => ?_)
              replace hZ9 := bnd_s hZ9 ex11
              refine lv_istore_n (lv' := [(2, .int x11), (3, .int (nI i3)), (0, .ref h), (1, .int p0)]) hx hb dX9_in_40 rfl hl (by decide) rfl (fun ls hl => ?_)
              refine lv_iinc (v := nI (i3 + 1)) (lv' := [(3, .int (nI (i3 + 1))), (2, .int x11), (0, .ref h), (1, .int p0)]) hx hb dX9_in_41 hl (k := 1) rfl (nI_add i3 1) (by decide) rfl (fun ls hl => ?_)
              refine lv_goto (tgt := 15) hx hb dX9_in_44 (by decide) ?_
              exact ih5 (i3 + 1) x11 _ _ _ (by omega) (by omega)  hZ9 hP hD hS (lv_sub hl [0, 1, 2, 3] rfl)
            · replace hZ9 := ite_t hZ9 c10
              refine lv_iconst (v := 1) hx hb dX9_in_34 (by decide) ?_
              refine lv_goto (tgt := 39) hx hb dX9_in_35 (by decide) ?_
              refine lv_iadd hx hb dX9_in_39 ?_
              refine lv_topi (fun x12 ex12 => ?_)
              replace hZ9 := bnd_s hZ9 ex12
              refine lv_istore_n (lv' := [(2, .int x12), (3, .int (nI i3)), (0, .ref h), (1, .int p0)]) hx hb dX9_in_40 rfl hl (by decide) rfl (fun ls hl => ?_)
              refine lv_iinc (v := nI (i3 + 1)) (lv' := [(3, .int (nI (i3 + 1))), (2, .int x12), (0, .ref h), (1, .int p0)]) hx hb dX9_in_41 hl (k := 1) rfl (nI_add i3 1) (by decide) rfl (fun ls hl => ?_)
              refine lv_goto (tgt := 15) hx hb dX9_in_44 (by decide) ?_
              exact ih5 (i3 + 1) x12 _ _ _ (by omega) (by omega)  hZ9 hP hD hS (lv_sub hl [0, 1, 2, 3] rfl)
      exact lp6 (n + 1) 0 0 _ _ _ (by omega) (by omega)  hZ9 hP hD hS hl
    · replace hZ9 := ite_f hZ9 c2
      refine lv_iconst (v := (-1)) hx hb dX9_in_9 (by decide) ?_
      rw [hQ]
      exact W.iret (v := (-1)) hx hb hr (fun t ht hW => ⟨⟨(-1), (F, V), rfl, ⟨rfl, rfl, hZ9.symm.trans hR0⟩, by rw [ht]; exact hP, hD⟩, hS.F ht⟩) hS.2.2 dX9_in_10

end
section
def f_w_shortest_78 (n : Nat) (i16 : Nat) (i30 : Nat) : Nat → Nat → (Nat → Nat → Int32) → (Nat → Int32) → (Nat → (Nat → Nat → Int32) → (Nat → Int32) → Int32 × (Nat → Nat → Int32) × (Nat → Int32)) → Int32 × (Nat → Nat → Int32) × (Nat → Int32)
  | 0, i37, F41, V42, K9_78 => K9_78 i37 F41 V42
  | fu38 + 1, i37, F41, V42, K9_78 => if n ≤ i37 then (K9_78 i37 F41 V42) else (bnd (F41 32 (nI i30).toNatClampNeg) (fun (x44 : Int32) => if x44 = (nI i16) then (bnd (F41 32 (nI i37).toNatClampNeg) (fun (x46 : Int32) => if x46 = (0 : Int32) then (bnd (F41 31 (nI ((i30 * 40) + i37)).toNatClampNeg) (fun (x48 : Int32) => if x48 = (0 : Int32) then (f_w_shortest_78 n i16 i30 fu38 (i37 + 1) F41 V42 K9_78) else (bnd (va_up F41 32 (upd (F41 32) (nI i37).toNatClampNeg (nI (i16 + 1)))) (fun (F50 : Nat → Nat → Int32) => f_w_shortest_78 n i16 i30 fu38 (i37 + 1) F50 V42 K9_78)))) else (f_w_shortest_78 n i16 i30 fu38 (i37 + 1) F41 V42 K9_78))) else (K9_78 i37 F41 V42)))
def f_w_shortest_66 (n : Nat) (i16 : Nat) : Nat → Nat → (Nat → Nat → Int32) → (Nat → Int32) → (Nat → (Nat → Nat → Int32) → (Nat → Int32) → Int32 × (Nat → Nat → Int32) × (Nat → Int32)) → Int32 × (Nat → Nat → Int32) × (Nat → Int32)
  | 0, i30, F34, V35, K9_66 => K9_66 i30 F34 V35
  | fu31 + 1, i30, F34, V35, K9_66 => if n ≤ i30 then (K9_66 i30 F34 V35) else (f_w_shortest_78 n i16 i30 (n + 1) (0 : Nat) F34 V35 (fun (i37 : Nat) (F41 : Nat → Nat → Int32) (V42 : Nat → Int32) => f_w_shortest_66 n i16 fu31 (i30 + 1) F41 V42 K9_66))
def f_w_shortest_55 (n : Nat)  : Nat → Nat → (Nat → Nat → Int32) → (Nat → Int32) → (Nat → (Nat → Nat → Int32) → (Nat → Int32) → Int32 × (Nat → Nat → Int32) × (Nat → Int32)) → Int32 × (Nat → Nat → Int32) × (Nat → Int32)
  | 0, i16, F20, V21, K9_55 => K9_55 i16 F20 V21
  | fu17 + 1, i16, F20, V21, K9_55 => if n ≤ i16 then (K9_55 i16 F20 V21) else (f_w_shortest_66 n i16 (n + 1) (0 : Nat) F20 V21 (fun (i30 : Nat) (F34 : Nat → Nat → Int32) (V35 : Nat → Int32) => f_w_shortest_55 n  fu17 (i16 + 1) F34 V35 K9_55))
def f_w_shortest_14 (n : Nat) (i1 : Nat) : Nat → Nat → (Nat → Nat → Int32) → (Nat → Int32) → (Nat → (Nat → Nat → Int32) → (Nat → Int32) → Int32 × (Nat → Nat → Int32) × (Nat → Int32)) → Int32 × (Nat → Nat → Int32) × (Nat → Int32)
  | 0, i9, F13, V14, K9_14 => K9_14 i9 F13 V14
  | fu10 + 1, i9, F13, V14, K9_14 => if n ≤ i9 then (K9_14 i9 F13 V14) else (bnd (F13 31 (nI ((i1 * 40) + i9)).toNatClampNeg) (fun (x51 : Int32) => if x51 = (0 : Int32) then (bnd (va_up F13 32 (upd (F13 32) (nI i9).toNatClampNeg 0)) (fun (F53 : Nat → Nat → Int32) => f_w_shortest_14 n i1 fu10 (i9 + 1) F53 V14 K9_14)) else (bnd (va_up F13 32 (upd (F13 32) (nI i9).toNatClampNeg 1)) (fun (F54 : Nat → Nat → Int32) => f_w_shortest_14 n i1 fu10 (i9 + 1) F54 V14 K9_14))))
def f_w_shortest_4 (n : Nat)  : Nat → Nat → Int32 → (Nat → Nat → Int32) → (Nat → Int32) → (Nat → Int32 → (Nat → Nat → Int32) → (Nat → Int32) → Int32 × (Nat → Nat → Int32) × (Nat → Int32)) → Int32 × (Nat → Nat → Int32) × (Nat → Int32)
  | 0, i1, y7, F5, V6, K9_4 => K9_4 i1 y7 F5 V6
  | fu2 + 1, i1, y7, F5, V6, K9_4 => if n ≤ i1 then (K9_4 i1 y7 F5 V6) else (f_w_shortest_14 n i1 (n + 1) (0 : Nat) F5 V6 (fun (i9 : Nat) (F13 : Nat → Nat → Int32) (V14 : Nat → Int32) => f_w_shortest_55 n  (n + 1) (1 : Nat) F13 V14 (fun (i16 : Nat) (F20 : Nat → Nat → Int32) (V21 : Nat → Int32) => bnd (F20 32 (nI i1).toNatClampNeg) (fun (x23 : Int32) => if x23 ≤ (0 : Int32) then (f_w_shortest_4 n  fu2 (i1 + 1) y7 F20 V21 K9_4) else (if y7 = (0 : Int32) then (f_w_shortest_4 n  fu2 (i1 + 1) x23 F20 V21 K9_4) else (if y7 ≤ x23 then (f_w_shortest_4 n  fu2 (i1 + 1) y7 F20 V21 K9_4) else (f_w_shortest_4 n  fu2 (i1 + 1) x23 F20 V21 K9_4)))))))
def f_w_shortest (n : Nat)  (F : Nat → Nat → Int32) (V : Nat → Int32) : Int32 × (Nat → Nat → Int32) × (Nat → Int32) := f_w_shortest_4 n  (n + 1) (0 : Nat) (0 : Int32) F V (fun (i1 : Nat) (y7 : Int32) (F5 : Nat → Nat → Int32) (V6 : Nat → Int32) => (y7, F5, V6))
def wq_w_shortest : List Cond := ([.code yX9_shortest cX9_shortest 6 (some .int), .fieldLink RX9 126 "ServiceTreeModel" "services" "I", .fieldLink RX9 92 "ServiceTreeModel" "far" "[I", .fieldLink RX9 89 "ServiceTreeModel" "edge" "[Z"] : List Cond) ++ (wsX90)
theorem in_w_shortest_X9 : ∀ w ∈ wsX90, w ∈ wq_w_shortest := fun _ h => List.mem_append_right _ (h)
set_option maxRecDepth 20000 in
theorem wi_w_shortest : ∀ w ∈ wq_w_shortest, w ∈ lw_tbl := List.forall_mem_append.mpr ⟨(wix [1074, 873, 884, 883] rfl), inKX9⟩
set_option maxRecDepth 20000 in
theorem wg_w_shortest : GoodIn wq_w_shortest wq_w_shortest := goodIn_sub (fun _ h => h) (by decide +kernel)
def rm_w_shortest : Room := { frames := 0, cells := 0, slots := 0, locals := 0 }
set_option maxHeartbeats 4000000 in
set_option maxRecDepth 100000 in
theorem c_w_shortest (l : Launch) (dC : Nat → ClassId) (dI : Nat → Nat → Nat) (h : Nat) (a : Nat → Nat) (k : Nat → ClassId) (F : Nat → Nat → Int32) (V : Nat → Int32) (n b : Nat)  (sz : Nat) (hI0 : InvM n b F V) (hb0 : b + 0 < 2147483648)  : Met l yX9_shortest wq_w_shortest rm_w_shortest (va_Pc [.ref h] (fun U => U.heap.size = sz ∧ va_P (dC, dI) vwCl (mW h a k F V) U.heap ∧ va_K (dC, dI) vwCl (mT k) U ∧ va_D (fun _ => True) (mW h a k F V))) (va_Qi (fun (r : Int32) (u : (Nat → Nat → Int32) × (Nat → Int32)) => StM n (b + 0) F V u.1 u.2 ∧ (∀ j : Nat, j ∉ ([32] : List Nat) → u.1 j = F j) ∧ (∀ j : Nat, j ∉ ([] : List Nat) → u.2 j = V j) ∧ ((r, u.1, u.2) = f_w_shortest n  F V)) (fun (u : (Nat → Nat → Int32) × (Nat → Int32)) (t : State) => va_P (dC, dI) vwCl (mW h a k u.1 u.2) t.heap ∧ va_D (va_A (mW h a k F V) sz) (mW h a k u.1 u.2)) (va_A (mW h a k F V) sz)) 0 0 (va_A (mW h a k F V) sz) := by
  have hn : n ≤ 40 := hI0.1
  have hI : StM n b F V F V := StM.rf hI0
  have hU : ∀ j : Nat, j ∉ ([32] : List Nat) → F j = F j := fun _ _ => rfl
  have hV : ∀ j : Nat, j ∉ ([] : List Nat) → V j = V j := fun _ _ => rfl
  refine Met.ofW (cc := cX9_shortest) (maxL := 6) (ret := (some .int)) (by decide) rfl ?_
  intro p e s m args below meth c s₁ B hml hv
  obtain ⟨rfl, hsz, hP, hK, hD0⟩ := hv
  have hx := B.exec
  have hb := B.bytes
  have hr := B.returns
  have hts := atoms_spec (ws := wq_w_shortest) B.pre
  have hown : s.vm.findClass RX9 = some m.cls := findClass_of_methodNamed B.named
  have hlocks := B.notSynchronized
  subst hsz
  have hD := hD0.self (sz := s.heap.size)
  generalize hAe : va_A (mW h a k F V) s.heap.size = A at hD ⊢
  have hA : ∀ q : Nat, s.heap.size ≤ q → A q := fun q h => by rw [← hAe]; exact Or.inr h
  have hS : va_S A s.heap s.heap [] := va_S.rf
  have hl := lv_entry ([.ref h]) (n := 6) (Nat.le_of_ble_eq_true rfl)
  rw [lg_entry_eq]
  generalize (lg_sl ([.ref h]) ++ List.replicate (6 - (lg_sl ([.ref h])).length) Slot.unset).toArray = ls at hl ⊢
  have hl : lv_has ls 6 [(0, .ref h)] := hl
  refine mw_Q (fun Q0 hQ => ?_)
  obtain ⟨RES, hR0⟩ : ∃ R9, R9 = f_w_shortest n  F V := ⟨_, rfl⟩
  have hZ9 := hR0
  unfold f_w_shortest at hZ9
  refine lv_iconst (v := 0) hx hb dX9_shortest_0 (by decide) ?_
  refine lv_istore_n (lv' := [(1, .int 0), (0, .ref h)]) hx hb dX9_shortest_1 rfl hl (by decide) rfl (fun ls hl => ?_)
  refine lv_iconst (v := 0) hx hb dX9_shortest_2 (by decide) ?_
  refine lv_istore_n (lv' := [(2, .int 0), (1, .int 0), (0, .ref h)]) hx hb dX9_shortest_3 rfl hl (by decide) rfl (fun ls hl => ?_)
  obtain ⟨K9_4, hK9_4, hZ9⟩ := lp_gen hZ9
  have lp4 : ∀ (fu2 i1 : Nat) (y7 : Int32) (F5 : Nat → Nat → Int32) (V6 : Nat → Int32) (H : Heap) (locs : List Loc) (ls : Array Slot), n < i1 + fu2 → i1 ≤ n → StM n (b) F V F5 V6 → (∀ j : Nat, j ∉ ([32] : List Nat) → F5 j = F j) → (∀ j : Nat, j ∉ ([] : List Nat) → V6 j = V j) → RES = f_w_shortest_4 n  fu2 i1 y7 F5 V6 K9_4 → va_P (dC, dI) vwCl (mW h a k F5 V6) H → va_D A (mW h a k F5 V6) → va_S A s.heap H locs → lv_has ls 6 [(2, .int (nI i1)), (1, .int y7), (0, .ref h)] → W p l e (headSpec wq_w_shortest rm_w_shortest).room s m ([.ref h] : List Value).toArray below meth c H locs 0 0 Q0 (F0 m 4 ls []) := by
    intro fu2
    induction fu2 with
    | zero =>
      intro i1 y7 F5 V6 H locs ls hf hi
      exact absurd hf (by omega)
    | succ fu2 ih3 =>
      intro i1 y7 F5 V6 H locs ls hfi1 hii1 hI hU hV hZ9 hP hD hS hl
      rw [f_w_shortest_4] at hZ9
      refine lv_iload_n hx hb dX9_shortest_4 rfl (lv_at hl 0 rfl) ?_
      refine lv_aload_n hx hb dX9_shortest_5 rfl (lv_at hl 2 rfl) ?_
      refine va_get (D := (dC, dI)) (ci := 10) (v := .int (V6 21)) (C := RX9) (T := TX9) (N := 46) hx hb hts in_w_shortest_X9 hown hK hP 0 rfl rfl 21 (by decide) (hts (.fieldLink RX9 126 "ServiceTreeModel" "services" "I") (by decide +kernel)) (fun _ h9 => h9) rfl dX9_shortest_6 ?_
      refine p1_topr (v := .int (nI n)) (congrArg Value.int hI.1.2.1) ?_
      refine lv_icmp_ge (tgt := 192) hx hb dX9_shortest_9 (by decide) (fun c8 => ?_) (fun c8 => ?_)
      · replace c8 : n ≤ i1 := (nI_leI (a := n) (b := i1) (by omega) (by omega)).mp c8
        replace hZ9 := ite_t hZ9 c8
        replace hZ9 := lp_app4 hK9_4 hZ9
        refine lv_iload_n hx hb dX9_shortest_192 rfl (lv_at hl 1 rfl) ?_
        rw [hQ]
        exact W.iret (v := y7) hx hb hr (fun t ht hW => ⟨⟨y7, (F5, V6), rfl, ⟨hI.mono (by omega), hU, hV, hZ9.symm.trans hR0⟩, by rw [ht]; exact hP, hD⟩, hS.F ht⟩) hS.2.2 dX9_shortest_193
      · replace c8 : ¬ (n ≤ i1) := fun q9 => c8 ((nI_leI (a := n) (b := i1) (by omega) (by omega)).mpr q9)
        replace hZ9 := ite_f hZ9 c8
        refine lv_iconst (v := 0) hx hb dX9_shortest_12 (by decide) ?_
        refine lv_istore_n (lv' := [(3, .int 0), (2, .int (nI i1)), (1, .int y7), (0, .ref h)]) hx hb dX9_shortest_13 rfl hl (by decide) rfl (fun ls hl => ?_)
        obtain ⟨K9_14, hK9_14, hZ9⟩ := lp_gen hZ9
        have lp12 : ∀ (fu10 i9 : Nat)  (F13 : Nat → Nat → Int32) (V14 : Nat → Int32) (H : Heap) (locs : List Loc) (ls : Array Slot), n < i9 + fu10 → i9 ≤ n → StM n (b) F V F13 V14 → (∀ j : Nat, j ∉ ([32] : List Nat) → F13 j = F j) → (∀ j : Nat, j ∉ ([] : List Nat) → V14 j = V j) → RES = f_w_shortest_14 n i1 fu10 i9 F13 V14 K9_14 → va_P (dC, dI) vwCl (mW h a k F13 V14) H → va_D A (mW h a k F13 V14) → va_S A s.heap H locs → lv_has ls 6 [(3, .int (nI i9)), (2, .int (nI i1)), (1, .int y7), (0, .ref h)] → W p l e (headSpec wq_w_shortest rm_w_shortest).room s m ([.ref h] : List Value).toArray below meth c H locs 0 0 Q0 (F0 m 14 ls []) := by
          intro fu10
          induction fu10 with
          | zero =>
            intro i9  F13 V14 H locs ls hf hi
            exact absurd hf (by omega)
          | succ fu10 ih11 =>
            intro i9  F13 V14 H locs ls hfi9 hii9 hI hU hV hZ9 hP hD hS hl
            rw [f_w_shortest_14] at hZ9
            refine lv_iload_n hx hb dX9_shortest_14 rfl (lv_at hl 0 rfl) ?_
            refine lv_aload_n hx hb dX9_shortest_15 rfl (lv_at hl 3 rfl) ?_
            refine va_get (D := (dC, dI)) (ci := 10) (v := .int (V14 21)) (C := RX9) (T := TX9) (N := 46) hx hb hts in_w_shortest_X9 hown hK hP 0 rfl rfl 21 (by decide) (hts (.fieldLink RX9 126 "ServiceTreeModel" "services" "I") (by decide +kernel)) (fun _ h9 => h9) rfl dX9_shortest_16 ?_
            refine p1_topr (v := .int (nI n)) (congrArg Value.int hI.1.2.1) ?_
            refine lv_icmp_ge (tgt := 53) hx hb dX9_shortest_19 (by decide) (fun c15 => ?_) (fun c15 => ?_)
            · replace c15 : n ≤ i9 := (nI_leI (a := n) (b := i9) (by omega) (by omega)).mp c15
              replace hZ9 := ite_t hZ9 c15
              replace hZ9 := lp_app3 hK9_14 hZ9
              refine lv_iconst (v := 1) hx hb dX9_shortest_53 (by decide) ?_
              refine lv_istore_n (lv' := [(3, .int 1), (2, .int (nI i1)), (1, .int y7), (0, .ref h)]) hx hb dX9_shortest_54 rfl hl (by decide) rfl (fun ls hl => ?_)
              obtain ⟨K9_55, hK9_55, hZ9⟩ := lp_gen hZ9
              have lp19 : ∀ (fu17 i16 : Nat)  (F20 : Nat → Nat → Int32) (V21 : Nat → Int32) (H : Heap) (locs : List Loc) (ls : Array Slot), n < i16 + fu17 → i16 ≤ n → StM n (b) F V F20 V21 → (∀ j : Nat, j ∉ ([32] : List Nat) → F20 j = F j) → (∀ j : Nat, j ∉ ([] : List Nat) → V21 j = V j) → RES = f_w_shortest_55 n  fu17 i16 F20 V21 K9_55 → va_P (dC, dI) vwCl (mW h a k F20 V21) H → va_D A (mW h a k F20 V21) → va_S A s.heap H locs → lv_has ls 6 [(3, .int (nI i16)), (2, .int (nI i1)), (1, .int y7), (0, .ref h)] → W p l e (headSpec wq_w_shortest rm_w_shortest).room s m ([.ref h] : List Value).toArray below meth c H locs 0 0 Q0 (F0 m 55 ls []) := by
                intro fu17
                induction fu17 with
                | zero =>
                  intro i16  F20 V21 H locs ls hf hi
                  exact absurd hf (by omega)
                | succ fu17 ih18 =>
                  intro i16  F20 V21 H locs ls hfi16 hii16 hI hU hV hZ9 hP hD hS hl
                  rw [f_w_shortest_55] at hZ9
                  refine lv_iload_n hx hb dX9_shortest_55 rfl (lv_at hl 0 rfl) ?_
                  refine lv_aload_n hx hb dX9_shortest_56 rfl (lv_at hl 3 rfl) ?_
                  refine va_get (D := (dC, dI)) (ci := 10) (v := .int (V21 21)) (C := RX9) (T := TX9) (N := 46) hx hb hts in_w_shortest_X9 hown hK hP 0 rfl rfl 21 (by decide) (hts (.fieldLink RX9 126 "ServiceTreeModel" "services" "I") (by decide +kernel)) (fun _ h9 => h9) rfl dX9_shortest_57 ?_
                  refine p1_topr (v := .int (nI n)) (congrArg Value.int hI.1.2.1) ?_
                  refine lv_icmp_ge (tgt := 152) hx hb dX9_shortest_60 (by decide) (fun c22 => ?_) (fun c22 => ?_)
                  · replace c22 : n ≤ i16 := (nI_leI (a := n) (b := i16) (by omega) (by omega)).mp c22
                    replace hZ9 := ite_t hZ9 c22
                    replace hZ9 := lp_app3 hK9_55 hZ9
                    refine lv_aload_n hx hb dX9_shortest_152 rfl (lv_at hl 3 rfl) ?_
                    refine va_get (D := (dC, dI)) (ci := 10) (v := .ref (a 32)) (C := RX9) (T := TX9) (N := 46) hx hb hts in_w_shortest_X9 hown hK hP 0 rfl rfl 32 (by decide) (hts (.fieldLink RX9 92 "ServiceTreeModel" "far" "[I") (by decide +kernel)) (fun _ h9 => h9) rfl dX9_shortest_153 ?_
                    refine lv_iload_n hx hb dX9_shortest_156 rfl (lv_at hl 1 rfl) ?_
                    refine va_iald (n := 40) (f := F20 32) hx hb hK hP 28 27 rfl rfl (vp_in_nI (n := i1) (by omega) (by decide)) dX9_shortest_157 ?_
                    refine lv_topi (fun x23 ex23 => ?_)
                    replace hZ9 := bnd_s hZ9 ex23
                    refine lv_if_le (tgt := 184) hx hb dX9_shortest_158 (by decide) (fun c24 => ?_) (fun c24 => ?_)
                    · replace hZ9 := ite_t hZ9 c24
                      refine lv_iload_n hx hb dX9_shortest_184 rfl (lv_at hl 2 rfl) ?_
                      refine lv_istore_n (lv' := [(1, .int y7), (3, .int (nI i16)), (2, .int (nI i1)), (0, .ref h)]) hx hb dX9_shortest_185 rfl hl (by decide) rfl (fun ls hl => ?_)
                      refine lv_iinc (v := nI (i1 + 1)) (lv' := [(2, .int (nI (i1 + 1))), (1, .int y7), (3, .int (nI i16)), (0, .ref h)]) hx hb dX9_shortest_186 hl (k := 2) rfl (nI_add i1 1) (by decide) rfl (fun ls hl => ?_)
                      refine lv_goto (tgt := 4) hx hb dX9_shortest_189 (by decide) ?_
                      exact ih3 (i1 + 1) y7 F20 V21 _ _ _ (by omega) (by omega) (hI.mono (by omega)) hU hV  hZ9 hP hD hS (lv_sub hl [0, 1, 3] rfl)
                    · replace hZ9 := ite_f hZ9 c24
                      refine lv_iload_n hx hb dX9_shortest_161 rfl (lv_at hl 2 rfl) ?_
                      refine lv_if_eq (tgt := 175) hx hb dX9_shortest_162 (by decide) (fun c25 => ?_) (fun c25 => ?_)
                      · replace hZ9 := ite_t hZ9 c25
                        refine lv_aload_n hx hb dX9_shortest_175 rfl (lv_at hl 3 rfl) ?_
                        refine va_get (D := (dC, dI)) (ci := 10) (v := .ref (a 32)) (C := RX9) (T := TX9) (N := 46) hx hb hts in_w_shortest_X9 hown hK hP 0 rfl rfl 32 (by decide) (hts (.fieldLink RX9 92 "ServiceTreeModel" "far" "[I") (by decide +kernel)) (fun _ h9 => h9) rfl dX9_shortest_176 ?_
                        refine lv_iload_n hx hb dX9_shortest_179 rfl (lv_at hl 1 rfl) ?_
                        refine va_iald (n := 40) (f := F20 32) hx hb hK hP 28 27 rfl rfl (vp_in_nI (n := i1) (by omega) (by decide)) dX9_shortest_180 ?_
                        refine p1_topr (v := .int x23) (congrArg Value.int ex23.symm) ?_
                        refine lv_goto (tgt := 185) hx hb dX9_shortest_181 (by decide) ?_
                        refine lv_istore_n (lv' := [(1, .int x23), (3, .int (nI i16)), (2, .int (nI i1)), (0, .ref h)]) hx hb dX9_shortest_185 rfl hl (by decide) rfl (fun ls hl => ?_)
                        refine lv_iinc (v := nI (i1 + 1)) (lv' := [(2, .int (nI (i1 + 1))), (1, .int x23), (3, .int (nI i16)), (0, .ref h)]) hx hb dX9_shortest_186 hl (k := 2) rfl (nI_add i1 1) (by decide) rfl (fun ls hl => ?_)
                        refine lv_goto (tgt := 4) hx hb dX9_shortest_189 (by decide) ?_
                        exact ih3 (i1 + 1) x23 F20 V21 _ _ _ (by omega) (by omega) (hI.mono (by omega)) hU hV  hZ9 hP hD hS (lv_sub hl [0, 1, 3] rfl)
                      · replace hZ9 := ite_f hZ9 c25
                        refine lv_aload_n hx hb dX9_shortest_165 rfl (lv_at hl 3 rfl) ?_
                        refine va_get (D := (dC, dI)) (ci := 10) (v := .ref (a 32)) (C := RX9) (T := TX9) (N := 46) hx hb hts in_w_shortest_X9 hown hK hP 0 rfl rfl 32 (by decide) (hts (.fieldLink RX9 92 "ServiceTreeModel" "far" "[I") (by decide +kernel)) (fun _ h9 => h9) rfl dX9_shortest_166 ?_
                        refine lv_iload_n hx hb dX9_shortest_169 rfl (lv_at hl 1 rfl) ?_
                        refine va_iald (n := 40) (f := F20 32) hx hb hK hP 28 27 rfl rfl (vp_in_nI (n := i1) (by omega) (by decide)) dX9_shortest_170 ?_
                        refine p1_topr (v := .int x23) (congrArg Value.int ex23.symm) ?_
                        refine lv_iload_n hx hb dX9_shortest_171 rfl (lv_at hl 2 rfl) ?_
                        refine lv_icmp_ge (tgt := 184) hx hb dX9_shortest_172 (by decide) (fun c28 => ?_) (fun c28 => ?_)
                        · replace hZ9 := ite_t hZ9 c28
                          refine lv_iload_n hx hb dX9_shortest_184 rfl (lv_at hl 2 rfl) ?_
                          refine lv_istore_n (lv' := [(1, .int y7), (3, .int (nI i16)), (2, .int (nI i1)), (0, .ref h)]) hx hb dX9_shortest_185 rfl hl (by decide) rfl (fun ls hl => ?_)
                          refine lv_iinc (v := nI (i1 + 1)) (lv' := [(2, .int (nI (i1 + 1))), (1, .int y7), (3, .int (nI i16)), (0, .ref h)]) hx hb dX9_shortest_186 hl (k := 2) rfl (nI_add i1 1) (by decide) rfl (fun ls hl => ?_)
                          refine lv_goto (tgt := 4) hx hb dX9_shortest_189 (by decide) ?_
                          exact ih3 (i1 + 1) y7 F20 V21 _ _ _ (by omega) (by omega) (hI.mono (by omega)) hU hV  hZ9 hP hD hS (lv_sub hl [0, 1, 3] rfl)
                        · replace hZ9 := ite_f hZ9 c28
                          refine lv_aload_n hx hb dX9_shortest_175 rfl (lv_at hl 3 rfl) ?_
                          refine va_get (D := (dC, dI)) (ci := 10) (v := .ref (a 32)) (C := RX9) (T := TX9) (N := 46) hx hb hts in_w_shortest_X9 hown hK hP 0 rfl rfl 32 (by decide) (hts (.fieldLink RX9 92 "ServiceTreeModel" "far" "[I") (by decide +kernel)) (fun _ h9 => h9) rfl dX9_shortest_176 ?_
                          refine lv_iload_n hx hb dX9_shortest_179 rfl (lv_at hl 1 rfl) ?_
                          refine va_iald (n := 40) (f := F20 32) hx hb hK hP 28 27 rfl rfl (vp_in_nI (n := i1) (by omega) (by decide)) dX9_shortest_180 ?_
                          refine p1_topr (v := .int x23) (congrArg Value.int ex23.symm) ?_
                          refine lv_goto (tgt := 185) hx hb dX9_shortest_181 (by decide) ?_
                          refine lv_istore_n (lv' := [(1, .int x23), (3, .int (nI i16)), (2, .int (nI i1)), (0, .ref h)]) hx hb dX9_shortest_185 rfl hl (by decide) rfl (fun ls hl => ?_)
                          refine lv_iinc (v := nI (i1 + 1)) (lv' := [(2, .int (nI (i1 + 1))), (1, .int x23), (3, .int (nI i16)), (0, .ref h)]) hx hb dX9_shortest_186 hl (k := 2) rfl (nI_add i1 1) (by decide) rfl (fun ls hl => ?_)
                          refine lv_goto (tgt := 4) hx hb dX9_shortest_189 (by decide) ?_
                          exact ih3 (i1 + 1) x23 F20 V21 _ _ _ (by omega) (by omega) (hI.mono (by omega)) hU hV  hZ9 hP hD hS (lv_sub hl [0, 1, 3] rfl)
                  · replace c22 : ¬ (n ≤ i16) := fun q9 => c22 ((nI_leI (a := n) (b := i16) (by omega) (by omega)).mpr q9)
                    replace hZ9 := ite_f hZ9 c22
                    refine lv_iconst (v := 0) hx hb dX9_shortest_63 (by decide) ?_
                    refine lv_istore (lv' := [(4, .int 0), (3, .int (nI i16)), (2, .int (nI i1)), (1, .int y7), (0, .ref h)]) hx hb dX9_shortest_64 hl (by decide) rfl (fun ls hl => ?_)
                    obtain ⟨K9_66, hK9_66, hZ9⟩ := lp_gen hZ9
                    have lp33 : ∀ (fu31 i30 : Nat)  (F34 : Nat → Nat → Int32) (V35 : Nat → Int32) (H : Heap) (locs : List Loc) (ls : Array Slot), n < i30 + fu31 → i30 ≤ n → StM n (b) F V F34 V35 → (∀ j : Nat, j ∉ ([32] : List Nat) → F34 j = F j) → (∀ j : Nat, j ∉ ([] : List Nat) → V35 j = V j) → RES = f_w_shortest_66 n i16 fu31 i30 F34 V35 K9_66 → va_P (dC, dI) vwCl (mW h a k F34 V35) H → va_D A (mW h a k F34 V35) → va_S A s.heap H locs → lv_has ls 6 [(4, .int (nI i30)), (3, .int (nI i16)), (2, .int (nI i1)), (1, .int y7), (0, .ref h)] → W p l e (headSpec wq_w_shortest rm_w_shortest).room s m ([.ref h] : List Value).toArray below meth c H locs 0 0 Q0 (F0 m 66 ls []) := by
                      intro fu31
                      induction fu31 with
                      | zero =>
                        intro i30  F34 V35 H locs ls hf hi
                        exact absurd hf (by omega)
                      | succ fu31 ih32 =>
                        intro i30  F34 V35 H locs ls hfi30 hii30 hI hU hV hZ9 hP hD hS hl
                        rw [f_w_shortest_66] at hZ9
                        refine lv_iload hx hb dX9_shortest_66 (lv_at hl 0 rfl) ?_
                        refine lv_aload_n hx hb dX9_shortest_68 rfl (lv_at hl 4 rfl) ?_
                        refine va_get (D := (dC, dI)) (ci := 10) (v := .int (V35 21)) (C := RX9) (T := TX9) (N := 46) hx hb hts in_w_shortest_X9 hown hK hP 0 rfl rfl 21 (by decide) (hts (.fieldLink RX9 126 "ServiceTreeModel" "services" "I") (by decide +kernel)) (fun _ h9 => h9) rfl dX9_shortest_69 ?_
                        refine p1_topr (v := .int (nI n)) (congrArg Value.int hI.1.2.1) ?_
                        refine lv_icmp_ge (tgt := 146) hx hb dX9_shortest_72 (by decide) (fun c36 => ?_) (fun c36 => ?_)
                        · replace c36 : n ≤ i30 := (nI_leI (a := n) (b := i30) (by omega) (by omega)).mp c36
                          replace hZ9 := ite_t hZ9 c36
                          replace hZ9 := lp_app3 hK9_66 hZ9
                          refine lv_iinc (v := nI (i16 + 1)) (lv' := [(3, .int (nI (i16 + 1))), (4, .int (nI i30)), (2, .int (nI i1)), (1, .int y7), (0, .ref h)]) hx hb dX9_shortest_146 hl (k := 1) rfl (nI_add i16 1) (by decide) rfl (fun ls hl => ?_)
                          refine lv_goto (tgt := 55) hx hb dX9_shortest_149 (by decide) ?_
                          exact ih18 (i16 + 1)  F34 V35 _ _ _ (by omega) (by omega) (hI.mono (by omega)) hU hV  hZ9 hP hD hS (lv_sub hl [0, 2, 3, 4] rfl)
                        · replace c36 : ¬ (n ≤ i30) := fun q9 => c36 ((nI_leI (a := n) (b := i30) (by omega) (by omega)).mpr q9)
                          replace hZ9 := ite_f hZ9 c36
                          refine lv_iconst (v := 0) hx hb dX9_shortest_75 (by decide) ?_
                          refine lv_istore (lv' := [(5, .int 0), (4, .int (nI i30)), (3, .int (nI i16)), (2, .int (nI i1)), (1, .int y7), (0, .ref h)]) hx hb dX9_shortest_76 hl (by decide) rfl (fun ls hl => ?_)
                          obtain ⟨K9_78, hK9_78, hZ9⟩ := lp_gen hZ9
                          have lp40 : ∀ (fu38 i37 : Nat)  (F41 : Nat → Nat → Int32) (V42 : Nat → Int32) (H : Heap) (locs : List Loc) (ls : Array Slot), n < i37 + fu38 → i37 ≤ n → StM n (b) F V F41 V42 → (∀ j : Nat, j ∉ ([32] : List Nat) → F41 j = F j) → (∀ j : Nat, j ∉ ([] : List Nat) → V42 j = V j) → RES = f_w_shortest_78 n i16 i30 fu38 i37 F41 V42 K9_78 → va_P (dC, dI) vwCl (mW h a k F41 V42) H → va_D A (mW h a k F41 V42) → va_S A s.heap H locs → lv_has ls 6 [(5, .int (nI i37)), (4, .int (nI i30)), (3, .int (nI i16)), (2, .int (nI i1)), (1, .int y7), (0, .ref h)] → W p l e (headSpec wq_w_shortest rm_w_shortest).room s m ([.ref h] : List Value).toArray below meth c H locs 0 0 Q0 (F0 m 78 ls []) := by
                            intro fu38
                            induction fu38 with
                            | zero =>
                              intro i37  F41 V42 H locs ls hf hi
                              exact absurd hf (by omega)
                            | succ fu38 ih39 =>
                              intro i37  F41 V42 H locs ls hfi37 hii37 hI hU hV hZ9 hP hD hS hl
                              rw [f_w_shortest_78] at hZ9
                              refine lv_iload hx hb dX9_shortest_78 (lv_at hl 0 rfl) ?_
                              refine lv_aload_n hx hb dX9_shortest_80 rfl (lv_at hl 5 rfl) ?_
                              refine va_get (D := (dC, dI)) (ci := 10) (v := .int (V42 21)) (C := RX9) (T := TX9) (N := 46) hx hb hts in_w_shortest_X9 hown hK hP 0 rfl rfl 21 (by decide) (hts (.fieldLink RX9 126 "ServiceTreeModel" "services" "I") (by decide +kernel)) (fun _ h9 => h9) rfl dX9_shortest_81 ?_
                              refine p1_topr (v := .int (nI n)) (congrArg Value.int hI.1.2.1) ?_
                              refine lv_icmp_ge (tgt := 140) hx hb dX9_shortest_84 (by decide) (fun c43 => ?_) (fun c43 => ?_)
                              · replace c43 : n ≤ i37 := (nI_leI (a := n) (b := i37) (by omega) (by omega)).mp c43
                                replace hZ9 := ite_t hZ9 c43
                                replace hZ9 := lp_app3 hK9_78 hZ9
                                refine lv_iinc (v := nI (i30 + 1)) (lv' := [(4, .int (nI (i30 + 1))), (5, .int (nI i37)), (3, .int (nI i16)), (2, .int (nI i1)), (1, .int y7), (0, .ref h)]) hx hb dX9_shortest_140 hl (k := 1) rfl (nI_add i30 1) (by decide) rfl (fun ls hl => ?_)
                                refine lv_goto (tgt := 66) hx hb dX9_shortest_143 (by decide) ?_
                                exact ih32 (i30 + 1)  F41 V42 _ _ _ (by omega) (by omega) (hI.mono (by omega)) hU hV  hZ9 hP hD hS (lv_sub hl [0, 2, 3, 4, 5] rfl)
                              · replace c43 : ¬ (n ≤ i37) := fun q9 => c43 ((nI_leI (a := n) (b := i37) (by omega) (by omega)).mpr q9)
                                replace hZ9 := ite_f hZ9 c43
                                refine lv_aload_n hx hb dX9_shortest_87 rfl (lv_at hl 5 rfl) ?_
                                refine va_get (D := (dC, dI)) (ci := 10) (v := .ref (a 32)) (C := RX9) (T := TX9) (N := 46) hx hb hts in_w_shortest_X9 hown hK hP 0 rfl rfl 32 (by decide) (hts (.fieldLink RX9 92 "ServiceTreeModel" "far" "[I") (by decide +kernel)) (fun _ h9 => h9) rfl dX9_shortest_88 ?_
                                refine lv_iload hx hb dX9_shortest_91 (lv_at hl 1 rfl) ?_
                                refine va_iald (n := 40) (f := F41 32) hx hb hK hP 28 27 rfl rfl (vp_in_nI (n := i30) (by omega) (by decide)) dX9_shortest_93 ?_
                                refine lv_topi (fun x44 ex44 => ?_)
                                replace hZ9 := bnd_s hZ9 ex44
                                refine lv_iload_n hx hb dX9_shortest_94 rfl (lv_at hl 2 rfl) ?_
                                refine lv_icmp_ne (tgt := 140) hx hb dX9_shortest_95 (by decide) (fun c45 => ?_) (fun c45 => ?_)
                                · replace hZ9 := ite_f hZ9 c45
                                  replace hZ9 := lp_app3 hK9_78 hZ9
                                  refine lv_iinc (v := nI (i30 + 1)) (lv' := [(4, .int (nI (i30 + 1))), (5, .int (nI i37)), (3, .int (nI i16)), (2, .int (nI i1)), (1, .int y7), (0, .ref h)]) hx hb dX9_shortest_140 hl (k := 1) rfl (nI_add i30 1) (by decide) rfl (fun ls hl => ?_)
                                  refine lv_goto (tgt := 66) hx hb dX9_shortest_143 (by decide) ?_
                                  exact ih32 (i30 + 1)  F41 V42 _ _ _ (by omega) (by omega) (hI.mono (by omega)) hU hV  hZ9 hP hD hS (lv_sub hl [0, 2, 3, 4, 5] rfl)
                                · replace hZ9 := ite_t hZ9 c45
                                  refine lv_aload_n hx hb dX9_shortest_98 rfl (lv_at hl 5 rfl) ?_
                                  refine va_get (D := (dC, dI)) (ci := 10) (v := .ref (a 32)) (C := RX9) (T := TX9) (N := 46) hx hb hts in_w_shortest_X9 hown hK hP 0 rfl rfl 32 (by decide) (hts (.fieldLink RX9 92 "ServiceTreeModel" "far" "[I") (by decide +kernel)) (fun _ h9 => h9) rfl dX9_shortest_99 ?_
                                  refine lv_iload hx hb dX9_shortest_102 (lv_at hl 0 rfl) ?_
                                  refine va_iald (n := 40) (f := F41 32) hx hb hK hP 28 27 rfl rfl (vp_in_nI (n := i37) (by omega) (by decide)) dX9_shortest_104 ?_
                                  refine lv_topi (fun x46 ex46 => ?_)
                                  replace hZ9 := bnd_s hZ9 ex46
                                  refine lv_if_ne (tgt := 134) hx hb dX9_shortest_105 (by decide) (fun c47 => ?_) (fun c47 => ?_)
                                  · replace hZ9 := ite_f hZ9 c47
                                    refine lv_iinc (v := nI (i37 + 1)) (lv' := [(5, .int (nI (i37 + 1))), (4, .int (nI i30)), (3, .int (nI i16)), (2, .int (nI i1)), (1, .int y7), (0, .ref h)]) hx hb dX9_shortest_134 hl (k := 0) rfl (nI_add i37 1) (by decide) rfl (fun ls hl => ?_)
                                    refine lv_goto (tgt := 78) hx hb dX9_shortest_137 (by decide) ?_
                                    exact ih39 (i37 + 1)  F41 V42 _ _ _ (by omega) (by omega) (hI.mono (by omega)) hU hV  hZ9 hP hD hS (lv_sub hl [0, 1, 2, 3, 4, 5] rfl)
                                  · replace hZ9 := ite_t hZ9 c47
                                    refine lv_aload_n hx hb dX9_shortest_108 rfl (lv_at hl 5 rfl) ?_
                                    refine va_get (D := (dC, dI)) (ci := 10) (v := .ref (a 31)) (C := RX9) (T := TX9) (N := 46) hx hb hts in_w_shortest_X9 hown hK hP 0 rfl rfl 31 (by decide) (hts (.fieldLink RX9 89 "ServiceTreeModel" "edge" "[Z") (by decide +kernel)) (fun _ h9 => h9) rfl dX9_shortest_109 ?_
                                    refine lv_iload hx hb dX9_shortest_112 (lv_at hl 1 rfl) ?_
                                    refine lv_bipush (v := 40) hx hb dX9_shortest_114 (by decide) ?_
                                    refine lv_imul hx hb dX9_shortest_116 ?_
                                    refine p1_topr (v := .int (nI (i30 * 40))) (congrArg Value.int (pk_mul i30 40)) ?_
                                    refine lv_iload hx hb dX9_shortest_117 (lv_at hl 0 rfl) ?_
                                    refine lv_iadd hx hb dX9_shortest_119 ?_
                                    refine p1_topr (v := .int (nI ((i30 * 40) + i37))) (congrArg Value.int (nI_add (i30 * 40) i37)) ?_
                                    refine va_zald (n := 1600) (f := F41 31) hx hb hK hP 27 26 rfl rfl (vp_in_nI (n := (i30 * 40) + i37) (by omega) (by decide)) dX9_shortest_120 ?_
                                    refine lv_topi (fun x48 ex48 => ?_)
                                    replace hZ9 := bnd_s hZ9 ex48
                                    refine lv_if_eq (tgt := 134) hx hb dX9_shortest_121 (by decide) (fun c49 => ?_) (fun c49 => ?_)
                                    · replace hZ9 := ite_t hZ9 c49
                                      refine lv_iinc (v := nI (i37 + 1)) (lv' := [(5, .int (nI (i37 + 1))), (4, .int (nI i30)), (3, .int (nI i16)), (2, .int (nI i1)), (1, .int y7), (0, .ref h)]) hx hb dX9_shortest_134 hl (k := 0) rfl (nI_add i37 1) (by decide) rfl (fun ls hl => ?_)
                                      refine lv_goto (tgt := 78) hx hb dX9_shortest_137 (by decide) ?_
                                      exact ih39 (i37 + 1)  F41 V42 _ _ _ (by omega) (by omega) (hI.mono (by omega)) hU hV  hZ9 hP hD hS (lv_sub hl [0, 1, 2, 3, 4, 5] rfl)
                                    · replace hZ9 := ite_f hZ9 c49
                                      refine lv_aload_n hx hb dX9_shortest_124 rfl (lv_at hl 5 rfl) ?_
                                      refine va_get (D := (dC, dI)) (ci := 10) (v := .ref (a 32)) (C := RX9) (T := TX9) (N := 46) hx hb hts in_w_shortest_X9 hown hK hP 0 rfl rfl 32 (by decide) (hts (.fieldLink RX9 92 "ServiceTreeModel" "far" "[I") (by decide +kernel)) (fun _ h9 => h9) rfl dX9_shortest_125 ?_
                                      refine lv_iload hx hb dX9_shortest_128 (lv_at hl 0 rfl) ?_
                                      refine lv_iload_n hx hb dX9_shortest_130 rfl (lv_at hl 2 rfl) ?_
                                      refine lv_iconst (v := 1) hx hb dX9_shortest_131 (by decide) ?_
                                      refine lv_iadd hx hb dX9_shortest_132 ?_
                                      refine p1_topr (v := .int (nI (i16 + 1))) (congrArg Value.int (nI_add i16 1)) ?_
                                      refine va_iast (n := 40) (f := F41 32) hx hb hK hP hD hS 28 27 rfl rfl (vp_in_nI (n := i37) (by omega) (by decide)) dX9_shortest_133 (fun H locs hP hD hS => ?_)
                                      rw [mW_set_32] at hP hD
                                      obtain ⟨F50, eF50⟩ : ∃ f9 : Nat → Nat → Int32, f9 = va_up F41 32 (upd (F41 32) (nI i37).toNatClampNeg (nI (i16 + 1))) := ⟨_, rfl⟩
                                      rw [← eF50] at hP hD
                                      replace hZ9 := bnd_s hZ9 eF50
                                      replace hI : StM n (b) F V F50 V42 := ⟨by rw [eF50]; exact hI.1.setF (by decide), trivial⟩
                                      replace hU : ∀ j : Nat, j ∉ ([32] : List Nat) → F50 j = F j := by rw [eF50]; exact mw_up (by decide) hU
                                      refine lv_iinc (v := nI (i37 + 1)) (lv' := [(5, .int (nI (i37 + 1))), (4, .int (nI i30)), (3, .int (nI i16)), (2, .int (nI i1)), (1, .int y7), (0, .ref h)]) hx hb dX9_shortest_134 hl (k := 0) rfl (nI_add i37 1) (by decide) rfl (fun ls hl => ?_)
                                      refine lv_goto (tgt := 78) hx hb dX9_shortest_137 (by decide) ?_
                                      exact ih39 (i37 + 1)  F50 V42 _ _ _ (by omega) (by omega) (hI.mono (by omega)) hU hV  hZ9 hP hD hS (lv_sub hl [0, 1, 2, 3, 4, 5] rfl)
                          exact lp40 (n + 1) 0  F34 V35 _ _ _ (by omega) (by omega) (hI.mono (by omega)) hU hV  hZ9 hP hD hS hl
                    exact lp33 (n + 1) 0  F20 V21 _ _ _ (by omega) (by omega) (hI.mono (by omega)) hU hV  hZ9 hP hD hS hl
              exact lp19 (n + 1) 1  F13 V14 _ _ _ (by omega) (by omega) (hI.mono (by omega)) hU hV  hZ9 hP hD hS hl
            · replace c15 : ¬ (n ≤ i9) := fun q9 => c15 ((nI_leI (a := n) (b := i9) (by omega) (by omega)).mpr q9)
              replace hZ9 := ite_f hZ9 c15
              refine lv_aload_n hx hb dX9_shortest_22 rfl (lv_at hl 3 rfl) ?_
              refine va_get (D := (dC, dI)) (ci := 10) (v := .ref (a 32)) (C := RX9) (T := TX9) (N := 46) hx hb hts in_w_shortest_X9 hown hK hP 0 rfl rfl 32 (by decide) (hts (.fieldLink RX9 92 "ServiceTreeModel" "far" "[I") (by decide +kernel)) (fun _ h9 => h9) rfl dX9_shortest_23 ?_
              refine lv_iload_n hx hb dX9_shortest_26 rfl (lv_at hl 0 rfl) ?_
              refine lv_aload_n hx hb dX9_shortest_27 rfl (lv_at hl 3 rfl) ?_
              refine va_get (D := (dC, dI)) (ci := 10) (v := .ref (a 31)) (C := RX9) (T := TX9) (N := 46) hx hb hts in_w_shortest_X9 hown hK hP 0 rfl rfl 31 (by decide) (hts (.fieldLink RX9 89 "ServiceTreeModel" "edge" "[Z") (by decide +kernel)) (fun _ h9 => h9) rfl dX9_shortest_28 ?_
              refine lv_iload_n hx hb dX9_shortest_31 rfl (lv_at hl 1 rfl) ?_
              refine lv_bipush (v := 40) hx hb dX9_shortest_32 (by decide) ?_
              refine lv_imul hx hb dX9_shortest_34 ?_
              refine p1_topr (v := .int (nI (i1 * 40))) (congrArg Value.int (pk_mul i1 40)) ?_
              refine lv_iload_n hx hb dX9_shortest_35 rfl (lv_at hl 0 rfl) ?_
              refine lv_iadd hx hb dX9_shortest_36 ?_
              refine p1_topr (v := .int (nI ((i1 * 40) + i9))) (congrArg Value.int (nI_add (i1 * 40) i9)) ?_
              refine va_zald (n := 1600) (f := F13 31) hx hb hK hP 27 26 rfl rfl (vp_in_nI (n := (i1 * 40) + i9) (by omega) (by decide)) dX9_shortest_37 ?_
              refine lv_topi (fun x51 ex51 => ?_)
              replace hZ9 := bnd_s hZ9 ex51
              refine lv_if_eq (tgt := 45) hx hb dX9_shortest_38 (by decide) (fun c52 => ?_) (fun c52 => ?_)
              · replace hZ9 := ite_t hZ9 c52
                refine lv_iconst (v := 0) hx hb dX9_shortest_45 (by decide) ?_
                refine va_iast (n := 40) (f := F13 32) hx hb hK hP hD hS 28 27 rfl rfl (vp_in_nI (n := i9) (by omega) (by decide)) dX9_shortest_46 (fun H locs hP hD hS => ?_)
                rw [mW_set_32] at hP hD
                obtain ⟨F53, eF53⟩ : ∃ f9 : Nat → Nat → Int32, f9 = va_up F13 32 (upd (F13 32) (nI i9).toNatClampNeg 0) := ⟨_, rfl⟩
                rw [← eF53] at hP hD
                replace hZ9 := bnd_s hZ9 eF53
                replace hI : StM n (b) F V F53 V14 := ⟨by rw [eF53]; exact hI.1.setF (by decide), trivial⟩
                replace hU : ∀ j : Nat, j ∉ ([32] : List Nat) → F53 j = F j := by rw [eF53]; exact mw_up (by decide) hU
                refine lv_iinc (v := nI (i9 + 1)) (lv' := [(3, .int (nI (i9 + 1))), (2, .int (nI i1)), (1, .int y7), (0, .ref h)]) hx hb dX9_shortest_47 hl (k := 0) rfl (nI_add i9 1) (by decide) rfl (fun ls hl => ?_)
                refine lv_goto (tgt := 14) hx hb dX9_shortest_50 (by decide) ?_
                exact ih11 (i9 + 1)  F53 V14 _ _ _ (by omega) (by omega) (hI.mono (by omega)) hU hV  hZ9 hP hD hS (lv_sub hl [0, 1, 2, 3] rfl)
              · replace hZ9 := ite_f hZ9 c52
                refine lv_iconst (v := 1) hx hb dX9_shortest_41 (by decide) ?_
                refine lv_goto (tgt := 46) hx hb dX9_shortest_42 (by decide) ?_
                refine va_iast (n := 40) (f := F13 32) hx hb hK hP hD hS 28 27 rfl rfl (vp_in_nI (n := i9) (by omega) (by decide)) dX9_shortest_46 (fun H locs hP hD hS => ?_)
                rw [mW_set_32] at hP hD
                obtain ⟨F54, eF54⟩ : ∃ f9 : Nat → Nat → Int32, f9 = va_up F13 32 (upd (F13 32) (nI i9).toNatClampNeg 1) := ⟨_, rfl⟩
                rw [← eF54] at hP hD
                replace hZ9 := bnd_s hZ9 eF54
                replace hI : StM n (b) F V F54 V14 := ⟨by rw [eF54]; exact hI.1.setF (by decide), trivial⟩
                replace hU : ∀ j : Nat, j ∉ ([32] : List Nat) → F54 j = F j := by rw [eF54]; exact mw_up (by decide) hU
                refine lv_iinc (v := nI (i9 + 1)) (lv' := [(3, .int (nI (i9 + 1))), (2, .int (nI i1)), (1, .int y7), (0, .ref h)]) hx hb dX9_shortest_47 hl (k := 0) rfl (nI_add i9 1) (by decide) rfl (fun ls hl => ?_)
                refine lv_goto (tgt := 14) hx hb dX9_shortest_50 (by decide) ?_
                exact ih11 (i9 + 1)  F54 V14 _ _ _ (by omega) (by omega) (hI.mono (by omega)) hU hV  hZ9 hP hD hS (lv_sub hl [0, 1, 2, 3] rfl)
        exact lp12 (n + 1) 0  F5 V6 _ _ _ (by omega) (by omega) (hI.mono (by omega)) hU hV  hZ9 hP hD hS hl
  exact lp4 (n + 1) 0 0 F V _ _ _ (by omega) (by omega) (hI.mono (by omega)) hU hV  hZ9 hP hD hS hl
def f_w_memberRing_member_12 (n : Nat) (i1 : Nat) : Nat → Nat → (Nat → Nat → Int32) → (Nat → Int32) → (Nat → (Nat → Nat → Int32) → (Nat → Int32) → Int32 × (Nat → Nat → Int32) × (Nat → Int32)) → Int32 × (Nat → Nat → Int32) × (Nat → Int32)
  | 0, i11, F15, V16, K9_12 => K9_12 i11 F15 V16
  | fu12 + 1, i11, F15, V16, K9_12 => if n ≤ i11 then (K9_12 i11 F15 V16) else (bnd (F15 27 (nI i1).toNatClampNeg) (fun (x18 : Int32) => if x18 = (0 : Int32) then (bnd (va_up F15 31 (upd (F15 31) (nI ((i1 * 40) + i11)).toNatClampNeg (vp_nar .boolean 0))) (fun (F20 : Nat → Nat → Int32) => f_w_memberRing_member_12 n i1 fu12 (i11 + 1) F20 V16 K9_12)) else (bnd (F15 27 (nI i11).toNatClampNeg) (fun (x21 : Int32) => if x21 = (0 : Int32) then (bnd (va_up F15 31 (upd (F15 31) (nI ((i1 * 40) + i11)).toNatClampNeg (vp_nar .boolean 0))) (fun (F23 : Nat → Nat → Int32) => f_w_memberRing_member_12 n i1 fu12 (i11 + 1) F23 V16 K9_12)) else (bnd (F15 7 (nI i1).toNatClampNeg) (fun (x24 : Int32) => if x24 = (2 : Int32) then (bnd (va_up F15 31 (upd (F15 31) (nI ((i1 * 40) + i11)).toNatClampNeg (vp_nar .boolean 0))) (fun (F26 : Nat → Nat → Int32) => f_w_memberRing_member_12 n i1 fu12 (i11 + 1) F26 V16 K9_12)) else (bnd (F15 7 (nI i11).toNatClampNeg) (fun (x27 : Int32) => if x27 = (2 : Int32) then (bnd (va_up F15 31 (upd (F15 31) (nI ((i1 * 40) + i11)).toNatClampNeg (vp_nar .boolean 0))) (fun (F29 : Nat → Nat → Int32) => f_w_memberRing_member_12 n i1 fu12 (i11 + 1) F29 V16 K9_12)) else (bnd (f_w_has n 0 i1 i11 F15) (fun (r30 : Int32) => if r30 = (0 : Int32) then (bnd (f_w_has n 2 i1 i11 F15) (fun (r35 : Int32) => if r35 = (0 : Int32) then (bnd (va_up F15 31 (upd (F15 31) (nI ((i1 * 40) + i11)).toNatClampNeg (vp_nar .boolean 0))) (fun (F39 : Nat → Nat → Int32) => f_w_memberRing_member_12 n i1 fu12 (i11 + 1) F39 V16 K9_12)) else (bnd (va_up F15 31 (upd (F15 31) (nI ((i1 * 40) + i11)).toNatClampNeg (vp_nar .boolean 1))) (fun (F40 : Nat → Nat → Int32) => f_w_memberRing_member_12 n i1 fu12 (i11 + 1) F40 V16 K9_12)))) else (bnd (va_up F15 31 (upd (F15 31) (nI ((i1 * 40) + i11)).toNatClampNeg (vp_nar .boolean 1))) (fun (F34 : Nat → Nat → Int32) => f_w_memberRing_member_12 n i1 fu12 (i11 + 1) F34 V16 K9_12))))))))))))
def f_w_memberRing_member_2 (n : Nat)  : Nat → Nat → (Nat → Nat → Int32) → (Nat → Int32) → (Nat → (Nat → Nat → Int32) → (Nat → Int32) → Int32 × (Nat → Nat → Int32) × (Nat → Int32)) → Int32 × (Nat → Nat → Int32) × (Nat → Int32)
  | 0, i1, F5, V6, K9_2 => K9_2 i1 F5 V6
  | fu2 + 1, i1, F5, V6, K9_2 => if n ≤ i1 then (K9_2 i1 F5 V6) else (f_w_memberRing_member_12 n i1 (n + 1) (0 : Nat) F5 V6 (fun (i11 : Nat) (F15 : Nat → Nat → Int32) (V16 : Nat → Int32) => f_w_memberRing_member_2 n  fu2 (i1 + 1) F15 V16 K9_2))
def f_w_memberRing_member (n : Nat)  (F : Nat → Nat → Int32) (V : Nat → Int32) : Int32 × (Nat → Nat → Int32) × (Nat → Int32) := f_w_memberRing_member_2 n  (n + 1) (0 : Nat) F V (fun (i1 : Nat) (F5 : Nat → Nat → Int32) (V6 : Nat → Int32) => bn3 (f_w_shortest n  F5 V6) (fun (r8 : Int32) (F9 : Nat → Nat → Int32) (V10 : Nat → Int32) => (r8, F9, V10)))
def wq_w_memberRing_member : List Cond := ([.code yX9_memberRing cX9_memberRing 4 (some .int), .fieldLink RX9 126 "ServiceTreeModel" "services" "I", .fieldLink RX9 89 "ServiceTreeModel" "edge" "[Z", .fieldLink RX9 31 "ServiceTreeModel" "state" "[I", .methodLink RX9 160 yX9_shortest, .instanceMethod yX9_shortest, .selects RX9 yX9_shortest yX9_shortest, .initialized RX9, .methodLink RX9 150 yX9_has, .instanceMethod yX9_has, .selects RX9 yX9_has yX9_has] : List Cond) ++ (wsX90 ++ (wq_w_shortest ++ (wq_w_has)))
theorem in_w_memberRing_member_X9 : ∀ w ∈ wsX90, w ∈ wq_w_memberRing_member := fun _ h => List.mem_append_right _ (List.mem_append_left _ (h))
set_option maxRecDepth 20000 in
theorem wi_w_memberRing_member : ∀ w ∈ wq_w_memberRing_member, w ∈ lw_tbl := List.forall_mem_append.mpr ⟨(wix [1070, 873, 883, 859, 1071, 1073, 44, 69, 1023, 1025, 35] rfl), List.forall_mem_append.mpr ⟨inKX9, List.forall_mem_append.mpr ⟨wi_w_shortest, wi_w_has⟩⟩⟩
set_option maxRecDepth 20000 in
theorem wg_w_memberRing_member : GoodIn wq_w_memberRing_member wq_w_memberRing_member := goodIn_sub (fun _ h => h) (by decide +kernel)
set_option maxRecDepth 20000 in
theorem wc_w_memberRing_member_w_shortest_160 : GoodIn wq_w_memberRing_member (wsV RX9 160 RX9 yX9_shortest wq_w_shortest) := goodIn_app (goodIn_of _ (by decide +kernel)) (fun w h => ⟨List.mem_append_right _ (List.mem_append_right _ (List.mem_append_left _ (h))), (wg_w_shortest w h).2⟩)
set_option maxRecDepth 20000 in
theorem wc_w_memberRing_member_w_has_150 : GoodIn wq_w_memberRing_member (wsV RX9 150 RX9 yX9_has wq_w_has) := goodIn_app (goodIn_of _ (by decide +kernel)) (fun w h => ⟨List.mem_append_right _ (List.mem_append_right _ (List.mem_append_right _ (h))), (wg_w_has w h).2⟩)
def rm_w_memberRing_member : Room := { frames := 1, cells := 0, slots := 0, locals := 25 }
set_option maxHeartbeats 4000000 in
set_option maxRecDepth 100000 in
theorem c_w_memberRing_member (l : Launch) (dC : Nat → ClassId) (dI : Nat → Nat → Nat) (h : Nat) (a : Nat → Nat) (k : Nat → ClassId) (F : Nat → Nat → Int32) (V : Nat → Int32) (n b : Nat)  (sz : Nat) (hI0 : InvM n b F V) (hb0 : b + 0 < 2147483648)  : Met l yX9_memberRing wq_w_memberRing_member rm_w_memberRing_member (va_Pc [.ref h, .ref (a 27)] (fun U => U.heap.size = sz ∧ va_P (dC, dI) vwCl (mW h a k F V) U.heap ∧ va_K (dC, dI) vwCl (mT k) U ∧ va_D (fun _ => True) (mW h a k F V))) (va_Qi (fun (r : Int32) (u : (Nat → Nat → Int32) × (Nat → Int32)) => StM n (b + 0) F V u.1 u.2 ∧ (∀ j : Nat, j ∉ ([31, 32] : List Nat) → u.1 j = F j) ∧ (∀ j : Nat, j ∉ ([] : List Nat) → u.2 j = V j) ∧ ((r, u.1, u.2) = f_w_memberRing_member n  F V)) (fun (u : (Nat → Nat → Int32) × (Nat → Int32)) (t : State) => va_P (dC, dI) vwCl (mW h a k u.1 u.2) t.heap ∧ va_D (va_A (mW h a k F V) sz) (mW h a k u.1 u.2)) (va_A (mW h a k F V) sz)) 0 0 (va_A (mW h a k F V) sz) := by
  have hn : n ≤ 40 := hI0.1
  have hI : StM n b F V F V := StM.rf hI0
  have hU : ∀ j : Nat, j ∉ ([31, 32] : List Nat) → F j = F j := fun _ _ => rfl
  have hV : ∀ j : Nat, j ∉ ([] : List Nat) → V j = V j := fun _ _ => rfl
  refine Met.ofW (cc := cX9_memberRing) (maxL := 4) (ret := (some .int)) (by decide) rfl ?_
  intro p e s m args below meth c s₁ B hml hv
  obtain ⟨rfl, hsz, hP, hK, hD0⟩ := hv
  have hx := B.exec
  have hb := B.bytes
  have hr := B.returns
  have hts := atoms_spec (ws := wq_w_memberRing_member) B.pre
  have hown : s.vm.findClass RX9 = some m.cls := findClass_of_methodNamed B.named
  have hlocks := B.notSynchronized
  subst hsz
  have hD := hD0.self (sz := s.heap.size)
  generalize hAe : va_A (mW h a k F V) s.heap.size = A at hD ⊢
  have hA : ∀ q : Nat, s.heap.size ≤ q → A q := fun q h => by rw [← hAe]; exact Or.inr h
  have hS : va_S A s.heap s.heap [] := va_S.rf
  have hl := lv_entry ([.ref h, .ref (a 27)]) (n := 4) (Nat.le_of_ble_eq_true rfl)
  rw [lg_entry_eq]
  generalize (lg_sl ([.ref h, .ref (a 27)]) ++ List.replicate (4 - (lg_sl ([.ref h, .ref (a 27)])).length) Slot.unset).toArray = ls at hl ⊢
  have hl : lv_has ls 4 [(0, .ref h), (1, .ref (a 27))] := hl
  refine mw_Q (fun Q0 hQ => ?_)
  obtain ⟨RES, hR0⟩ : ∃ R9, R9 = f_w_memberRing_member n  F V := ⟨_, rfl⟩
  have hZ9 := hR0
  unfold f_w_memberRing_member at hZ9
  refine lv_iconst (v := 0) hx hb dX9_memberRing_0 (by decide) ?_
  refine lv_istore_n (lv' := [(2, .int 0), (0, .ref h), (1, .ref (a 27))]) hx hb dX9_memberRing_1 rfl hl (by decide) rfl (fun ls hl => ?_)
  obtain ⟨K9_2, hK9_2, hZ9⟩ := lp_gen hZ9
  have lp4 : ∀ (fu2 i1 : Nat)  (F5 : Nat → Nat → Int32) (V6 : Nat → Int32) (H : Heap) (locs : List Loc) (ls : Array Slot), n < i1 + fu2 → i1 ≤ n → StM n (b) F V F5 V6 → (∀ j : Nat, j ∉ ([31, 32] : List Nat) → F5 j = F j) → (∀ j : Nat, j ∉ ([] : List Nat) → V6 j = V j) → RES = f_w_memberRing_member_2 n  fu2 i1 F5 V6 K9_2 → va_P (dC, dI) vwCl (mW h a k F5 V6) H → va_D A (mW h a k F5 V6) → va_S A s.heap H locs → lv_has ls 4 [(2, .int (nI i1)), (0, .ref h), (1, .ref (a 27))] → W p l e (headSpec wq_w_memberRing_member rm_w_memberRing_member).room s m ([.ref h, .ref (a 27)] : List Value).toArray below meth c H locs 0 0 Q0 (F0 m 2 ls []) := by
    intro fu2
    induction fu2 with
    | zero =>
      intro i1  F5 V6 H locs ls hf hi
      exact absurd hf (by omega)
    | succ fu2 ih3 =>
      intro i1  F5 V6 H locs ls hfi1 hii1 hI hU hV hZ9 hP hD hS hl
      rw [f_w_memberRing_member_2] at hZ9
      refine lv_iload_n hx hb dX9_memberRing_2 rfl (lv_at hl 0 rfl) ?_
      refine lv_aload_n hx hb dX9_memberRing_3 rfl (lv_at hl 1 rfl) ?_
      refine va_get (D := (dC, dI)) (ci := 10) (v := .int (V6 21)) (C := RX9) (T := TX9) (N := 46) hx hb hts in_w_memberRing_member_X9 hown hK hP 0 rfl rfl 21 (by decide) (hts (.fieldLink RX9 126 "ServiceTreeModel" "services" "I") (by decide +kernel)) (fun _ h9 => h9) rfl dX9_memberRing_4 ?_
      refine p1_topr (v := .int (nI n)) (congrArg Value.int hI.1.2.1) ?_
      refine lv_icmp_ge (tgt := 100) hx hb dX9_memberRing_7 (by decide) (fun c7 => ?_) (fun c7 => ?_)
      · replace c7 : n ≤ i1 := (nI_leI (a := n) (b := i1) (by omega) (by omega)).mp c7
        replace hZ9 := ite_t hZ9 c7
        replace hZ9 := lp_app3 hK9_2 hZ9
        refine lv_aload_n hx hb dX9_memberRing_100 rfl (lv_at hl 1 rfl) ?_
        have hFc := mw_free hD hS hA
        refine va_calli (va_runV (As := []) (rest := []) ⟨hx, hb, hml, hown, hts⟩ (c_w_shortest l dC dI h a k F5 V6 n (b)  H.size hI.1 (by omega) ) (cwV 0 hts wc_w_memberRing_member_w_shortest_160 rfl rfl rfl (by decide +kernel) ⟨Nat.le_of_ble_eq_true rfl, Nat.le_of_ble_eq_true rfl⟩) ⟨fun a9 U g mk q => by obtain ⟨q0, q1, qP, qK, qD⟩ := q; exact ⟨q0, q1, qP, va_K.moved (u := U) (U := U.calling g mk a9) (Vm.Alike.refl U.vm) qK, qD⟩, va_recv hK hP (ci := 10) (q0 := 0) rfl rfl, fun U hU hW => ⟨rfl, by rw [hU], by rw [hU]; exact hP, va_K.moved hW.alike hK, hD.weaken (fun _ _ _ _ => trivial)⟩⟩ rfl rfl hl.1 rfl (lv_room (Nat.le_of_ble_eq_true rfl)) dX9_memberRing_101 ⟨Nat.le_of_ble_eq_true rfl, Nat.le_of_ble_eq_true rfl⟩) hS (fun q _ h => hFc q h) hFc (fun r8 u t H1 locs ht hvm hw hB hz1 hk1 hS => ?_)
        obtain ⟨F9, V10⟩ := u
        replace hP := hB.1
        rw [ht] at hP
        replace hD : va_D A (mW h a k F9 V10) := hB.2.weaken (fun _ q _ h9 => hFc q.1 h9)
        clear hB
        generalize H1 = H at hP hS ⊢
        replace hP : va_P (dC, dI) vwCl (mW h a k F9 V10) H := hP
        obtain ⟨hwI, hwU, hwV, hw⟩ := hw
        replace hU : ∀ j : Nat, j ∉ ([31, 32] : List Nat) → F9 j = F j := mw_tr (by decide) hwU hU
        replace hV : ∀ j : Nat, j ∉ ([] : List Nat) → V10 j = V j := mw_tr (by decide) hwV hV
        replace hI : StM n (b + 0) F V F9 V10 := hI.trans hwI
        replace hI : StM n (b) F V F9 V10 := hI
        replace hw : (r8, F9, V10) = f_w_shortest n  F5 V6 := hw
        replace hZ9 := bn3_s hZ9 hw
        rw [hQ]
        exact W.iret (v := r8) hx hb hr (fun t ht hW => ⟨⟨r8, (F9, V10), rfl, ⟨hI.mono (by omega), hU, hV, hZ9.symm.trans hR0⟩, by rw [ht]; exact hP, hD⟩, hS.F ht⟩) hS.2.2 dX9_memberRing_104
      · replace c7 : ¬ (n ≤ i1) := fun q9 => c7 ((nI_leI (a := n) (b := i1) (by omega) (by omega)).mpr q9)
        replace hZ9 := ite_f hZ9 c7
        refine lv_iconst (v := 0) hx hb dX9_memberRing_10 (by decide) ?_
        refine lv_istore_n (lv' := [(3, .int 0), (2, .int (nI i1)), (0, .ref h), (1, .ref (a 27))]) hx hb dX9_memberRing_11 rfl hl (by decide) rfl (fun ls hl => ?_)
        obtain ⟨K9_12, hK9_12, hZ9⟩ := lp_gen hZ9
        have lp14 : ∀ (fu12 i11 : Nat)  (F15 : Nat → Nat → Int32) (V16 : Nat → Int32) (H : Heap) (locs : List Loc) (ls : Array Slot), n < i11 + fu12 → i11 ≤ n → StM n (b) F V F15 V16 → (∀ j : Nat, j ∉ ([31, 32] : List Nat) → F15 j = F j) → (∀ j : Nat, j ∉ ([] : List Nat) → V16 j = V j) → RES = f_w_memberRing_member_12 n i1 fu12 i11 F15 V16 K9_12 → va_P (dC, dI) vwCl (mW h a k F15 V16) H → va_D A (mW h a k F15 V16) → va_S A s.heap H locs → lv_has ls 4 [(3, .int (nI i11)), (2, .int (nI i1)), (0, .ref h), (1, .ref (a 27))] → W p l e (headSpec wq_w_memberRing_member rm_w_memberRing_member).room s m ([.ref h, .ref (a 27)] : List Value).toArray below meth c H locs 0 0 Q0 (F0 m 12 ls []) := by
          intro fu12
          induction fu12 with
          | zero =>
            intro i11  F15 V16 H locs ls hf hi
            exact absurd hf (by omega)
          | succ fu12 ih13 =>
            intro i11  F15 V16 H locs ls hfi11 hii11 hI hU hV hZ9 hP hD hS hl
            rw [f_w_memberRing_member_12] at hZ9
            refine lv_iload_n hx hb dX9_memberRing_12 rfl (lv_at hl 0 rfl) ?_
            refine lv_aload_n hx hb dX9_memberRing_13 rfl (lv_at hl 2 rfl) ?_
            refine va_get (D := (dC, dI)) (ci := 10) (v := .int (V16 21)) (C := RX9) (T := TX9) (N := 46) hx hb hts in_w_memberRing_member_X9 hown hK hP 0 rfl rfl 21 (by decide) (hts (.fieldLink RX9 126 "ServiceTreeModel" "services" "I") (by decide +kernel)) (fun _ h9 => h9) rfl dX9_memberRing_14 ?_
            refine p1_topr (v := .int (nI n)) (congrArg Value.int hI.1.2.1) ?_
            refine lv_icmp_ge (tgt := 94) hx hb dX9_memberRing_17 (by decide) (fun c17 => ?_) (fun c17 => ?_)
            · replace c17 : n ≤ i11 := (nI_leI (a := n) (b := i11) (by omega) (by omega)).mp c17
              replace hZ9 := ite_t hZ9 c17
              replace hZ9 := lp_app3 hK9_12 hZ9
              refine lv_iinc (v := nI (i1 + 1)) (lv' := [(2, .int (nI (i1 + 1))), (3, .int (nI i11)), (0, .ref h), (1, .ref (a 27))]) hx hb dX9_memberRing_94 hl (k := 1) rfl (nI_add i1 1) (by decide) rfl (fun ls hl => ?_)
              refine lv_goto (tgt := 2) hx hb dX9_memberRing_97 (by decide) ?_
              exact ih3 (i1 + 1)  F15 V16 _ _ _ (by omega) (by omega) (hI.mono (by omega)) hU hV  hZ9 hP hD hS (lv_sub hl [0, 2, 3] rfl)
            · replace c17 : ¬ (n ≤ i11) := fun q9 => c17 ((nI_leI (a := n) (b := i11) (by omega) (by omega)).mpr q9)
              replace hZ9 := ite_f hZ9 c17
              refine lv_aload_n hx hb dX9_memberRing_20 rfl (lv_at hl 2 rfl) ?_
              refine va_get (D := (dC, dI)) (ci := 10) (v := .ref (a 31)) (C := RX9) (T := TX9) (N := 46) hx hb hts in_w_memberRing_member_X9 hown hK hP 0 rfl rfl 31 (by decide) (hts (.fieldLink RX9 89 "ServiceTreeModel" "edge" "[Z") (by decide +kernel)) (fun _ h9 => h9) rfl dX9_memberRing_21 ?_
              refine lv_iload_n hx hb dX9_memberRing_24 rfl (lv_at hl 1 rfl) ?_
              refine lv_bipush (v := 40) hx hb dX9_memberRing_25 (by decide) ?_
              refine lv_imul hx hb dX9_memberRing_27 ?_
              refine p1_topr (v := .int (nI (i1 * 40))) (congrArg Value.int (pk_mul i1 40)) ?_
              refine lv_iload_n hx hb dX9_memberRing_28 rfl (lv_at hl 0 rfl) ?_
              refine lv_iadd hx hb dX9_memberRing_29 ?_
              refine p1_topr (v := .int (nI ((i1 * 40) + i11))) (congrArg Value.int (nI_add (i1 * 40) i11)) ?_
              refine lv_aload_n hx hb dX9_memberRing_30 rfl (lv_at hl 3 rfl) ?_
              refine lv_iload_n hx hb dX9_memberRing_31 rfl (lv_at hl 1 rfl) ?_
              refine va_zald (n := 40) (f := F15 27) hx hb hK hP 23 22 rfl rfl (vp_in_nI (n := i1) (by omega) (by decide)) dX9_memberRing_32 ?_
              refine lv_topi (fun x18 ex18 => ?_)
              replace hZ9 := bnd_s hZ9 ex18
              refine lv_if_eq (tgt := 86) hx hb dX9_memberRing_33 (by decide) (fun c19 => ?_) (fun c19 => ?_)
              · replace hZ9 := ite_t hZ9 c19
                refine lv_iconst (v := 0) hx hb dX9_memberRing_86 (by decide) ?_
                refine va_zast (n := 1600) (f := F15 31) hx hb hK hP hD hS 27 26 rfl rfl (vp_in_nI (n := (i1 * 40) + i11) (by omega) (by decide)) dX9_memberRing_87 (fun H locs hP hD hS => ?_)
                rw [mW_set_31] at hP hD
                obtain ⟨F20, eF20⟩ : ∃ f9 : Nat → Nat → Int32, f9 = va_up F15 31 (upd (F15 31) (nI ((i1 * 40) + i11)).toNatClampNeg (vp_nar .boolean 0)) := ⟨_, rfl⟩
                rw [← eF20] at hP hD
                replace hZ9 := bnd_s hZ9 eF20
                replace hI : StM n (b) F V F20 V16 := ⟨by rw [eF20]; exact hI.1.setF (by decide), trivial⟩
                replace hU : ∀ j : Nat, j ∉ ([31, 32] : List Nat) → F20 j = F j := by rw [eF20]; exact mw_up (by decide) hU
                refine lv_iinc (v := nI (i11 + 1)) (lv' := [(3, .int (nI (i11 + 1))), (2, .int (nI i1)), (0, .ref h), (1, .ref (a 27))]) hx hb dX9_memberRing_88 hl (k := 0) rfl (nI_add i11 1) (by decide) rfl (fun ls hl => ?_)
                refine lv_goto (tgt := 12) hx hb dX9_memberRing_91 (by decide) ?_
                exact ih13 (i11 + 1)  F20 V16 _ _ _ (by omega) (by omega) (hI.mono (by omega)) hU hV  hZ9 hP hD hS (lv_sub hl [0, 1, 2, 3] rfl)
              · replace hZ9 := ite_f hZ9 c19
                refine lv_aload_n hx hb dX9_memberRing_36 rfl (lv_at hl 3 rfl) ?_
                refine lv_iload_n hx hb dX9_memberRing_37 rfl (lv_at hl 0 rfl) ?_
                refine va_zald (n := 40) (f := F15 27) hx hb hK hP 23 22 rfl rfl (vp_in_nI (n := i11) (by omega) (by decide)) dX9_memberRing_38 ?_
                refine lv_topi (fun x21 ex21 => ?_)
                replace hZ9 := bnd_s hZ9 ex21
                refine lv_if_eq (tgt := 86) hx hb dX9_memberRing_39 (by decide) (fun c22 => ?_) (fun c22 => ?_)
                · replace hZ9 := ite_t hZ9 c22
                  refine lv_iconst (v := 0) hx hb dX9_memberRing_86 (by decide) ?_
                  refine va_zast (n := 1600) (f := F15 31) hx hb hK hP hD hS 27 26 rfl rfl (vp_in_nI (n := (i1 * 40) + i11) (by omega) (by decide)) dX9_memberRing_87 (fun H locs hP hD hS => ?_)
                  rw [mW_set_31] at hP hD
                  obtain ⟨F23, eF23⟩ : ∃ f9 : Nat → Nat → Int32, f9 = va_up F15 31 (upd (F15 31) (nI ((i1 * 40) + i11)).toNatClampNeg (vp_nar .boolean 0)) := ⟨_, rfl⟩
                  rw [← eF23] at hP hD
                  replace hZ9 := bnd_s hZ9 eF23
                  replace hI : StM n (b) F V F23 V16 := ⟨by rw [eF23]; exact hI.1.setF (by decide), trivial⟩
                  replace hU : ∀ j : Nat, j ∉ ([31, 32] : List Nat) → F23 j = F j := by rw [eF23]; exact mw_up (by decide) hU
                  refine lv_iinc (v := nI (i11 + 1)) (lv' := [(3, .int (nI (i11 + 1))), (2, .int (nI i1)), (0, .ref h), (1, .ref (a 27))]) hx hb dX9_memberRing_88 hl (k := 0) rfl (nI_add i11 1) (by decide) rfl (fun ls hl => ?_)
                  refine lv_goto (tgt := 12) hx hb dX9_memberRing_91 (by decide) ?_
                  exact ih13 (i11 + 1)  F23 V16 _ _ _ (by omega) (by omega) (hI.mono (by omega)) hU hV  hZ9 hP hD hS (lv_sub hl [0, 1, 2, 3] rfl)
                · replace hZ9 := ite_f hZ9 c22
                  refine lv_aload_n hx hb dX9_memberRing_42 rfl (lv_at hl 2 rfl) ?_
                  refine va_get (D := (dC, dI)) (ci := 10) (v := .ref (a 7)) (C := RX9) (T := TX9) (N := 46) hx hb hts in_w_memberRing_member_X9 hown hK hP 0 rfl rfl 7 (by decide) (hts (.fieldLink RX9 31 "ServiceTreeModel" "state" "[I") (by decide +kernel)) (fun _ h9 => h9) rfl dX9_memberRing_43 ?_
                  refine lv_iload_n hx hb dX9_memberRing_46 rfl (lv_at hl 1 rfl) ?_
                  refine va_iald (n := 40) (f := F15 7) hx hb hK hP 8 7 rfl rfl (vp_in_nI (n := i1) (by omega) (by decide)) dX9_memberRing_47 ?_
                  refine lv_topi (fun x24 ex24 => ?_)
                  replace hZ9 := bnd_s hZ9 ex24
                  refine lv_iconst (v := 2) hx hb dX9_memberRing_48 (by decide) ?_
                  refine lv_icmp_eq (tgt := 86) hx hb dX9_memberRing_49 (by decide) (fun c25 => ?_) (fun c25 => ?_)
                  · replace hZ9 := ite_t hZ9 c25
                    refine lv_iconst (v := 0) hx hb dX9_memberRing_86 (by decide) ?_
                    refine va_zast (n := 1600) (f := F15 31) hx hb hK hP hD hS 27 26 rfl rfl (vp_in_nI (n := (i1 * 40) + i11) (by omega) (by decide)) dX9_memberRing_87 (fun H locs hP hD hS => ?_)
                    rw [mW_set_31] at hP hD
                    obtain ⟨F26, eF26⟩ : ∃ f9 : Nat → Nat → Int32, f9 = va_up F15 31 (upd (F15 31) (nI ((i1 * 40) + i11)).toNatClampNeg (vp_nar .boolean 0)) := ⟨_, rfl⟩
                    rw [← eF26] at hP hD
                    replace hZ9 := bnd_s hZ9 eF26
                    replace hI : StM n (b) F V F26 V16 := ⟨by rw [eF26]; exact hI.1.setF (by decide), trivial⟩
                    replace hU : ∀ j : Nat, j ∉ ([31, 32] : List Nat) → F26 j = F j := by rw [eF26]; exact mw_up (by decide) hU
                    refine lv_iinc (v := nI (i11 + 1)) (lv' := [(3, .int (nI (i11 + 1))), (2, .int (nI i1)), (0, .ref h), (1, .ref (a 27))]) hx hb dX9_memberRing_88 hl (k := 0) rfl (nI_add i11 1) (by decide) rfl (fun ls hl => ?_)
                    refine lv_goto (tgt := 12) hx hb dX9_memberRing_91 (by decide) ?_
                    exact ih13 (i11 + 1)  F26 V16 _ _ _ (by omega) (by omega) (hI.mono (by omega)) hU hV  hZ9 hP hD hS (lv_sub hl [0, 1, 2, 3] rfl)
                  · replace hZ9 := ite_f hZ9 c25
                    refine lv_aload_n hx hb dX9_memberRing_52 rfl (lv_at hl 2 rfl) ?_
                    refine va_get (D := (dC, dI)) (ci := 10) (v := .ref (a 7)) (C := RX9) (T := TX9) (N := 46) hx hb hts in_w_memberRing_member_X9 hown hK hP 0 rfl rfl 7 (by decide) (hts (.fieldLink RX9 31 "ServiceTreeModel" "state" "[I") (by decide +kernel)) (fun _ h9 => h9) rfl dX9_memberRing_53 ?_
                    refine lv_iload_n hx hb dX9_memberRing_56 rfl (lv_at hl 0 rfl) ?_
                    refine va_iald (n := 40) (f := F15 7) hx hb hK hP 8 7 rfl rfl (vp_in_nI (n := i11) (by omega) (by decide)) dX9_memberRing_57 ?_
                    refine lv_topi (fun x27 ex27 => ?_)
                    replace hZ9 := bnd_s hZ9 ex27
                    refine lv_iconst (v := 2) hx hb dX9_memberRing_58 (by decide) ?_
                    refine lv_icmp_eq (tgt := 86) hx hb dX9_memberRing_59 (by decide) (fun c28 => ?_) (fun c28 => ?_)
                    · replace hZ9 := ite_t hZ9 c28
                      refine lv_iconst (v := 0) hx hb dX9_memberRing_86 (by decide) ?_
                      refine va_zast (n := 1600) (f := F15 31) hx hb hK hP hD hS 27 26 rfl rfl (vp_in_nI (n := (i1 * 40) + i11) (by omega) (by decide)) dX9_memberRing_87 (fun H locs hP hD hS => ?_)
                      rw [mW_set_31] at hP hD
                      obtain ⟨F29, eF29⟩ : ∃ f9 : Nat → Nat → Int32, f9 = va_up F15 31 (upd (F15 31) (nI ((i1 * 40) + i11)).toNatClampNeg (vp_nar .boolean 0)) := ⟨_, rfl⟩
                      rw [← eF29] at hP hD
                      replace hZ9 := bnd_s hZ9 eF29
                      replace hI : StM n (b) F V F29 V16 := ⟨by rw [eF29]; exact hI.1.setF (by decide), trivial⟩
                      replace hU : ∀ j : Nat, j ∉ ([31, 32] : List Nat) → F29 j = F j := by rw [eF29]; exact mw_up (by decide) hU
                      refine lv_iinc (v := nI (i11 + 1)) (lv' := [(3, .int (nI (i11 + 1))), (2, .int (nI i1)), (0, .ref h), (1, .ref (a 27))]) hx hb dX9_memberRing_88 hl (k := 0) rfl (nI_add i11 1) (by decide) rfl (fun ls hl => ?_)
                      refine lv_goto (tgt := 12) hx hb dX9_memberRing_91 (by decide) ?_
                      exact ih13 (i11 + 1)  F29 V16 _ _ _ (by omega) (by omega) (hI.mono (by omega)) hU hV  hZ9 hP hD hS (lv_sub hl [0, 1, 2, 3] rfl)
                    · replace hZ9 := ite_f hZ9 c28
                      refine lv_aload_n hx hb dX9_memberRing_62 rfl (lv_at hl 2 rfl) ?_
                      refine lv_iconst (v := 0) hx hb dX9_memberRing_63 (by decide) ?_
                      refine lv_iload_n hx hb dX9_memberRing_64 rfl (lv_at hl 1 rfl) ?_
                      refine lv_iload_n hx hb dX9_memberRing_65 rfl (lv_at hl 0 rfl) ?_
                      have hFc := mw_free hD hS hA
                      refine va_calli (va_runV (As := [.int 0, .int (nI i1), .int (nI i11)]) (rest := [.int (nI ((i1 * 40) + i11)), .ref (a 31)]) ⟨hx, hb, hml, hown, hts⟩ (c_w_has l dC dI h a k F15 V16 n (b) 0 i1 i11 H.size hI.1 (by omega) (by omega) (by omega) (by omega)) (cwV 3 hts wc_w_memberRing_member_w_has_150 rfl rfl rfl (by decide +kernel) ⟨Nat.le_of_ble_eq_true rfl, Nat.le_of_ble_eq_true rfl⟩) ⟨fun a9 U g mk q => by obtain ⟨q0, q1, qP, qK, qD⟩ := q; exact ⟨q0, q1, qP, va_K.moved (u := U) (U := U.calling g mk a9) (Vm.Alike.refl U.vm) qK, qD⟩, va_recv hK hP (ci := 10) (q0 := 0) rfl rfl, fun U hU hW => ⟨rfl, by rw [hU], by rw [hU]; exact hP, va_K.moved hW.alike hK, hD.weaken (fun _ _ _ _ => trivial)⟩⟩ rfl rfl hl.1 rfl (lv_room (Nat.le_of_ble_eq_true rfl)) dX9_memberRing_66 ⟨Nat.le_of_ble_eq_true rfl, Nat.le_of_ble_eq_true rfl⟩) hS (fun q _ h => hFc q h) hFc (fun r30 u t H1 locs ht hvm hw hB hz1 hk1 hS => ?_)
                      obtain ⟨F31, V32⟩ := u
                      replace hP := hB.1
                      rw [ht] at hP
                      replace hD : va_D A (mW h a k F31 V32) := hB.2.weaken (fun _ q _ h9 => hFc q.1 h9)
                      clear hB
                      generalize H1 = H at hP hS ⊢
                      replace hP : va_P (dC, dI) vwCl (mW h a k F31 V32) H := hP
                      obtain ⟨hwF, hwV, hw⟩ : F31 = F15 ∧ V32 = V16 ∧ _ := hw
                      rw [hwF, hwV] at hP hD
                      obtain ⟨hw, hwe⟩ := hw
                      replace hw : r30 = f_w_has n 0 i1 i11 F15 := hw
                      replace hZ9 := bnd_s hZ9 hw
                      have br30 := hwe
                      refine lv_if_ne (tgt := 82) hx hb dX9_memberRing_69 (by decide) (fun c33 => ?_) (fun c33 => ?_)
                      · replace hZ9 := ite_f hZ9 c33
                        refine lv_iconst (v := 1) hx hb dX9_memberRing_82 (by decide) ?_
                        refine lv_goto (tgt := 87) hx hb dX9_memberRing_83 (by decide) ?_
                        refine va_zast (n := 1600) (f := F15 31) hx hb hK hP hD hS 27 26 rfl rfl (vp_in_nI (n := (i1 * 40) + i11) (by omega) (by decide)) dX9_memberRing_87 (fun H locs hP hD hS => ?_)
                        rw [mW_set_31] at hP hD
                        obtain ⟨F34, eF34⟩ : ∃ f9 : Nat → Nat → Int32, f9 = va_up F15 31 (upd (F15 31) (nI ((i1 * 40) + i11)).toNatClampNeg (vp_nar .boolean 1)) := ⟨_, rfl⟩
                        rw [← eF34] at hP hD
                        replace hZ9 := bnd_s hZ9 eF34
                        replace hI : StM n (b) F V F34 V16 := ⟨by rw [eF34]; exact hI.1.setF (by decide), trivial⟩
                        replace hU : ∀ j : Nat, j ∉ ([31, 32] : List Nat) → F34 j = F j := by rw [eF34]; exact mw_up (by decide) hU
                        refine lv_iinc (v := nI (i11 + 1)) (lv' := [(3, .int (nI (i11 + 1))), (2, .int (nI i1)), (0, .ref h), (1, .ref (a 27))]) hx hb dX9_memberRing_88 hl (k := 0) rfl (nI_add i11 1) (by decide) rfl (fun ls hl => ?_)
                        refine lv_goto (tgt := 12) hx hb dX9_memberRing_91 (by decide) ?_
                        exact ih13 (i11 + 1)  F34 V16 _ _ _ (by omega) (by omega) (hI.mono (by omega)) hU hV  hZ9 hP hD hS (lv_sub hl [0, 1, 2, 3] rfl)
                      · replace hZ9 := ite_t hZ9 c33
                        refine lv_aload_n hx hb dX9_memberRing_72 rfl (lv_at hl 2 rfl) ?_
                        refine lv_iconst (v := 2) hx hb dX9_memberRing_73 (by decide) ?_
                        refine lv_iload_n hx hb dX9_memberRing_74 rfl (lv_at hl 1 rfl) ?_
                        refine lv_iload_n hx hb dX9_memberRing_75 rfl (lv_at hl 0 rfl) ?_
                        have hFc := mw_free hD hS hA
                        refine va_calli (va_runV (As := [.int 2, .int (nI i1), .int (nI i11)]) (rest := [.int (nI ((i1 * 40) + i11)), .ref (a 31)]) ⟨hx, hb, hml, hown, hts⟩ (c_w_has l dC dI h a k F15 V16 n (b) 2 i1 i11 H.size hI.1 (by omega) (by omega) (by omega) (by omega)) (cwV 3 hts wc_w_memberRing_member_w_has_150 rfl rfl rfl (by decide +kernel) ⟨Nat.le_of_ble_eq_true rfl, Nat.le_of_ble_eq_true rfl⟩) ⟨fun a9 U g mk q => by obtain ⟨q0, q1, qP, qK, qD⟩ := q; exact ⟨q0, q1, qP, va_K.moved (u := U) (U := U.calling g mk a9) (Vm.Alike.refl U.vm) qK, qD⟩, va_recv hK hP (ci := 10) (q0 := 0) rfl rfl, fun U hU hW => ⟨rfl, by rw [hU], by rw [hU]; exact hP, va_K.moved hW.alike hK, hD.weaken (fun _ _ _ _ => trivial)⟩⟩ rfl rfl hl.1 rfl (lv_room (Nat.le_of_ble_eq_true rfl)) dX9_memberRing_76 ⟨Nat.le_of_ble_eq_true rfl, Nat.le_of_ble_eq_true rfl⟩) hS (fun q _ h => hFc q h) hFc (fun r35 u t H1 locs ht hvm hw hB hz1 hk1 hS => ?_)
                        obtain ⟨F36, V37⟩ := u
                        replace hP := hB.1
                        rw [ht] at hP
                        replace hD : va_D A (mW h a k F36 V37) := hB.2.weaken (fun _ q _ h9 => hFc q.1 h9)
                        clear hB
                        generalize H1 = H at hP hS ⊢
                        replace hP : va_P (dC, dI) vwCl (mW h a k F36 V37) H := hP
                        obtain ⟨hwF, hwV, hw⟩ : F36 = F15 ∧ V37 = V16 ∧ _ := hw
                        rw [hwF, hwV] at hP hD
                        obtain ⟨hw, hwe⟩ := hw
                        replace hw : r35 = f_w_has n 2 i1 i11 F15 := hw
                        replace hZ9 := bnd_s hZ9 hw
                        have br35 := hwe
                        refine lv_if_eq (tgt := 86) hx hb dX9_memberRing_79 (by decide) (fun c38 => ?_) (fun c38 => ?_)
                        · replace hZ9 := ite_t hZ9 c38
                          refine lv_iconst (v := 0) hx hb dX9_memberRing_86 (by decide) ?_
                          refine va_zast (n := 1600) (f := F15 31) hx hb hK hP hD hS 27 26 rfl rfl (vp_in_nI (n := (i1 * 40) + i11) (by omega) (by decide)) dX9_memberRing_87 (fun H locs hP hD hS => ?_)
                          rw [mW_set_31] at hP hD
                          obtain ⟨F39, eF39⟩ : ∃ f9 : Nat → Nat → Int32, f9 = va_up F15 31 (upd (F15 31) (nI ((i1 * 40) + i11)).toNatClampNeg (vp_nar .boolean 0)) := ⟨_, rfl⟩
                          rw [← eF39] at hP hD
                          replace hZ9 := bnd_s hZ9 eF39
                          replace hI : StM n (b) F V F39 V16 := ⟨by rw [eF39]; exact hI.1.setF (by decide), trivial⟩
                          replace hU : ∀ j : Nat, j ∉ ([31, 32] : List Nat) → F39 j = F j := by rw [eF39]; exact mw_up (by decide) hU
                          refine lv_iinc (v := nI (i11 + 1)) (lv' := [(3, .int (nI (i11 + 1))), (2, .int (nI i1)), (0, .ref h), (1, .ref (a 27))]) hx hb dX9_memberRing_88 hl (k := 0) rfl (nI_add i11 1) (by decide) rfl (fun ls hl => ?_)
                          refine lv_goto (tgt := 12) hx hb dX9_memberRing_91 (by decide) ?_
                          exact ih13 (i11 + 1)  F39 V16 _ _ _ (by omega) (by omega) (hI.mono (by omega)) hU hV  hZ9 hP hD hS (lv_sub hl [0, 1, 2, 3] rfl)
                        · replace hZ9 := ite_f hZ9 c38
                          refine lv_iconst (v := 1) hx hb dX9_memberRing_82 (by decide) ?_
                          refine lv_goto (tgt := 87) hx hb dX9_memberRing_83 (by decide) ?_
                          refine va_zast (n := 1600) (f := F15 31) hx hb hK hP hD hS 27 26 rfl rfl (vp_in_nI (n := (i1 * 40) + i11) (by omega) (by decide)) dX9_memberRing_87 (fun H locs hP hD hS => ?_)
                          rw [mW_set_31] at hP hD
                          obtain ⟨F40, eF40⟩ : ∃ f9 : Nat → Nat → Int32, f9 = va_up F15 31 (upd (F15 31) (nI ((i1 * 40) + i11)).toNatClampNeg (vp_nar .boolean 1)) := ⟨_, rfl⟩
                          rw [← eF40] at hP hD
                          replace hZ9 := bnd_s hZ9 eF40
                          replace hI : StM n (b) F V F40 V16 := ⟨by rw [eF40]; exact hI.1.setF (by decide), trivial⟩
                          replace hU : ∀ j : Nat, j ∉ ([31, 32] : List Nat) → F40 j = F j := by rw [eF40]; exact mw_up (by decide) hU
                          refine lv_iinc (v := nI (i11 + 1)) (lv' := [(3, .int (nI (i11 + 1))), (2, .int (nI i1)), (0, .ref h), (1, .ref (a 27))]) hx hb dX9_memberRing_88 hl (k := 0) rfl (nI_add i11 1) (by decide) rfl (fun ls hl => ?_)
                          refine lv_goto (tgt := 12) hx hb dX9_memberRing_91 (by decide) ?_
                          exact ih13 (i11 + 1)  F40 V16 _ _ _ (by omega) (by omega) (hI.mono (by omega)) hU hV  hZ9 hP hD hS (lv_sub hl [0, 1, 2, 3] rfl)
        exact lp14 (n + 1) 0  F5 V6 _ _ _ (by omega) (by omega) (hI.mono (by omega)) hU hV  hZ9 hP hD hS hl
  exact lp4 (n + 1) 0  F V _ _ _ (by omega) (by omega) (hI.mono (by omega)) hU hV  hZ9 hP hD hS hl
def f_w_memberRing_more_12 (n : Nat) (i1 : Nat) : Nat → Nat → (Nat → Nat → Int32) → (Nat → Int32) → (Nat → (Nat → Nat → Int32) → (Nat → Int32) → Int32 × (Nat → Nat → Int32) × (Nat → Int32)) → Int32 × (Nat → Nat → Int32) × (Nat → Int32)
  | 0, i11, F15, V16, K9_12 => K9_12 i11 F15 V16
  | fu12 + 1, i11, F15, V16, K9_12 => if n ≤ i11 then (K9_12 i11 F15 V16) else (bnd (F15 28 (nI i1).toNatClampNeg) (fun (x18 : Int32) => if x18 = (0 : Int32) then (bnd (va_up F15 31 (upd (F15 31) (nI ((i1 * 40) + i11)).toNatClampNeg (vp_nar .boolean 0))) (fun (F20 : Nat → Nat → Int32) => f_w_memberRing_more_12 n i1 fu12 (i11 + 1) F20 V16 K9_12)) else (bnd (F15 28 (nI i11).toNatClampNeg) (fun (x21 : Int32) => if x21 = (0 : Int32) then (bnd (va_up F15 31 (upd (F15 31) (nI ((i1 * 40) + i11)).toNatClampNeg (vp_nar .boolean 0))) (fun (F23 : Nat → Nat → Int32) => f_w_memberRing_more_12 n i1 fu12 (i11 + 1) F23 V16 K9_12)) else (bnd (F15 7 (nI i1).toNatClampNeg) (fun (x24 : Int32) => if x24 = (2 : Int32) then (bnd (va_up F15 31 (upd (F15 31) (nI ((i1 * 40) + i11)).toNatClampNeg (vp_nar .boolean 0))) (fun (F26 : Nat → Nat → Int32) => f_w_memberRing_more_12 n i1 fu12 (i11 + 1) F26 V16 K9_12)) else (bnd (F15 7 (nI i11).toNatClampNeg) (fun (x27 : Int32) => if x27 = (2 : Int32) then (bnd (va_up F15 31 (upd (F15 31) (nI ((i1 * 40) + i11)).toNatClampNeg (vp_nar .boolean 0))) (fun (F29 : Nat → Nat → Int32) => f_w_memberRing_more_12 n i1 fu12 (i11 + 1) F29 V16 K9_12)) else (bnd (f_w_has n 0 i1 i11 F15) (fun (r30 : Int32) => if r30 = (0 : Int32) then (bnd (f_w_has n 2 i1 i11 F15) (fun (r35 : Int32) => if r35 = (0 : Int32) then (bnd (va_up F15 31 (upd (F15 31) (nI ((i1 * 40) + i11)).toNatClampNeg (vp_nar .boolean 0))) (fun (F39 : Nat → Nat → Int32) => f_w_memberRing_more_12 n i1 fu12 (i11 + 1) F39 V16 K9_12)) else (bnd (va_up F15 31 (upd (F15 31) (nI ((i1 * 40) + i11)).toNatClampNeg (vp_nar .boolean 1))) (fun (F40 : Nat → Nat → Int32) => f_w_memberRing_more_12 n i1 fu12 (i11 + 1) F40 V16 K9_12)))) else (bnd (va_up F15 31 (upd (F15 31) (nI ((i1 * 40) + i11)).toNatClampNeg (vp_nar .boolean 1))) (fun (F34 : Nat → Nat → Int32) => f_w_memberRing_more_12 n i1 fu12 (i11 + 1) F34 V16 K9_12))))))))))))
def f_w_memberRing_more_2 (n : Nat)  : Nat → Nat → (Nat → Nat → Int32) → (Nat → Int32) → (Nat → (Nat → Nat → Int32) → (Nat → Int32) → Int32 × (Nat → Nat → Int32) × (Nat → Int32)) → Int32 × (Nat → Nat → Int32) × (Nat → Int32)
  | 0, i1, F5, V6, K9_2 => K9_2 i1 F5 V6
  | fu2 + 1, i1, F5, V6, K9_2 => if n ≤ i1 then (K9_2 i1 F5 V6) else (f_w_memberRing_more_12 n i1 (n + 1) (0 : Nat) F5 V6 (fun (i11 : Nat) (F15 : Nat → Nat → Int32) (V16 : Nat → Int32) => f_w_memberRing_more_2 n  fu2 (i1 + 1) F15 V16 K9_2))
def f_w_memberRing_more (n : Nat)  (F : Nat → Nat → Int32) (V : Nat → Int32) : Int32 × (Nat → Nat → Int32) × (Nat → Int32) := f_w_memberRing_more_2 n  (n + 1) (0 : Nat) F V (fun (i1 : Nat) (F5 : Nat → Nat → Int32) (V6 : Nat → Int32) => bn3 (f_w_shortest n  F5 V6) (fun (r8 : Int32) (F9 : Nat → Nat → Int32) (V10 : Nat → Int32) => (r8, F9, V10)))
def wq_w_memberRing_more : List Cond := ([.code yX9_memberRing cX9_memberRing 4 (some .int), .fieldLink RX9 126 "ServiceTreeModel" "services" "I", .fieldLink RX9 89 "ServiceTreeModel" "edge" "[Z", .fieldLink RX9 31 "ServiceTreeModel" "state" "[I", .methodLink RX9 160 yX9_shortest, .instanceMethod yX9_shortest, .selects RX9 yX9_shortest yX9_shortest, .initialized RX9, .methodLink RX9 150 yX9_has, .instanceMethod yX9_has, .selects RX9 yX9_has yX9_has] : List Cond) ++ (wsX90 ++ (wq_w_shortest ++ (wq_w_has)))
theorem in_w_memberRing_more_X9 : ∀ w ∈ wsX90, w ∈ wq_w_memberRing_more := fun _ h => List.mem_append_right _ (List.mem_append_left _ (h))
set_option maxRecDepth 20000 in
theorem wi_w_memberRing_more : ∀ w ∈ wq_w_memberRing_more, w ∈ lw_tbl := List.forall_mem_append.mpr ⟨(wix [1070, 873, 883, 859, 1071, 1073, 44, 69, 1023, 1025, 35] rfl), List.forall_mem_append.mpr ⟨inKX9, List.forall_mem_append.mpr ⟨wi_w_shortest, wi_w_has⟩⟩⟩
set_option maxRecDepth 20000 in
theorem wg_w_memberRing_more : GoodIn wq_w_memberRing_more wq_w_memberRing_more := goodIn_sub (fun _ h => h) (by decide +kernel)
set_option maxRecDepth 20000 in
theorem wc_w_memberRing_more_w_shortest_160 : GoodIn wq_w_memberRing_more (wsV RX9 160 RX9 yX9_shortest wq_w_shortest) := goodIn_app (goodIn_of _ (by decide +kernel)) (fun w h => ⟨List.mem_append_right _ (List.mem_append_right _ (List.mem_append_left _ (h))), (wg_w_shortest w h).2⟩)
set_option maxRecDepth 20000 in
theorem wc_w_memberRing_more_w_has_150 : GoodIn wq_w_memberRing_more (wsV RX9 150 RX9 yX9_has wq_w_has) := goodIn_app (goodIn_of _ (by decide +kernel)) (fun w h => ⟨List.mem_append_right _ (List.mem_append_right _ (List.mem_append_right _ (h))), (wg_w_has w h).2⟩)
def rm_w_memberRing_more : Room := { frames := 1, cells := 0, slots := 0, locals := 25 }
set_option maxHeartbeats 4000000 in
set_option maxRecDepth 100000 in
theorem c_w_memberRing_more (l : Launch) (dC : Nat → ClassId) (dI : Nat → Nat → Nat) (h : Nat) (a : Nat → Nat) (k : Nat → ClassId) (F : Nat → Nat → Int32) (V : Nat → Int32) (n b : Nat)  (sz : Nat) (hI0 : InvM n b F V) (hb0 : b + 0 < 2147483648)  : Met l yX9_memberRing wq_w_memberRing_more rm_w_memberRing_more (va_Pc [.ref h, .ref (a 28)] (fun U => U.heap.size = sz ∧ va_P (dC, dI) vwCl (mW h a k F V) U.heap ∧ va_K (dC, dI) vwCl (mT k) U ∧ va_D (fun _ => True) (mW h a k F V))) (va_Qi (fun (r : Int32) (u : (Nat → Nat → Int32) × (Nat → Int32)) => StM n (b + 0) F V u.1 u.2 ∧ (∀ j : Nat, j ∉ ([31, 32] : List Nat) → u.1 j = F j) ∧ (∀ j : Nat, j ∉ ([] : List Nat) → u.2 j = V j) ∧ ((r, u.1, u.2) = f_w_memberRing_more n  F V)) (fun (u : (Nat → Nat → Int32) × (Nat → Int32)) (t : State) => va_P (dC, dI) vwCl (mW h a k u.1 u.2) t.heap ∧ va_D (va_A (mW h a k F V) sz) (mW h a k u.1 u.2)) (va_A (mW h a k F V) sz)) 0 0 (va_A (mW h a k F V) sz) := by
  have hn : n ≤ 40 := hI0.1
  have hI : StM n b F V F V := StM.rf hI0
  have hU : ∀ j : Nat, j ∉ ([31, 32] : List Nat) → F j = F j := fun _ _ => rfl
  have hV : ∀ j : Nat, j ∉ ([] : List Nat) → V j = V j := fun _ _ => rfl
  refine Met.ofW (cc := cX9_memberRing) (maxL := 4) (ret := (some .int)) (by decide) rfl ?_
  intro p e s m args below meth c s₁ B hml hv
  obtain ⟨rfl, hsz, hP, hK, hD0⟩ := hv
  have hx := B.exec
  have hb := B.bytes
  have hr := B.returns
  have hts := atoms_spec (ws := wq_w_memberRing_more) B.pre
  have hown : s.vm.findClass RX9 = some m.cls := findClass_of_methodNamed B.named
  have hlocks := B.notSynchronized
  subst hsz
  have hD := hD0.self (sz := s.heap.size)
  generalize hAe : va_A (mW h a k F V) s.heap.size = A at hD ⊢
  have hA : ∀ q : Nat, s.heap.size ≤ q → A q := fun q h => by rw [← hAe]; exact Or.inr h
  have hS : va_S A s.heap s.heap [] := va_S.rf
  have hl := lv_entry ([.ref h, .ref (a 28)]) (n := 4) (Nat.le_of_ble_eq_true rfl)
  rw [lg_entry_eq]
  generalize (lg_sl ([.ref h, .ref (a 28)]) ++ List.replicate (4 - (lg_sl ([.ref h, .ref (a 28)])).length) Slot.unset).toArray = ls at hl ⊢
  have hl : lv_has ls 4 [(0, .ref h), (1, .ref (a 28))] := hl
  refine mw_Q (fun Q0 hQ => ?_)
  obtain ⟨RES, hR0⟩ : ∃ R9, R9 = f_w_memberRing_more n  F V := ⟨_, rfl⟩
  have hZ9 := hR0
  unfold f_w_memberRing_more at hZ9
  refine lv_iconst (v := 0) hx hb dX9_memberRing_0 (by decide) ?_
  refine lv_istore_n (lv' := [(2, .int 0), (0, .ref h), (1, .ref (a 28))]) hx hb dX9_memberRing_1 rfl hl (by decide) rfl (fun ls hl => ?_)
  obtain ⟨K9_2, hK9_2, hZ9⟩ := lp_gen hZ9
  have lp4 : ∀ (fu2 i1 : Nat)  (F5 : Nat → Nat → Int32) (V6 : Nat → Int32) (H : Heap) (locs : List Loc) (ls : Array Slot), n < i1 + fu2 → i1 ≤ n → StM n (b) F V F5 V6 → (∀ j : Nat, j ∉ ([31, 32] : List Nat) → F5 j = F j) → (∀ j : Nat, j ∉ ([] : List Nat) → V6 j = V j) → RES = f_w_memberRing_more_2 n  fu2 i1 F5 V6 K9_2 → va_P (dC, dI) vwCl (mW h a k F5 V6) H → va_D A (mW h a k F5 V6) → va_S A s.heap H locs → lv_has ls 4 [(2, .int (nI i1)), (0, .ref h), (1, .ref (a 28))] → W p l e (headSpec wq_w_memberRing_more rm_w_memberRing_more).room s m ([.ref h, .ref (a 28)] : List Value).toArray below meth c H locs 0 0 Q0 (F0 m 2 ls []) := by
    intro fu2
    induction fu2 with
    | zero =>
      intro i1  F5 V6 H locs ls hf hi
      exact absurd hf (by omega)
    | succ fu2 ih3 =>
      intro i1  F5 V6 H locs ls hfi1 hii1 hI hU hV hZ9 hP hD hS hl
      rw [f_w_memberRing_more_2] at hZ9
      refine lv_iload_n hx hb dX9_memberRing_2 rfl (lv_at hl 0 rfl) ?_
      refine lv_aload_n hx hb dX9_memberRing_3 rfl (lv_at hl 1 rfl) ?_
      refine va_get (D := (dC, dI)) (ci := 10) (v := .int (V6 21)) (C := RX9) (T := TX9) (N := 46) hx hb hts in_w_memberRing_more_X9 hown hK hP 0 rfl rfl 21 (by decide) (hts (.fieldLink RX9 126 "ServiceTreeModel" "services" "I") (by decide +kernel)) (fun _ h9 => h9) rfl dX9_memberRing_4 ?_
      refine p1_topr (v := .int (nI n)) (congrArg Value.int hI.1.2.1) ?_
      refine lv_icmp_ge (tgt := 100) hx hb dX9_memberRing_7 (by decide) (fun c7 => ?_) (fun c7 => ?_)
      · replace c7 : n ≤ i1 := (nI_leI (a := n) (b := i1) (by omega) (by omega)).mp c7
        replace hZ9 := ite_t hZ9 c7
        replace hZ9 := lp_app3 hK9_2 hZ9
        refine lv_aload_n hx hb dX9_memberRing_100 rfl (lv_at hl 1 rfl) ?_
        have hFc := mw_free hD hS hA
        refine va_calli (va_runV (As := []) (rest := []) ⟨hx, hb, hml, hown, hts⟩ (c_w_shortest l dC dI h a k F5 V6 n (b)  H.size hI.1 (by omega) ) (cwV 0 hts wc_w_memberRing_more_w_shortest_160 rfl rfl rfl (by decide +kernel) ⟨Nat.le_of_ble_eq_true rfl, Nat.le_of_ble_eq_true rfl⟩) ⟨fun a9 U g mk q => by obtain ⟨q0, q1, qP, qK, qD⟩ := q; exact ⟨q0, q1, qP, va_K.moved (u := U) (U := U.calling g mk a9) (Vm.Alike.refl U.vm) qK, qD⟩, va_recv hK hP (ci := 10) (q0 := 0) rfl rfl, fun U hU hW => ⟨rfl, by rw [hU], by rw [hU]; exact hP, va_K.moved hW.alike hK, hD.weaken (fun _ _ _ _ => trivial)⟩⟩ rfl rfl hl.1 rfl (lv_room (Nat.le_of_ble_eq_true rfl)) dX9_memberRing_101 ⟨Nat.le_of_ble_eq_true rfl, Nat.le_of_ble_eq_true rfl⟩) hS (fun q _ h => hFc q h) hFc (fun r8 u t H1 locs ht hvm hw hB hz1 hk1 hS => ?_)
        obtain ⟨F9, V10⟩ := u
        replace hP := hB.1
        rw [ht] at hP
        replace hD : va_D A (mW h a k F9 V10) := hB.2.weaken (fun _ q _ h9 => hFc q.1 h9)
        clear hB
        generalize H1 = H at hP hS ⊢
        replace hP : va_P (dC, dI) vwCl (mW h a k F9 V10) H := hP
        obtain ⟨hwI, hwU, hwV, hw⟩ := hw
        replace hU : ∀ j : Nat, j ∉ ([31, 32] : List Nat) → F9 j = F j := mw_tr (by decide) hwU hU
        replace hV : ∀ j : Nat, j ∉ ([] : List Nat) → V10 j = V j := mw_tr (by decide) hwV hV
        replace hI : StM n (b + 0) F V F9 V10 := hI.trans hwI
        replace hI : StM n (b) F V F9 V10 := hI
        replace hw : (r8, F9, V10) = f_w_shortest n  F5 V6 := hw
        replace hZ9 := bn3_s hZ9 hw
        rw [hQ]
        exact W.iret (v := r8) hx hb hr (fun t ht hW => ⟨⟨r8, (F9, V10), rfl, ⟨hI.mono (by omega), hU, hV, hZ9.symm.trans hR0⟩, by rw [ht]; exact hP, hD⟩, hS.F ht⟩) hS.2.2 dX9_memberRing_104
      · replace c7 : ¬ (n ≤ i1) := fun q9 => c7 ((nI_leI (a := n) (b := i1) (by omega) (by omega)).mpr q9)
        replace hZ9 := ite_f hZ9 c7
        refine lv_iconst (v := 0) hx hb dX9_memberRing_10 (by decide) ?_
        refine lv_istore_n (lv' := [(3, .int 0), (2, .int (nI i1)), (0, .ref h), (1, .ref (a 28))]) hx hb dX9_memberRing_11 rfl hl (by decide) rfl (fun ls hl => ?_)
        obtain ⟨K9_12, hK9_12, hZ9⟩ := lp_gen hZ9
        have lp14 : ∀ (fu12 i11 : Nat)  (F15 : Nat → Nat → Int32) (V16 : Nat → Int32) (H : Heap) (locs : List Loc) (ls : Array Slot), n < i11 + fu12 → i11 ≤ n → StM n (b) F V F15 V16 → (∀ j : Nat, j ∉ ([31, 32] : List Nat) → F15 j = F j) → (∀ j : Nat, j ∉ ([] : List Nat) → V16 j = V j) → RES = f_w_memberRing_more_12 n i1 fu12 i11 F15 V16 K9_12 → va_P (dC, dI) vwCl (mW h a k F15 V16) H → va_D A (mW h a k F15 V16) → va_S A s.heap H locs → lv_has ls 4 [(3, .int (nI i11)), (2, .int (nI i1)), (0, .ref h), (1, .ref (a 28))] → W p l e (headSpec wq_w_memberRing_more rm_w_memberRing_more).room s m ([.ref h, .ref (a 28)] : List Value).toArray below meth c H locs 0 0 Q0 (F0 m 12 ls []) := by
          intro fu12
          induction fu12 with
          | zero =>
            intro i11  F15 V16 H locs ls hf hi
            exact absurd hf (by omega)
          | succ fu12 ih13 =>
            intro i11  F15 V16 H locs ls hfi11 hii11 hI hU hV hZ9 hP hD hS hl
            rw [f_w_memberRing_more_12] at hZ9
            refine lv_iload_n hx hb dX9_memberRing_12 rfl (lv_at hl 0 rfl) ?_
            refine lv_aload_n hx hb dX9_memberRing_13 rfl (lv_at hl 2 rfl) ?_
            refine va_get (D := (dC, dI)) (ci := 10) (v := .int (V16 21)) (C := RX9) (T := TX9) (N := 46) hx hb hts in_w_memberRing_more_X9 hown hK hP 0 rfl rfl 21 (by decide) (hts (.fieldLink RX9 126 "ServiceTreeModel" "services" "I") (by decide +kernel)) (fun _ h9 => h9) rfl dX9_memberRing_14 ?_
            refine p1_topr (v := .int (nI n)) (congrArg Value.int hI.1.2.1) ?_
            refine lv_icmp_ge (tgt := 94) hx hb dX9_memberRing_17 (by decide) (fun c17 => ?_) (fun c17 => ?_)
            · replace c17 : n ≤ i11 := (nI_leI (a := n) (b := i11) (by omega) (by omega)).mp c17
              replace hZ9 := ite_t hZ9 c17
              replace hZ9 := lp_app3 hK9_12 hZ9
              refine lv_iinc (v := nI (i1 + 1)) (lv' := [(2, .int (nI (i1 + 1))), (3, .int (nI i11)), (0, .ref h), (1, .ref (a 28))]) hx hb dX9_memberRing_94 hl (k := 1) rfl (nI_add i1 1) (by decide) rfl (fun ls hl => ?_)
              refine lv_goto (tgt := 2) hx hb dX9_memberRing_97 (by decide) ?_
              exact ih3 (i1 + 1)  F15 V16 _ _ _ (by omega) (by omega) (hI.mono (by omega)) hU hV  hZ9 hP hD hS (lv_sub hl [0, 2, 3] rfl)
            · replace c17 : ¬ (n ≤ i11) := fun q9 => c17 ((nI_leI (a := n) (b := i11) (by omega) (by omega)).mpr q9)
              replace hZ9 := ite_f hZ9 c17
              refine lv_aload_n hx hb dX9_memberRing_20 rfl (lv_at hl 2 rfl) ?_
              refine va_get (D := (dC, dI)) (ci := 10) (v := .ref (a 31)) (C := RX9) (T := TX9) (N := 46) hx hb hts in_w_memberRing_more_X9 hown hK hP 0 rfl rfl 31 (by decide) (hts (.fieldLink RX9 89 "ServiceTreeModel" "edge" "[Z") (by decide +kernel)) (fun _ h9 => h9) rfl dX9_memberRing_21 ?_
              refine lv_iload_n hx hb dX9_memberRing_24 rfl (lv_at hl 1 rfl) ?_
              refine lv_bipush (v := 40) hx hb dX9_memberRing_25 (by decide) ?_
              refine lv_imul hx hb dX9_memberRing_27 ?_
              refine p1_topr (v := .int (nI (i1 * 40))) (congrArg Value.int (pk_mul i1 40)) ?_
              refine lv_iload_n hx hb dX9_memberRing_28 rfl (lv_at hl 0 rfl) ?_
              refine lv_iadd hx hb dX9_memberRing_29 ?_
              refine p1_topr (v := .int (nI ((i1 * 40) + i11))) (congrArg Value.int (nI_add (i1 * 40) i11)) ?_
              refine lv_aload_n hx hb dX9_memberRing_30 rfl (lv_at hl 3 rfl) ?_
              refine lv_iload_n hx hb dX9_memberRing_31 rfl (lv_at hl 1 rfl) ?_
              refine va_zald (n := 40) (f := F15 28) hx hb hK hP 24 23 rfl rfl (vp_in_nI (n := i1) (by omega) (by decide)) dX9_memberRing_32 ?_
              refine lv_topi (fun x18 ex18 => ?_)
              replace hZ9 := bnd_s hZ9 ex18
              refine lv_if_eq (tgt := 86) hx hb dX9_memberRing_33 (by decide) (fun c19 => ?_) (fun c19 => ?_)
              · replace hZ9 := ite_t hZ9 c19
                refine lv_iconst (v := 0) hx hb dX9_memberRing_86 (by decide) ?_
                refine va_zast (n := 1600) (f := F15 31) hx hb hK hP hD hS 27 26 rfl rfl (vp_in_nI (n := (i1 * 40) + i11) (by omega) (by decide)) dX9_memberRing_87 (fun H locs hP hD hS => ?_)
                rw [mW_set_31] at hP hD
                obtain ⟨F20, eF20⟩ : ∃ f9 : Nat → Nat → Int32, f9 = va_up F15 31 (upd (F15 31) (nI ((i1 * 40) + i11)).toNatClampNeg (vp_nar .boolean 0)) := ⟨_, rfl⟩
                rw [← eF20] at hP hD
                replace hZ9 := bnd_s hZ9 eF20
                replace hI : StM n (b) F V F20 V16 := ⟨by rw [eF20]; exact hI.1.setF (by decide), trivial⟩
                replace hU : ∀ j : Nat, j ∉ ([31, 32] : List Nat) → F20 j = F j := by rw [eF20]; exact mw_up (by decide) hU
                refine lv_iinc (v := nI (i11 + 1)) (lv' := [(3, .int (nI (i11 + 1))), (2, .int (nI i1)), (0, .ref h), (1, .ref (a 28))]) hx hb dX9_memberRing_88 hl (k := 0) rfl (nI_add i11 1) (by decide) rfl (fun ls hl => ?_)
                refine lv_goto (tgt := 12) hx hb dX9_memberRing_91 (by decide) ?_
                exact ih13 (i11 + 1)  F20 V16 _ _ _ (by omega) (by omega) (hI.mono (by omega)) hU hV  hZ9 hP hD hS (lv_sub hl [0, 1, 2, 3] rfl)
              · replace hZ9 := ite_f hZ9 c19
                refine lv_aload_n hx hb dX9_memberRing_36 rfl (lv_at hl 3 rfl) ?_
                refine lv_iload_n hx hb dX9_memberRing_37 rfl (lv_at hl 0 rfl) ?_
                refine va_zald (n := 40) (f := F15 28) hx hb hK hP 24 23 rfl rfl (vp_in_nI (n := i11) (by omega) (by decide)) dX9_memberRing_38 ?_
                refine lv_topi (fun x21 ex21 => ?_)
                replace hZ9 := bnd_s hZ9 ex21
                refine lv_if_eq (tgt := 86) hx hb dX9_memberRing_39 (by decide) (fun c22 => ?_) (fun c22 => ?_)
                · replace hZ9 := ite_t hZ9 c22
                  refine lv_iconst (v := 0) hx hb dX9_memberRing_86 (by decide) ?_
                  refine va_zast (n := 1600) (f := F15 31) hx hb hK hP hD hS 27 26 rfl rfl (vp_in_nI (n := (i1 * 40) + i11) (by omega) (by decide)) dX9_memberRing_87 (fun H locs hP hD hS => ?_)
                  rw [mW_set_31] at hP hD
                  obtain ⟨F23, eF23⟩ : ∃ f9 : Nat → Nat → Int32, f9 = va_up F15 31 (upd (F15 31) (nI ((i1 * 40) + i11)).toNatClampNeg (vp_nar .boolean 0)) := ⟨_, rfl⟩
                  rw [← eF23] at hP hD
                  replace hZ9 := bnd_s hZ9 eF23
                  replace hI : StM n (b) F V F23 V16 := ⟨by rw [eF23]; exact hI.1.setF (by decide), trivial⟩
                  replace hU : ∀ j : Nat, j ∉ ([31, 32] : List Nat) → F23 j = F j := by rw [eF23]; exact mw_up (by decide) hU
                  refine lv_iinc (v := nI (i11 + 1)) (lv' := [(3, .int (nI (i11 + 1))), (2, .int (nI i1)), (0, .ref h), (1, .ref (a 28))]) hx hb dX9_memberRing_88 hl (k := 0) rfl (nI_add i11 1) (by decide) rfl (fun ls hl => ?_)
                  refine lv_goto (tgt := 12) hx hb dX9_memberRing_91 (by decide) ?_
                  exact ih13 (i11 + 1)  F23 V16 _ _ _ (by omega) (by omega) (hI.mono (by omega)) hU hV  hZ9 hP hD hS (lv_sub hl [0, 1, 2, 3] rfl)
                · replace hZ9 := ite_f hZ9 c22
                  refine lv_aload_n hx hb dX9_memberRing_42 rfl (lv_at hl 2 rfl) ?_
                  refine va_get (D := (dC, dI)) (ci := 10) (v := .ref (a 7)) (C := RX9) (T := TX9) (N := 46) hx hb hts in_w_memberRing_more_X9 hown hK hP 0 rfl rfl 7 (by decide) (hts (.fieldLink RX9 31 "ServiceTreeModel" "state" "[I") (by decide +kernel)) (fun _ h9 => h9) rfl dX9_memberRing_43 ?_
                  refine lv_iload_n hx hb dX9_memberRing_46 rfl (lv_at hl 1 rfl) ?_
                  refine va_iald (n := 40) (f := F15 7) hx hb hK hP 8 7 rfl rfl (vp_in_nI (n := i1) (by omega) (by decide)) dX9_memberRing_47 ?_
                  refine lv_topi (fun x24 ex24 => ?_)
                  replace hZ9 := bnd_s hZ9 ex24
                  refine lv_iconst (v := 2) hx hb dX9_memberRing_48 (by decide) ?_
                  refine lv_icmp_eq (tgt := 86) hx hb dX9_memberRing_49 (by decide) (fun c25 => ?_) (fun c25 => ?_)
                  · replace hZ9 := ite_t hZ9 c25
                    refine lv_iconst (v := 0) hx hb dX9_memberRing_86 (by decide) ?_
                    refine va_zast (n := 1600) (f := F15 31) hx hb hK hP hD hS 27 26 rfl rfl (vp_in_nI (n := (i1 * 40) + i11) (by omega) (by decide)) dX9_memberRing_87 (fun H locs hP hD hS => ?_)
                    rw [mW_set_31] at hP hD
                    obtain ⟨F26, eF26⟩ : ∃ f9 : Nat → Nat → Int32, f9 = va_up F15 31 (upd (F15 31) (nI ((i1 * 40) + i11)).toNatClampNeg (vp_nar .boolean 0)) := ⟨_, rfl⟩
                    rw [← eF26] at hP hD
                    replace hZ9 := bnd_s hZ9 eF26
                    replace hI : StM n (b) F V F26 V16 := ⟨by rw [eF26]; exact hI.1.setF (by decide), trivial⟩
                    replace hU : ∀ j : Nat, j ∉ ([31, 32] : List Nat) → F26 j = F j := by rw [eF26]; exact mw_up (by decide) hU
                    refine lv_iinc (v := nI (i11 + 1)) (lv' := [(3, .int (nI (i11 + 1))), (2, .int (nI i1)), (0, .ref h), (1, .ref (a 28))]) hx hb dX9_memberRing_88 hl (k := 0) rfl (nI_add i11 1) (by decide) rfl (fun ls hl => ?_)
                    refine lv_goto (tgt := 12) hx hb dX9_memberRing_91 (by decide) ?_
                    exact ih13 (i11 + 1)  F26 V16 _ _ _ (by omega) (by omega) (hI.mono (by omega)) hU hV  hZ9 hP hD hS (lv_sub hl [0, 1, 2, 3] rfl)
                  · replace hZ9 := ite_f hZ9 c25
                    refine lv_aload_n hx hb dX9_memberRing_52 rfl (lv_at hl 2 rfl) ?_
                    refine va_get (D := (dC, dI)) (ci := 10) (v := .ref (a 7)) (C := RX9) (T := TX9) (N := 46) hx hb hts in_w_memberRing_more_X9 hown hK hP 0 rfl rfl 7 (by decide) (hts (.fieldLink RX9 31 "ServiceTreeModel" "state" "[I") (by decide +kernel)) (fun _ h9 => h9) rfl dX9_memberRing_53 ?_
                    refine lv_iload_n hx hb dX9_memberRing_56 rfl (lv_at hl 0 rfl) ?_
                    refine va_iald (n := 40) (f := F15 7) hx hb hK hP 8 7 rfl rfl (vp_in_nI (n := i11) (by omega) (by decide)) dX9_memberRing_57 ?_
                    refine lv_topi (fun x27 ex27 => ?_)
                    replace hZ9 := bnd_s hZ9 ex27
                    refine lv_iconst (v := 2) hx hb dX9_memberRing_58 (by decide) ?_
                    refine lv_icmp_eq (tgt := 86) hx hb dX9_memberRing_59 (by decide) (fun c28 => ?_) (fun c28 => ?_)
                    · replace hZ9 := ite_t hZ9 c28
                      refine lv_iconst (v := 0) hx hb dX9_memberRing_86 (by decide) ?_
                      refine va_zast (n := 1600) (f := F15 31) hx hb hK hP hD hS 27 26 rfl rfl (vp_in_nI (n := (i1 * 40) + i11) (by omega) (by decide)) dX9_memberRing_87 (fun H locs hP hD hS => ?_)
                      rw [mW_set_31] at hP hD
                      obtain ⟨F29, eF29⟩ : ∃ f9 : Nat → Nat → Int32, f9 = va_up F15 31 (upd (F15 31) (nI ((i1 * 40) + i11)).toNatClampNeg (vp_nar .boolean 0)) := ⟨_, rfl⟩
                      rw [← eF29] at hP hD
                      replace hZ9 := bnd_s hZ9 eF29
                      replace hI : StM n (b) F V F29 V16 := ⟨by rw [eF29]; exact hI.1.setF (by decide), trivial⟩
                      replace hU : ∀ j : Nat, j ∉ ([31, 32] : List Nat) → F29 j = F j := by rw [eF29]; exact mw_up (by decide) hU
                      refine lv_iinc (v := nI (i11 + 1)) (lv' := [(3, .int (nI (i11 + 1))), (2, .int (nI i1)), (0, .ref h), (1, .ref (a 28))]) hx hb dX9_memberRing_88 hl (k := 0) rfl (nI_add i11 1) (by decide) rfl (fun ls hl => ?_)
                      refine lv_goto (tgt := 12) hx hb dX9_memberRing_91 (by decide) ?_
                      exact ih13 (i11 + 1)  F29 V16 _ _ _ (by omega) (by omega) (hI.mono (by omega)) hU hV  hZ9 hP hD hS (lv_sub hl [0, 1, 2, 3] rfl)
                    · replace hZ9 := ite_f hZ9 c28
                      refine lv_aload_n hx hb dX9_memberRing_62 rfl (lv_at hl 2 rfl) ?_
                      refine lv_iconst (v := 0) hx hb dX9_memberRing_63 (by decide) ?_
                      refine lv_iload_n hx hb dX9_memberRing_64 rfl (lv_at hl 1 rfl) ?_
                      refine lv_iload_n hx hb dX9_memberRing_65 rfl (lv_at hl 0 rfl) ?_
                      have hFc := mw_free hD hS hA
                      refine va_calli (va_runV (As := [.int 0, .int (nI i1), .int (nI i11)]) (rest := [.int (nI ((i1 * 40) + i11)), .ref (a 31)]) ⟨hx, hb, hml, hown, hts⟩ (c_w_has l dC dI h a k F15 V16 n (b) 0 i1 i11 H.size hI.1 (by omega) (by omega) (by omega) (by omega)) (cwV 3 hts wc_w_memberRing_more_w_has_150 rfl rfl rfl (by decide +kernel) ⟨Nat.le_of_ble_eq_true rfl, Nat.le_of_ble_eq_true rfl⟩) ⟨fun a9 U g mk q => by obtain ⟨q0, q1, qP, qK, qD⟩ := q; exact ⟨q0, q1, qP, va_K.moved (u := U) (U := U.calling g mk a9) (Vm.Alike.refl U.vm) qK, qD⟩, va_recv hK hP (ci := 10) (q0 := 0) rfl rfl, fun U hU hW => ⟨rfl, by rw [hU], by rw [hU]; exact hP, va_K.moved hW.alike hK, hD.weaken (fun _ _ _ _ => trivial)⟩⟩ rfl rfl hl.1 rfl (lv_room (Nat.le_of_ble_eq_true rfl)) dX9_memberRing_66 ⟨Nat.le_of_ble_eq_true rfl, Nat.le_of_ble_eq_true rfl⟩) hS (fun q _ h => hFc q h) hFc (fun r30 u t H1 locs ht hvm hw hB hz1 hk1 hS => ?_)
                      obtain ⟨F31, V32⟩ := u
                      replace hP := hB.1
                      rw [ht] at hP
                      replace hD : va_D A (mW h a k F31 V32) := hB.2.weaken (fun _ q _ h9 => hFc q.1 h9)
                      clear hB
                      generalize H1 = H at hP hS ⊢
                      replace hP : va_P (dC, dI) vwCl (mW h a k F31 V32) H := hP
                      obtain ⟨hwF, hwV, hw⟩ : F31 = F15 ∧ V32 = V16 ∧ _ := hw
                      rw [hwF, hwV] at hP hD
                      obtain ⟨hw, hwe⟩ := hw
                      replace hw : r30 = f_w_has n 0 i1 i11 F15 := hw
                      replace hZ9 := bnd_s hZ9 hw
                      have br30 := hwe
                      refine lv_if_ne (tgt := 82) hx hb dX9_memberRing_69 (by decide) (fun c33 => ?_) (fun c33 => ?_)
                      · replace hZ9 := ite_f hZ9 c33
                        refine lv_iconst (v := 1) hx hb dX9_memberRing_82 (by decide) ?_
                        refine lv_goto (tgt := 87) hx hb dX9_memberRing_83 (by decide) ?_
                        refine va_zast (n := 1600) (f := F15 31) hx hb hK hP hD hS 27 26 rfl rfl (vp_in_nI (n := (i1 * 40) + i11) (by omega) (by decide)) dX9_memberRing_87 (fun H locs hP hD hS => ?_)
                        rw [mW_set_31] at hP hD
                        obtain ⟨F34, eF34⟩ : ∃ f9 : Nat → Nat → Int32, f9 = va_up F15 31 (upd (F15 31) (nI ((i1 * 40) + i11)).toNatClampNeg (vp_nar .boolean 1)) := ⟨_, rfl⟩
                        rw [← eF34] at hP hD
                        replace hZ9 := bnd_s hZ9 eF34
                        replace hI : StM n (b) F V F34 V16 := ⟨by rw [eF34]; exact hI.1.setF (by decide), trivial⟩
                        replace hU : ∀ j : Nat, j ∉ ([31, 32] : List Nat) → F34 j = F j := by rw [eF34]; exact mw_up (by decide) hU
                        refine lv_iinc (v := nI (i11 + 1)) (lv' := [(3, .int (nI (i11 + 1))), (2, .int (nI i1)), (0, .ref h), (1, .ref (a 28))]) hx hb dX9_memberRing_88 hl (k := 0) rfl (nI_add i11 1) (by decide) rfl (fun ls hl => ?_)
                        refine lv_goto (tgt := 12) hx hb dX9_memberRing_91 (by decide) ?_
                        exact ih13 (i11 + 1)  F34 V16 _ _ _ (by omega) (by omega) (hI.mono (by omega)) hU hV  hZ9 hP hD hS (lv_sub hl [0, 1, 2, 3] rfl)
                      · replace hZ9 := ite_t hZ9 c33
                        refine lv_aload_n hx hb dX9_memberRing_72 rfl (lv_at hl 2 rfl) ?_
                        refine lv_iconst (v := 2) hx hb dX9_memberRing_73 (by decide) ?_
                        refine lv_iload_n hx hb dX9_memberRing_74 rfl (lv_at hl 1 rfl) ?_
                        refine lv_iload_n hx hb dX9_memberRing_75 rfl (lv_at hl 0 rfl) ?_
                        have hFc := mw_free hD hS hA
                        refine va_calli (va_runV (As := [.int 2, .int (nI i1), .int (nI i11)]) (rest := [.int (nI ((i1 * 40) + i11)), .ref (a 31)]) ⟨hx, hb, hml, hown, hts⟩ (c_w_has l dC dI h a k F15 V16 n (b) 2 i1 i11 H.size hI.1 (by omega) (by omega) (by omega) (by omega)) (cwV 3 hts wc_w_memberRing_more_w_has_150 rfl rfl rfl (by decide +kernel) ⟨Nat.le_of_ble_eq_true rfl, Nat.le_of_ble_eq_true rfl⟩) ⟨fun a9 U g mk q => by obtain ⟨q0, q1, qP, qK, qD⟩ := q; exact ⟨q0, q1, qP, va_K.moved (u := U) (U := U.calling g mk a9) (Vm.Alike.refl U.vm) qK, qD⟩, va_recv hK hP (ci := 10) (q0 := 0) rfl rfl, fun U hU hW => ⟨rfl, by rw [hU], by rw [hU]; exact hP, va_K.moved hW.alike hK, hD.weaken (fun _ _ _ _ => trivial)⟩⟩ rfl rfl hl.1 rfl (lv_room (Nat.le_of_ble_eq_true rfl)) dX9_memberRing_76 ⟨Nat.le_of_ble_eq_true rfl, Nat.le_of_ble_eq_true rfl⟩) hS (fun q _ h => hFc q h) hFc (fun r35 u t H1 locs ht hvm hw hB hz1 hk1 hS => ?_)
                        obtain ⟨F36, V37⟩ := u
                        replace hP := hB.1
                        rw [ht] at hP
                        replace hD : va_D A (mW h a k F36 V37) := hB.2.weaken (fun _ q _ h9 => hFc q.1 h9)
                        clear hB
                        generalize H1 = H at hP hS ⊢
                        replace hP : va_P (dC, dI) vwCl (mW h a k F36 V37) H := hP
                        obtain ⟨hwF, hwV, hw⟩ : F36 = F15 ∧ V37 = V16 ∧ _ := hw
                        rw [hwF, hwV] at hP hD
                        obtain ⟨hw, hwe⟩ := hw
                        replace hw : r35 = f_w_has n 2 i1 i11 F15 := hw
                        replace hZ9 := bnd_s hZ9 hw
                        have br35 := hwe
                        refine lv_if_eq (tgt := 86) hx hb dX9_memberRing_79 (by decide) (fun c38 => ?_) (fun c38 => ?_)
                        · replace hZ9 := ite_t hZ9 c38
                          refine lv_iconst (v := 0) hx hb dX9_memberRing_86 (by decide) ?_
                          refine va_zast (n := 1600) (f := F15 31) hx hb hK hP hD hS 27 26 rfl rfl (vp_in_nI (n := (i1 * 40) + i11) (by omega) (by decide)) dX9_memberRing_87 (fun H locs hP hD hS => ?_)
                          rw [mW_set_31] at hP hD
                          obtain ⟨F39, eF39⟩ : ∃ f9 : Nat → Nat → Int32, f9 = va_up F15 31 (upd (F15 31) (nI ((i1 * 40) + i11)).toNatClampNeg (vp_nar .boolean 0)) := ⟨_, rfl⟩
                          rw [← eF39] at hP hD
                          replace hZ9 := bnd_s hZ9 eF39
                          replace hI : StM n (b) F V F39 V16 := ⟨by rw [eF39]; exact hI.1.setF (by decide), trivial⟩
                          replace hU : ∀ j : Nat, j ∉ ([31, 32] : List Nat) → F39 j = F j := by rw [eF39]; exact mw_up (by decide) hU
                          refine lv_iinc (v := nI (i11 + 1)) (lv' := [(3, .int (nI (i11 + 1))), (2, .int (nI i1)), (0, .ref h), (1, .ref (a 28))]) hx hb dX9_memberRing_88 hl (k := 0) rfl (nI_add i11 1) (by decide) rfl (fun ls hl => ?_)
                          refine lv_goto (tgt := 12) hx hb dX9_memberRing_91 (by decide) ?_
                          exact ih13 (i11 + 1)  F39 V16 _ _ _ (by omega) (by omega) (hI.mono (by omega)) hU hV  hZ9 hP hD hS (lv_sub hl [0, 1, 2, 3] rfl)
                        · replace hZ9 := ite_f hZ9 c38
                          refine lv_iconst (v := 1) hx hb dX9_memberRing_82 (by decide) ?_
                          refine lv_goto (tgt := 87) hx hb dX9_memberRing_83 (by decide) ?_
                          refine va_zast (n := 1600) (f := F15 31) hx hb hK hP hD hS 27 26 rfl rfl (vp_in_nI (n := (i1 * 40) + i11) (by omega) (by decide)) dX9_memberRing_87 (fun H locs hP hD hS => ?_)
                          rw [mW_set_31] at hP hD
                          obtain ⟨F40, eF40⟩ : ∃ f9 : Nat → Nat → Int32, f9 = va_up F15 31 (upd (F15 31) (nI ((i1 * 40) + i11)).toNatClampNeg (vp_nar .boolean 1)) := ⟨_, rfl⟩
                          rw [← eF40] at hP hD
                          replace hZ9 := bnd_s hZ9 eF40
                          replace hI : StM n (b) F V F40 V16 := ⟨by rw [eF40]; exact hI.1.setF (by decide), trivial⟩
                          replace hU : ∀ j : Nat, j ∉ ([31, 32] : List Nat) → F40 j = F j := by rw [eF40]; exact mw_up (by decide) hU
                          refine lv_iinc (v := nI (i11 + 1)) (lv' := [(3, .int (nI (i11 + 1))), (2, .int (nI i1)), (0, .ref h), (1, .ref (a 28))]) hx hb dX9_memberRing_88 hl (k := 0) rfl (nI_add i11 1) (by decide) rfl (fun ls hl => ?_)
                          refine lv_goto (tgt := 12) hx hb dX9_memberRing_91 (by decide) ?_
                          exact ih13 (i11 + 1)  F40 V16 _ _ _ (by omega) (by omega) (hI.mono (by omega)) hU hV  hZ9 hP hD hS (lv_sub hl [0, 1, 2, 3] rfl)
        exact lp14 (n + 1) 0  F5 V6 _ _ _ (by omega) (by omega) (hI.mono (by omega)) hU hV  hZ9 hP hD hS hl
  exact lp4 (n + 1) 0  F V _ _ _ (by omega) (by omega) (hI.mono (by omega)) hU hV  hZ9 hP hD hS hl
def f_w_jobRing_12 (n : Nat) (i1 : Nat) : Nat → Nat → (Nat → Nat → Int32) → (Nat → Int32) → (Nat → (Nat → Nat → Int32) → (Nat → Int32) → Int32 × (Nat → Nat → Int32) × (Nat → Int32)) → Int32 × (Nat → Nat → Int32) × (Nat → Int32)
  | 0, i11, F15, V16, K9_12 => K9_12 i11 F15 V16
  | fu12 + 1, i11, F15, V16, K9_12 => if n ≤ i11 then (K9_12 i11 F15 V16) else (bnd (f_w_waitsAmong_newJob n i1 i11 F15) (fun (r18 : Int32) => bnd (va_up F15 31 (upd (F15 31) (nI ((i1 * 40) + i11)).toNatClampNeg (vp_nar .boolean r18))) (fun (F21 : Nat → Nat → Int32) => f_w_jobRing_12 n i1 fu12 (i11 + 1) F21 V16 K9_12)))
def f_w_jobRing_2 (n : Nat)  : Nat → Nat → (Nat → Nat → Int32) → (Nat → Int32) → (Nat → (Nat → Nat → Int32) → (Nat → Int32) → Int32 × (Nat → Nat → Int32) × (Nat → Int32)) → Int32 × (Nat → Nat → Int32) × (Nat → Int32)
  | 0, i1, F5, V6, K9_2 => K9_2 i1 F5 V6
  | fu2 + 1, i1, F5, V6, K9_2 => if n ≤ i1 then (K9_2 i1 F5 V6) else (f_w_jobRing_12 n i1 (n + 1) (0 : Nat) F5 V6 (fun (i11 : Nat) (F15 : Nat → Nat → Int32) (V16 : Nat → Int32) => f_w_jobRing_2 n  fu2 (i1 + 1) F15 V16 K9_2))
def f_w_jobRing (n : Nat)  (F : Nat → Nat → Int32) (V : Nat → Int32) : Int32 × (Nat → Nat → Int32) × (Nat → Int32) := f_w_jobRing_2 n  (n + 1) (0 : Nat) F V (fun (i1 : Nat) (F5 : Nat → Nat → Int32) (V6 : Nat → Int32) => bn3 (f_w_shortest n  F5 V6) (fun (r8 : Int32) (F9 : Nat → Nat → Int32) (V10 : Nat → Int32) => (r8, F9, V10)))
def wq_w_jobRing : List Cond := ([.code yX9_jobRing cX9_jobRing 4 (some .int), .fieldLink RX9 126 "ServiceTreeModel" "services" "I", .fieldLink RX9 89 "ServiceTreeModel" "edge" "[Z", .methodLink RX9 160 yX9_shortest, .instanceMethod yX9_shortest, .selects RX9 yX9_shortest yX9_shortest, .initialized RX9, .methodLink RX9 167 yX9_waitsAmong, .instanceMethod yX9_waitsAmong, .selects RX9 yX9_waitsAmong yX9_waitsAmong] : List Cond) ++ (wsX90 ++ (wq_w_shortest ++ (wq_w_waitsAmong_newJob)))
theorem in_w_jobRing_X9 : ∀ w ∈ wsX90, w ∈ wq_w_jobRing := fun _ h => List.mem_append_right _ (List.mem_append_left _ (h))
set_option maxRecDepth 20000 in
theorem wi_w_jobRing : ∀ w ∈ wq_w_jobRing, w ∈ lw_tbl := List.forall_mem_append.mpr ⟨(wix [1082, 873, 883, 1071, 1073, 44, 69, 1083, 1085, 47] rfl), List.forall_mem_append.mpr ⟨inKX9, List.forall_mem_append.mpr ⟨wi_w_shortest, wi_w_waitsAmong_newJob⟩⟩⟩
set_option maxRecDepth 20000 in
theorem wg_w_jobRing : GoodIn wq_w_jobRing wq_w_jobRing := goodIn_sub (fun _ h => h) (by decide +kernel)
set_option maxRecDepth 20000 in
theorem wc_w_jobRing_w_shortest_160 : GoodIn wq_w_jobRing (wsV RX9 160 RX9 yX9_shortest wq_w_shortest) := goodIn_app (goodIn_of _ (by decide +kernel)) (fun w h => ⟨List.mem_append_right _ (List.mem_append_right _ (List.mem_append_left _ (h))), (wg_w_shortest w h).2⟩)
set_option maxRecDepth 20000 in
theorem wc_w_jobRing_w_waitsAmong_newJob_167 : GoodIn wq_w_jobRing (wsV RX9 167 RX9 yX9_waitsAmong wq_w_waitsAmong_newJob) := goodIn_app (goodIn_of _ (by decide +kernel)) (fun w h => ⟨List.mem_append_right _ (List.mem_append_right _ (List.mem_append_right _ (h))), (wg_w_waitsAmong_newJob w h).2⟩)
def rm_w_jobRing : Room := { frames := 2, cells := 0, slots := 0, locals := 46 }
set_option maxHeartbeats 4000000 in
set_option maxRecDepth 100000 in
theorem c_w_jobRing (l : Launch) (dC : Nat → ClassId) (dI : Nat → Nat → Nat) (h : Nat) (a : Nat → Nat) (k : Nat → ClassId) (F : Nat → Nat → Int32) (V : Nat → Int32) (n b : Nat)  (sz : Nat) (hI0 : InvM n b F V) (hb0 : b + 0 < 2147483648)  : Met l yX9_jobRing wq_w_jobRing rm_w_jobRing (va_Pc [.ref h, .ref (a 30)] (fun U => U.heap.size = sz ∧ va_P (dC, dI) vwCl (mW h a k F V) U.heap ∧ va_K (dC, dI) vwCl (mT k) U ∧ va_D (fun _ => True) (mW h a k F V))) (va_Qi (fun (r : Int32) (u : (Nat → Nat → Int32) × (Nat → Int32)) => StM n (b + 0) F V u.1 u.2 ∧ (∀ j : Nat, j ∉ ([31, 32] : List Nat) → u.1 j = F j) ∧ (∀ j : Nat, j ∉ ([] : List Nat) → u.2 j = V j) ∧ ((r, u.1, u.2) = f_w_jobRing n  F V)) (fun (u : (Nat → Nat → Int32) × (Nat → Int32)) (t : State) => va_P (dC, dI) vwCl (mW h a k u.1 u.2) t.heap ∧ va_D (va_A (mW h a k F V) sz) (mW h a k u.1 u.2)) (va_A (mW h a k F V) sz)) 0 0 (va_A (mW h a k F V) sz) := by
  have hn : n ≤ 40 := hI0.1
  have hI : StM n b F V F V := StM.rf hI0
  have hU : ∀ j : Nat, j ∉ ([31, 32] : List Nat) → F j = F j := fun _ _ => rfl
  have hV : ∀ j : Nat, j ∉ ([] : List Nat) → V j = V j := fun _ _ => rfl
  refine Met.ofW (cc := cX9_jobRing) (maxL := 4) (ret := (some .int)) (by decide) rfl ?_
  intro p e s m args below meth c s₁ B hml hv
  obtain ⟨rfl, hsz, hP, hK, hD0⟩ := hv
  have hx := B.exec
  have hb := B.bytes
  have hr := B.returns
  have hts := atoms_spec (ws := wq_w_jobRing) B.pre
  have hown : s.vm.findClass RX9 = some m.cls := findClass_of_methodNamed B.named
  have hlocks := B.notSynchronized
  subst hsz
  have hD := hD0.self (sz := s.heap.size)
  generalize hAe : va_A (mW h a k F V) s.heap.size = A at hD ⊢
  have hA : ∀ q : Nat, s.heap.size ≤ q → A q := fun q h => by rw [← hAe]; exact Or.inr h
  have hS : va_S A s.heap s.heap [] := va_S.rf
  have hl := lv_entry ([.ref h, .ref (a 30)]) (n := 4) (Nat.le_of_ble_eq_true rfl)
  rw [lg_entry_eq]
  generalize (lg_sl ([.ref h, .ref (a 30)]) ++ List.replicate (4 - (lg_sl ([.ref h, .ref (a 30)])).length) Slot.unset).toArray = ls at hl ⊢
  have hl : lv_has ls 4 [(0, .ref h), (1, .ref (a 30))] := hl
  refine mw_Q (fun Q0 hQ => ?_)
  obtain ⟨RES, hR0⟩ : ∃ R9, R9 = f_w_jobRing n  F V := ⟨_, rfl⟩
  have hZ9 := hR0
  unfold f_w_jobRing at hZ9
  refine lv_iconst (v := 0) hx hb dX9_jobRing_0 (by decide) ?_
  refine lv_istore_n (lv' := [(2, .int 0), (0, .ref h), (1, .ref (a 30))]) hx hb dX9_jobRing_1 rfl hl (by decide) rfl (fun ls hl => ?_)
  obtain ⟨K9_2, hK9_2, hZ9⟩ := lp_gen hZ9
  have lp4 : ∀ (fu2 i1 : Nat)  (F5 : Nat → Nat → Int32) (V6 : Nat → Int32) (H : Heap) (locs : List Loc) (ls : Array Slot), n < i1 + fu2 → i1 ≤ n → StM n (b) F V F5 V6 → (∀ j : Nat, j ∉ ([31, 32] : List Nat) → F5 j = F j) → (∀ j : Nat, j ∉ ([] : List Nat) → V6 j = V j) → RES = f_w_jobRing_2 n  fu2 i1 F5 V6 K9_2 → va_P (dC, dI) vwCl (mW h a k F5 V6) H → va_D A (mW h a k F5 V6) → va_S A s.heap H locs → lv_has ls 4 [(2, .int (nI i1)), (0, .ref h), (1, .ref (a 30))] → W p l e (headSpec wq_w_jobRing rm_w_jobRing).room s m ([.ref h, .ref (a 30)] : List Value).toArray below meth c H locs 0 0 Q0 (F0 m 2 ls []) := by
    intro fu2
    induction fu2 with
    | zero =>
      intro i1  F5 V6 H locs ls hf hi
      exact absurd hf (by omega)
    | succ fu2 ih3 =>
      intro i1  F5 V6 H locs ls hfi1 hii1 hI hU hV hZ9 hP hD hS hl
      rw [f_w_jobRing_2] at hZ9
      refine lv_iload_n hx hb dX9_jobRing_2 rfl (lv_at hl 0 rfl) ?_
      refine lv_aload_n hx hb dX9_jobRing_3 rfl (lv_at hl 1 rfl) ?_
      refine va_get (D := (dC, dI)) (ci := 10) (v := .int (V6 21)) (C := RX9) (T := TX9) (N := 46) hx hb hts in_w_jobRing_X9 hown hK hP 0 rfl rfl 21 (by decide) (hts (.fieldLink RX9 126 "ServiceTreeModel" "services" "I") (by decide +kernel)) (fun _ h9 => h9) rfl dX9_jobRing_4 ?_
      refine p1_topr (v := .int (nI n)) (congrArg Value.int hI.1.2.1) ?_
      refine lv_icmp_ge (tgt := 50) hx hb dX9_jobRing_7 (by decide) (fun c7 => ?_) (fun c7 => ?_)
      · replace c7 : n ≤ i1 := (nI_leI (a := n) (b := i1) (by omega) (by omega)).mp c7
        replace hZ9 := ite_t hZ9 c7
        replace hZ9 := lp_app3 hK9_2 hZ9
        refine lv_aload_n hx hb dX9_jobRing_50 rfl (lv_at hl 1 rfl) ?_
        have hFc := mw_free hD hS hA
        refine va_calli (va_runV (As := []) (rest := []) ⟨hx, hb, hml, hown, hts⟩ (c_w_shortest l dC dI h a k F5 V6 n (b)  H.size hI.1 (by omega) ) (cwV 0 hts wc_w_jobRing_w_shortest_160 rfl rfl rfl (by decide +kernel) ⟨Nat.le_of_ble_eq_true rfl, Nat.le_of_ble_eq_true rfl⟩) ⟨fun a9 U g mk q => by obtain ⟨q0, q1, qP, qK, qD⟩ := q; exact ⟨q0, q1, qP, va_K.moved (u := U) (U := U.calling g mk a9) (Vm.Alike.refl U.vm) qK, qD⟩, va_recv hK hP (ci := 10) (q0 := 0) rfl rfl, fun U hU hW => ⟨rfl, by rw [hU], by rw [hU]; exact hP, va_K.moved hW.alike hK, hD.weaken (fun _ _ _ _ => trivial)⟩⟩ rfl rfl hl.1 rfl (lv_room (Nat.le_of_ble_eq_true rfl)) dX9_jobRing_51 ⟨Nat.le_of_ble_eq_true rfl, Nat.le_of_ble_eq_true rfl⟩) hS (fun q _ h => hFc q h) hFc (fun r8 u t H1 locs ht hvm hw hB hz1 hk1 hS => ?_)
        obtain ⟨F9, V10⟩ := u
        replace hP := hB.1
        rw [ht] at hP
        replace hD : va_D A (mW h a k F9 V10) := hB.2.weaken (fun _ q _ h9 => hFc q.1 h9)
        clear hB
        generalize H1 = H at hP hS ⊢
        replace hP : va_P (dC, dI) vwCl (mW h a k F9 V10) H := hP
        obtain ⟨hwI, hwU, hwV, hw⟩ := hw
        replace hU : ∀ j : Nat, j ∉ ([31, 32] : List Nat) → F9 j = F j := mw_tr (by decide) hwU hU
        replace hV : ∀ j : Nat, j ∉ ([] : List Nat) → V10 j = V j := mw_tr (by decide) hwV hV
        replace hI : StM n (b + 0) F V F9 V10 := hI.trans hwI
        replace hI : StM n (b) F V F9 V10 := hI
        replace hw : (r8, F9, V10) = f_w_shortest n  F5 V6 := hw
        replace hZ9 := bn3_s hZ9 hw
        rw [hQ]
        exact W.iret (v := r8) hx hb hr (fun t ht hW => ⟨⟨r8, (F9, V10), rfl, ⟨hI.mono (by omega), hU, hV, hZ9.symm.trans hR0⟩, by rw [ht]; exact hP, hD⟩, hS.F ht⟩) hS.2.2 dX9_jobRing_54
      · replace c7 : ¬ (n ≤ i1) := fun q9 => c7 ((nI_leI (a := n) (b := i1) (by omega) (by omega)).mpr q9)
        replace hZ9 := ite_f hZ9 c7
        refine lv_iconst (v := 0) hx hb dX9_jobRing_10 (by decide) ?_
        refine lv_istore_n (lv' := [(3, .int 0), (2, .int (nI i1)), (0, .ref h), (1, .ref (a 30))]) hx hb dX9_jobRing_11 rfl hl (by decide) rfl (fun ls hl => ?_)
        obtain ⟨K9_12, hK9_12, hZ9⟩ := lp_gen hZ9
        have lp14 : ∀ (fu12 i11 : Nat)  (F15 : Nat → Nat → Int32) (V16 : Nat → Int32) (H : Heap) (locs : List Loc) (ls : Array Slot), n < i11 + fu12 → i11 ≤ n → StM n (b) F V F15 V16 → (∀ j : Nat, j ∉ ([31, 32] : List Nat) → F15 j = F j) → (∀ j : Nat, j ∉ ([] : List Nat) → V16 j = V j) → RES = f_w_jobRing_12 n i1 fu12 i11 F15 V16 K9_12 → va_P (dC, dI) vwCl (mW h a k F15 V16) H → va_D A (mW h a k F15 V16) → va_S A s.heap H locs → lv_has ls 4 [(3, .int (nI i11)), (2, .int (nI i1)), (0, .ref h), (1, .ref (a 30))] → W p l e (headSpec wq_w_jobRing rm_w_jobRing).room s m ([.ref h, .ref (a 30)] : List Value).toArray below meth c H locs 0 0 Q0 (F0 m 12 ls []) := by
          intro fu12
          induction fu12 with
          | zero =>
            intro i11  F15 V16 H locs ls hf hi
            exact absurd hf (by omega)
          | succ fu12 ih13 =>
            intro i11  F15 V16 H locs ls hfi11 hii11 hI hU hV hZ9 hP hD hS hl
            rw [f_w_jobRing_12] at hZ9
            refine lv_iload_n hx hb dX9_jobRing_12 rfl (lv_at hl 0 rfl) ?_
            refine lv_aload_n hx hb dX9_jobRing_13 rfl (lv_at hl 2 rfl) ?_
            refine va_get (D := (dC, dI)) (ci := 10) (v := .int (V16 21)) (C := RX9) (T := TX9) (N := 46) hx hb hts in_w_jobRing_X9 hown hK hP 0 rfl rfl 21 (by decide) (hts (.fieldLink RX9 126 "ServiceTreeModel" "services" "I") (by decide +kernel)) (fun _ h9 => h9) rfl dX9_jobRing_14 ?_
            refine p1_topr (v := .int (nI n)) (congrArg Value.int hI.1.2.1) ?_
            refine lv_icmp_ge (tgt := 44) hx hb dX9_jobRing_17 (by decide) (fun c17 => ?_) (fun c17 => ?_)
            · replace c17 : n ≤ i11 := (nI_leI (a := n) (b := i11) (by omega) (by omega)).mp c17
              replace hZ9 := ite_t hZ9 c17
              replace hZ9 := lp_app3 hK9_12 hZ9
              refine lv_iinc (v := nI (i1 + 1)) (lv' := [(2, .int (nI (i1 + 1))), (3, .int (nI i11)), (0, .ref h), (1, .ref (a 30))]) hx hb dX9_jobRing_44 hl (k := 1) rfl (nI_add i1 1) (by decide) rfl (fun ls hl => ?_)
              refine lv_goto (tgt := 2) hx hb dX9_jobRing_47 (by decide) ?_
              exact ih3 (i1 + 1)  F15 V16 _ _ _ (by omega) (by omega) (hI.mono (by omega)) hU hV  hZ9 hP hD hS (lv_sub hl [0, 2, 3] rfl)
            · replace c17 : ¬ (n ≤ i11) := fun q9 => c17 ((nI_leI (a := n) (b := i11) (by omega) (by omega)).mpr q9)
              replace hZ9 := ite_f hZ9 c17
              refine lv_aload_n hx hb dX9_jobRing_20 rfl (lv_at hl 2 rfl) ?_
              refine va_get (D := (dC, dI)) (ci := 10) (v := .ref (a 31)) (C := RX9) (T := TX9) (N := 46) hx hb hts in_w_jobRing_X9 hown hK hP 0 rfl rfl 31 (by decide) (hts (.fieldLink RX9 89 "ServiceTreeModel" "edge" "[Z") (by decide +kernel)) (fun _ h9 => h9) rfl dX9_jobRing_21 ?_
              refine lv_iload_n hx hb dX9_jobRing_24 rfl (lv_at hl 1 rfl) ?_
              refine lv_bipush (v := 40) hx hb dX9_jobRing_25 (by decide) ?_
              refine lv_imul hx hb dX9_jobRing_27 ?_
              refine p1_topr (v := .int (nI (i1 * 40))) (congrArg Value.int (pk_mul i1 40)) ?_
              refine lv_iload_n hx hb dX9_jobRing_28 rfl (lv_at hl 0 rfl) ?_
              refine lv_iadd hx hb dX9_jobRing_29 ?_
              refine p1_topr (v := .int (nI ((i1 * 40) + i11))) (congrArg Value.int (nI_add (i1 * 40) i11)) ?_
              refine lv_aload_n hx hb dX9_jobRing_30 rfl (lv_at hl 2 rfl) ?_
              refine lv_aload_n hx hb dX9_jobRing_31 rfl (lv_at hl 3 rfl) ?_
              refine lv_iload_n hx hb dX9_jobRing_32 rfl (lv_at hl 1 rfl) ?_
              refine lv_iload_n hx hb dX9_jobRing_33 rfl (lv_at hl 0 rfl) ?_
              have hFc := mw_free hD hS hA
              refine va_calli (va_runV (As := [.ref (a 30), .int (nI i1), .int (nI i11)]) (rest := [.int (nI ((i1 * 40) + i11)), .ref (a 31)]) ⟨hx, hb, hml, hown, hts⟩ (c_w_waitsAmong_newJob l dC dI h a k F15 V16 n (b) i1 i11 H.size hI.1 (by omega) (by omega) (by omega)) (cwV 3 hts wc_w_jobRing_w_waitsAmong_newJob_167 rfl rfl rfl (by decide +kernel) ⟨Nat.le_of_ble_eq_true rfl, Nat.le_of_ble_eq_true rfl⟩) ⟨fun a9 U g mk q => by obtain ⟨q0, q1, qP, qK, qD⟩ := q; exact ⟨q0, q1, qP, va_K.moved (u := U) (U := U.calling g mk a9) (Vm.Alike.refl U.vm) qK, qD⟩, va_recv hK hP (ci := 10) (q0 := 0) rfl rfl, fun U hU hW => ⟨rfl, by rw [hU], by rw [hU]; exact hP, va_K.moved hW.alike hK, hD.weaken (fun _ _ _ _ => trivial)⟩⟩ rfl rfl hl.1 rfl (lv_room (Nat.le_of_ble_eq_true rfl)) dX9_jobRing_34 ⟨Nat.le_of_ble_eq_true rfl, Nat.le_of_ble_eq_true rfl⟩) hS (fun q _ h => hFc q h) hFc (fun r18 u t H1 locs ht hvm hw hB hz1 hk1 hS => ?_)
              obtain ⟨F19, V20⟩ := u
              replace hP := hB.1
              rw [ht] at hP
              replace hD : va_D A (mW h a k F19 V20) := hB.2.weaken (fun _ q _ h9 => hFc q.1 h9)
              clear hB
              generalize H1 = H at hP hS ⊢
              replace hP : va_P (dC, dI) vwCl (mW h a k F19 V20) H := hP
              obtain ⟨hwF, hwV, hw⟩ : F19 = F15 ∧ V20 = V16 ∧ _ := hw
              rw [hwF, hwV] at hP hD
              obtain ⟨hw, hwe⟩ := hw
              replace hw : r18 = f_w_waitsAmong_newJob n i1 i11 F15 := hw
              replace hZ9 := bnd_s hZ9 hw
              have br18 := hwe
              refine va_zast (n := 1600) (f := F15 31) hx hb hK hP hD hS 27 26 rfl rfl (vp_in_nI (n := (i1 * 40) + i11) (by omega) (by decide)) dX9_jobRing_37 (fun H locs hP hD hS => ?_)
              rw [mW_set_31] at hP hD
              obtain ⟨F21, eF21⟩ : ∃ f9 : Nat → Nat → Int32, f9 = va_up F15 31 (upd (F15 31) (nI ((i1 * 40) + i11)).toNatClampNeg (vp_nar .boolean r18)) := ⟨_, rfl⟩
              rw [← eF21] at hP hD
              replace hZ9 := bnd_s hZ9 eF21
              replace hI : StM n (b) F V F21 V16 := ⟨by rw [eF21]; exact hI.1.setF (by decide), trivial⟩
              replace hU : ∀ j : Nat, j ∉ ([31, 32] : List Nat) → F21 j = F j := by rw [eF21]; exact mw_up (by decide) hU
              refine lv_iinc (v := nI (i11 + 1)) (lv' := [(3, .int (nI (i11 + 1))), (2, .int (nI i1)), (0, .ref h), (1, .ref (a 30))]) hx hb dX9_jobRing_38 hl (k := 0) rfl (nI_add i11 1) (by decide) rfl (fun ls hl => ?_)
              refine lv_goto (tgt := 12) hx hb dX9_jobRing_41 (by decide) ?_
              exact ih13 (i11 + 1)  F21 V16 _ _ _ (by omega) (by omega) (hI.mono (by omega)) hU hV  hZ9 hP hD hS (lv_sub hl [0, 1, 2, 3] rfl)
        exact lp14 (n + 1) 0  F5 V6 _ _ _ (by omega) (by omega) (hI.mono (by omega)) hU hV  hZ9 hP hD hS hl
  exact lp4 (n + 1) 0  F V _ _ _ (by omega) (by omega) (hI.mono (by omega)) hU hV  hZ9 hP hD hS hl

end
