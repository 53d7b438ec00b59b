section
def f_w_about (n : Nat) (p0 : Int32) (p1 : Int32) (F : Nat → Nat → Int32) : Int32 := if (0 : Int32) ≤ p0 ∧ p0 < nI n then (bnd (p0.toNatClampNeg) (fun (j4 : Nat) => if p1 = 0 then (bnd (F 7 (nI j4).toNatClampNeg) (fun (x6 : Int32) => (x6))) else (if p1 = 1 then (bnd (F 8 (nI j4).toNatClampNeg) (fun (x8 : Int32) => (x8))) else (if p1 = 2 then (bnd (F 9 (nI j4).toNatClampNeg) (fun (x10 : Int32) => bnd (x10.toNatClampNeg) (fun (m11 : Nat) => ((nI m11))))) else (if p1 = 3 then (bnd (F 10 (nI j4).toNatClampNeg) (fun (x13 : Int32) => (x13))) else (if p1 = 4 then (bnd (F 11 (nI j4).toNatClampNeg) (fun (x15 : Int32) => if x15 = (0 : Int32) then (((0 : Int32))) else (((1 : Int32))))) else (if p1 = 5 then (bnd (F 25 (nI j4).toNatClampNeg) (fun (x18 : Int32) => (x18))) else (if p1 = 6 then (bnd (F 18 (nI j4).toNatClampNeg) (fun (x20 : Int32) => bnd (x20.toNatClampNeg) (fun (m21 : Nat) => ((nI m21))))) else (if p1 = 7 then (bnd (F 15 (nI j4).toNatClampNeg) (fun (x23 : Int32) => (x23))) else (if p1 = 8 then (bnd (F 16 (nI j4).toNatClampNeg) (fun (x25 : Int32) => (x25))) else (if p1 = 9 then (bnd (F 0 (nI j4).toNatClampNeg) (fun (x27 : Int32) => (x27))) else (((-1 : Int32)))))))))))))) else (((-1 : Int32)))
def wq_w_about : List Cond := ([.code yX9_about cX9_about 3 (some .int), .fieldLink RX9 31 "ServiceTreeModel" "state" "[I", .fieldLink RX9 34 "ServiceTreeModel" "since" "[I", .fieldLink RX9 37 "ServiceTreeModel" "starts" "[I", .fieldLink RX9 40 "ServiceTreeModel" "fails" "[I", .fieldLink RX9 43 "ServiceTreeModel" "hasEnded" "[Z", .fieldLink RX9 71 "ServiceTreeModel" "job" "[I", .fieldLink RX9 65 "ServiceTreeModel" "letterMany" "[I", .fieldLink RX9 56 "ServiceTreeModel" "read" "[I", .fieldLink RX9 59 "ServiceTreeModel" "readLast" "[I", .fieldLink RX9 9 "ServiceTreeModel" "kind" "[I", .methodLink RX9 135 yX9_is, .instanceMethod yX9_is, .selects RX9 yX9_is yX9_is, .initialized RX9] : List Cond) ++ (wsX90 ++ (wq_w_is))
theorem in_w_about_X9 : ∀ w ∈ wsX90, w ∈ wq_w_about := fun _ h => List.mem_append_right _ (List.mem_append_left _ (h))
set_option maxRecDepth 20000 in
theorem wi_w_about : ∀ w ∈ wq_w_about, w ∈ lw_tbl := List.forall_mem_append.mpr ⟨(wix [1145, 859, 860, 861, 862, 863, 877, 870, 867, 868, 852, 1000, 1002, 32, 69] rfl), List.forall_mem_append.mpr ⟨inKX9, wi_w_is⟩⟩
set_option maxRecDepth 20000 in
theorem wg_w_about : GoodIn wq_w_about wq_w_about := goodIn_sub (fun _ h => h) (by decide +kernel)
set_option maxRecDepth 20000 in
theorem wc_w_about_w_is_135 : GoodIn wq_w_about (wsV RX9 135 RX9 yX9_is wq_w_is) := goodIn_app (goodIn_of _ (by decide +kernel)) (fun w h => ⟨List.mem_append_right _ (List.mem_append_right _ (h)), (wg_w_is w h).2⟩)
def rm_w_about : Room := { frames := 1, cells := 0, slots := 0, locals := 21 }
set_option maxHeartbeats 4000000 in
set_option maxRecDepth 100000 in
theorem c_w_about (l : Launch) (dC : Nat → ClassId) (dI : Nat → Nat → Nat) (h : Nat) (a : Nat → Nat) (k : Nat → ClassId) (F : Nat → Nat → Int32) (V : Nat → Int32) (n b : Nat) (p0 : Int32) (p1 : Int32) (sz : Nat) (hI0 : InvM n b F V) (hb0 : b + 0 < 2147483648)  : Met l yX9_about wq_w_about rm_w_about (va_Pc [.ref h, .int p0, .int p1] (fun U => U.heap.size = sz ∧ va_P (dC, dI) vwCl (mW h a k F V) U.heap ∧ va_K (dC, dI) vwCl (mT k) U ∧ va_D (fun _ => True) (mW h a k F V))) (va_Qi (fun (r : Int32) (u : (Nat → Nat → Int32) × (Nat → Int32)) => u.1 = F ∧ u.2 = V ∧ (r = f_w_about n p0 p1 F)) (fun (u : (Nat → Nat → Int32) × (Nat → Int32)) (t : State) => va_P (dC, dI) vwCl (mW h a k u.1 u.2) t.heap ∧ va_D (va_A (mW h a k F V) sz) (mW h a k u.1 u.2)) (va_A (mW h a k F V) sz)) 0 0 (va_A (mW h a k F V) sz) := by
  have hn : n ≤ 40 := hI0.1
  have hI : StM n b F V F V := StM.rf hI0
  have hU : ∀ j : Nat, j ∉ ([] : List Nat) → F j = F j := fun _ _ => rfl
  have hV : ∀ j : Nat, j ∉ ([] : List Nat) → V j = V j := fun _ _ => rfl
  refine Met.ofW (cc := cX9_about) (maxL := 3) (ret := (some .int)) (by decide) rfl ?_
  intro p e s m args below meth c s₁ B hml hv
  obtain ⟨rfl, hsz, hP, hK, hD0⟩ := hv
  have hx := B.exec
  have hb := B.bytes
  have hr := B.returns
  have hts := atoms_spec (ws := wq_w_about) B.pre
  have hown : s.vm.findClass RX9 = some m.cls := findClass_of_methodNamed B.named
  have hlocks := B.notSynchronized
  subst hsz
  have hD := hD0.self (sz := s.heap.size)
  generalize hAe : va_A (mW h a k F V) s.heap.size = A at hD ⊢
  have hA : ∀ q : Nat, s.heap.size ≤ q → A q := fun q h => by rw [← hAe]; exact Or.inr h
  have hS : va_S A s.heap s.heap [] := va_S.rf
  have hl := lv_entry ([.ref h, .int p0, .int p1]) (n := 3) (Nat.le_of_ble_eq_true rfl)
  rw [lg_entry_eq]
  generalize (lg_sl ([.ref h, .int p0, .int p1]) ++ List.replicate (3 - (lg_sl ([.ref h, .int p0, .int p1])).length) Slot.unset).toArray = ls at hl ⊢
  have hl : lv_has ls 3 [(0, .ref h), (1, .int p0), (2, .int p1)] := hl
  obtain ⟨RES, hR0⟩ : ∃ R9, R9 = f_w_about n p0 p1 F := ⟨_, rfl⟩
  have hZ9 := hR0
  unfold f_w_about at hZ9
  refine lv_aload_n hx hb dX9_about_0 rfl (lv_at hl 0 rfl) ?_
  refine lv_iload_n hx hb dX9_about_1 rfl (lv_at hl 1 rfl) ?_
  have hFc := mw_free hD hS hA
  refine va_calli (va_runV (As := [.int p0]) (rest := []) ⟨hx, hb, hml, hown, hts⟩ (c_w_is l dC dI h a k F V n (b) p0 s.heap.size hI.1 (by omega) ) (cwV 1 hts wc_w_about_w_is_135 rfl rfl rfl (by decide +kernel) ⟨Nat.le_of_ble_eq_true rfl, Nat.le_of_ble_eq_true rfl⟩) ⟨fun a9 U g mk q => by obtain ⟨q0, q1, qP, qK, qD⟩ := q; exact ⟨q0, q1, qP, va_K.moved (u := U) (U := U.calling g mk a9) (Vm.Alike.refl U.vm) qK, qD⟩, va_recv hK hP (ci := 10) (q0 := 0) rfl rfl, fun U hU hW => ⟨rfl, by rw [hU], by rw [hU]; exact hP, va_K.moved hW.alike hK, hD.weaken (fun _ _ _ _ => trivial)⟩⟩ rfl rfl hl.1 rfl (lv_room (Nat.le_of_ble_eq_true rfl)) dX9_about_2 ⟨Nat.le_of_ble_eq_true rfl, Nat.le_of_ble_eq_true rfl⟩) hS (fun q _ h => hFc q h) hFc (fun r1 u t H1 locs ht hvm hw hB hz1 hk1 hS => ?_)
  obtain ⟨F2, V3⟩ := u
  replace hP := hB.1
  rw [ht] at hP
  replace hD : va_D A (mW h a k F2 V3) := hB.2.weaken (fun _ q _ h9 => hFc q.1 h9)
  clear hB
  generalize H1 = H at hP hS ⊢
  replace hP : va_P (dC, dI) vwCl (mW h a k F2 V3) H := hP
  obtain ⟨hwF, hwV, hw⟩ : F2 = F ∧ V3 = V ∧ _ := hw
  rw [hwF, hwV] at hP hD
  rcases hw with ⟨rfl, j4, hj4, ej4⟩ | ⟨rfl, noj4⟩
  · replace hZ9 := ite_t hZ9 (show (0 : Int32) ≤ p0 ∧ p0 < nI n by rw [ej4]; exact ⟨nI_pos' (by omega), nI_lt hj4 (by omega)⟩)
    replace hZ9 := bnd_s hZ9 (show j4 = p0.toNatClampNeg by rw [ej4, nI_clamp (by omega)])
    subst ej4
    refine lv_if_ne (tgt := 10) hx hb dX9_about_5 (by decide) (fun _ => ?_) (fun c9 => absurd c9 (by decide))
    refine lv_iload_n hx hb dX9_about_10 rfl (lv_at hl 2 rfl) ?_
    rcases Classical.em (p1 = 0) with c5 | c5
    · replace hZ9 := ite_t hZ9 c5
      refine lv_tableIn (tgt := 64) (off := 53) hx hb dX9_about_11 (by rw [c5]; decide) (by rw [c5]; decide) (by rw [c5]; rfl) (by decide) ?_
      refine lv_aload_n hx hb dX9_about_64 rfl (lv_at hl 0 rfl) ?_
      refine va_get (D := (dC, dI)) (ci := 10) (v := .ref (a 7)) (C := RX9) (T := TX9) (N := 46) hx hb hts in_w_about_X9 hown hK hP 0 rfl rfl 7 (by decide) (hts (.fieldLink RX9 31 "ServiceTreeModel" "state" "[I") (by decide +kernel)) (fun _ h9 => h9) rfl dX9_about_65 ?_
      refine lv_iload_n hx hb dX9_about_68 rfl (lv_at hl 1 rfl) ?_
      refine va_iald (n := 40) (f := F 7) hx hb hK hP 8 7 rfl rfl (vp_in_nI (n := j4) (by omega) (by decide)) dX9_about_69 ?_
      refine lv_topi (fun x6 ex6 => ?_)
      replace hZ9 := bnd_s hZ9 ex6
      exact W.iret (v := x6) hx hb hr (fun t ht hW => ⟨⟨x6, (F, V), rfl, ⟨rfl, rfl, hZ9.symm.trans hR0⟩, by rw [ht]; exact hP, hD⟩, hS.F ht⟩) hS.2.2 dX9_about_70
    replace hZ9 := ite_f hZ9 c5
    rcases Classical.em (p1 = 1) with c7 | c7
    · replace hZ9 := ite_t hZ9 c7
      refine lv_tableIn (tgt := 71) (off := 60) hx hb dX9_about_11 (by rw [c7]; decide) (by rw [c7]; decide) (by rw [c7]; rfl) (by decide) ?_
      refine lv_aload_n hx hb dX9_about_71 rfl (lv_at hl 0 rfl) ?_
      refine va_get (D := (dC, dI)) (ci := 10) (v := .ref (a 8)) (C := RX9) (T := TX9) (N := 46) hx hb hts in_w_about_X9 hown hK hP 0 rfl rfl 8 (by decide) (hts (.fieldLink RX9 34 "ServiceTreeModel" "since" "[I") (by decide +kernel)) (fun _ h9 => h9) rfl dX9_about_72 ?_
      refine lv_iload_n hx hb dX9_about_75 rfl (lv_at hl 1 rfl) ?_
      refine va_iald (n := 40) (f := F 8) hx hb hK hP 9 8 rfl rfl (vp_in_nI (n := j4) (by omega) (by decide)) dX9_about_76 ?_
      refine lv_topi (fun x8 ex8 => ?_)
      replace hZ9 := bnd_s hZ9 ex8
      exact W.iret (v := x8) hx hb hr (fun t ht hW => ⟨⟨x8, (F, V), rfl, ⟨rfl, rfl, hZ9.symm.trans hR0⟩, by rw [ht]; exact hP, hD⟩, hS.F ht⟩) hS.2.2 dX9_about_77
    replace hZ9 := ite_f hZ9 c7
    rcases Classical.em (p1 = 2) with c9 | c9
    · replace hZ9 := ite_t hZ9 c9
      refine lv_tableIn (tgt := 78) (off := 67) hx hb dX9_about_11 (by rw [c9]; decide) (by rw [c9]; decide) (by rw [c9]; rfl) (by decide) ?_
      refine lv_aload_n hx hb dX9_about_78 rfl (lv_at hl 0 rfl) ?_
      refine va_get (D := (dC, dI)) (ci := 10) (v := .ref (a 9)) (C := RX9) (T := TX9) (N := 46) hx hb hts in_w_about_X9 hown hK hP 0 rfl rfl 9 (by decide) (hts (.fieldLink RX9 37 "ServiceTreeModel" "starts" "[I") (by decide +kernel)) (fun _ h9 => h9) rfl dX9_about_79 ?_
      refine lv_iload_n hx hb dX9_about_82 rfl (lv_at hl 1 rfl) ?_
      refine va_iald (n := 40) (f := F 9) hx hb hK hP 10 9 rfl rfl (vp_in_nI (n := j4) (by omega) (by decide)) dX9_about_83 ?_
      refine lv_topi (fun x10 ex10 => ?_)
      replace hZ9 := bnd_s hZ9 ex10
      obtain ⟨m11, hm11, qm11⟩ := hI.1.2.2.2.2.1 (nI j4).toNatClampNeg
      obtain rfl : x10 = nI m11 := ex10.trans qm11
      replace hZ9 := bnd_s hZ9 (show m11 = (nI m11).toNatClampNeg by rw [nI_clamp (by omega)])
      exact W.iret (v := (nI m11)) hx hb hr (fun t ht hW => ⟨⟨(nI m11), (F, V), rfl, ⟨rfl, rfl, hZ9.symm.trans hR0⟩, by rw [ht]; exact hP, hD⟩, hS.F ht⟩) hS.2.2 dX9_about_84
    replace hZ9 := ite_f hZ9 c9
    rcases Classical.em (p1 = 3) with c12 | c12
    · replace hZ9 := ite_t hZ9 c12
      refine lv_tableIn (tgt := 85) (off := 74) hx hb dX9_about_11 (by rw [c12]; decide) (by rw [c12]; decide) (by rw [c12]; rfl) (by decide) ?_
      refine lv_aload_n hx hb dX9_about_85 rfl (lv_at hl 0 rfl) ?_
      refine va_get (D := (dC, dI)) (ci := 10) (v := .ref (a 10)) (C := RX9) (T := TX9) (N := 46) hx hb hts in_w_about_X9 hown hK hP 0 rfl rfl 10 (by decide) (hts (.fieldLink RX9 40 "ServiceTreeModel" "fails" "[I") (by decide +kernel)) (fun _ h9 => h9) rfl dX9_about_86 ?_
      refine lv_iload_n hx hb dX9_about_89 rfl (lv_at hl 1 rfl) ?_
      refine va_iald (n := 40) (f := F 10) hx hb hK hP 11 10 rfl rfl (vp_in_nI (n := j4) (by omega) (by decide)) dX9_about_90 ?_
      refine lv_topi (fun x13 ex13 => ?_)
      replace hZ9 := bnd_s hZ9 ex13
      exact W.iret (v := x13) hx hb hr (fun t ht hW => ⟨⟨x13, (F, V), rfl, ⟨rfl, rfl, hZ9.symm.trans hR0⟩, by rw [ht]; exact hP, hD⟩, hS.F ht⟩) hS.2.2 dX9_about_91
    replace hZ9 := ite_f hZ9 c12
    rcases Classical.em (p1 = 4) with c14 | c14
    · replace hZ9 := ite_t hZ9 c14
      refine lv_tableIn (tgt := 92) (off := 81) hx hb dX9_about_11 (by rw [c14]; decide) (by rw [c14]; decide) (by rw [c14]; rfl) (by decide) ?_
      refine lv_aload_n hx hb dX9_about_92 rfl (lv_at hl 0 rfl) ?_
      refine va_get (D := (dC, dI)) (ci := 10) (v := .ref (a 11)) (C := RX9) (T := TX9) (N := 46) hx hb hts in_w_about_X9 hown hK hP 0 rfl rfl 11 (by decide) (hts (.fieldLink RX9 43 "ServiceTreeModel" "hasEnded" "[Z") (by decide +kernel)) (fun _ h9 => h9) rfl dX9_about_93 ?_
      refine lv_iload_n hx hb dX9_about_96 rfl (lv_at hl 1 rfl) ?_
      refine va_zald (n := 40) (f := F 11) hx hb hK hP 12 11 rfl rfl (vp_in_nI (n := j4) (by omega) (by decide)) dX9_about_97 ?_
      refine lv_topi (fun x15 ex15 => ?_)
      replace hZ9 := bnd_s hZ9 ex15
      refine lv_if_eq (tgt := 105) hx hb dX9_about_98 (by decide) (fun c16 => ?_) (fun c16 => ?_)
      · replace hZ9 := ite_t hZ9 c16
        refine lv_iconst (v := 0) hx hb dX9_about_105 (by decide) ?_
        exact W.iret (v := 0) hx hb hr (fun t ht hW => ⟨⟨0, (F, V), rfl, ⟨rfl, rfl, hZ9.symm.trans hR0⟩, by rw [ht]; exact hP, hD⟩, hS.F ht⟩) hS.2.2 dX9_about_106
      · replace hZ9 := ite_f hZ9 c16
        refine lv_iconst (v := 1) hx hb dX9_about_101 (by decide) ?_
        refine lv_goto (tgt := 106) hx hb dX9_about_102 (by decide) ?_
        exact W.iret (v := 1) hx hb hr (fun t ht hW => ⟨⟨1, (F, V), rfl, ⟨rfl, rfl, hZ9.symm.trans hR0⟩, by rw [ht]; exact hP, hD⟩, hS.F ht⟩) hS.2.2 dX9_about_106
    replace hZ9 := ite_f hZ9 c14
    rcases Classical.em (p1 = 5) with c17 | c17
    · replace hZ9 := ite_t hZ9 c17
      refine lv_tableIn (tgt := 107) (off := 96) hx hb dX9_about_11 (by rw [c17]; decide) (by rw [c17]; decide) (by rw [c17]; rfl) (by decide) ?_
      refine lv_aload_n hx hb dX9_about_107 rfl (lv_at hl 0 rfl) ?_
      refine va_get (D := (dC, dI)) (ci := 10) (v := .ref (a 25)) (C := RX9) (T := TX9) (N := 46) hx hb hts in_w_about_X9 hown hK hP 0 rfl rfl 25 (by decide) (hts (.fieldLink RX9 71 "ServiceTreeModel" "job" "[I") (by decide +kernel)) (fun _ h9 => h9) rfl dX9_about_108 ?_
      refine lv_iload_n hx hb dX9_about_111 rfl (lv_at hl 1 rfl) ?_
      refine va_iald (n := 40) (f := F 25) hx hb hK hP 21 20 rfl rfl (vp_in_nI (n := j4) (by omega) (by decide)) dX9_about_112 ?_
      refine lv_topi (fun x18 ex18 => ?_)
      replace hZ9 := bnd_s hZ9 ex18
      exact W.iret (v := x18) hx hb hr (fun t ht hW => ⟨⟨x18, (F, V), rfl, ⟨rfl, rfl, hZ9.symm.trans hR0⟩, by rw [ht]; exact hP, hD⟩, hS.F ht⟩) hS.2.2 dX9_about_113
    replace hZ9 := ite_f hZ9 c17
    rcases Classical.em (p1 = 6) with c19 | c19
    · replace hZ9 := ite_t hZ9 c19
      refine lv_tableIn (tgt := 114) (off := 103) hx hb dX9_about_11 (by rw [c19]; decide) (by rw [c19]; decide) (by rw [c19]; rfl) (by decide) ?_
      refine lv_aload_n hx hb dX9_about_114 rfl (lv_at hl 0 rfl) ?_
      refine va_get (D := (dC, dI)) (ci := 10) (v := .ref (a 18)) (C := RX9) (T := TX9) (N := 46) hx hb hts in_w_about_X9 hown hK hP 0 rfl rfl 18 (by decide) (hts (.fieldLink RX9 65 "ServiceTreeModel" "letterMany" "[I") (by decide +kernel)) (fun _ h9 => h9) rfl dX9_about_115 ?_
      refine lv_iload_n hx hb dX9_about_118 rfl (lv_at hl 1 rfl) ?_
      refine va_iald (n := 40) (f := F 18) hx hb hK hP 19 18 rfl rfl (vp_in_nI (n := j4) (by omega) (by decide)) dX9_about_119 ?_
      refine lv_topi (fun x20 ex20 => ?_)
      replace hZ9 := bnd_s hZ9 ex20
      obtain ⟨m21, hm21, qm21⟩ := hI.1.2.2.2.2.2.2.1 (nI j4).toNatClampNeg
      obtain rfl : x20 = nI m21 := ex20.trans qm21
      replace hZ9 := bnd_s hZ9 (show m21 = (nI m21).toNatClampNeg by rw [nI_clamp (by omega)])
      exact W.iret (v := (nI m21)) hx hb hr (fun t ht hW => ⟨⟨(nI m21), (F, V), rfl, ⟨rfl, rfl, hZ9.symm.trans hR0⟩, by rw [ht]; exact hP, hD⟩, hS.F ht⟩) hS.2.2 dX9_about_120
    replace hZ9 := ite_f hZ9 c19
    rcases Classical.em (p1 = 7) with c22 | c22
    · replace hZ9 := ite_t hZ9 c22
      refine lv_tableIn (tgt := 121) (off := 110) hx hb dX9_about_11 (by rw [c22]; decide) (by rw [c22]; decide) (by rw [c22]; rfl) (by decide) ?_
      refine lv_aload_n hx hb dX9_about_121 rfl (lv_at hl 0 rfl) ?_
      refine va_get (D := (dC, dI)) (ci := 10) (v := .ref (a 15)) (C := RX9) (T := TX9) (N := 46) hx hb hts in_w_about_X9 hown hK hP 0 rfl rfl 15 (by decide) (hts (.fieldLink RX9 56 "ServiceTreeModel" "read" "[I") (by decide +kernel)) (fun _ h9 => h9) rfl dX9_about_122 ?_
      refine lv_iload_n hx hb dX9_about_125 rfl (lv_at hl 1 rfl) ?_
      refine va_iald (n := 40) (f := F 15) hx hb hK hP 16 15 rfl rfl (vp_in_nI (n := j4) (by omega) (by decide)) dX9_about_126 ?_
      refine lv_topi (fun x23 ex23 => ?_)
      replace hZ9 := bnd_s hZ9 ex23
      exact W.iret (v := x23) hx hb hr (fun t ht hW => ⟨⟨x23, (F, V), rfl, ⟨rfl, rfl, hZ9.symm.trans hR0⟩, by rw [ht]; exact hP, hD⟩, hS.F ht⟩) hS.2.2 dX9_about_127
    replace hZ9 := ite_f hZ9 c22
    rcases Classical.em (p1 = 8) with c24 | c24
    · replace hZ9 := ite_t hZ9 c24
      refine lv_tableIn (tgt := 128) (off := 117) hx hb dX9_about_11 (by rw [c24]; decide) (by rw [c24]; decide) (by rw [c24]; rfl) (by decide) ?_
      refine lv_aload_n hx hb dX9_about_128 rfl (lv_at hl 0 rfl) ?_
      refine va_get (D := (dC, dI)) (ci := 10) (v := .ref (a 16)) (C := RX9) (T := TX9) (N := 46) hx hb hts in_w_about_X9 hown hK hP 0 rfl rfl 16 (by decide) (hts (.fieldLink RX9 59 "ServiceTreeModel" "readLast" "[I") (by decide +kernel)) (fun _ h9 => h9) rfl dX9_about_129 ?_
      refine lv_iload_n hx hb dX9_about_132 rfl (lv_at hl 1 rfl) ?_
      refine va_iald (n := 40) (f := F 16) hx hb hK hP 17 16 rfl rfl (vp_in_nI (n := j4) (by omega) (by decide)) dX9_about_133 ?_
      refine lv_topi (fun x25 ex25 => ?_)
      replace hZ9 := bnd_s hZ9 ex25
      exact W.iret (v := x25) hx hb hr (fun t ht hW => ⟨⟨x25, (F, V), rfl, ⟨rfl, rfl, hZ9.symm.trans hR0⟩, by rw [ht]; exact hP, hD⟩, hS.F ht⟩) hS.2.2 dX9_about_134
    replace hZ9 := ite_f hZ9 c24
    rcases Classical.em (p1 = 9) with c26 | c26
    · replace hZ9 := ite_t hZ9 c26
      refine lv_tableIn (tgt := 135) (off := 124) hx hb dX9_about_11 (by rw [c26]; decide) (by rw [c26]; decide) (by rw [c26]; rfl) (by decide) ?_
      refine lv_aload_n hx hb dX9_about_135 rfl (lv_at hl 0 rfl) ?_
      refine va_get (D := (dC, dI)) (ci := 10) (v := .ref (a 0)) (C := RX9) (T := TX9) (N := 46) hx hb hts in_w_about_X9 hown hK hP 0 rfl rfl 0 (by decide) (hts (.fieldLink RX9 9 "ServiceTreeModel" "kind" "[I") (by decide +kernel)) (fun _ h9 => h9) rfl dX9_about_136 ?_
      refine lv_iload_n hx hb dX9_about_139 rfl (lv_at hl 1 rfl) ?_
      refine va_iald (n := 40) (f := F 0) hx hb hK hP 1 0 rfl rfl (vp_in_nI (n := j4) (by omega) (by decide)) dX9_about_140 ?_
      refine lv_topi (fun x27 ex27 => ?_)
      replace hZ9 := bnd_s hZ9 ex27
      exact W.iret (v := x27) hx hb hr (fun t ht hW => ⟨⟨x27, (F, V), rfl, ⟨rfl, rfl, hZ9.symm.trans hR0⟩, by rw [ht]; exact hP, hD⟩, hS.F ht⟩) hS.2.2 dX9_about_141
    replace hZ9 := ite_f hZ9 c26
    refine lv_tableOut (tgt := 142) hx hb dX9_about_11 (by have k0 := c5; have k1 := c7; have k2 := c9; have k3 := c12; have k4 := c14; have k5 := c17; have k6 := c19; have k7 := c22; have k8 := c24; have k9 := c26; simp only [p1_le, p1_lt, p1_eq, p1_m6, p1_m1, p1_0, p1_1, p1_2, p1_3, p1_4, p1_5, p1_6, p1_7, p1_8, p1_9, p1_10, p1_11, p1_12, p1_13, p1_14, p1_15, p1_16, p1_17, p1_18, p1_19, p1_20, p1_40, p1_50, p1_200, p1_1000] at k0 k1 k2 k3 k4 k5 k6 k7 k8 k9 ⊢; omega) (by decide) ?_
    refine lv_iconst (v := (-1)) hx hb dX9_about_142 (by decide) ?_
    exact W.iret (v := (-1)) hx hb hr (fun t ht hW => ⟨⟨(-1), (F, V), rfl, ⟨rfl, rfl, hZ9.symm.trans hR0⟩, by rw [ht]; exact hP, hD⟩, hS.F ht⟩) hS.2.2 dX9_about_143
  · replace hZ9 := ite_f hZ9 noj4
    refine lv_if_ne (tgt := 10) hx hb dX9_about_5 (by decide) (fun c9 => absurd (by decide) c9) (fun _ => ?_)
    refine lv_iconst (v := (-1)) hx hb dX9_about_8 (by decide) ?_
    exact W.iret (v := (-1)) hx hb hr (fun t ht hW => ⟨⟨(-1), (F, V), rfl, ⟨rfl, rfl, hZ9.symm.trans hR0⟩, by rw [ht]; exact hP, hD⟩, hS.F ht⟩) hS.2.2 dX9_about_9
def f_w_count (n : Nat) (p0 : Int32) (F : Nat → Nat → Int32) (V : Nat → Int32) : Int32 := if p0 = 0 then (((nI n))) else (if p0 = 1 then (bnd (V 20) (fun (x3 : Int32) => (x3))) else (if p0 = 2 then (bnd (f_w_jobs n  F) (fun (r5 : Int32) => (r5))) else (if p0 = 3 then (bnd (V 22) (fun (x9 : Int32) => (x9))) else (if p0 = 4 then (bnd (V 23) (fun (x11 : Int32) => (x11))) else (if p0 = 5 then (bnd (V 24) (fun (x13 : Int32) => (x13))) else (((-1 : Int32))))))))
def wq_w_count : List Cond := ([.code yX9_count cX9_count 2 (some .int), .fieldLink RX9 126 "ServiceTreeModel" "services" "I", .fieldLink RX9 153 "ServiceTreeModel" "relations" "I", .fieldLink RX9 129 "ServiceTreeModel" "tick" "I", .fieldLink RX9 249 "ServiceTreeModel" "lettersAll" "I", .fieldLink RX9 243 "ServiceTreeModel" "readAll" "I", .methodLink RX9 143 yX9_jobs, .instanceMethod yX9_jobs, .selects RX9 yX9_jobs yX9_jobs, .initialized RX9] : List Cond) ++ (wsX90 ++ (wq_w_jobs))
theorem in_w_count_X9 : ∀ w ∈ wsX90, w ∈ wq_w_count := fun _ h => List.mem_append_right _ (List.mem_append_left _ (h))
set_option maxRecDepth 20000 in
theorem wi_w_count : ∀ w ∈ wq_w_count, w ∈ lw_tbl := List.forall_mem_append.mpr ⟨(wix [1150, 873, 872, 874, 875, 876, 1016, 1018, 34, 69] rfl), List.forall_mem_append.mpr ⟨inKX9, wi_w_jobs⟩⟩
set_option maxRecDepth 20000 in
theorem wg_w_count : GoodIn wq_w_count wq_w_count := goodIn_sub (fun _ h => h) (by decide +kernel)
set_option maxRecDepth 20000 in
theorem wc_w_count_w_jobs_143 : GoodIn wq_w_count (wsV RX9 143 RX9 yX9_jobs wq_w_jobs) := goodIn_app (goodIn_of _ (by decide +kernel)) (fun w h => ⟨List.mem_append_right _ (List.mem_append_right _ (h)), (wg_w_jobs w h).2⟩)
def rm_w_count : Room := { frames := 1, cells := 0, slots := 0, locals := 22 }
set_option maxHeartbeats 4000000 in
set_option maxRecDepth 100000 in
theorem c_w_count (l : Launch) (dC : Nat → ClassId) (dI : Nat → Nat → Nat) (h : Nat) (a : Nat → Nat) (k : Nat → ClassId) (F : Nat → Nat → Int32) (V : Nat → Int32) (n b : Nat) (p0 : Int32) (sz : Nat) (hI0 : InvM n b F V) (hb0 : b + 0 < 2147483648)  : Met l yX9_count wq_w_count rm_w_count (va_Pc [.ref h, .int p0] (fun U => U.heap.size = sz ∧ va_P (dC, dI) vwCl (mW h a k F V) U.heap ∧ va_K (dC, dI) vwCl (mT k) U ∧ va_D (fun _ => True) (mW h a k F V))) (va_Qi (fun (r : Int32) (u : (Nat → Nat → Int32) × (Nat → Int32)) => u.1 = F ∧ u.2 = V ∧ (r = f_w_count n p0 F V)) (fun (u : (Nat → Nat → Int32) × (Nat → Int32)) (t : State) => va_P (dC, dI) vwCl (mW h a k u.1 u.2) t.heap ∧ va_D (va_A (mW h a k F V) sz) (mW h a k u.1 u.2)) (va_A (mW h a k F V) sz)) 0 0 (va_A (mW h a k F V) sz) := by
  have hn : n ≤ 40 := hI0.1
  have hI : StM n b F V F V := StM.rf hI0
  have hU : ∀ j : Nat, j ∉ ([] : List Nat) → F j = F j := fun _ _ => rfl
  have hV : ∀ j : Nat, j ∉ ([] : List Nat) → V j = V j := fun _ _ => rfl
  refine Met.ofW (cc := cX9_count) (maxL := 2) (ret := (some .int)) (by decide) rfl ?_
  intro p e s m args below meth c s₁ B hml hv
  obtain ⟨rfl, hsz, hP, hK, hD0⟩ := hv
  have hx := B.exec
  have hb := B.bytes
  have hr := B.returns
  have hts := atoms_spec (ws := wq_w_count) B.pre
  have hown : s.vm.findClass RX9 = some m.cls := findClass_of_methodNamed B.named
  have hlocks := B.notSynchronized
  subst hsz
  have hD := hD0.self (sz := s.heap.size)
  generalize hAe : va_A (mW h a k F V) s.heap.size = A at hD ⊢
  have hA : ∀ q : Nat, s.heap.size ≤ q → A q := fun q h => by rw [← hAe]; exact Or.inr h
  have hS : va_S A s.heap s.heap [] := va_S.rf
  have hl := lv_entry ([.ref h, .int p0]) (n := 2) (Nat.le_of_ble_eq_true rfl)
  rw [lg_entry_eq]
  generalize (lg_sl ([.ref h, .int p0]) ++ List.replicate (2 - (lg_sl ([.ref h, .int p0])).length) Slot.unset).toArray = ls at hl ⊢
  have hl : lv_has ls 2 [(0, .ref h), (1, .int p0)] := hl
  obtain ⟨RES, hR0⟩ : ∃ R9, R9 = f_w_count n p0 F V := ⟨_, rfl⟩
  have hZ9 := hR0
  unfold f_w_count at hZ9
  refine lv_iload_n hx hb dX9_count_0 rfl (lv_at hl 1 rfl) ?_
  rcases Classical.em (p0 = 0) with c1 | c1
  · replace hZ9 := ite_t hZ9 c1
    refine lv_tableIn (tgt := 40) (off := 39) hx hb dX9_count_1 (by rw [c1]; decide) (by rw [c1]; decide) (by rw [c1]; rfl) (by decide) ?_
    refine lv_aload_n hx hb dX9_count_40 rfl (lv_at hl 0 rfl) ?_
    refine va_get (D := (dC, dI)) (ci := 10) (v := .int (V 21)) (C := RX9) (T := TX9) (N := 46) hx hb hts in_w_count_X9 hown hK hP 0 rfl rfl 21 (by decide) (hts (.fieldLink RX9 126 "ServiceTreeModel" "services" "I") (by decide +kernel)) (fun _ h9 => h9) rfl dX9_count_41 ?_
    refine p1_topr (v := .int (nI n)) (congrArg Value.int hI.1.2.1) ?_
    exact W.iret (v := (nI n)) hx hb hr (fun t ht hW => ⟨⟨(nI n), (F, V), rfl, ⟨rfl, rfl, hZ9.symm.trans hR0⟩, by rw [ht]; exact hP, hD⟩, hS.F ht⟩) hS.2.2 dX9_count_44
  replace hZ9 := ite_f hZ9 c1
  rcases Classical.em (p0 = 1) with c2 | c2
  · replace hZ9 := ite_t hZ9 c2
    refine lv_tableIn (tgt := 45) (off := 44) hx hb dX9_count_1 (by rw [c2]; decide) (by rw [c2]; decide) (by rw [c2]; rfl) (by decide) ?_
    refine lv_aload_n hx hb dX9_count_45 rfl (lv_at hl 0 rfl) ?_
    refine va_get (D := (dC, dI)) (ci := 10) (v := .int (V 20)) (C := RX9) (T := TX9) (N := 46) hx hb hts in_w_count_X9 hown hK hP 0 rfl rfl 20 (by decide) (hts (.fieldLink RX9 153 "ServiceTreeModel" "relations" "I") (by decide +kernel)) (fun _ h9 => h9) rfl dX9_count_46 ?_
    refine lv_topi (fun x3 ex3 => ?_)
    replace hZ9 := bnd_s hZ9 ex3
    exact W.iret (v := x3) hx hb hr (fun t ht hW => ⟨⟨x3, (F, V), rfl, ⟨rfl, rfl, hZ9.symm.trans hR0⟩, by rw [ht]; exact hP, hD⟩, hS.F ht⟩) hS.2.2 dX9_count_49
  replace hZ9 := ite_f hZ9 c2
  rcases Classical.em (p0 = 2) with c4 | c4
  · replace hZ9 := ite_t hZ9 c4
    refine lv_tableIn (tgt := 50) (off := 49) hx hb dX9_count_1 (by rw [c4]; decide) (by rw [c4]; decide) (by rw [c4]; rfl) (by decide) ?_
    refine lv_aload_n hx hb dX9_count_50 rfl (lv_at hl 0 rfl) ?_
    have hFc := mw_free hD hS hA
    refine va_calli (va_runV (As := []) (rest := []) ⟨hx, hb, hml, hown, hts⟩ (c_w_jobs l dC dI h a k F V n (b)  s.heap.size hI.1 (by omega) ) (cwV 0 hts wc_w_count_w_jobs_143 rfl rfl rfl (by decide +kernel) ⟨Nat.le_of_ble_eq_true rfl, Nat.le_of_ble_eq_true rfl⟩) ⟨fun a9 U g mk q => by obtain ⟨q0, q1, qP, qK, qD⟩ := q; exact ⟨q0, q1, qP, va_K.moved (u := U) (U := U.calling g mk a9) (Vm.Alike.refl U.vm) qK, qD⟩, va_recv hK hP (ci := 10) (q0 := 0) rfl rfl, fun U hU hW => ⟨rfl, by rw [hU], by rw [hU]; exact hP, va_K.moved hW.alike hK, hD.weaken (fun _ _ _ _ => trivial)⟩⟩ rfl rfl hl.1 rfl (lv_room (Nat.le_of_ble_eq_true rfl)) dX9_count_51 ⟨Nat.le_of_ble_eq_true rfl, Nat.le_of_ble_eq_true rfl⟩) hS (fun q _ h => hFc q h) hFc (fun r5 u t H1 locs ht hvm hw hB hz1 hk1 hS => ?_)
    obtain ⟨F6, V7⟩ := u
    replace hP := hB.1
    rw [ht] at hP
    replace hD : va_D A (mW h a k F6 V7) := hB.2.weaken (fun _ q _ h9 => hFc q.1 h9)
    clear hB
    generalize H1 = H at hP hS ⊢
    replace hP : va_P (dC, dI) vwCl (mW h a k F6 V7) H := hP
    obtain ⟨hwF, hwV, hw⟩ : F6 = F ∧ V7 = V ∧ _ := hw
    rw [hwF, hwV] at hP hD
    replace hw : r5 = f_w_jobs n  F := hw
    replace hZ9 := bnd_s hZ9 hw
    exact W.iret (v := r5) hx hb hr (fun t ht hW => ⟨⟨r5, (F, V), rfl, ⟨rfl, rfl, hZ9.symm.trans hR0⟩, by rw [ht]; exact hP, hD⟩, hS.F ht⟩) hS.2.2 dX9_count_54
  replace hZ9 := ite_f hZ9 c4
  rcases Classical.em (p0 = 3) with c8 | c8
  · replace hZ9 := ite_t hZ9 c8
    refine lv_tableIn (tgt := 55) (off := 54) hx hb dX9_count_1 (by rw [c8]; decide) (by rw [c8]; decide) (by rw [c8]; rfl) (by decide) ?_
    refine lv_aload_n hx hb dX9_count_55 rfl (lv_at hl 0 rfl) ?_
    refine va_get (D := (dC, dI)) (ci := 10) (v := .int (V 22)) (C := RX9) (T := TX9) (N := 46) hx hb hts in_w_count_X9 hown hK hP 0 rfl rfl 22 (by decide) (hts (.fieldLink RX9 129 "ServiceTreeModel" "tick" "I") (by decide +kernel)) (fun _ h9 => h9) rfl dX9_count_56 ?_
    refine lv_topi (fun x9 ex9 => ?_)
    replace hZ9 := bnd_s hZ9 ex9
    exact W.iret (v := x9) hx hb hr (fun t ht hW => ⟨⟨x9, (F, V), rfl, ⟨rfl, rfl, hZ9.symm.trans hR0⟩, by rw [ht]; exact hP, hD⟩, hS.F ht⟩) hS.2.2 dX9_count_59
  replace hZ9 := ite_f hZ9 c8
  rcases Classical.em (p0 = 4) with c10 | c10
  · replace hZ9 := ite_t hZ9 c10
    refine lv_tableIn (tgt := 60) (off := 59) hx hb dX9_count_1 (by rw [c10]; decide) (by rw [c10]; decide) (by rw [c10]; rfl) (by decide) ?_
    refine lv_aload_n hx hb dX9_count_60 rfl (lv_at hl 0 rfl) ?_
    refine va_get (D := (dC, dI)) (ci := 10) (v := .int (V 23)) (C := RX9) (T := TX9) (N := 46) hx hb hts in_w_count_X9 hown hK hP 0 rfl rfl 23 (by decide) (hts (.fieldLink RX9 249 "ServiceTreeModel" "lettersAll" "I") (by decide +kernel)) (fun _ h9 => h9) rfl dX9_count_61 ?_
    refine lv_topi (fun x11 ex11 => ?_)
    replace hZ9 := bnd_s hZ9 ex11
    exact W.iret (v := x11) hx hb hr (fun t ht hW => ⟨⟨x11, (F, V), rfl, ⟨rfl, rfl, hZ9.symm.trans hR0⟩, by rw [ht]; exact hP, hD⟩, hS.F ht⟩) hS.2.2 dX9_count_64
  replace hZ9 := ite_f hZ9 c10
  rcases Classical.em (p0 = 5) with c12 | c12
  · replace hZ9 := ite_t hZ9 c12
    refine lv_tableIn (tgt := 65) (off := 64) hx hb dX9_count_1 (by rw [c12]; decide) (by rw [c12]; decide) (by rw [c12]; rfl) (by decide) ?_
    refine lv_aload_n hx hb dX9_count_65 rfl (lv_at hl 0 rfl) ?_
    refine va_get (D := (dC, dI)) (ci := 10) (v := .int (V 24)) (C := RX9) (T := TX9) (N := 46) hx hb hts in_w_count_X9 hown hK hP 0 rfl rfl 24 (by decide) (hts (.fieldLink RX9 243 "ServiceTreeModel" "readAll" "I") (by decide +kernel)) (fun _ h9 => h9) rfl dX9_count_66 ?_
    refine lv_topi (fun x13 ex13 => ?_)
    replace hZ9 := bnd_s hZ9 ex13
    exact W.iret (v := x13) hx hb hr (fun t ht hW => ⟨⟨x13, (F, V), rfl, ⟨rfl, rfl, hZ9.symm.trans hR0⟩, by rw [ht]; exact hP, hD⟩, hS.F ht⟩) hS.2.2 dX9_count_69
  replace hZ9 := ite_f hZ9 c12
  refine lv_tableOut (tgt := 70) hx hb dX9_count_1 (by have k0 := c1; have k1 := c2; have k2 := c4; have k3 := c8; have k4 := c10; have k5 := c12; simp only [p1_le, p1_lt, p1_eq, p1_m6, p1_m1, p1_0, p1_1, p1_2, p1_3, p1_4, p1_5, p1_6, p1_7, p1_8, p1_9, p1_10, p1_11, p1_12, p1_13, p1_14, p1_15, p1_16, p1_17, p1_18, p1_19, p1_20, p1_40, p1_50, p1_200, p1_1000] at k0 k1 k2 k3 k4 k5 ⊢; omega) (by decide) ?_
  refine lv_iconst (v := (-1)) hx hb dX9_count_70 (by decide) ?_
  exact W.iret (v := (-1)) hx hb hr (fun t ht hW => ⟨⟨(-1), (F, V), rfl, ⟨rfl, rfl, hZ9.symm.trans hR0⟩, by rw [ht]; exact hP, hD⟩, hS.F ht⟩) hS.2.2 dX9_count_71
def f_w_related (n : Nat) (p0 : Int32) (p1 : Int32) (p2 : Int32) (F : Nat → Nat → Int32) : Int32 := if ((0 : Int32) ≤ p0 ∧ p0 ≤ (3 : Int32)) ∧ ((0 : Int32) ≤ p1 ∧ p1 < nI n) ∧ ((0 : Int32) ≤ p2 ∧ p2 < nI n) ∧ ¬ p1 = p2 then (bnd (p0.toNatClampNeg) (fun (o4 : Nat) => bnd (p1.toNatClampNeg) (fun (j5 : Nat) => bnd (p2.toNatClampNeg) (fun (j6 : Nat) => bnd (f_w_has n o4 j5 j6 F) (fun (r7 : Int32) => if r7 = (0 : Int32) then (((0 : Int32))) else (((1 : Int32)))))))) else (((-1 : Int32)))
def wq_w_related : List Cond := ([.code yX9_related cX9_related 4 (some .int), .methodLink RX9 139 yX9_isPair, .instanceMethod yX9_isPair, .selects RX9 yX9_isPair yX9_isPair, .initialized RX9, .methodLink RX9 150 yX9_has, .instanceMethod yX9_has, .selects RX9 yX9_has yX9_has] : List Cond) ++ (wsX90 ++ (wq_w_isPair ++ (wq_w_has)))
set_option maxRecDepth 20000 in
theorem wi_w_related : ∀ w ∈ wq_w_related, w ∈ lw_tbl := List.forall_mem_append.mpr ⟨(wix [1154, 1012, 1014, 33, 69, 1023, 1025, 35] rfl), List.forall_mem_append.mpr ⟨inKX9, List.forall_mem_append.mpr ⟨wi_w_isPair, wi_w_has⟩⟩⟩
set_option maxRecDepth 20000 in
theorem wg_w_related : GoodIn wq_w_related wq_w_related := goodIn_sub (fun _ h => h) (by decide +kernel)
set_option maxRecDepth 20000 in
theorem wc_w_related_w_isPair_139 : GoodIn wq_w_related (wsV RX9 139 RX9 yX9_isPair wq_w_isPair) := goodIn_app (goodIn_of _ (by decide +kernel)) (fun w h => ⟨List.mem_append_right _ (List.mem_append_right _ (List.mem_append_left _ (h))), (wg_w_isPair w h).2⟩)
set_option maxRecDepth 20000 in
theorem wc_w_related_w_has_150 : GoodIn wq_w_related (wsV RX9 150 RX9 yX9_has wq_w_has) := goodIn_app (goodIn_of _ (by decide +kernel)) (fun w h => ⟨List.mem_append_right _ (List.mem_append_right _ (List.mem_append_right _ (h))), (wg_w_has w h).2⟩)
def rm_w_related : Room := { frames := 2, cells := 0, slots := 0, locals := 44 }
set_option maxHeartbeats 4000000 in
set_option maxRecDepth 100000 in
theorem c_w_related (l : Launch) (dC : Nat → ClassId) (dI : Nat → Nat → Nat) (h : Nat) (a : Nat → Nat) (k : Nat → ClassId) (F : Nat → Nat → Int32) (V : Nat → Int32) (n b : Nat) (p0 : Int32) (p1 : Int32) (p2 : Int32) (sz : Nat) (hI0 : InvM n b F V) (hb0 : b + 0 < 2147483648)  : Met l yX9_related wq_w_related rm_w_related (va_Pc [.ref h, .int p0, .int p1, .int p2] (fun U => U.heap.size = sz ∧ va_P (dC, dI) vwCl (mW h a k F V) U.heap ∧ va_K (dC, dI) vwCl (mT k) U ∧ va_D (fun _ => True) (mW h a k F V))) (va_Qi (fun (r : Int32) (u : (Nat → Nat → Int32) × (Nat → Int32)) => u.1 = F ∧ u.2 = V ∧ (r = f_w_related n p0 p1 p2 F)) (fun (u : (Nat → Nat → Int32) × (Nat → Int32)) (t : State) => va_P (dC, dI) vwCl (mW h a k u.1 u.2) t.heap ∧ va_D (va_A (mW h a k F V) sz) (mW h a k u.1 u.2)) (va_A (mW h a k F V) sz)) 0 0 (va_A (mW h a k F V) sz) := by
  have hn : n ≤ 40 := hI0.1
  have hI : StM n b F V F V := StM.rf hI0
  have hU : ∀ j : Nat, j ∉ ([] : List Nat) → F j = F j := fun _ _ => rfl
  have hV : ∀ j : Nat, j ∉ ([] : List Nat) → V j = V j := fun _ _ => rfl
  refine Met.ofW (cc := cX9_related) (maxL := 4) (ret := (some .int)) (by decide) rfl ?_
  intro p e s m args below meth c s₁ B hml hv
  obtain ⟨rfl, hsz, hP, hK, hD0⟩ := hv
  have hx := B.exec
  have hb := B.bytes
  have hr := B.returns
  have hts := atoms_spec (ws := wq_w_related) B.pre
  have hown : s.vm.findClass RX9 = some m.cls := findClass_of_methodNamed B.named
  have hlocks := B.notSynchronized
  subst hsz
  have hD := hD0.self (sz := s.heap.size)
  generalize hAe : va_A (mW h a k F V) s.heap.size = A at hD ⊢
  have hA : ∀ q : Nat, s.heap.size ≤ q → A q := fun q h => by rw [← hAe]; exact Or.inr h
  have hS : va_S A s.heap s.heap [] := va_S.rf
  have hl := lv_entry ([.ref h, .int p0, .int p1, .int p2]) (n := 4) (Nat.le_of_ble_eq_true rfl)
  rw [lg_entry_eq]
  generalize (lg_sl ([.ref h, .int p0, .int p1, .int p2]) ++ List.replicate (4 - (lg_sl ([.ref h, .int p0, .int p1, .int p2])).length) Slot.unset).toArray = ls at hl ⊢
  have hl : lv_has ls 4 [(0, .ref h), (1, .int p0), (2, .int p1), (3, .int p2)] := hl
  obtain ⟨RES, hR0⟩ : ∃ R9, R9 = f_w_related n p0 p1 p2 F := ⟨_, rfl⟩
  have hZ9 := hR0
  unfold f_w_related at hZ9
  refine lv_aload_n hx hb dX9_related_0 rfl (lv_at hl 0 rfl) ?_
  refine lv_iload_n hx hb dX9_related_1 rfl (lv_at hl 1 rfl) ?_
  refine lv_iload_n hx hb dX9_related_2 rfl (lv_at hl 2 rfl) ?_
  refine lv_iload_n hx hb dX9_related_3 rfl (lv_at hl 3 rfl) ?_
  have hFc := mw_free hD hS hA
  refine va_calli (va_runV (As := [.int p0, .int p1, .int p2]) (rest := []) ⟨hx, hb, hml, hown, hts⟩ (c_w_isPair l dC dI h a k F V n (b) p0 p1 p2 s.heap.size hI.1 (by omega) ) (cwV 3 hts wc_w_related_w_isPair_139 rfl rfl rfl (by decide +kernel) ⟨Nat.le_of_ble_eq_true rfl, Nat.le_of_ble_eq_true rfl⟩) ⟨fun a9 U g mk q => by obtain ⟨q0, q1, qP, qK, qD⟩ := q; exact ⟨q0, q1, qP, va_K.moved (u := U) (U := U.calling g mk a9) (Vm.Alike.refl U.vm) qK, qD⟩, va_recv hK hP (ci := 10) (q0 := 0) rfl rfl, fun U hU hW => ⟨rfl, by rw [hU], by rw [hU]; exact hP, va_K.moved hW.alike hK, hD.weaken (fun _ _ _ _ => trivial)⟩⟩ rfl rfl hl.1 rfl (lv_room (Nat.le_of_ble_eq_true rfl)) dX9_related_4 ⟨Nat.le_of_ble_eq_true rfl, Nat.le_of_ble_eq_true rfl⟩) hS (fun q _ h => hFc q h) hFc (fun r1 u t H1 locs ht hvm hw hB hz1 hk1 hS => ?_)
  obtain ⟨F2, V3⟩ := u
  replace hP := hB.1
  rw [ht] at hP
  replace hD : va_D A (mW h a k F2 V3) := hB.2.weaken (fun _ q _ h9 => hFc q.1 h9)
  clear hB
  generalize H1 = H at hP hS ⊢
  replace hP : va_P (dC, dI) vwCl (mW h a k F2 V3) H := hP
  obtain ⟨hwF, hwV, hw⟩ : F2 = F ∧ V3 = V ∧ _ := hw
  rw [hwF, hwV] at hP hD
  rcases hw with ⟨rfl, o4, j5, j6, ho4, hj5, hj6, hneo4, eo4, ej5, ej6⟩ | ⟨rfl, noo4⟩
  · replace hZ9 := ite_t hZ9 (show ((0 : Int32) ≤ p0 ∧ p0 ≤ (3 : Int32)) ∧ ((0 : Int32) ≤ p1 ∧ p1 < nI n) ∧ ((0 : Int32) ≤ p2 ∧ p2 < nI n) ∧ ¬ p1 = p2 by rw [eo4, ej5, ej6]; exact ⟨⟨nI_pos' (by omega), nI_le (b := 3) (by omega) (by omega)⟩, ⟨nI_pos' (by omega), nI_lt hj5 (by omega)⟩, ⟨nI_pos' (by omega), nI_lt hj6 (by omega)⟩, fun q9 => hneo4 ((nI_eq (by omega) (by omega)).mp q9)⟩)
    replace hZ9 := bnd_s hZ9 (show o4 = p0.toNatClampNeg by rw [eo4, nI_clamp (by omega)])
    replace hZ9 := bnd_s hZ9 (show j5 = p1.toNatClampNeg by rw [ej5, nI_clamp (by omega)])
    replace hZ9 := bnd_s hZ9 (show j6 = p2.toNatClampNeg by rw [ej6, nI_clamp (by omega)])
    subst eo4
    subst ej5
    subst ej6
    refine lv_if_eq (tgt := 28) hx hb dX9_related_7 (by decide) (fun c9 => absurd c9 (by decide)) (fun _ => ?_)
    refine lv_aload_n hx hb dX9_related_10 rfl (lv_at hl 0 rfl) ?_
    refine lv_iload_n hx hb dX9_related_11 rfl (lv_at hl 1 rfl) ?_
    refine lv_iload_n hx hb dX9_related_12 rfl (lv_at hl 2 rfl) ?_
    refine lv_iload_n hx hb dX9_related_13 rfl (lv_at hl 3 rfl) ?_
    have hFc := mw_free hD hS hA
    refine va_calli (va_runV (As := [.int (nI o4), .int (nI j5), .int (nI j6)]) (rest := []) ⟨hx, hb, hml, hown, hts⟩ (c_w_has l dC dI h a k F V n (b) o4 j5 j6 H.size hI.1 (by omega) (by omega) (by omega) (by omega)) (cwV 3 hts wc_w_related_w_has_150 rfl rfl rfl (by decide +kernel) ⟨Nat.le_of_ble_eq_true rfl, Nat.le_of_ble_eq_true rfl⟩) ⟨fun a9 U g mk q => by obtain ⟨q0, q1, qP, qK, qD⟩ := q; exact ⟨q0, q1, qP, va_K.moved (u := U) (U := U.calling g mk a9) (Vm.Alike.refl U.vm) qK, qD⟩, va_recv hK hP (ci := 10) (q0 := 0) rfl rfl, fun U hU hW => ⟨rfl, by rw [hU], by rw [hU]; exact hP, va_K.moved hW.alike hK, hD.weaken (fun _ _ _ _ => trivial)⟩⟩ rfl rfl hl.1 rfl (lv_room (Nat.le_of_ble_eq_true rfl)) dX9_related_14 ⟨Nat.le_of_ble_eq_true rfl, Nat.le_of_ble_eq_true rfl⟩) hS (fun q _ h => hFc q h) hFc (fun r7 u t H1 locs ht hvm hw hB hz1 hk1 hS => ?_)
    obtain ⟨F8, V9⟩ := u
    replace hP := hB.1
    rw [ht] at hP
    replace hD : va_D A (mW h a k F8 V9) := hB.2.weaken (fun _ q _ h9 => hFc q.1 h9)
    clear hB
    generalize H1 = H at hP hS ⊢
    replace hP : va_P (dC, dI) vwCl (mW h a k F8 V9) H := hP
    obtain ⟨hwF, hwV, hw⟩ : F8 = F ∧ V9 = V ∧ _ := hw
    rw [hwF, hwV] at hP hD
    obtain ⟨hw, hwe⟩ := hw
    replace hw : r7 = f_w_has n o4 j5 j6 F := hw
    replace hZ9 := bnd_s hZ9 hw
    have br7 := hwe
    refine lv_if_eq (tgt := 24) hx hb dX9_related_17 (by decide) (fun c10 => ?_) (fun c10 => ?_)
    · replace hZ9 := ite_t hZ9 c10
      refine lv_iconst (v := 0) hx hb dX9_related_24 (by decide) ?_
      refine lv_goto (tgt := 29) hx hb dX9_related_25 (by decide) ?_
      exact W.iret (v := 0) hx hb hr (fun t ht hW => ⟨⟨0, (F, V), rfl, ⟨rfl, rfl, hZ9.symm.trans hR0⟩, by rw [ht]; exact hP, hD⟩, hS.F ht⟩) hS.2.2 dX9_related_29
    · replace hZ9 := ite_f hZ9 c10
      refine lv_iconst (v := 1) hx hb dX9_related_20 (by decide) ?_
      refine lv_goto (tgt := 29) hx hb dX9_related_21 (by decide) ?_
      exact W.iret (v := 1) hx hb hr (fun t ht hW => ⟨⟨1, (F, V), rfl, ⟨rfl, rfl, hZ9.symm.trans hR0⟩, by rw [ht]; exact hP, hD⟩, hS.F ht⟩) hS.2.2 dX9_related_29
  · replace hZ9 := ite_f hZ9 noo4
    refine lv_if_eq (tgt := 28) hx hb dX9_related_7 (by decide) (fun _ => ?_) (fun c9 => absurd (by decide) c9)
    refine lv_iconst (v := (-1)) hx hb dX9_related_28 (by decide) ?_
    exact W.iret (v := (-1)) hx hb hr (fun t ht hW => ⟨⟨(-1), (F, V), rfl, ⟨rfl, rfl, hZ9.symm.trans hR0⟩, by rw [ht]; exact hP, hD⟩, hS.F ht⟩) hS.2.2 dX9_related_29
def f_w_waits_24 (n : Nat) (p1 : Int32) (F : Nat → Nat → Int32) (j4 : Nat) : Nat → Nat → Int32 → (Nat → Int32 → Int32) → Int32
  | 0, i7, y11, K9_24 => K9_24 i7 y11
  | fu8 + 1, i7, y11, K9_24 => if n ≤ i7 then (K9_24 i7 y11) else (if p1 = (0 : Int32) then (bnd (f_w_waitsAmong_job n j4 i7 F) (fun (r23 : Int32) => if r23 = (0 : Int32) then (bnd (y11 + (0 : Int32)) (fun (x27 : Int32) => f_w_waits_24 n p1 F j4 fu8 (i7 + 1) x27 K9_24)) else (bnd (F 26 (nI j4).toNatClampNeg) (fun (x28 : Int32) => if x28 = (0 : Int32) then (bnd (y11 + (1 : Int32)) (fun (x31 : Int32) => f_w_waits_24 n p1 F j4 fu8 (i7 + 1) x31 K9_24)) else (bnd (y11 + (0 : Int32)) (fun (x30 : Int32) => f_w_waits_24 n p1 F j4 fu8 (i7 + 1) x30 K9_24)))))) else (bnd (f_w_waitsAmong_job n i7 j4 F) (fun (r14 : Int32) => if r14 = (0 : Int32) then (bnd (y11 + (0 : Int32)) (fun (x18 : Int32) => f_w_waits_24 n p1 F j4 fu8 (i7 + 1) x18 K9_24)) else (bnd (F 26 (nI i7).toNatClampNeg) (fun (x19 : Int32) => if x19 = (0 : Int32) then (bnd (y11 + (1 : Int32)) (fun (x22 : Int32) => f_w_waits_24 n p1 F j4 fu8 (i7 + 1) x22 K9_24)) else (bnd (y11 + (0 : Int32)) (fun (x21 : Int32) => f_w_waits_24 n p1 F j4 fu8 (i7 + 1) x21 K9_24)))))))
def f_w_waits (n : Nat) (p0 : Int32) (p1 : Int32) (F : Nat → Nat → Int32) : Int32 := if (0 : Int32) ≤ p0 ∧ p0 < nI n then (bnd (p0.toNatClampNeg) (fun (j4 : Nat) => if p1 < (0 : Int32) then (((-1 : Int32))) else (if p1 ≤ (1 : Int32) then (f_w_waits_24 n p1 F j4 (n + 1) (0 : Nat) (0 : Int32) (fun (i7 : Nat) (y11 : Int32) => (y11))) else (((-1 : Int32)))))) else (((-1 : Int32)))
def wq_w_waits : List Cond := ([.code yX9_waits cX9_waits 5 (some .int), .fieldLink RX9 126 "ServiceTreeModel" "services" "I", .fieldLink RX9 71 "ServiceTreeModel" "job" "[I", .fieldLink RX9 74 "ServiceTreeModel" "hasBegun" "[Z", .methodLink RX9 135 yX9_is, .instanceMethod yX9_is, .selects RX9 yX9_is yX9_is, .initialized RX9, .methodLink RX9 167 yX9_waitsAmong, .instanceMethod yX9_waitsAmong, .selects RX9 yX9_waitsAmong yX9_waitsAmong] : List Cond) ++ (wsX90 ++ (wq_w_is ++ (wq_w_waitsAmong_job)))
theorem in_w_waits_X9 : ∀ w ∈ wsX90, w ∈ wq_w_waits := fun _ h => List.mem_append_right _ (List.mem_append_left _ (h))
set_option maxRecDepth 20000 in
theorem wi_w_waits : ∀ w ∈ wq_w_waits, w ∈ lw_tbl := List.forall_mem_append.mpr ⟨(wix [1158, 873, 877, 878, 1000, 1002, 32, 69, 1083, 1085, 47] rfl), List.forall_mem_append.mpr ⟨inKX9, List.forall_mem_append.mpr ⟨wi_w_is, wi_w_waitsAmong_job⟩⟩⟩
set_option maxRecDepth 20000 in
theorem wg_w_waits : GoodIn wq_w_waits wq_w_waits := goodIn_sub (fun _ h => h) (by decide +kernel)
set_option maxRecDepth 20000 in
theorem wc_w_waits_w_is_135 : GoodIn wq_w_waits (wsV RX9 135 RX9 yX9_is wq_w_is) := goodIn_app (goodIn_of _ (by decide +kernel)) (fun w h => ⟨List.mem_append_right _ (List.mem_append_right _ (List.mem_append_left _ (h))), (wg_w_is w h).2⟩)
set_option maxRecDepth 20000 in
theorem wc_w_waits_w_waitsAmong_job_167 : GoodIn wq_w_waits (wsV RX9 167 RX9 yX9_waitsAmong wq_w_waitsAmong_job) := goodIn_app (goodIn_of _ (by decide +kernel)) (fun w h => ⟨List.mem_append_right _ (List.mem_append_right _ (List.mem_append_right _ (h))), (wg_w_waitsAmong_job w h).2⟩)
def rm_w_waits : Room := { frames := 2, cells := 0, slots := 0, locals := 46 }
set_option maxHeartbeats 4000000 in
set_option maxRecDepth 100000 in
theorem c_w_waits (l : Launch) (dC : Nat → ClassId) (dI : Nat → Nat → Nat) (h : Nat) (a : Nat → Nat) (k : Nat → ClassId) (F : Nat → Nat → Int32) (V : Nat → Int32) (n b : Nat) (p0 : Int32) (p1 : Int32) (sz : Nat) (hI0 : InvM n b F V) (hb0 : b + 0 < 2147483648)  : Met l yX9_waits wq_w_waits rm_w_waits (va_Pc [.ref h, .int p0, .int p1] (fun U => U.heap.size = sz ∧ va_P (dC, dI) vwCl (mW h a k F V) U.heap ∧ va_K (dC, dI) vwCl (mT k) U ∧ va_D (fun _ => True) (mW h a k F V))) (va_Qi (fun (r : Int32) (u : (Nat → Nat → Int32) × (Nat → Int32)) => u.1 = F ∧ u.2 = V ∧ (r = f_w_waits n p0 p1 F)) (fun (u : (Nat → Nat → Int32) × (Nat → Int32)) (t : State) => va_P (dC, dI) vwCl (mW h a k u.1 u.2) t.heap ∧ va_D (va_A (mW h a k F V) sz) (mW h a k u.1 u.2)) (va_A (mW h a k F V) sz)) 0 0 (va_A (mW h a k F V) sz) := by
  have hn : n ≤ 40 := hI0.1
  have hI : StM n b F V F V := StM.rf hI0
  have hU : ∀ j : Nat, j ∉ ([] : List Nat) → F j = F j := fun _ _ => rfl
  have hV : ∀ j : Nat, j ∉ ([] : List Nat) → V j = V j := fun _ _ => rfl
  refine Met.ofW (cc := cX9_waits) (maxL := 5) (ret := (some .int)) (by decide) rfl ?_
  intro p e s m args below meth c s₁ B hml hv
  obtain ⟨rfl, hsz, hP, hK, hD0⟩ := hv
  have hx := B.exec
  have hb := B.bytes
  have hr := B.returns
  have hts := atoms_spec (ws := wq_w_waits) B.pre
  have hown : s.vm.findClass RX9 = some m.cls := findClass_of_methodNamed B.named
  have hlocks := B.notSynchronized
  subst hsz
  have hD := hD0.self (sz := s.heap.size)
  generalize hAe : va_A (mW h a k F V) s.heap.size = A at hD ⊢
  have hA : ∀ q : Nat, s.heap.size ≤ q → A q := fun q h => by rw [← hAe]; exact Or.inr h
  have hS : va_S A s.heap s.heap [] := va_S.rf
  have hl := lv_entry ([.ref h, .int p0, .int p1]) (n := 5) (Nat.le_of_ble_eq_true rfl)
  rw [lg_entry_eq]
  generalize (lg_sl ([.ref h, .int p0, .int p1]) ++ List.replicate (5 - (lg_sl ([.ref h, .int p0, .int p1])).length) Slot.unset).toArray = ls at hl ⊢
  have hl : lv_has ls 5 [(0, .ref h), (1, .int p0), (2, .int p1)] := hl
  refine mw_Q (fun Q0 hQ => ?_)
  obtain ⟨RES, hR0⟩ : ∃ R9, R9 = f_w_waits n p0 p1 F := ⟨_, rfl⟩
  have hZ9 := hR0
  unfold f_w_waits at hZ9
  refine lv_aload_n hx hb dX9_waits_0 rfl (lv_at hl 0 rfl) ?_
  refine lv_iload_n hx hb dX9_waits_1 rfl (lv_at hl 1 rfl) ?_
  have hFc := mw_free hD hS hA
  refine va_calli (va_runV (As := [.int p0]) (rest := []) ⟨hx, hb, hml, hown, hts⟩ (c_w_is l dC dI h a k F V n (b) p0 s.heap.size hI.1 (by omega) ) (cwV 1 hts wc_w_waits_w_is_135 rfl rfl rfl (by decide +kernel) ⟨Nat.le_of_ble_eq_true rfl, Nat.le_of_ble_eq_true rfl⟩) ⟨fun a9 U g mk q => by obtain ⟨q0, q1, qP, qK, qD⟩ := q; exact ⟨q0, q1, qP, va_K.moved (u := U) (U := U.calling g mk a9) (Vm.Alike.refl U.vm) qK, qD⟩, va_recv hK hP (ci := 10) (q0 := 0) rfl rfl, fun U hU hW => ⟨rfl, by rw [hU], by rw [hU]; exact hP, va_K.moved hW.alike hK, hD.weaken (fun _ _ _ _ => trivial)⟩⟩ rfl rfl hl.1 rfl (lv_room (Nat.le_of_ble_eq_true rfl)) dX9_waits_2 ⟨Nat.le_of_ble_eq_true rfl, Nat.le_of_ble_eq_true rfl⟩) hS (fun q _ h => hFc q h) hFc (fun r1 u t H1 locs ht hvm hw hB hz1 hk1 hS => ?_)
  obtain ⟨F2, V3⟩ := u
  replace hP := hB.1
  rw [ht] at hP
  replace hD : va_D A (mW h a k F2 V3) := hB.2.weaken (fun _ q _ h9 => hFc q.1 h9)
  clear hB
  generalize H1 = H at hP hS ⊢
  replace hP : va_P (dC, dI) vwCl (mW h a k F2 V3) H := hP
  obtain ⟨hwF, hwV, hw⟩ : F2 = F ∧ V3 = V ∧ _ := hw
  rw [hwF, hwV] at hP hD
  rcases hw with ⟨rfl, j4, hj4, ej4⟩ | ⟨rfl, noj4⟩
  · replace hZ9 := ite_t hZ9 (show (0 : Int32) ≤ p0 ∧ p0 < nI n by rw [ej4]; exact ⟨nI_pos' (by omega), nI_lt hj4 (by omega)⟩)
    replace hZ9 := bnd_s hZ9 (show j4 = p0.toNatClampNeg by rw [ej4, nI_clamp (by omega)])
    subst ej4
    refine lv_if_eq (tgt := 17) hx hb dX9_waits_5 (by decide) (fun c9 => absurd c9 (by decide)) (fun _ => ?_)
    refine lv_iload_n hx hb dX9_waits_8 rfl (lv_at hl 2 rfl) ?_
    refine lv_if_lt (tgt := 17) hx hb dX9_waits_9 (by decide) (fun c5 => ?_) (fun c5 => ?_)
    · replace hZ9 := ite_t hZ9 c5
      refine lv_iconst (v := (-1)) hx hb dX9_waits_17 (by decide) ?_
      rw [hQ]
      exact W.iret (v := (-1)) hx hb hr (fun t ht hW => ⟨⟨(-1), (F, V), rfl, ⟨rfl, rfl, hZ9.symm.trans hR0⟩, by rw [ht]; exact hP, hD⟩, hS.F ht⟩) hS.2.2 dX9_waits_18
    · replace hZ9 := ite_f hZ9 c5
      refine lv_iload_n hx hb dX9_waits_12 rfl (lv_at hl 2 rfl) ?_
      refine lv_iconst (v := 1) hx hb dX9_waits_13 (by decide) ?_
      refine lv_icmp_le (tgt := 19) hx hb dX9_waits_14 (by decide) (fun c6 => ?_) (fun c6 => ?_)
      · replace hZ9 := ite_t hZ9 c6
        refine lv_iconst (v := 0) hx hb dX9_waits_19 (by decide) ?_
        refine lv_istore_n (lv' := [(3, .int 0), (0, .ref h), (1, .int (nI j4)), (2, .int p1)]) hx hb dX9_waits_20 rfl hl (by decide) rfl (fun ls hl => ?_)
        refine lv_iconst (v := 0) hx hb dX9_waits_21 (by decide) ?_
        refine lv_istore (lv' := [(4, .int 0), (3, .int 0), (0, .ref h), (1, .int (nI j4)), (2, .int p1)]) hx hb dX9_waits_22 hl (by decide) rfl (fun ls hl => ?_)
        obtain ⟨K9_24, hK9_24, hZ9⟩ := lp_gen hZ9
        have lp10 : ∀ (fu8 i7 : Nat) (y11 : Int32) (H : Heap) (locs : List Loc) (ls : Array Slot), n < i7 + fu8 → i7 ≤ n → RES = f_w_waits_24 n p1 F j4 fu8 i7 y11 K9_24 → va_P (dC, dI) vwCl (mW h a k F V) H → va_D A (mW h a k F V) → va_S A s.heap H locs → lv_has ls 5 [(4, .int (nI i7)), (3, .int y11), (0, .ref h), (1, .int (nI j4)), (2, .int p1)] → W p l e (headSpec wq_w_waits rm_w_waits).room s m ([.ref h, .int (nI j4), .int p1] : List Value).toArray below meth c H locs 0 0 Q0 (F0 m 24 ls []) := by
          intro fu8
          induction fu8 with
          | zero =>
            intro i7 y11 H locs ls hf hi
            exact absurd hf (by omega)
          | succ fu8 ih9 =>
            intro i7 y11 H locs ls hfi7 hii7 hZ9 hP hD hS hl
            rw [f_w_waits_24] at hZ9
            refine lv_iload hx hb dX9_waits_24 (lv_at hl 0 rfl) ?_
            refine lv_aload_n hx hb dX9_waits_26 rfl (lv_at hl 2 rfl) ?_
            refine va_get (D := (dC, dI)) (ci := 10) (v := .int (V 21)) (C := RX9) (T := TX9) (N := 46) hx hb hts in_w_waits_X9 hown hK hP 0 rfl rfl 21 (by decide) (hts (.fieldLink RX9 126 "ServiceTreeModel" "services" "I") (by decide +kernel)) (fun _ h9 => h9) rfl dX9_waits_27 ?_
            refine p1_topr (v := .int (nI n)) (congrArg Value.int hI.1.2.1) ?_
            refine lv_icmp_ge (tgt := 101) hx hb dX9_waits_30 (by decide) (fun c12 => ?_) (fun c12 => ?_)
            · replace c12 : n ≤ i7 := (nI_leI (a := n) (b := i7) (by omega) (by omega)).mp c12
              replace hZ9 := ite_t hZ9 c12
              replace hZ9 := lp_app2 hK9_24 hZ9
              refine lv_iload_n hx hb dX9_waits_101 rfl (lv_at hl 1 rfl) ?_
              rw [hQ]
              exact W.iret (v := y11) hx hb hr (fun t ht hW => ⟨⟨y11, (F, V), rfl, ⟨rfl, rfl, hZ9.symm.trans hR0⟩, by rw [ht]; exact hP, hD⟩, hS.F ht⟩) hS.2.2 dX9_waits_102
            · replace c12 : ¬ (n ≤ i7) := fun q9 => c12 ((nI_leI (a := n) (b := i7) (by omega) (by omega)).mpr q9)
              replace hZ9 := ite_f hZ9 c12
              refine lv_iload_n hx hb dX9_waits_33 rfl (lv_at hl 1 rfl) ?_
              refine lv_iload_n hx hb dX9_waits_34 rfl (lv_at hl 4 rfl) ?_
              refine lv_if_ne (tgt := 64) hx hb dX9_waits_35 (by decide) (fun c13 => ?_) (fun c13 => ?_)
              · replace hZ9 := ite_f hZ9 c13
                refine lv_aload_n hx hb dX9_waits_64 rfl (lv_at hl 2 rfl) ?_
                refine lv_aload_n hx hb dX9_waits_65 rfl (lv_at hl 2 rfl) ?_
                refine va_get (D := (dC, dI)) (ci := 10) (v := .ref (a 25)) (C := RX9) (T := TX9) (N := 46) hx hb hts in_w_waits_X9 hown hK hP 0 rfl rfl 25 (by decide) (hts (.fieldLink RX9 71 "ServiceTreeModel" "job" "[I") (by decide +kernel)) (fun _ h9 => h9) rfl dX9_waits_66 ?_
                refine lv_iload hx hb dX9_waits_69 (lv_at hl 0 rfl) ?_
                refine lv_iload_n hx hb dX9_waits_71 rfl (lv_at hl 3 rfl) ?_
                have hFc := mw_free hD hS hA
                refine va_calli (va_runV (As := [.ref (a 25), .int (nI i7), .int (nI j4)]) (rest := [.int y11]) ⟨hx, hb, hml, hown, hts⟩ (c_w_waitsAmong_job l dC dI h a k F V n (b) i7 j4 H.size hI.1 (by omega) (by omega) (by omega)) (cwV 3 hts wc_w_waits_w_waitsAmong_job_167 rfl rfl rfl (by decide +kernel) ⟨Nat.le_of_ble_eq_true rfl, Nat.le_of_ble_eq_true rfl⟩) ⟨fun a9 U g mk q => by obtain ⟨q0, q1, qP, qK, qD⟩ := q; exact ⟨q0, q1, qP, va_K.moved (u := U) (U := U.calling g mk a9) (Vm.Alike.refl U.vm) qK, qD⟩, va_recv hK hP (ci := 10) (q0 := 0) rfl rfl, fun U hU hW => ⟨rfl, by rw [hU], by rw [hU]; exact hP, va_K.moved hW.alike hK, hD.weaken (fun _ _ _ _ => trivial)⟩⟩ rfl rfl hl.1 rfl (lv_room (Nat.le_of_ble_eq_true rfl)) dX9_waits_72 ⟨Nat.le_of_ble_eq_true rfl, Nat.le_of_ble_eq_true rfl⟩) hS (fun q _ h => hFc q h) hFc (fun r14 u t H1 locs ht hvm hw hB hz1 hk1 hS => ?_)
                obtain ⟨F15, V16⟩ := u
                replace hP := hB.1
                rw [ht] at hP
                replace hD : va_D A (mW h a k F15 V16) := hB.2.weaken (fun _ q _ h9 => hFc q.1 h9)
                clear hB
                generalize H1 = H at hP hS ⊢
                replace hP : va_P (dC, dI) vwCl (mW h a k F15 V16) H := hP
                obtain ⟨hwF, hwV, hw⟩ : F15 = F ∧ V16 = V ∧ _ := hw
                rw [hwF, hwV] at hP hD
                obtain ⟨hw, hwe⟩ := hw
                replace hw : r14 = f_w_waitsAmong_job n i7 j4 F := hw
                replace hZ9 := bnd_s hZ9 hw
                have br14 := hwe
                refine lv_if_eq (tgt := 92) hx hb dX9_waits_75 (by decide) (fun c17 => ?_) (fun c17 => ?_)
                · replace hZ9 := ite_t hZ9 c17
                  refine lv_iconst (v := 0) hx hb dX9_waits_92 (by decide) ?_
                  refine lv_iadd hx hb dX9_waits_93 ?_
                  refine lv_topi (fun x18 ex18 => ?_)
                  replace hZ9 := bnd_s hZ9 ex18
                  refine lv_istore_n (lv' := [(3, .int x18), (4, .int (nI i7)), (0, .ref h), (1, .int (nI j4)), (2, .int p1)]) hx hb dX9_waits_94 rfl hl (by decide) rfl (fun ls hl => ?_)
                  refine lv_iinc (v := nI (i7 + 1)) (lv' := [(4, .int (nI (i7 + 1))), (3, .int x18), (0, .ref h), (1, .int (nI j4)), (2, .int p1)]) hx hb dX9_waits_95 hl (k := 1) rfl (nI_add i7 1) (by decide) rfl (fun ls hl => ?_)
                  refine lv_goto (tgt := 24) hx hb dX9_waits_98 (by decide) ?_
                  exact ih9 (i7 + 1) x18 _ _ _ (by omega) (by omega)  hZ9 hP hD hS (lv_sub hl [0, 1, 2, 3, 4] rfl)
                · replace hZ9 := ite_f hZ9 c17
                  refine lv_aload_n hx hb dX9_waits_78 rfl (lv_at hl 2 rfl) ?_
                  refine va_get (D := (dC, dI)) (ci := 10) (v := .ref (a 26)) (C := RX9) (T := TX9) (N := 46) hx hb hts in_w_waits_X9 hown hK hP 0 rfl rfl 26 (by decide) (hts (.fieldLink RX9 74 "ServiceTreeModel" "hasBegun" "[Z") (by decide +kernel)) (fun _ h9 => h9) rfl dX9_waits_79 ?_
                  refine lv_iload hx hb dX9_waits_82 (lv_at hl 0 rfl) ?_
                  refine va_zald (n := 40) (f := F 26) hx hb hK hP 22 21 rfl rfl (vp_in_nI (n := i7) (by omega) (by decide)) dX9_waits_84 ?_
                  refine lv_topi (fun x19 ex19 => ?_)
                  replace hZ9 := bnd_s hZ9 ex19
                  refine lv_if_ne (tgt := 92) hx hb dX9_waits_85 (by decide) (fun c20 => ?_) (fun c20 => ?_)
                  · replace hZ9 := ite_f hZ9 c20
                    refine lv_iconst (v := 0) hx hb dX9_waits_92 (by decide) ?_
                    refine lv_iadd hx hb dX9_waits_93 ?_
                    refine lv_topi (fun x21 ex21 => ?_)
                    replace hZ9 := bnd_s hZ9 ex21
                    refine lv_istore_n (lv' := [(3, .int x21), (4, .int (nI i7)), (0, .ref h), (1, .int (nI j4)), (2, .int p1)]) hx hb dX9_waits_94 rfl hl (by decide) rfl (fun ls hl => ?_)
                    refine lv_iinc (v := nI (i7 + 1)) (lv' := [(4, .int (nI (i7 + 1))), (3, .int x21), (0, .ref h), (1, .int (nI j4)), (2, .int p1)]) hx hb dX9_waits_95 hl (k := 1) rfl (nI_add i7 1) (by decide) rfl (fun ls hl => ?_)
                    refine lv_goto (tgt := 24) hx hb dX9_waits_98 (by decide) ?_
                    exact ih9 (i7 + 1) x21 _ _ _ (by omega) (by omega)  hZ9 hP hD hS (lv_sub hl [0, 1, 2, 3, 4] rfl)
                  · replace hZ9 := ite_t hZ9 c20
                    refine lv_iconst (v := 1) hx hb dX9_waits_88 (by decide) ?_
                    refine lv_goto (tgt := 93) hx hb dX9_waits_89 (by decide) ?_
                    refine lv_iadd hx hb dX9_waits_93 ?_
                    refine lv_topi (fun x22 ex22 => ?_)
                    replace hZ9 := bnd_s hZ9 ex22
                    refine lv_istore_n (lv' := [(3, .int x22), (4, .int (nI i7)), (0, .ref h), (1, .int (nI j4)), (2, .int p1)]) hx hb dX9_waits_94 rfl hl (by decide) rfl (fun ls hl => ?_)
                    refine lv_iinc (v := nI (i7 + 1)) (lv' := [(4, .int (nI (i7 + 1))), (3, .int x22), (0, .ref h), (1, .int (nI j4)), (2, .int p1)]) hx hb dX9_waits_95 hl (k := 1) rfl (nI_add i7 1) (by decide) rfl (fun ls hl => ?_)
                    refine lv_goto (tgt := 24) hx hb dX9_waits_98 (by decide) ?_
                    exact ih9 (i7 + 1) x22 _ _ _ (by omega) (by omega)  hZ9 hP hD hS (lv_sub hl [0, 1, 2, 3, 4] rfl)
              · replace hZ9 := ite_t hZ9 c13
                refine lv_aload_n hx hb dX9_waits_38 rfl (lv_at hl 2 rfl) ?_
                refine lv_aload_n hx hb dX9_waits_39 rfl (lv_at hl 2 rfl) ?_
                refine va_get (D := (dC, dI)) (ci := 10) (v := .ref (a 25)) (C := RX9) (T := TX9) (N := 46) hx hb hts in_w_waits_X9 hown hK hP 0 rfl rfl 25 (by decide) (hts (.fieldLink RX9 71 "ServiceTreeModel" "job" "[I") (by decide +kernel)) (fun _ h9 => h9) rfl dX9_waits_40 ?_
                refine lv_iload_n hx hb dX9_waits_43 rfl (lv_at hl 3 rfl) ?_
                refine lv_iload hx hb dX9_waits_44 (lv_at hl 0 rfl) ?_
                have hFc := mw_free hD hS hA
                refine va_calli (va_runV (As := [.ref (a 25), .int (nI j4), .int (nI i7)]) (rest := [.int y11]) ⟨hx, hb, hml, hown, hts⟩ (c_w_waitsAmong_job l dC dI h a k F V n (b) j4 i7 H.size hI.1 (by omega) (by omega) (by omega)) (cwV 3 hts wc_w_waits_w_waitsAmong_job_167 rfl rfl rfl (by decide +kernel) ⟨Nat.le_of_ble_eq_true rfl, Nat.le_of_ble_eq_true rfl⟩) ⟨fun a9 U g mk q => by obtain ⟨q0, q1, qP, qK, qD⟩ := q; exact ⟨q0, q1, qP, va_K.moved (u := U) (U := U.calling g mk a9) (Vm.Alike.refl U.vm) qK, qD⟩, va_recv hK hP (ci := 10) (q0 := 0) rfl rfl, fun U hU hW => ⟨rfl, by rw [hU], by rw [hU]; exact hP, va_K.moved hW.alike hK, hD.weaken (fun _ _ _ _ => trivial)⟩⟩ rfl rfl hl.1 rfl (lv_room (Nat.le_of_ble_eq_true rfl)) dX9_waits_46 ⟨Nat.le_of_ble_eq_true rfl, Nat.le_of_ble_eq_true rfl⟩) hS (fun q _ h => hFc q h) hFc (fun r23 u t H1 locs ht hvm hw hB hz1 hk1 hS => ?_)
                obtain ⟨F24, V25⟩ := u
                replace hP := hB.1
                rw [ht] at hP
                replace hD : va_D A (mW h a k F24 V25) := hB.2.weaken (fun _ q _ h9 => hFc q.1 h9)
                clear hB
                generalize H1 = H at hP hS ⊢
                replace hP : va_P (dC, dI) vwCl (mW h a k F24 V25) H := hP
                obtain ⟨hwF, hwV, hw⟩ : F24 = F ∧ V25 = V ∧ _ := hw
                rw [hwF, hwV] at hP hD
                obtain ⟨hw, hwe⟩ := hw
                replace hw : r23 = f_w_waitsAmong_job n j4 i7 F := hw
                replace hZ9 := bnd_s hZ9 hw
                have br23 := hwe
                refine lv_if_eq (tgt := 92) hx hb dX9_waits_49 (by decide) (fun c26 => ?_) (fun c26 => ?_)
                · replace hZ9 := ite_t hZ9 c26
                  refine lv_iconst (v := 0) hx hb dX9_waits_92 (by decide) ?_
                  refine lv_iadd hx hb dX9_waits_93 ?_
                  refine lv_topi (fun x27 ex27 => ?_)
                  replace hZ9 := bnd_s hZ9 ex27
                  refine lv_istore_n (lv' := [(3, .int x27), (4, .int (nI i7)), (0, .ref h), (1, .int (nI j4)), (2, .int p1)]) hx hb dX9_waits_94 rfl hl (by decide) rfl (fun ls hl => ?_)
                  refine lv_iinc (v := nI (i7 + 1)) (lv' := [(4, .int (nI (i7 + 1))), (3, .int x27), (0, .ref h), (1, .int (nI j4)), (2, .int p1)]) hx hb dX9_waits_95 hl (k := 1) rfl (nI_add i7 1) (by decide) rfl (fun ls hl => ?_)
                  refine lv_goto (tgt := 24) hx hb dX9_waits_98 (by decide) ?_
                  exact ih9 (i7 + 1) x27 _ _ _ (by omega) (by omega)  hZ9 hP hD hS (lv_sub hl [0, 1, 2, 3, 4] rfl)
                · replace hZ9 := ite_f hZ9 c26
                  refine lv_aload_n hx hb dX9_waits_52 rfl (lv_at hl 2 rfl) ?_
                  refine va_get (D := (dC, dI)) (ci := 10) (v := .ref (a 26)) (C := RX9) (T := TX9) (N := 46) hx hb hts in_w_waits_X9 hown hK hP 0 rfl rfl 26 (by decide) (hts (.fieldLink RX9 74 "ServiceTreeModel" "hasBegun" "[Z") (by decide +kernel)) (fun _ h9 => h9) rfl dX9_waits_53 ?_
                  refine lv_iload_n hx hb dX9_waits_56 rfl (lv_at hl 3 rfl) ?_
                  refine va_zald (n := 40) (f := F 26) hx hb hK hP 22 21 rfl rfl (vp_in_nI (n := j4) (by omega) (by decide)) dX9_waits_57 ?_
                  refine lv_topi (fun x28 ex28 => ?_)
                  replace hZ9 := bnd_s hZ9 ex28
                  refine lv_if_ne (tgt := 92) hx hb dX9_waits_58 (by decide) (fun c29 => ?_) (fun c29 => ?_)
                  · replace hZ9 := ite_f hZ9 c29
                    refine lv_iconst (v := 0) hx hb dX9_waits_92 (by decide) ?_
                    refine lv_iadd hx hb dX9_waits_93 ?_
                    refine lv_topi (fun x30 ex30 => ?_)
                    replace hZ9 := bnd_s hZ9 ex30
                    refine lv_istore_n (lv' := [(3, .int x30), (4, .int (nI i7)), (0, .ref h), (1, .int (nI j4)), (2, .int p1)]) hx hb dX9_waits_94 rfl hl (by decide) rfl (fun ls hl => ?_)
                    refine lv_iinc (v := nI (i7 + 1)) (lv' := [(4, .int (nI (i7 + 1))), (3, .int x30), (0, .ref h), (1, .int (nI j4)), (2, .int p1)]) hx hb dX9_waits_95 hl (k := 1) rfl (nI_add i7 1) (by decide) rfl (fun ls hl => ?_)
                    refine lv_goto (tgt := 24) hx hb dX9_waits_98 (by decide) ?_
                    exact ih9 (i7 + 1) x30 _ _ _ (by omega) (by omega)  hZ9 hP hD hS (lv_sub hl [0, 1, 2, 3, 4] rfl)
                  · replace hZ9 := ite_t hZ9 c29
                    refine lv_goto (tgt := 88) hx hb dX9_waits_61 (by decide) ?_
                    refine lv_iconst (v := 1) hx hb dX9_waits_88 (by decide) ?_
                    refine lv_goto (tgt := 93) hx hb dX9_waits_89 (by decide) ?_
                    refine lv_iadd hx hb dX9_waits_93 ?_
                    refine lv_topi (fun x31 ex31 => ?_)
                    replace hZ9 := bnd_s hZ9 ex31
                    refine lv_istore_n (lv' := [(3, .int x31), (4, .int (nI i7)), (0, .ref h), (1, .int (nI j4)), (2, .int p1)]) hx hb dX9_waits_94 rfl hl (by decide) rfl (fun ls hl => ?_)
                    refine lv_iinc (v := nI (i7 + 1)) (lv' := [(4, .int (nI (i7 + 1))), (3, .int x31), (0, .ref h), (1, .int (nI j4)), (2, .int p1)]) hx hb dX9_waits_95 hl (k := 1) rfl (nI_add i7 1) (by decide) rfl (fun ls hl => ?_)
                    refine lv_goto (tgt := 24) hx hb dX9_waits_98 (by decide) ?_
                    exact ih9 (i7 + 1) x31 _ _ _ (by omega) (by omega)  hZ9 hP hD hS (lv_sub hl [0, 1, 2, 3, 4] rfl)
        exact lp10 (n + 1) 0 0 _ _ _ (by omega) (by omega)  hZ9 hP hD hS hl
      · replace hZ9 := ite_f hZ9 c6
        refine lv_iconst (v := (-1)) hx hb dX9_waits_17 (by decide) ?_
        rw [hQ]
        exact W.iret (v := (-1)) hx hb hr (fun t ht hW => ⟨⟨(-1), (F, V), rfl, ⟨rfl, rfl, hZ9.symm.trans hR0⟩, by rw [ht]; exact hP, hD⟩, hS.F ht⟩) hS.2.2 dX9_waits_18
  · replace hZ9 := ite_f hZ9 noj4
    refine lv_if_eq (tgt := 17) hx hb dX9_waits_5 (by decide) (fun _ => ?_) (fun c9 => absurd (by decide) c9)
    refine lv_iconst (v := (-1)) hx hb dX9_waits_17 (by decide) ?_
    rw [hQ]
    exact W.iret (v := (-1)) hx hb hr (fun t ht hW => ⟨⟨(-1), (F, V), rfl, ⟨rfl, rfl, hZ9.symm.trans hR0⟩, by rw [ht]; exact hP, hD⟩, hS.F ht⟩) hS.2.2 dX9_waits_18
def f_w_planned (n : Nat) (p0 : Int32) (p1 : Int32) (F : Nat → Nat → Int32) (V : Nat → Int32) : Int32 := if p0 < (0 : Int32) then (((-1 : Int32))) else (bnd ((V 38).toNatClampNeg) (fun (pl2 : Nat) => if (nI pl2) ≤ p0 then (((-1 : Int32))) else (bnd (p0.toNatClampNeg) (fun (j4 : Nat) => if p1 < (0 : Int32) then (((-1 : Int32))) else (if p1 ≤ (3 : Int32) then (if p1 = (0 : Int32) then (bnd (F 34 (nI j4).toNatClampNeg) (fun (x13 : Int32) => (x13))) else (if p1 = (1 : Int32) then (bnd (F 35 (nI j4).toNatClampNeg) (fun (x12 : Int32) => (x12))) else (if p1 = (2 : Int32) then (bnd (F 36 (nI j4).toNatClampNeg) (fun (x11 : Int32) => (x11))) else (bnd (F 37 (nI j4).toNatClampNeg) (fun (x10 : Int32) => (x10)))))) else (((-1 : Int32))))))))
def wq_w_planned : List Cond := ([.code yX9_planned cX9_planned 3 (some .int), .fieldLink RX9 258 "ServiceTreeModel" "planned" "I", .fieldLink RX9 104 "ServiceTreeModel" "planEnd" "[I", .fieldLink RX9 101 "ServiceTreeModel" "planBegin" "[I", .fieldLink RX9 98 "ServiceTreeModel" "planHow" "[I", .fieldLink RX9 95 "ServiceTreeModel" "planService" "[I"] : List Cond) ++ (wsX90)
theorem in_w_planned_X9 : ∀ w ∈ wsX90, w ∈ wq_w_planned := fun _ h => List.mem_append_right _ (h)
set_option maxRecDepth 20000 in
theorem wi_w_planned : ∀ w ∈ wq_w_planned, w ∈ lw_tbl := List.forall_mem_append.mpr ⟨(wix [1170, 890, 889, 888, 887, 886] rfl), inKX9⟩
set_option maxRecDepth 20000 in
theorem wg_w_planned : GoodIn wq_w_planned wq_w_planned := goodIn_sub (fun _ h => h) (by decide +kernel)
def rm_w_planned : Room := { frames := 0, cells := 0, slots := 0, locals := 0 }
set_option maxHeartbeats 4000000 in
set_option maxRecDepth 100000 in
theorem c_w_planned (l : Launch) (dC : Nat → ClassId) (dI : Nat → Nat → Nat) (h : Nat) (a : Nat → Nat) (k : Nat → ClassId) (F : Nat → Nat → Int32) (V : Nat → Int32) (n b : Nat) (p0 : Int32) (p1 : Int32) (sz : Nat) (hI0 : InvM n b F V) (hb0 : b + 0 < 2147483648)  : Met l yX9_planned wq_w_planned rm_w_planned (va_Pc [.ref h, .int p0, .int p1] (fun U => U.heap.size = sz ∧ va_P (dC, dI) vwCl (mW h a k F V) U.heap ∧ va_K (dC, dI) vwCl (mT k) U ∧ va_D (fun _ => True) (mW h a k F V))) (va_Qi (fun (r : Int32) (u : (Nat → Nat → Int32) × (Nat → Int32)) => u.1 = F ∧ u.2 = V ∧ (r = f_w_planned n p0 p1 F V)) (fun (u : (Nat → Nat → Int32) × (Nat → Int32)) (t : State) => va_P (dC, dI) vwCl (mW h a k u.1 u.2) t.heap ∧ va_D (va_A (mW h a k F V) sz) (mW h a k u.1 u.2)) (va_A (mW h a k F V) sz)) 0 0 (va_A (mW h a k F V) sz) := by
  have hn : n ≤ 40 := hI0.1
  have hI : StM n b F V F V := StM.rf hI0
  have hU : ∀ j : Nat, j ∉ ([] : List Nat) → F j = F j := fun _ _ => rfl
  have hV : ∀ j : Nat, j ∉ ([] : List Nat) → V j = V j := fun _ _ => rfl
  refine Met.ofW (cc := cX9_planned) (maxL := 3) (ret := (some .int)) (by decide) rfl ?_
  intro p e s m args below meth c s₁ B hml hv
  obtain ⟨rfl, hsz, hP, hK, hD0⟩ := hv
  have hx := B.exec
  have hb := B.bytes
  have hr := B.returns
  have hts := atoms_spec (ws := wq_w_planned) B.pre
  have hown : s.vm.findClass RX9 = some m.cls := findClass_of_methodNamed B.named
  have hlocks := B.notSynchronized
  subst hsz
  have hD := hD0.self (sz := s.heap.size)
  generalize hAe : va_A (mW h a k F V) s.heap.size = A at hD ⊢
  have hA : ∀ q : Nat, s.heap.size ≤ q → A q := fun q h => by rw [← hAe]; exact Or.inr h
  have hS : va_S A s.heap s.heap [] := va_S.rf
  have hl := lv_entry ([.ref h, .int p0, .int p1]) (n := 3) (Nat.le_of_ble_eq_true rfl)
  rw [lg_entry_eq]
  generalize (lg_sl ([.ref h, .int p0, .int p1]) ++ List.replicate (3 - (lg_sl ([.ref h, .int p0, .int p1])).length) Slot.unset).toArray = ls at hl ⊢
  have hl : lv_has ls 3 [(0, .ref h), (1, .int p0), (2, .int p1)] := hl
  obtain ⟨RES, hR0⟩ : ∃ R9, R9 = f_w_planned n p0 p1 F V := ⟨_, rfl⟩
  have hZ9 := hR0
  unfold f_w_planned at hZ9
  refine lv_iload_n hx hb dX9_planned_0 rfl (lv_at hl 1 rfl) ?_
  refine lv_if_lt (tgt := 21) hx hb dX9_planned_1 (by decide) (fun c1 => ?_) (fun c1 => ?_)
  · replace hZ9 := ite_t hZ9 c1
    refine lv_iconst (v := (-1)) hx hb dX9_planned_21 (by decide) ?_
    exact W.iret (v := (-1)) hx hb hr (fun t ht hW => ⟨⟨(-1), (F, V), rfl, ⟨rfl, rfl, hZ9.symm.trans hR0⟩, by rw [ht]; exact hP, hD⟩, hS.F ht⟩) hS.2.2 dX9_planned_22
  · replace hZ9 := ite_f hZ9 c1
    refine lv_iload_n hx hb dX9_planned_4 rfl (lv_at hl 1 rfl) ?_
    refine lv_aload_n hx hb dX9_planned_5 rfl (lv_at hl 0 rfl) ?_
    refine va_get (D := (dC, dI)) (ci := 10) (v := .int (V 38)) (C := RX9) (T := TX9) (N := 46) hx hb hts in_w_planned_X9 hown hK hP 0 rfl rfl 38 (by decide) (hts (.fieldLink RX9 258 "ServiceTreeModel" "planned" "I") (by decide +kernel)) (fun _ h9 => h9) rfl dX9_planned_6 ?_
    obtain ⟨pl2, hpl2, epl2⟩ := hI.1.2.2.1
    refine p1_topr (v := .int (nI pl2)) (congrArg Value.int epl2) ?_
    replace hZ9 := bnd_s hZ9 (show pl2 = (V 38).toNatClampNeg by rw [epl2, nI_clamp (by omega)])
    refine lv_icmp_ge (tgt := 21) hx hb dX9_planned_9 (by decide) (fun c3 => ?_) (fun c3 => ?_)
    · replace hZ9 := ite_t hZ9 c3
      refine lv_iconst (v := (-1)) hx hb dX9_planned_21 (by decide) ?_
      exact W.iret (v := (-1)) hx hb hr (fun t ht hW => ⟨⟨(-1), (F, V), rfl, ⟨rfl, rfl, hZ9.symm.trans hR0⟩, by rw [ht]; exact hP, hD⟩, hS.F ht⟩) hS.2.2 dX9_planned_22
    · replace hZ9 := ite_f hZ9 c3
      obtain ⟨j4, hj4, ej4⟩ := mw_nI (n := pl2) (by omega) c1 c3
      replace hZ9 := bnd_s hZ9 (show j4 = p0.toNatClampNeg by rw [ej4, nI_clamp (by omega)])
      subst ej4
      refine lv_iload_n hx hb dX9_planned_12 rfl (lv_at hl 2 rfl) ?_
      refine lv_if_lt (tgt := 21) hx hb dX9_planned_13 (by decide) (fun c5 => ?_) (fun c5 => ?_)
      · replace hZ9 := ite_t hZ9 c5
        refine lv_iconst (v := (-1)) hx hb dX9_planned_21 (by decide) ?_
        exact W.iret (v := (-1)) hx hb hr (fun t ht hW => ⟨⟨(-1), (F, V), rfl, ⟨rfl, rfl, hZ9.symm.trans hR0⟩, by rw [ht]; exact hP, hD⟩, hS.F ht⟩) hS.2.2 dX9_planned_22
      · replace hZ9 := ite_f hZ9 c5
        refine lv_iload_n hx hb dX9_planned_16 rfl (lv_at hl 2 rfl) ?_
        refine lv_iconst (v := 3) hx hb dX9_planned_17 (by decide) ?_
        refine lv_icmp_le (tgt := 23) hx hb dX9_planned_18 (by decide) (fun c6 => ?_) (fun c6 => ?_)
        · replace hZ9 := ite_t hZ9 c6
          refine lv_iload_n hx hb dX9_planned_23 rfl (lv_at hl 2 rfl) ?_
          refine lv_if_ne (tgt := 36) hx hb dX9_planned_24 (by decide) (fun c7 => ?_) (fun c7 => ?_)
          · replace hZ9 := ite_f hZ9 c7
            refine lv_iload_n hx hb dX9_planned_36 rfl (lv_at hl 2 rfl) ?_
            refine lv_iconst (v := 1) hx hb dX9_planned_37 (by decide) ?_
            refine lv_icmp_ne (tgt := 50) hx hb dX9_planned_38 (by decide) (fun c8 => ?_) (fun c8 => ?_)
            · replace hZ9 := ite_f hZ9 c8
              refine lv_iload_n hx hb dX9_planned_50 rfl (lv_at hl 2 rfl) ?_
              refine lv_iconst (v := 2) hx hb dX9_planned_51 (by decide) ?_
              refine lv_icmp_ne (tgt := 64) hx hb dX9_planned_52 (by decide) (fun c9 => ?_) (fun c9 => ?_)
              · replace hZ9 := ite_f hZ9 c9
                refine lv_aload_n hx hb dX9_planned_64 rfl (lv_at hl 0 rfl) ?_
                refine va_get (D := (dC, dI)) (ci := 10) (v := .ref (a 37)) (C := RX9) (T := TX9) (N := 46) hx hb hts in_w_planned_X9 hown hK hP 0 rfl rfl 37 (by decide) (hts (.fieldLink RX9 104 "ServiceTreeModel" "planEnd" "[I") (by decide +kernel)) (fun _ h9 => h9) rfl dX9_planned_65 ?_
                refine lv_iload_n hx hb dX9_planned_68 rfl (lv_at hl 1 rfl) ?_
                refine va_iald (n := 40) (f := F 37) hx hb hK hP 32 31 rfl rfl (vp_in_nI (n := j4) (by omega) (by decide)) dX9_planned_69 ?_
                refine lv_topi (fun x10 ex10 => ?_)
                replace hZ9 := bnd_s hZ9 ex10
                exact W.iret (v := x10) hx hb hr (fun t ht hW => ⟨⟨x10, (F, V), rfl, ⟨rfl, rfl, hZ9.symm.trans hR0⟩, by rw [ht]; exact hP, hD⟩, hS.F ht⟩) hS.2.2 dX9_planned_70
              · replace hZ9 := ite_t hZ9 c9
                refine lv_aload_n hx hb dX9_planned_55 rfl (lv_at hl 0 rfl) ?_
                refine va_get (D := (dC, dI)) (ci := 10) (v := .ref (a 36)) (C := RX9) (T := TX9) (N := 46) hx hb hts in_w_planned_X9 hown hK hP 0 rfl rfl 36 (by decide) (hts (.fieldLink RX9 101 "ServiceTreeModel" "planBegin" "[I") (by decide +kernel)) (fun _ h9 => h9) rfl dX9_planned_56 ?_
                refine lv_iload_n hx hb dX9_planned_59 rfl (lv_at hl 1 rfl) ?_
                refine va_iald (n := 40) (f := F 36) hx hb hK hP 31 30 rfl rfl (vp_in_nI (n := j4) (by omega) (by decide)) dX9_planned_60 ?_
                refine lv_topi (fun x11 ex11 => ?_)
                replace hZ9 := bnd_s hZ9 ex11
                refine lv_goto (tgt := 70) hx hb dX9_planned_61 (by decide) ?_
                exact W.iret (v := x11) hx hb hr (fun t ht hW => ⟨⟨x11, (F, V), rfl, ⟨rfl, rfl, hZ9.symm.trans hR0⟩, by rw [ht]; exact hP, hD⟩, hS.F ht⟩) hS.2.2 dX9_planned_70
            · replace hZ9 := ite_t hZ9 c8
              refine lv_aload_n hx hb dX9_planned_41 rfl (lv_at hl 0 rfl) ?_
              refine va_get (D := (dC, dI)) (ci := 10) (v := .ref (a 35)) (C := RX9) (T := TX9) (N := 46) hx hb hts in_w_planned_X9 hown hK hP 0 rfl rfl 35 (by decide) (hts (.fieldLink RX9 98 "ServiceTreeModel" "planHow" "[I") (by decide +kernel)) (fun _ h9 => h9) rfl dX9_planned_42 ?_
              refine lv_iload_n hx hb dX9_planned_45 rfl (lv_at hl 1 rfl) ?_
              refine va_iald (n := 40) (f := F 35) hx hb hK hP 30 29 rfl rfl (vp_in_nI (n := j4) (by omega) (by decide)) dX9_planned_46 ?_
              refine lv_topi (fun x12 ex12 => ?_)
              replace hZ9 := bnd_s hZ9 ex12
              refine lv_goto (tgt := 70) hx hb dX9_planned_47 (by decide) ?_
              exact W.iret (v := x12) hx hb hr (fun t ht hW => ⟨⟨x12, (F, V), rfl, ⟨rfl, rfl, hZ9.symm.trans hR0⟩, by rw [ht]; exact hP, hD⟩, hS.F ht⟩) hS.2.2 dX9_planned_70
          · replace hZ9 := ite_t hZ9 c7
            refine lv_aload_n hx hb dX9_planned_27 rfl (lv_at hl 0 rfl) ?_
            refine va_get (D := (dC, dI)) (ci := 10) (v := .ref (a 34)) (C := RX9) (T := TX9) (N := 46) hx hb hts in_w_planned_X9 hown hK hP 0 rfl rfl 34 (by decide) (hts (.fieldLink RX9 95 "ServiceTreeModel" "planService" "[I") (by decide +kernel)) (fun _ h9 => h9) rfl dX9_planned_28 ?_
            refine lv_iload_n hx hb dX9_planned_31 rfl (lv_at hl 1 rfl) ?_
            refine va_iald (n := 40) (f := F 34) hx hb hK hP 29 28 rfl rfl (vp_in_nI (n := j4) (by omega) (by decide)) dX9_planned_32 ?_
            refine lv_topi (fun x13 ex13 => ?_)
            replace hZ9 := bnd_s hZ9 ex13
            refine lv_goto (tgt := 70) hx hb dX9_planned_33 (by decide) ?_
            exact W.iret (v := x13) hx hb hr (fun t ht hW => ⟨⟨x13, (F, V), rfl, ⟨rfl, rfl, hZ9.symm.trans hR0⟩, by rw [ht]; exact hP, hD⟩, hS.F ht⟩) hS.2.2 dX9_planned_70
        · replace hZ9 := ite_f hZ9 c6
          refine lv_iconst (v := (-1)) hx hb dX9_planned_21 (by decide) ?_
          exact W.iret (v := (-1)) hx hb hr (fun t ht hW => ⟨⟨(-1), (F, V), rfl, ⟨rfl, rfl, hZ9.symm.trans hR0⟩, by rw [ht]; exact hP, hD⟩, hS.F ht⟩) hS.2.2 dX9_planned_22
def f_w_change (n : Nat) (p0 : Int32) (p1 : Int32) (F : Nat → Nat → Int32) (V : Nat → Int32) : Int32 := if p0 < (0 : Int32) then (((-1 : Int32))) else (bnd ((V 45).toNatClampNeg) (fun (ch2 : Nat) => if (nI ch2) ≤ p0 then (((-1 : Int32))) else (bnd (p0.toNatClampNeg) (fun (j4 : Nat) => bnd ((V 45).toNatClampNeg) (fun (ch5 : Nat) => bnd ((nI ch5) - (2000 : Int32)) (fun (x6 : Int32) => if (nI j4) < x6 then (((-1 : Int32))) else (if p1 < (0 : Int32) then (((-1 : Int32))) else (if p1 ≤ (2 : Int32) then (if p1 = (0 : Int32) then (bnd (j4 % 2000) (fun (m16 : Nat) => bnd (F 42 (nI m16).toNatClampNeg) (fun (x17 : Int32) => (x17)))) else (if p1 = (1 : Int32) then (bnd (j4 % 2000) (fun (m14 : Nat) => bnd (F 43 (nI m14).toNatClampNeg) (fun (x15 : Int32) => (x15)))) else (bnd (j4 % 2000) (fun (m12 : Nat) => bnd (F 44 (nI m12).toNatClampNeg) (fun (x13 : Int32) => (x13)))))) else (((-1 : Int32)))))))))))
def wq_w_change : List Cond := ([.code yX9_change cX9_change 3 (some .int), .fieldLink RX9 132 "ServiceTreeModel" "changes" "I", .fieldLink RX9 123 "ServiceTreeModel" "changeState" "[I", .fieldLink RX9 120 "ServiceTreeModel" "changeService" "[I", .fieldLink RX9 117 "ServiceTreeModel" "changeTick" "[I"] : List Cond) ++ (wsX90)
theorem in_w_change_X9 : ∀ w ∈ wsX90, w ∈ wq_w_change := fun _ h => List.mem_append_right _ (h)
set_option maxRecDepth 20000 in
theorem wi_w_change : ∀ w ∈ wq_w_change, w ∈ lw_tbl := List.forall_mem_append.mpr ⟨(wix [1186, 897, 896, 895, 894] rfl), inKX9⟩
set_option maxRecDepth 20000 in
theorem wg_w_change : GoodIn wq_w_change wq_w_change := goodIn_sub (fun _ h => h) (by decide +kernel)
def rm_w_change : Room := { frames := 0, cells := 0, slots := 0, locals := 0 }
set_option maxHeartbeats 4000000 in
set_option maxRecDepth 100000 in
theorem c_w_change (l : Launch) (dC : Nat → ClassId) (dI : Nat → Nat → Nat) (h : Nat) (a : Nat → Nat) (k : Nat → ClassId) (F : Nat → Nat → Int32) (V : Nat → Int32) (n b : Nat) (p0 : Int32) (p1 : Int32) (sz : Nat) (hI0 : InvM n b F V) (hb0 : b + 0 < 2147483648)  : Met l yX9_change wq_w_change rm_w_change (va_Pc [.ref h, .int p0, .int p1] (fun U => U.heap.size = sz ∧ va_P (dC, dI) vwCl (mW h a k F V) U.heap ∧ va_K (dC, dI) vwCl (mT k) U ∧ va_D (fun _ => True) (mW h a k F V))) (va_Qi (fun (r : Int32) (u : (Nat → Nat → Int32) × (Nat → Int32)) => u.1 = F ∧ u.2 = V ∧ (r = f_w_change n p0 p1 F V)) (fun (u : (Nat → Nat → Int32) × (Nat → Int32)) (t : State) => va_P (dC, dI) vwCl (mW h a k u.1 u.2) t.heap ∧ va_D (va_A (mW h a k F V) sz) (mW h a k u.1 u.2)) (va_A (mW h a k F V) sz)) 0 0 (va_A (mW h a k F V) sz) := by
  have hn : n ≤ 40 := hI0.1
  have hI : StM n b F V F V := StM.rf hI0
  have hU : ∀ j : Nat, j ∉ ([] : List Nat) → F j = F j := fun _ _ => rfl
  have hV : ∀ j : Nat, j ∉ ([] : List Nat) → V j = V j := fun _ _ => rfl
  refine Met.ofW (cc := cX9_change) (maxL := 3) (ret := (some .int)) (by decide) rfl ?_
  intro p e s m args below meth c s₁ B hml hv
  obtain ⟨rfl, hsz, hP, hK, hD0⟩ := hv
  have hx := B.exec
  have hb := B.bytes
  have hr := B.returns
  have hts := atoms_spec (ws := wq_w_change) B.pre
  have hown : s.vm.findClass RX9 = some m.cls := findClass_of_methodNamed B.named
  have hlocks := B.notSynchronized
  subst hsz
  have hD := hD0.self (sz := s.heap.size)
  generalize hAe : va_A (mW h a k F V) s.heap.size = A at hD ⊢
  have hA : ∀ q : Nat, s.heap.size ≤ q → A q := fun q h => by rw [← hAe]; exact Or.inr h
  have hS : va_S A s.heap s.heap [] := va_S.rf
  have hl := lv_entry ([.ref h, .int p0, .int p1]) (n := 3) (Nat.le_of_ble_eq_true rfl)
  rw [lg_entry_eq]
  generalize (lg_sl ([.ref h, .int p0, .int p1]) ++ List.replicate (3 - (lg_sl ([.ref h, .int p0, .int p1])).length) Slot.unset).toArray = ls at hl ⊢
  have hl : lv_has ls 3 [(0, .ref h), (1, .int p0), (2, .int p1)] := hl
  obtain ⟨RES, hR0⟩ : ∃ R9, R9 = f_w_change n p0 p1 F V := ⟨_, rfl⟩
  have hZ9 := hR0
  unfold f_w_change at hZ9
  refine lv_iload_n hx hb dX9_change_0 rfl (lv_at hl 1 rfl) ?_
  refine lv_if_lt (tgt := 33) hx hb dX9_change_1 (by decide) (fun c1 => ?_) (fun c1 => ?_)
  · replace hZ9 := ite_t hZ9 c1
    refine lv_iconst (v := (-1)) hx hb dX9_change_33 (by decide) ?_
    exact W.iret (v := (-1)) hx hb hr (fun t ht hW => ⟨⟨(-1), (F, V), rfl, ⟨rfl, rfl, hZ9.symm.trans hR0⟩, by rw [ht]; exact hP, hD⟩, hS.F ht⟩) hS.2.2 dX9_change_34
  · replace hZ9 := ite_f hZ9 c1
    refine lv_iload_n hx hb dX9_change_4 rfl (lv_at hl 1 rfl) ?_
    refine lv_aload_n hx hb dX9_change_5 rfl (lv_at hl 0 rfl) ?_
    refine va_get (D := (dC, dI)) (ci := 10) (v := .int (V 45)) (C := RX9) (T := TX9) (N := 46) hx hb hts in_w_change_X9 hown hK hP 0 rfl rfl 45 (by decide) (hts (.fieldLink RX9 132 "ServiceTreeModel" "changes" "I") (by decide +kernel)) (fun _ h9 => h9) rfl dX9_change_6 ?_
    obtain ⟨ch2, hch2, ech2⟩ := hI.1.2.2.2.1
    refine p1_topr (v := .int (nI ch2)) (congrArg Value.int ech2) ?_
    replace hZ9 := bnd_s hZ9 (show ch2 = (V 45).toNatClampNeg by rw [ech2, nI_clamp (by omega)])
    refine lv_icmp_ge (tgt := 33) hx hb dX9_change_9 (by decide) (fun c3 => ?_) (fun c3 => ?_)
    · replace hZ9 := ite_t hZ9 c3
      refine lv_iconst (v := (-1)) hx hb dX9_change_33 (by decide) ?_
      exact W.iret (v := (-1)) hx hb hr (fun t ht hW => ⟨⟨(-1), (F, V), rfl, ⟨rfl, rfl, hZ9.symm.trans hR0⟩, by rw [ht]; exact hP, hD⟩, hS.F ht⟩) hS.2.2 dX9_change_34
    · replace hZ9 := ite_f hZ9 c3
      obtain ⟨j4, hj4, ej4⟩ := mw_nI (n := ch2) (by omega) c1 c3
      replace hZ9 := bnd_s hZ9 (show j4 = p0.toNatClampNeg by rw [ej4, nI_clamp (by omega)])
      subst ej4
      refine lv_iload_n hx hb dX9_change_12 rfl (lv_at hl 1 rfl) ?_
      refine lv_aload_n hx hb dX9_change_13 rfl (lv_at hl 0 rfl) ?_
      refine va_get (D := (dC, dI)) (ci := 10) (v := .int (V 45)) (C := RX9) (T := TX9) (N := 46) hx hb hts in_w_change_X9 hown hK hP 0 rfl rfl 45 (by decide) (hts (.fieldLink RX9 132 "ServiceTreeModel" "changes" "I") (by decide +kernel)) (fun _ h9 => h9) rfl dX9_change_14 ?_
      obtain ⟨ch5, hch5, ech5⟩ := hI.1.2.2.2.1
      refine p1_topr (v := .int (nI ch5)) (congrArg Value.int ech5) ?_
      replace hZ9 := bnd_s hZ9 (show ch5 = (V 45).toNatClampNeg by rw [ech5, nI_clamp (by omega)])
      refine lv_sipush (v := 2000) hx hb dX9_change_17 (by decide) ?_
      refine lv_isub hx hb dX9_change_20 ?_
      refine lv_topi (fun x6 ex6 => ?_)
      replace hZ9 := bnd_s hZ9 ex6
      refine lv_icmp_lt (tgt := 33) hx hb dX9_change_21 (by decide) (fun c7 => ?_) (fun c7 => ?_)
      · replace hZ9 := ite_t hZ9 c7
        refine lv_iconst (v := (-1)) hx hb dX9_change_33 (by decide) ?_
        exact W.iret (v := (-1)) hx hb hr (fun t ht hW => ⟨⟨(-1), (F, V), rfl, ⟨rfl, rfl, hZ9.symm.trans hR0⟩, by rw [ht]; exact hP, hD⟩, hS.F ht⟩) hS.2.2 dX9_change_34
      · replace hZ9 := ite_f hZ9 c7
        refine lv_iload_n hx hb dX9_change_24 rfl (lv_at hl 2 rfl) ?_
        refine lv_if_lt (tgt := 33) hx hb dX9_change_25 (by decide) (fun c8 => ?_) (fun c8 => ?_)
        · replace hZ9 := ite_t hZ9 c8
          refine lv_iconst (v := (-1)) hx hb dX9_change_33 (by decide) ?_
          exact W.iret (v := (-1)) hx hb hr (fun t ht hW => ⟨⟨(-1), (F, V), rfl, ⟨rfl, rfl, hZ9.symm.trans hR0⟩, by rw [ht]; exact hP, hD⟩, hS.F ht⟩) hS.2.2 dX9_change_34
        · replace hZ9 := ite_f hZ9 c8
          refine lv_iload_n hx hb dX9_change_28 rfl (lv_at hl 2 rfl) ?_
          refine lv_iconst (v := 2) hx hb dX9_change_29 (by decide) ?_
          refine lv_icmp_le (tgt := 35) hx hb dX9_change_30 (by decide) (fun c9 => ?_) (fun c9 => ?_)
          · replace hZ9 := ite_t hZ9 c9
            refine lv_iload_n hx hb dX9_change_35 rfl (lv_at hl 2 rfl) ?_
            refine lv_if_ne (tgt := 52) hx hb dX9_change_36 (by decide) (fun c10 => ?_) (fun c10 => ?_)
            · replace hZ9 := ite_f hZ9 c10
              refine lv_iload_n hx hb dX9_change_52 rfl (lv_at hl 2 rfl) ?_
              refine lv_iconst (v := 1) hx hb dX9_change_53 (by decide) ?_
              refine lv_icmp_ne (tgt := 70) hx hb dX9_change_54 (by decide) (fun c11 => ?_) (fun c11 => ?_)
              · replace hZ9 := ite_f hZ9 c11
                refine lv_aload_n hx hb dX9_change_70 rfl (lv_at hl 0 rfl) ?_
                refine va_get (D := (dC, dI)) (ci := 10) (v := .ref (a 44)) (C := RX9) (T := TX9) (N := 46) hx hb hts in_w_change_X9 hown hK hP 0 rfl rfl 44 (by decide) (hts (.fieldLink RX9 123 "ServiceTreeModel" "changeState" "[I") (by decide +kernel)) (fun _ h9 => h9) rfl dX9_change_71 ?_
                refine lv_iload_n hx hb dX9_change_74 rfl (lv_at hl 1 rfl) ?_
                refine lv_sipush (v := 2000) hx hb dX9_change_75 (by decide) ?_
                refine lv_irem hx hb dX9_change_78 (by decide) ?_
                obtain ⟨m12, hm12, em12⟩ : ∃ z9 : Nat, z9 < 2000 ∧ z9 = j4 % 2000 := ⟨_, Nat.mod_lt _ (by decide), rfl⟩
                refine p1_topr (v := .int (nI m12)) (congrArg Value.int (by rw [em12]; exact pk_rem (a := j4) (d := 2000) (by omega) (by decide) (by decide))) ?_
                replace hZ9 := bnd_s hZ9 em12
                refine va_iald (n := 2000) (f := F 44) hx hb hK hP 37 36 rfl rfl (vp_in_nI (n := m12) (by omega) (by decide)) dX9_change_79 ?_
                refine lv_topi (fun x13 ex13 => ?_)
                replace hZ9 := bnd_s hZ9 ex13
                exact W.iret (v := x13) hx hb hr (fun t ht hW => ⟨⟨x13, (F, V), rfl, ⟨rfl, rfl, hZ9.symm.trans hR0⟩, by rw [ht]; exact hP, hD⟩, hS.F ht⟩) hS.2.2 dX9_change_80
              · replace hZ9 := ite_t hZ9 c11
                refine lv_aload_n hx hb dX9_change_57 rfl (lv_at hl 0 rfl) ?_
                refine va_get (D := (dC, dI)) (ci := 10) (v := .ref (a 43)) (C := RX9) (T := TX9) (N := 46) hx hb hts in_w_change_X9 hown hK hP 0 rfl rfl 43 (by decide) (hts (.fieldLink RX9 120 "ServiceTreeModel" "changeService" "[I") (by decide +kernel)) (fun _ h9 => h9) rfl dX9_change_58 ?_
                refine lv_iload_n hx hb dX9_change_61 rfl (lv_at hl 1 rfl) ?_
                refine lv_sipush (v := 2000) hx hb dX9_change_62 (by decide) ?_
                refine lv_irem hx hb dX9_change_65 (by decide) ?_
                obtain ⟨m14, hm14, em14⟩ : ∃ z9 : Nat, z9 < 2000 ∧ z9 = j4 % 2000 := ⟨_, Nat.mod_lt _ (by decide), rfl⟩
                refine p1_topr (v := .int (nI m14)) (congrArg Value.int (by rw [em14]; exact pk_rem (a := j4) (d := 2000) (by omega) (by decide) (by decide))) ?_
                replace hZ9 := bnd_s hZ9 em14
                refine va_iald (n := 2000) (f := F 43) hx hb hK hP 36 35 rfl rfl (vp_in_nI (n := m14) (by omega) (by decide)) dX9_change_66 ?_
                refine lv_topi (fun x15 ex15 => ?_)
                replace hZ9 := bnd_s hZ9 ex15
                refine lv_goto (tgt := 80) hx hb dX9_change_67 (by decide) ?_
                exact W.iret (v := x15) hx hb hr (fun t ht hW => ⟨⟨x15, (F, V), rfl, ⟨rfl, rfl, hZ9.symm.trans hR0⟩, by rw [ht]; exact hP, hD⟩, hS.F ht⟩) hS.2.2 dX9_change_80
            · replace hZ9 := ite_t hZ9 c10
              refine lv_aload_n hx hb dX9_change_39 rfl (lv_at hl 0 rfl) ?_
              refine va_get (D := (dC, dI)) (ci := 10) (v := .ref (a 42)) (C := RX9) (T := TX9) (N := 46) hx hb hts in_w_change_X9 hown hK hP 0 rfl rfl 42 (by decide) (hts (.fieldLink RX9 117 "ServiceTreeModel" "changeTick" "[I") (by decide +kernel)) (fun _ h9 => h9) rfl dX9_change_40 ?_
              refine lv_iload_n hx hb dX9_change_43 rfl (lv_at hl 1 rfl) ?_
              refine lv_sipush (v := 2000) hx hb dX9_change_44 (by decide) ?_
              refine lv_irem hx hb dX9_change_47 (by decide) ?_
              obtain ⟨m16, hm16, em16⟩ : ∃ z9 : Nat, z9 < 2000 ∧ z9 = j4 % 2000 := ⟨_, Nat.mod_lt _ (by decide), rfl⟩
              refine p1_topr (v := .int (nI m16)) (congrArg Value.int (by rw [em16]; exact pk_rem (a := j4) (d := 2000) (by omega) (by decide) (by decide))) ?_
              replace hZ9 := bnd_s hZ9 em16
              refine va_iald (n := 2000) (f := F 42) hx hb hK hP 35 34 rfl rfl (vp_in_nI (n := m16) (by omega) (by decide)) dX9_change_48 ?_
              refine lv_topi (fun x17 ex17 => ?_)
              replace hZ9 := bnd_s hZ9 ex17
              refine lv_goto (tgt := 80) hx hb dX9_change_49 (by decide) ?_
              exact W.iret (v := x17) hx hb hr (fun t ht hW => ⟨⟨x17, (F, V), rfl, ⟨rfl, rfl, hZ9.symm.trans hR0⟩, by rw [ht]; exact hP, hD⟩, hS.F ht⟩) hS.2.2 dX9_change_80
          · replace hZ9 := ite_f hZ9 c9
            refine lv_iconst (v := (-1)) hx hb dX9_change_33 (by decide) ?_
            exact W.iret (v := (-1)) hx hb hr (fun t ht hW => ⟨⟨(-1), (F, V), rfl, ⟨rfl, rfl, hZ9.symm.trans hR0⟩, by rw [ht]; exact hP, hD⟩, hS.F ht⟩) hS.2.2 dX9_change_34
def f_w_quick (n : Nat)  (V : Nat → Int32) : Int32 := bnd (V 39) (fun (x1 : Int32) => (x1))
def wq_w_quick : List Cond := ([.code yX9_quick cX9_quick 1 (some .int), .fieldLink RX9 107 "ServiceTreeModel" "quick" "I"] : List Cond) ++ (wsX90)
theorem in_w_quick_X9 : ∀ w ∈ wsX90, w ∈ wq_w_quick := fun _ h => List.mem_append_right _ (h)
set_option maxRecDepth 20000 in
theorem wi_w_quick : ∀ w ∈ wq_w_quick, w ∈ lw_tbl := List.forall_mem_append.mpr ⟨(wix [1174, 891] rfl), inKX9⟩
set_option maxRecDepth 20000 in
theorem wg_w_quick : GoodIn wq_w_quick wq_w_quick := goodIn_sub (fun _ h => h) (by decide +kernel)
def rm_w_quick : Room := { frames := 0, cells := 0, slots := 0, locals := 0 }
set_option maxHeartbeats 4000000 in
set_option maxRecDepth 100000 in
theorem c_w_quick (l : Launch) (dC : Nat → ClassId) (dI : Nat → Nat → Nat) (h : Nat) (a : Nat → Nat) (k : Nat → ClassId) (F : Nat → Nat → Int32) (V : Nat → Int32) (n b : Nat)  (sz : Nat) (hI0 : InvM n b F V) (hb0 : b + 0 < 2147483648)  : Met l yX9_quick wq_w_quick rm_w_quick (va_Pc [.ref h] (fun U => U.heap.size = sz ∧ va_P (dC, dI) vwCl (mW h a k F V) U.heap ∧ va_K (dC, dI) vwCl (mT k) U ∧ va_D (fun _ => True) (mW h a k F V))) (va_Qi (fun (r : Int32) (u : (Nat → Nat → Int32) × (Nat → Int32)) => u.1 = F ∧ u.2 = V ∧ (r = f_w_quick n  V)) (fun (u : (Nat → Nat → Int32) × (Nat → Int32)) (t : State) => va_P (dC, dI) vwCl (mW h a k u.1 u.2) t.heap ∧ va_D (va_A (mW h a k F V) sz) (mW h a k u.1 u.2)) (va_A (mW h a k F V) sz)) 0 0 (va_A (mW h a k F V) sz) := by
  have hn : n ≤ 40 := hI0.1
  have hI : StM n b F V F V := StM.rf hI0
  have hU : ∀ j : Nat, j ∉ ([] : List Nat) → F j = F j := fun _ _ => rfl
  have hV : ∀ j : Nat, j ∉ ([] : List Nat) → V j = V j := fun _ _ => rfl
  refine Met.ofW (cc := cX9_quick) (maxL := 1) (ret := (some .int)) (by decide) rfl ?_
  intro p e s m args below meth c s₁ B hml hv
  obtain ⟨rfl, hsz, hP, hK, hD0⟩ := hv
  have hx := B.exec
  have hb := B.bytes
  have hr := B.returns
  have hts := atoms_spec (ws := wq_w_quick) B.pre
  have hown : s.vm.findClass RX9 = some m.cls := findClass_of_methodNamed B.named
  have hlocks := B.notSynchronized
  subst hsz
  have hD := hD0.self (sz := s.heap.size)
  generalize hAe : va_A (mW h a k F V) s.heap.size = A at hD ⊢
  have hA : ∀ q : Nat, s.heap.size ≤ q → A q := fun q h => by rw [← hAe]; exact Or.inr h
  have hS : va_S A s.heap s.heap [] := va_S.rf
  have hl := lv_entry ([.ref h]) (n := 1) (Nat.le_of_ble_eq_true rfl)
  rw [lg_entry_eq]
  generalize (lg_sl ([.ref h]) ++ List.replicate (1 - (lg_sl ([.ref h])).length) Slot.unset).toArray = ls at hl ⊢
  have hl : lv_has ls 1 [(0, .ref h)] := hl
  obtain ⟨RES, hR0⟩ : ∃ R9, R9 = f_w_quick n  V := ⟨_, rfl⟩
  have hZ9 := hR0
  unfold f_w_quick at hZ9
  refine lv_aload_n hx hb dX9_quick_0 rfl (lv_at hl 0 rfl) ?_
  refine va_get (D := (dC, dI)) (ci := 10) (v := .int (V 39)) (C := RX9) (T := TX9) (N := 46) hx hb hts in_w_quick_X9 hown hK hP 0 rfl rfl 39 (by decide) (hts (.fieldLink RX9 107 "ServiceTreeModel" "quick" "I") (by decide +kernel)) (fun _ h9 => h9) rfl dX9_quick_1 ?_
  refine lv_topi (fun x1 ex1 => ?_)
  replace hZ9 := bnd_s hZ9 ex1
  exact W.iret (v := x1) hx hb hr (fun t ht hW => ⟨⟨x1, (F, V), rfl, ⟨rfl, rfl, hZ9.symm.trans hR0⟩, by rw [ht]; exact hP, hD⟩, hS.F ht⟩) hS.2.2 dX9_quick_4
def f_w_ring (n : Nat)  (V : Nat → Int32) : Int32 := bnd (V 33) (fun (x1 : Int32) => (x1))
def wq_w_ring : List Cond := ([.code yX9_ring cX9_ring 1 (some .int), .fieldLink RX9 197 "ServiceTreeModel" "ring" "I"] : List Cond) ++ (wsX90)
theorem in_w_ring_X9 : ∀ w ∈ wsX90, w ∈ wq_w_ring := fun _ h => List.mem_append_right _ (h)
set_option maxRecDepth 20000 in
theorem wi_w_ring : ∀ w ∈ wq_w_ring, w ∈ lw_tbl := List.forall_mem_append.mpr ⟨(wix [1178, 885] rfl), inKX9⟩
set_option maxRecDepth 20000 in
theorem wg_w_ring : GoodIn wq_w_ring wq_w_ring := goodIn_sub (fun _ h => h) (by decide +kernel)
def rm_w_ring : Room := { frames := 0, cells := 0, slots := 0, locals := 0 }
set_option maxHeartbeats 4000000 in
set_option maxRecDepth 100000 in
theorem c_w_ring (l : Launch) (dC : Nat → ClassId) (dI : Nat → Nat → Nat) (h : Nat) (a : Nat → Nat) (k : Nat → ClassId) (F : Nat → Nat → Int32) (V : Nat → Int32) (n b : Nat)  (sz : Nat) (hI0 : InvM n b F V) (hb0 : b + 0 < 2147483648)  : Met l yX9_ring wq_w_ring rm_w_ring (va_Pc [.ref h] (fun U => U.heap.size = sz ∧ va_P (dC, dI) vwCl (mW h a k F V) U.heap ∧ va_K (dC, dI) vwCl (mT k) U ∧ va_D (fun _ => True) (mW h a k F V))) (va_Qi (fun (r : Int32) (u : (Nat → Nat → Int32) × (Nat → Int32)) => u.1 = F ∧ u.2 = V ∧ (r = f_w_ring n  V)) (fun (u : (Nat → Nat → Int32) × (Nat → Int32)) (t : State) => va_P (dC, dI) vwCl (mW h a k u.1 u.2) t.heap ∧ va_D (va_A (mW h a k F V) sz) (mW h a k u.1 u.2)) (va_A (mW h a k F V) sz)) 0 0 (va_A (mW h a k F V) sz) := by
  have hn : n ≤ 40 := hI0.1
  have hI : StM n b F V F V := StM.rf hI0
  have hU : ∀ j : Nat, j ∉ ([] : List Nat) → F j = F j := fun _ _ => rfl
  have hV : ∀ j : Nat, j ∉ ([] : List Nat) → V j = V j := fun _ _ => rfl
  refine Met.ofW (cc := cX9_ring) (maxL := 1) (ret := (some .int)) (by decide) rfl ?_
  intro p e s m args below meth c s₁ B hml hv
  obtain ⟨rfl, hsz, hP, hK, hD0⟩ := hv
  have hx := B.exec
  have hb := B.bytes
  have hr := B.returns
  have hts := atoms_spec (ws := wq_w_ring) B.pre
  have hown : s.vm.findClass RX9 = some m.cls := findClass_of_methodNamed B.named
  have hlocks := B.notSynchronized
  subst hsz
  have hD := hD0.self (sz := s.heap.size)
  generalize hAe : va_A (mW h a k F V) s.heap.size = A at hD ⊢
  have hA : ∀ q : Nat, s.heap.size ≤ q → A q := fun q h => by rw [← hAe]; exact Or.inr h
  have hS : va_S A s.heap s.heap [] := va_S.rf
  have hl := lv_entry ([.ref h]) (n := 1) (Nat.le_of_ble_eq_true rfl)
  rw [lg_entry_eq]
  generalize (lg_sl ([.ref h]) ++ List.replicate (1 - (lg_sl ([.ref h])).length) Slot.unset).toArray = ls at hl ⊢
  have hl : lv_has ls 1 [(0, .ref h)] := hl
  obtain ⟨RES, hR0⟩ : ∃ R9, R9 = f_w_ring n  V := ⟨_, rfl⟩
  have hZ9 := hR0
  unfold f_w_ring at hZ9
  refine lv_aload_n hx hb dX9_ring_0 rfl (lv_at hl 0 rfl) ?_
  refine va_get (D := (dC, dI)) (ci := 10) (v := .int (V 33)) (C := RX9) (T := TX9) (N := 46) hx hb hts in_w_ring_X9 hown hK hP 0 rfl rfl 33 (by decide) (hts (.fieldLink RX9 197 "ServiceTreeModel" "ring" "I") (by decide +kernel)) (fun _ h9 => h9) rfl dX9_ring_1 ?_
  refine lv_topi (fun x1 ex1 => ?_)
  replace hZ9 := bnd_s hZ9 ex1
  exact W.iret (v := x1) hx hb hr (fun t ht hW => ⟨⟨x1, (F, V), rfl, ⟨rfl, rfl, hZ9.symm.trans hR0⟩, by rw [ht]; exact hP, hD⟩, hS.F ht⟩) hS.2.2 dX9_ring_4
def f_w_changes (n : Nat)  (V : Nat → Int32) : Int32 := bnd ((V 45).toNatClampNeg) (fun (ch1 : Nat) => ((nI ch1)))
def wq_w_changes : List Cond := ([.code yX9_changes cX9_changes 1 (some .int), .fieldLink RX9 132 "ServiceTreeModel" "changes" "I"] : List Cond) ++ (wsX90)
theorem in_w_changes_X9 : ∀ w ∈ wsX90, w ∈ wq_w_changes := fun _ h => List.mem_append_right _ (h)
set_option maxRecDepth 20000 in
theorem wi_w_changes : ∀ w ∈ wq_w_changes, w ∈ lw_tbl := List.forall_mem_append.mpr ⟨(wix [1182, 897] rfl), inKX9⟩
set_option maxRecDepth 20000 in
theorem wg_w_changes : GoodIn wq_w_changes wq_w_changes := goodIn_sub (fun _ h => h) (by decide +kernel)
def rm_w_changes : Room := { frames := 0, cells := 0, slots := 0, locals := 0 }
set_option maxHeartbeats 4000000 in
set_option maxRecDepth 100000 in
theorem c_w_changes (l : Launch) (dC : Nat → ClassId) (dI : Nat → Nat → Nat) (h : Nat) (a : Nat → Nat) (k : Nat → ClassId) (F : Nat → Nat → Int32) (V : Nat → Int32) (n b : Nat)  (sz : Nat) (hI0 : InvM n b F V) (hb0 : b + 0 < 2147483648)  : Met l yX9_changes wq_w_changes rm_w_changes (va_Pc [.ref h] (fun U => U.heap.size = sz ∧ va_P (dC, dI) vwCl (mW h a k F V) U.heap ∧ va_K (dC, dI) vwCl (mT k) U ∧ va_D (fun _ => True) (mW h a k F V))) (va_Qi (fun (r : Int32) (u : (Nat → Nat → Int32) × (Nat → Int32)) => u.1 = F ∧ u.2 = V ∧ (r = f_w_changes n  V)) (fun (u : (Nat → Nat → Int32) × (Nat → Int32)) (t : State) => va_P (dC, dI) vwCl (mW h a k u.1 u.2) t.heap ∧ va_D (va_A (mW h a k F V) sz) (mW h a k u.1 u.2)) (va_A (mW h a k F V) sz)) 0 0 (va_A (mW h a k F V) sz) := by
  have hn : n ≤ 40 := hI0.1
  have hI : StM n b F V F V := StM.rf hI0
  have hU : ∀ j : Nat, j ∉ ([] : List Nat) → F j = F j := fun _ _ => rfl
  have hV : ∀ j : Nat, j ∉ ([] : List Nat) → V j = V j := fun _ _ => rfl
  refine Met.ofW (cc := cX9_changes) (maxL := 1) (ret := (some .int)) (by decide) rfl ?_
  intro p e s m args below meth c s₁ B hml hv
  obtain ⟨rfl, hsz, hP, hK, hD0⟩ := hv
  have hx := B.exec
  have hb := B.bytes
  have hr := B.returns
  have hts := atoms_spec (ws := wq_w_changes) B.pre
  have hown : s.vm.findClass RX9 = some m.cls := findClass_of_methodNamed B.named
  have hlocks := B.notSynchronized
  subst hsz
  have hD := hD0.self (sz := s.heap.size)
  generalize hAe : va_A (mW h a k F V) s.heap.size = A at hD ⊢
  have hA : ∀ q : Nat, s.heap.size ≤ q → A q := fun q h => by rw [← hAe]; exact Or.inr h
  have hS : va_S A s.heap s.heap [] := va_S.rf
  have hl := lv_entry ([.ref h]) (n := 1) (Nat.le_of_ble_eq_true rfl)
  rw [lg_entry_eq]
  generalize (lg_sl ([.ref h]) ++ List.replicate (1 - (lg_sl ([.ref h])).length) Slot.unset).toArray = ls at hl ⊢
  have hl : lv_has ls 1 [(0, .ref h)] := hl
  obtain ⟨RES, hR0⟩ : ∃ R9, R9 = f_w_changes n  V := ⟨_, rfl⟩
  have hZ9 := hR0
  unfold f_w_changes at hZ9
  refine lv_aload_n hx hb dX9_changes_0 rfl (lv_at hl 0 rfl) ?_
  refine va_get (D := (dC, dI)) (ci := 10) (v := .int (V 45)) (C := RX9) (T := TX9) (N := 46) hx hb hts in_w_changes_X9 hown hK hP 0 rfl rfl 45 (by decide) (hts (.fieldLink RX9 132 "ServiceTreeModel" "changes" "I") (by decide +kernel)) (fun _ h9 => h9) rfl dX9_changes_1 ?_
  obtain ⟨ch1, hch1, ech1⟩ := hI.1.2.2.2.1
  refine p1_topr (v := .int (nI ch1)) (congrArg Value.int ech1) ?_
  replace hZ9 := bnd_s hZ9 (show ch1 = (V 45).toNatClampNeg by rw [ech1, nI_clamp (by omega)])
  exact W.iret (v := (nI ch1)) hx hb hr (fun t ht hW => ⟨⟨(nI ch1), (F, V), rfl, ⟨rfl, rfl, hZ9.symm.trans hR0⟩, by rw [ht]; exact hP, hD⟩, hS.F ht⟩) hS.2.2 dX9_changes_4
def f_w_check_55 (n : Nat) (F : Nat → Nat → Int32) (i1 : Nat) : Nat → Nat → Int32 → (Nat → Int32 → Int32) → Int32
  | 0, i12, y16, K9_55 => K9_55 i12 y16
  | fu13 + 1, i12, y16, K9_55 => if n ≤ i12 then (K9_55 i12 y16) else (if y16 = (0 : Int32) then (bnd (f_w_has n 3 i1 i12 F) (fun (r19 : Int32) => if r19 = (0 : Int32) then (f_w_check_55 n F i1 fu13 (i12 + 1) (0 : Int32) K9_55) else (bnd (F 7 (nI i1).toNatClampNeg) (fun (x23 : Int32) => if x23 < (1 : Int32) then (f_w_check_55 n F i1 fu13 (i12 + 1) (0 : Int32) K9_55) else (if (3 : Int32) < x23 then (f_w_check_55 n F i1 fu13 (i12 + 1) (0 : Int32) K9_55) else (bnd (F 7 (nI i12).toNatClampNeg) (fun (x27 : Int32) => if x27 < (1 : Int32) then (f_w_check_55 n F i1 fu13 (i12 + 1) (0 : Int32) K9_55) else (if (3 : Int32) < x27 then (f_w_check_55 n F i1 fu13 (i12 + 1) (0 : Int32) K9_55) else (f_w_check_55 n F i1 fu13 (i12 + 1) (1 : Int32) K9_55))))))))) else (f_w_check_55 n F i1 fu13 (i12 + 1) (1 : Int32) K9_55))
def f_w_check_55q1 (n : Nat) (F : Nat → Nat → Int32) (i1 : Nat) (x31 : Int32) : Nat → Nat → Int32 → (Nat → Int32 → Int32) → Int32
  | 0, i37, y41, K9_55 => K9_55 i37 y41
  | fu38 + 1, i37, y41, K9_55 => if n ≤ i37 then (K9_55 i37 y41) else (if y41 = (0 : Int32) then (bnd (f_w_has n 3 i1 i37 F) (fun (r44 : Int32) => if r44 = (0 : Int32) then (f_w_check_55q1 n F i1 x31 fu38 (i37 + 1) (0 : Int32) K9_55) else (if x31 < (1 : Int32) then (f_w_check_55q1 n F i1 x31 fu38 (i37 + 1) (0 : Int32) K9_55) else (if (3 : Int32) < x31 then (f_w_check_55q1 n F i1 x31 fu38 (i37 + 1) (0 : Int32) K9_55) else (bnd (F 7 (nI i37).toNatClampNeg) (fun (x52 : Int32) => if x52 < (1 : Int32) then (f_w_check_55q1 n F i1 x31 fu38 (i37 + 1) (0 : Int32) K9_55) else (if (3 : Int32) < x52 then (f_w_check_55q1 n F i1 x31 fu38 (i37 + 1) (0 : Int32) K9_55) else (f_w_check_55q1 n F i1 x31 fu38 (i37 + 1) (1 : Int32) K9_55)))))))) else (f_w_check_55q1 n F i1 x31 fu38 (i37 + 1) (1 : Int32) K9_55))
def f_w_check_55q2 (n : Nat) (F : Nat → Nat → Int32) (i1 : Nat) (x31 : Int32) : Nat → Nat → Int32 → (Nat → Int32 → Int32) → Int32
  | 0, i56, y60, K9_55 => K9_55 i56 y60
  | fu57 + 1, i56, y60, K9_55 => if n ≤ i56 then (K9_55 i56 y60) else (if y60 = (0 : Int32) then (bnd (f_w_has n 3 i1 i56 F) (fun (r63 : Int32) => if r63 = (0 : Int32) then (f_w_check_55q2 n F i1 x31 fu57 (i56 + 1) (0 : Int32) K9_55) else (if x31 < (1 : Int32) then (f_w_check_55q2 n F i1 x31 fu57 (i56 + 1) (0 : Int32) K9_55) else (if (3 : Int32) < x31 then (f_w_check_55q2 n F i1 x31 fu57 (i56 + 1) (0 : Int32) K9_55) else (bnd (F 7 (nI i56).toNatClampNeg) (fun (x71 : Int32) => if x71 < (1 : Int32) then (f_w_check_55q2 n F i1 x31 fu57 (i56 + 1) (0 : Int32) K9_55) else (if (3 : Int32) < x71 then (f_w_check_55q2 n F i1 x31 fu57 (i56 + 1) (0 : Int32) K9_55) else (f_w_check_55q2 n F i1 x31 fu57 (i56 + 1) (1 : Int32) K9_55)))))))) else (f_w_check_55q2 n F i1 x31 fu57 (i56 + 1) (1 : Int32) K9_55))
def f_w_check_55q3 (n : Nat) (F : Nat → Nat → Int32) (i1 : Nat) (x31 : Int32) : Nat → Nat → Int32 → (Nat → Int32 → Int32) → Int32
  | 0, i77, y81, K9_55 => K9_55 i77 y81
  | fu78 + 1, i77, y81, K9_55 => if n ≤ i77 then (K9_55 i77 y81) else (if y81 = (0 : Int32) then (bnd (f_w_has n 3 i1 i77 F) (fun (r84 : Int32) => if r84 = (0 : Int32) then (f_w_check_55q3 n F i1 x31 fu78 (i77 + 1) (0 : Int32) K9_55) else (if x31 < (1 : Int32) then (f_w_check_55q3 n F i1 x31 fu78 (i77 + 1) (0 : Int32) K9_55) else (if (3 : Int32) < x31 then (f_w_check_55q3 n F i1 x31 fu78 (i77 + 1) (0 : Int32) K9_55) else (bnd (F 7 (nI i77).toNatClampNeg) (fun (x92 : Int32) => if x92 < (1 : Int32) then (f_w_check_55q3 n F i1 x31 fu78 (i77 + 1) (0 : Int32) K9_55) else (if (3 : Int32) < x92 then (f_w_check_55q3 n F i1 x31 fu78 (i77 + 1) (0 : Int32) K9_55) else (f_w_check_55q3 n F i1 x31 fu78 (i77 + 1) (1 : Int32) K9_55)))))))) else (f_w_check_55q3 n F i1 x31 fu78 (i77 + 1) (1 : Int32) K9_55))
def f_w_check_55q4 (n : Nat) (F : Nat → Nat → Int32) (i1 : Nat) (x31 : Int32) : Nat → Nat → Int32 → (Nat → Int32 → Int32) → Int32
  | 0, i100, y104, K9_55 => K9_55 i100 y104
  | fu101 + 1, i100, y104, K9_55 => if n ≤ i100 then (K9_55 i100 y104) else (if y104 = (0 : Int32) then (bnd (f_w_has n 3 i1 i100 F) (fun (r107 : Int32) => if r107 = (0 : Int32) then (f_w_check_55q4 n F i1 x31 fu101 (i100 + 1) (0 : Int32) K9_55) else (if x31 < (1 : Int32) then (f_w_check_55q4 n F i1 x31 fu101 (i100 + 1) (0 : Int32) K9_55) else (if (3 : Int32) < x31 then (f_w_check_55q4 n F i1 x31 fu101 (i100 + 1) (0 : Int32) K9_55) else (bnd (F 7 (nI i100).toNatClampNeg) (fun (x115 : Int32) => if x115 < (1 : Int32) then (f_w_check_55q4 n F i1 x31 fu101 (i100 + 1) (0 : Int32) K9_55) else (if (3 : Int32) < x115 then (f_w_check_55q4 n F i1 x31 fu101 (i100 + 1) (0 : Int32) K9_55) else (f_w_check_55q4 n F i1 x31 fu101 (i100 + 1) (1 : Int32) K9_55)))))))) else (f_w_check_55q4 n F i1 x31 fu101 (i100 + 1) (1 : Int32) K9_55))
def f_w_check_55q5 (n : Nat) (F : Nat → Nat → Int32) (i1 : Nat) (x31 : Int32) : Nat → Nat → Int32 → (Nat → Int32 → Int32) → Int32
  | 0, i119, y123, K9_55 => K9_55 i119 y123
  | fu120 + 1, i119, y123, K9_55 => if n ≤ i119 then (K9_55 i119 y123) else (if y123 = (0 : Int32) then (bnd (f_w_has n 3 i1 i119 F) (fun (r126 : Int32) => if r126 = (0 : Int32) then (f_w_check_55q5 n F i1 x31 fu120 (i119 + 1) (0 : Int32) K9_55) else (if x31 < (1 : Int32) then (f_w_check_55q5 n F i1 x31 fu120 (i119 + 1) (0 : Int32) K9_55) else (if (3 : Int32) < x31 then (f_w_check_55q5 n F i1 x31 fu120 (i119 + 1) (0 : Int32) K9_55) else (bnd (F 7 (nI i119).toNatClampNeg) (fun (x134 : Int32) => if x134 < (1 : Int32) then (f_w_check_55q5 n F i1 x31 fu120 (i119 + 1) (0 : Int32) K9_55) else (if (3 : Int32) < x134 then (f_w_check_55q5 n F i1 x31 fu120 (i119 + 1) (0 : Int32) K9_55) else (f_w_check_55q5 n F i1 x31 fu120 (i119 + 1) (1 : Int32) K9_55)))))))) else (f_w_check_55q5 n F i1 x31 fu120 (i119 + 1) (1 : Int32) K9_55))
def f_w_check_6 (n : Nat) (F : Nat → Nat → Int32) : Nat → Nat → Int32 → Int32 → (Nat → Int32 → Int32 → Int32) → Int32
  | 0, i1, y5, y6, K9_6 => K9_6 i1 y5 y6
  | fu2 + 1, i1, y5, y6, K9_6 => if n ≤ i1 then (K9_6 i1 y5 y6) else (if y6 = (0 : Int32) then (bnd (F 7 (nI i1).toNatClampNeg) (fun (x31 : Int32) => if x31 = (1 : Int32) then (bnd (f_w_hasNeeds n i1 F) (fun (r33 : Int32) => if r33 = (0 : Int32) then (f_w_check_55q2 n F i1 x31 (n + 1) (0 : Nat) y5 (fun (i56 : Nat) (y60 : Int32) => f_w_check_6 n F fu2 (i1 + 1) y60 (1 : Int32) K9_6)) else (f_w_check_55q1 n F i1 x31 (n + 1) (0 : Nat) y5 (fun (i37 : Nat) (y41 : Int32) => f_w_check_6 n F fu2 (i1 + 1) y41 (0 : Int32) K9_6)))) else (if x31 = (2 : Int32) then (bnd (f_w_hasNeeds n i1 F) (fun (r96 : Int32) => if r96 = (0 : Int32) then (f_w_check_55q5 n F i1 x31 (n + 1) (0 : Nat) y5 (fun (i119 : Nat) (y123 : Int32) => f_w_check_6 n F fu2 (i1 + 1) y123 (1 : Int32) K9_6)) else (f_w_check_55q4 n F i1 x31 (n + 1) (0 : Nat) y5 (fun (i100 : Nat) (y104 : Int32) => f_w_check_6 n F fu2 (i1 + 1) y104 (0 : Int32) K9_6)))) else (f_w_check_55q3 n F i1 x31 (n + 1) (0 : Nat) y5 (fun (i77 : Nat) (y81 : Int32) => f_w_check_6 n F fu2 (i1 + 1) y81 (0 : Int32) K9_6))))) else (f_w_check_55 n F i1 (n + 1) (0 : Nat) y5 (fun (i12 : Nat) (y16 : Int32) => f_w_check_6 n F fu2 (i1 + 1) y16 (1 : Int32) K9_6)))
def f_w_check (n : Nat)  (F : Nat → Nat → Int32) : Int32 := f_w_check_6 n F (n + 1) (0 : Nat) (0 : Int32) (0 : Int32) (fun (i1 : Nat) (y5 : Int32) (y6 : Int32) => if y6 = (0 : Int32) then (if y5 = (0 : Int32) then (((0 : Int32))) else (((1 : Int32)))) else (if y5 = (0 : Int32) then (((1 : Int32))) else (((2 : Int32)))))
def wq_w_check : List Cond := ([.code yX9_check cX9_check 5 (some .int), .fieldLink RX9 126 "ServiceTreeModel" "services" "I", .fieldLink RX9 31 "ServiceTreeModel" "state" "[I", .methodLink RX9 150 yX9_has, .instanceMethod yX9_has, .selects RX9 yX9_has yX9_has, .initialized RX9, .methodLink RX9 231 yX9_hasNeeds, .instanceMethod yX9_hasNeeds, .selects RX9 yX9_hasNeeds yX9_hasNeeds] : List Cond) ++ (wsX90 ++ (wq_w_has ++ (wq_w_hasNeeds)))
theorem in_w_check_X9 : ∀ w ∈ wsX90, w ∈ wq_w_check := fun _ h => List.mem_append_right _ (List.mem_append_left _ (h))
set_option maxRecDepth 20000 in
theorem wi_w_check : ∀ w ∈ wq_w_check, w ∈ lw_tbl := List.forall_mem_append.mpr ⟨(wix [1190, 873, 859, 1023, 1025, 35, 69, 1110, 1112, 53] rfl), List.forall_mem_append.mpr ⟨inKX9, List.forall_mem_append.mpr ⟨wi_w_has, wi_w_hasNeeds⟩⟩⟩
set_option maxRecDepth 20000 in
theorem wg_w_check : GoodIn wq_w_check wq_w_check := goodIn_sub (fun _ h => h) (by decide +kernel)
set_option maxRecDepth 20000 in
theorem wc_w_check_w_has_150 : GoodIn wq_w_check (wsV RX9 150 RX9 yX9_has wq_w_has) := goodIn_app (goodIn_of _ (by decide +kernel)) (fun w h => ⟨List.mem_append_right _ (List.mem_append_right _ (List.mem_append_left _ (h))), (wg_w_has w h).2⟩)
set_option maxRecDepth 20000 in
theorem wc_w_check_w_hasNeeds_231 : GoodIn wq_w_check (wsV RX9 231 RX9 yX9_hasNeeds wq_w_hasNeeds) := goodIn_app (goodIn_of _ (by decide +kernel)) (fun w h => ⟨List.mem_append_right _ (List.mem_append_right _ (List.mem_append_right _ (h))), (wg_w_hasNeeds w h).2⟩)
def rm_w_check : Room := { frames := 2, cells := 0, slots := 0, locals := 46 }
set_option maxHeartbeats 4000000 in
set_option maxRecDepth 100000 in
theorem c_w_check (l : Launch) (dC : Nat → ClassId) (dI : Nat → Nat → Nat) (h : Nat) (a : Nat → Nat) (k : Nat → ClassId) (F : Nat → Nat → Int32) (V : Nat → Int32) (n b : Nat)  (sz : Nat) (hI0 : InvM n b F V) (hb0 : b + 0 < 2147483648)  : Met l yX9_check wq_w_check rm_w_check (va_Pc [.ref h] (fun U => U.heap.size = sz ∧ va_P (dC, dI) vwCl (mW h a k F V) U.heap ∧ va_K (dC, dI) vwCl (mT k) U ∧ va_D (fun _ => True) (mW h a k F V))) (va_Qi (fun (r : Int32) (u : (Nat → Nat → Int32) × (Nat → Int32)) => u.1 = F ∧ u.2 = V ∧ (r = f_w_check n  F)) (fun (u : (Nat → Nat → Int32) × (Nat → Int32)) (t : State) => va_P (dC, dI) vwCl (mW h a k u.1 u.2) t.heap ∧ va_D (va_A (mW h a k F V) sz) (mW h a k u.1 u.2)) (va_A (mW h a k F V) sz)) 0 0 (va_A (mW h a k F V) sz) := by
  have hn : n ≤ 40 := hI0.1
  have hI : StM n b F V F V := StM.rf hI0
  have hU : ∀ j : Nat, j ∉ ([] : List Nat) → F j = F j := fun _ _ => rfl
  have hV : ∀ j : Nat, j ∉ ([] : List Nat) → V j = V j := fun _ _ => rfl
  refine Met.ofW (cc := cX9_check) (maxL := 5) (ret := (some .int)) (by decide) rfl ?_
  intro p e s m args below meth c s₁ B hml hv
  obtain ⟨rfl, hsz, hP, hK, hD0⟩ := hv
  have hx := B.exec
  have hb := B.bytes
  have hr := B.returns
  have hts := atoms_spec (ws := wq_w_check) B.pre
  have hown : s.vm.findClass RX9 = some m.cls := findClass_of_methodNamed B.named
  have hlocks := B.notSynchronized
  subst hsz
  have hD := hD0.self (sz := s.heap.size)
  generalize hAe : va_A (mW h a k F V) s.heap.size = A at hD ⊢
  have hA : ∀ q : Nat, s.heap.size ≤ q → A q := fun q h => by rw [← hAe]; exact Or.inr h
  have hS : va_S A s.heap s.heap [] := va_S.rf
  have hl := lv_entry ([.ref h]) (n := 5) (Nat.le_of_ble_eq_true rfl)
  rw [lg_entry_eq]
  generalize (lg_sl ([.ref h]) ++ List.replicate (5 - (lg_sl ([.ref h])).length) Slot.unset).toArray = ls at hl ⊢
  have hl : lv_has ls 5 [(0, .ref h)] := hl
  refine mw_Q (fun Q0 hQ => ?_)
  obtain ⟨RES, hR0⟩ : ∃ R9, R9 = f_w_check n  F := ⟨_, rfl⟩
  have hZ9 := hR0
  unfold f_w_check at hZ9
  refine lv_iconst (v := 0) hx hb dX9_check_0 (by decide) ?_
  refine lv_istore_n (lv' := [(1, .int 0), (0, .ref h)]) hx hb dX9_check_1 rfl hl (by decide) rfl (fun ls hl => ?_)
  refine lv_iconst (v := 0) hx hb dX9_check_2 (by decide) ?_
  refine lv_istore_n (lv' := [(2, .int 0), (1, .int 0), (0, .ref h)]) hx hb dX9_check_3 rfl hl (by decide) rfl (fun ls hl => ?_)
  refine lv_iconst (v := 0) hx hb dX9_check_4 (by decide) ?_
  refine lv_istore_n (lv' := [(3, .int 0), (2, .int 0), (1, .int 0), (0, .ref h)]) hx hb dX9_check_5 rfl hl (by decide) rfl (fun ls hl => ?_)
  obtain ⟨K9_6, hK9_6, hZ9⟩ := lp_gen hZ9
  have lp4 : ∀ (fu2 i1 : Nat) (y5 : Int32) (y6 : Int32) (H : Heap) (locs : List Loc) (ls : Array Slot), n < i1 + fu2 → i1 ≤ n → RES = f_w_check_6 n F fu2 i1 y5 y6 K9_6 → va_P (dC, dI) vwCl (mW h a k F V) H → va_D A (mW h a k F V) → va_S A s.heap H locs → lv_has ls 5 [(3, .int (nI i1)), (2, .int y5), (1, .int y6), (0, .ref h)] → W p l e (headSpec wq_w_check rm_w_check).room s m ([.ref h] : List Value).toArray below meth c H locs 0 0 Q0 (F0 m 6 ls []) := by
    intro fu2
    induction fu2 with
    | zero =>
      intro i1 y5 y6 H locs ls hf hi
      exact absurd hf (by omega)
    | succ fu2 ih3 =>
      intro i1 y5 y6 H locs ls hfi1 hii1 hZ9 hP hD hS hl
      rw [f_w_check_6] at hZ9
      refine lv_iload_n hx hb dX9_check_6 rfl (lv_at hl 0 rfl) ?_
      refine lv_aload_n hx hb dX9_check_7 rfl (lv_at hl 3 rfl) ?_
      refine va_get (D := (dC, dI)) (ci := 10) (v := .int (V 21)) (C := RX9) (T := TX9) (N := 46) hx hb hts in_w_check_X9 hown hK hP 0 rfl rfl 21 (by decide) (hts (.fieldLink RX9 126 "ServiceTreeModel" "services" "I") (by decide +kernel)) (fun _ h9 => h9) rfl dX9_check_8 ?_
      refine p1_topr (v := .int (nI n)) (congrArg Value.int hI.1.2.1) ?_
      refine lv_icmp_ge (tgt := 139) hx hb dX9_check_11 (by decide) (fun c7 => ?_) (fun c7 => ?_)
      · replace c7 : n ≤ i1 := (nI_leI (a := n) (b := i1) (by omega) (by omega)).mp c7
        replace hZ9 := ite_t hZ9 c7
        replace hZ9 := lp_app3 hK9_6 hZ9
        refine lv_iload_n hx hb dX9_check_139 rfl (lv_at hl 2 rfl) ?_
        refine lv_if_eq (tgt := 147) hx hb dX9_check_140 (by decide) (fun c8 => ?_) (fun c8 => ?_)
        · replace hZ9 := ite_t hZ9 c8
          refine lv_iconst (v := 0) hx hb dX9_check_147 (by decide) ?_
          refine lv_iload_n hx hb dX9_check_148 rfl (lv_at hl 1 rfl) ?_
          refine lv_if_eq (tgt := 156) hx hb dX9_check_149 (by decide) (fun c9 => ?_) (fun c9 => ?_)
          · replace hZ9 := ite_t hZ9 c9
            refine lv_iconst (v := 0) hx hb dX9_check_156 (by decide) ?_
            refine lv_iadd hx hb dX9_check_157 ?_
            refine p1_topr (v := .int 0) (congrArg Value.int (by decide)) ?_
            rw [hQ]
            exact W.iret (v := 0) hx hb hr (fun t ht hW => ⟨⟨0, (F, V), rfl, ⟨rfl, rfl, hZ9.symm.trans hR0⟩, by rw [ht]; exact hP, hD⟩, hS.F ht⟩) hS.2.2 dX9_check_158
          · replace hZ9 := ite_f hZ9 c9
            refine lv_iconst (v := 1) hx hb dX9_check_152 (by decide) ?_
            refine lv_goto (tgt := 157) hx hb dX9_check_153 (by decide) ?_
            refine lv_iadd hx hb dX9_check_157 ?_
            refine p1_topr (v := .int 1) (congrArg Value.int (by decide)) ?_
            rw [hQ]
            exact W.iret (v := 1) hx hb hr (fun t ht hW => ⟨⟨1, (F, V), rfl, ⟨rfl, rfl, hZ9.symm.trans hR0⟩, by rw [ht]; exact hP, hD⟩, hS.F ht⟩) hS.2.2 dX9_check_158
        · replace hZ9 := ite_f hZ9 c8
          refine lv_iconst (v := 1) hx hb dX9_check_143 (by decide) ?_
          refine lv_goto (tgt := 148) hx hb dX9_check_144 (by decide) ?_
          refine lv_iload_n hx hb dX9_check_148 rfl (lv_at hl 1 rfl) ?_
          refine lv_if_eq (tgt := 156) hx hb dX9_check_149 (by decide) (fun c10 => ?_) (fun c10 => ?_)
          · replace hZ9 := ite_t hZ9 c10
            refine lv_iconst (v := 0) hx hb dX9_check_156 (by decide) ?_
            refine lv_iadd hx hb dX9_check_157 ?_
            refine p1_topr (v := .int 1) (congrArg Value.int (by decide)) ?_
            rw [hQ]
            exact W.iret (v := 1) hx hb hr (fun t ht hW => ⟨⟨1, (F, V), rfl, ⟨rfl, rfl, hZ9.symm.trans hR0⟩, by rw [ht]; exact hP, hD⟩, hS.F ht⟩) hS.2.2 dX9_check_158
          · replace hZ9 := ite_f hZ9 c10
            refine lv_iconst (v := 1) hx hb dX9_check_152 (by decide) ?_
            refine lv_goto (tgt := 157) hx hb dX9_check_153 (by decide) ?_
            refine lv_iadd hx hb dX9_check_157 ?_
            refine p1_topr (v := .int 2) (congrArg Value.int (by decide)) ?_
            rw [hQ]
            exact W.iret (v := 2) hx hb hr (fun t ht hW => ⟨⟨2, (F, V), rfl, ⟨rfl, rfl, hZ9.symm.trans hR0⟩, by rw [ht]; exact hP, hD⟩, hS.F ht⟩) hS.2.2 dX9_check_158
      · replace c7 : ¬ (n ≤ i1) := fun q9 => c7 ((nI_leI (a := n) (b := i1) (by omega) (by omega)).mpr q9)
        replace hZ9 := ite_f hZ9 c7
        refine lv_iload_n hx hb dX9_check_14 rfl (lv_at hl 2 rfl) ?_
        refine lv_if_ne (tgt := 46) hx hb dX9_check_15 (by decide) (fun c11 => ?_) (fun c11 => ?_)
        · replace hZ9 := ite_f hZ9 c11
          refine lv_iconst (v := 1) hx hb dX9_check_46 (by decide) ?_
          refine lv_goto (tgt := 51) hx hb dX9_check_47 (by decide) ?_
          refine lv_istore_n (lv' := [(1, .int 1), (3, .int (nI i1)), (2, .int y5), (0, .ref h)]) hx hb dX9_check_51 rfl hl (by decide) rfl (fun ls hl => ?_)
          refine lv_iconst (v := 0) hx hb dX9_check_52 (by decide) ?_
          refine lv_istore (lv' := [(4, .int 0), (1, .int 1), (3, .int (nI i1)), (2, .int y5), (0, .ref h)]) hx hb dX9_check_53 hl (by decide) rfl (fun ls hl => ?_)
          obtain ⟨K9_55, hK9_55, hZ9⟩ := lp_gen hZ9
          have lp15 : ∀ (fu13 i12 : Nat) (y16 : Int32) (H : Heap) (locs : List Loc) (ls : Array Slot), n < i12 + fu13 → i12 ≤ n → RES = f_w_check_55 n F i1 fu13 i12 y16 K9_55 → va_P (dC, dI) vwCl (mW h a k F V) H → va_D A (mW h a k F V) → va_S A s.heap H locs → lv_has ls 5 [(4, .int (nI i12)), (1, .int 1), (3, .int (nI i1)), (2, .int y16), (0, .ref h)] → W p l e (headSpec wq_w_check rm_w_check).room s m ([.ref h] : List Value).toArray below meth c H locs 0 0 Q0 (F0 m 55 ls []) := by
            intro fu13
            induction fu13 with
            | zero =>
              intro i12 y16 H locs ls hf hi
              exact absurd hf (by omega)
            | succ fu13 ih14 =>
              intro i12 y16 H locs ls hfi12 hii12 hZ9 hP hD hS hl
              rw [f_w_check_55] at hZ9
              refine lv_iload hx hb dX9_check_55 (lv_at hl 0 rfl) ?_
              refine lv_aload_n hx hb dX9_check_57 rfl (lv_at hl 4 rfl) ?_
              refine va_get (D := (dC, dI)) (ci := 10) (v := .int (V 21)) (C := RX9) (T := TX9) (N := 46) hx hb hts in_w_check_X9 hown hK hP 0 rfl rfl 21 (by decide) (hts (.fieldLink RX9 126 "ServiceTreeModel" "services" "I") (by decide +kernel)) (fun _ h9 => h9) rfl dX9_check_58 ?_
              refine p1_topr (v := .int (nI n)) (congrArg Value.int hI.1.2.1) ?_
              refine lv_icmp_ge (tgt := 133) hx hb dX9_check_61 (by decide) (fun c17 => ?_) (fun c17 => ?_)
              · replace c17 : n ≤ i12 := (nI_leI (a := n) (b := i12) (by omega) (by omega)).mp c17
                replace hZ9 := ite_t hZ9 c17
                replace hZ9 := lp_app2 hK9_55 hZ9
                refine lv_iinc (v := nI (i1 + 1)) (lv' := [(3, .int (nI (i1 + 1))), (4, .int (nI i12)), (1, .int 1), (2, .int y16), (0, .ref h)]) hx hb dX9_check_133 hl (k := 2) rfl (nI_add i1 1) (by decide) rfl (fun ls hl => ?_)
                refine lv_goto (tgt := 6) hx hb dX9_check_136 (by decide) ?_
                exact ih3 (i1 + 1) y16 1 _ _ _ (by omega) (by omega)  hZ9 hP hD hS (lv_sub hl [0, 3, 2, 4] rfl)
              · replace c17 : ¬ (n ≤ i12) := fun q9 => c17 ((nI_leI (a := n) (b := i12) (by omega) (by omega)).mpr q9)
                replace hZ9 := ite_f hZ9 c17
                refine lv_iload_n hx hb dX9_check_64 rfl (lv_at hl 3 rfl) ?_
                refine lv_if_ne (tgt := 121) hx hb dX9_check_65 (by decide) (fun c18 => ?_) (fun c18 => ?_)
                · replace hZ9 := ite_f hZ9 c18
                  refine lv_iconst (v := 1) hx hb dX9_check_121 (by decide) ?_
                  refine lv_goto (tgt := 126) hx hb dX9_check_122 (by decide) ?_
                  refine lv_istore_n (lv' := [(2, .int 1), (4, .int (nI i12)), (1, .int 1), (3, .int (nI i1)), (0, .ref h)]) hx hb dX9_check_126 rfl hl (by decide) rfl (fun ls hl => ?_)
                  refine lv_iinc (v := nI (i12 + 1)) (lv' := [(4, .int (nI (i12 + 1))), (2, .int 1), (1, .int 1), (3, .int (nI i1)), (0, .ref h)]) hx hb dX9_check_127 hl (k := 1) rfl (nI_add i12 1) (by decide) rfl (fun ls hl => ?_)
                  refine lv_goto (tgt := 55) hx hb dX9_check_130 (by decide) ?_
                  exact ih14 (i12 + 1) 1 _ _ _ (by omega) (by omega)  hZ9 hP hD hS (lv_sub hl [0, 2, 3, 1, 4] rfl)
                · replace hZ9 := ite_t hZ9 c18
                  refine lv_aload_n hx hb dX9_check_68 rfl (lv_at hl 4 rfl) ?_
                  refine lv_iconst (v := 3) hx hb dX9_check_69 (by decide) ?_
                  refine lv_iload_n hx hb dX9_check_70 rfl (lv_at hl 2 rfl) ?_
                  refine lv_iload hx hb dX9_check_71 (lv_at hl 0 rfl) ?_
                  have hFc := mw_free hD hS hA
                  refine va_calli (va_runV (As := [.int 3, .int (nI i1), .int (nI i12)]) (rest := []) ⟨hx, hb, hml, hown, hts⟩ (c_w_has l dC dI h a k F V n (b) 3 i1 i12 H.size hI.1 (by omega) (by omega) (by omega) (by omega)) (cwV 3 hts wc_w_check_w_has_150 rfl rfl rfl (by decide +kernel) ⟨Nat.le_of_ble_eq_true rfl, Nat.le_of_ble_eq_true rfl⟩) ⟨fun a9 U g mk q => by obtain ⟨q0, q1, qP, qK, qD⟩ := q; exact ⟨q0, q1, qP, va_K.moved (u := U) (U := U.calling g mk a9) (Vm.Alike.refl U.vm) qK, qD⟩, va_recv hK hP (ci := 10) (q0 := 0) rfl rfl, fun U hU hW => ⟨rfl, by rw [hU], by rw [hU]; exact hP, va_K.moved hW.alike hK, hD.weaken (fun _ _ _ _ => trivial)⟩⟩ rfl rfl hl.1 rfl (lv_room (Nat.le_of_ble_eq_true rfl)) dX9_check_73 ⟨Nat.le_of_ble_eq_true rfl, Nat.le_of_ble_eq_true rfl⟩) hS (fun q _ h => hFc q h) hFc (fun r19 u t H1 locs ht hvm hw hB hz1 hk1 hS => ?_)
                  obtain ⟨F20, V21⟩ := u
                  replace hP := hB.1
                  rw [ht] at hP
                  replace hD : va_D A (mW h a k F20 V21) := hB.2.weaken (fun _ q _ h9 => hFc q.1 h9)
                  clear hB
                  generalize H1 = H at hP hS ⊢
                  replace hP : va_P (dC, dI) vwCl (mW h a k F20 V21) H := hP
                  obtain ⟨hwF, hwV, hw⟩ : F20 = F ∧ V21 = V ∧ _ := hw
                  rw [hwF, hwV] at hP hD
                  obtain ⟨hw, hwe⟩ := hw
                  replace hw : r19 = f_w_has n 3 i1 i12 F := hw
                  replace hZ9 := bnd_s hZ9 hw
                  have br19 := hwe
                  refine lv_if_eq (tgt := 125) hx hb dX9_check_76 (by decide) (fun c22 => ?_) (fun c22 => ?_)
                  · replace hZ9 := ite_t hZ9 c22
                    refine lv_iconst (v := 0) hx hb dX9_check_125 (by decide) ?_
                    refine lv_istore_n (lv' := [(2, .int 0), (4, .int (nI i12)), (1, .int 1), (3, .int (nI i1)), (0, .ref h)]) hx hb dX9_check_126 rfl hl (by decide) rfl (fun ls hl => ?_)
                    refine lv_iinc (v := nI (i12 + 1)) (lv' := [(4, .int (nI (i12 + 1))), (2, .int 0), (1, .int 1), (3, .int (nI i1)), (0, .ref h)]) hx hb dX9_check_127 hl (k := 1) rfl (nI_add i12 1) (by decide) rfl (fun ls hl => ?_)
                    refine lv_goto (tgt := 55) hx hb dX9_check_130 (by decide) ?_
                    exact ih14 (i12 + 1) 0 _ _ _ (by omega) (by omega)  hZ9 hP hD hS (lv_sub hl [0, 2, 3, 1, 4] rfl)
                  · replace hZ9 := ite_f hZ9 c22
                    refine lv_aload_n hx hb dX9_check_79 rfl (lv_at hl 4 rfl) ?_
                    refine va_get (D := (dC, dI)) (ci := 10) (v := .ref (a 7)) (C := RX9) (T := TX9) (N := 46) hx hb hts in_w_check_X9 hown hK hP 0 rfl rfl 7 (by decide) (hts (.fieldLink RX9 31 "ServiceTreeModel" "state" "[I") (by decide +kernel)) (fun _ h9 => h9) rfl dX9_check_80 ?_
                    refine lv_iload_n hx hb dX9_check_83 rfl (lv_at hl 2 rfl) ?_
                    refine va_iald (n := 40) (f := F 7) hx hb hK hP 8 7 rfl rfl (vp_in_nI (n := i1) (by omega) (by decide)) dX9_check_84 ?_
                    refine lv_topi (fun x23 ex23 => ?_)
                    replace hZ9 := bnd_s hZ9 ex23
                    refine lv_iconst (v := 1) hx hb dX9_check_85 (by decide) ?_
                    refine lv_icmp_lt (tgt := 125) hx hb dX9_check_86 (by decide) (fun c24 => ?_) (fun c24 => ?_)
                    · replace hZ9 := ite_t hZ9 c24
                      refine lv_iconst (v := 0) hx hb dX9_check_125 (by decide) ?_
                      refine lv_istore_n (lv' := [(2, .int 0), (4, .int (nI i12)), (1, .int 1), (3, .int (nI i1)), (0, .ref h)]) hx hb dX9_check_126 rfl hl (by decide) rfl (fun ls hl => ?_)
                      refine lv_iinc (v := nI (i12 + 1)) (lv' := [(4, .int (nI (i12 + 1))), (2, .int 0), (1, .int 1), (3, .int (nI i1)), (0, .ref h)]) hx hb dX9_check_127 hl (k := 1) rfl (nI_add i12 1) (by decide) rfl (fun ls hl => ?_)
                      refine lv_goto (tgt := 55) hx hb dX9_check_130 (by decide) ?_
                      exact ih14 (i12 + 1) 0 _ _ _ (by omega) (by omega)  hZ9 hP hD hS (lv_sub hl [0, 2, 3, 1, 4] rfl)
                    · replace hZ9 := ite_f hZ9 c24
                      refine lv_aload_n hx hb dX9_check_89 rfl (lv_at hl 4 rfl) ?_
                      refine va_get (D := (dC, dI)) (ci := 10) (v := .ref (a 7)) (C := RX9) (T := TX9) (N := 46) hx hb hts in_w_check_X9 hown hK hP 0 rfl rfl 7 (by decide) (hts (.fieldLink RX9 31 "ServiceTreeModel" "state" "[I") (by decide +kernel)) (fun _ h9 => h9) rfl dX9_check_90 ?_
                      refine lv_iload_n hx hb dX9_check_93 rfl (lv_at hl 2 rfl) ?_
                      refine va_iald (n := 40) (f := F 7) hx hb hK hP 8 7 rfl rfl (vp_in_nI (n := i1) (by omega) (by decide)) dX9_check_94 ?_
                      refine p1_topr (v := .int x23) (congrArg Value.int ex23.symm) ?_
                      refine lv_iconst (v := 3) hx hb dX9_check_95 (by decide) ?_
                      refine lv_icmp_gt (tgt := 125) hx hb dX9_check_96 (by decide) (fun c26 => ?_) (fun c26 => ?_)
                      · replace hZ9 := ite_t hZ9 c26
                        refine lv_iconst (v := 0) hx hb dX9_check_125 (by decide) ?_
                        refine lv_istore_n (lv' := [(2, .int 0), (4, .int (nI i12)), (1, .int 1), (3, .int (nI i1)), (0, .ref h)]) hx hb dX9_check_126 rfl hl (by decide) rfl (fun ls hl => ?_)
                        refine lv_iinc (v := nI (i12 + 1)) (lv' := [(4, .int (nI (i12 + 1))), (2, .int 0), (1, .int 1), (3, .int (nI i1)), (0, .ref h)]) hx hb dX9_check_127 hl (k := 1) rfl (nI_add i12 1) (by decide) rfl (fun ls hl => ?_)
                        refine lv_goto (tgt := 55) hx hb dX9_check_130 (by decide) ?_
                        exact ih14 (i12 + 1) 0 _ _ _ (by omega) (by omega)  hZ9 hP hD hS (lv_sub hl [0, 2, 3, 1, 4] rfl)
                      · replace hZ9 := ite_f hZ9 c26
                        refine lv_aload_n hx hb dX9_check_99 rfl (lv_at hl 4 rfl) ?_
                        refine va_get (D := (dC, dI)) (ci := 10) (v := .ref (a 7)) (C := RX9) (T := TX9) (N := 46) hx hb hts in_w_check_X9 hown hK hP 0 rfl rfl 7 (by decide) (hts (.fieldLink RX9 31 "ServiceTreeModel" "state" "[I") (by decide +kernel)) (fun _ h9 => h9) rfl dX9_check_100 ?_
                        refine lv_iload hx hb dX9_check_103 (lv_at hl 0 rfl) ?_
                        refine va_iald (n := 40) (f := F 7) hx hb hK hP 8 7 rfl rfl (vp_in_nI (n := i12) (by omega) (by decide)) dX9_check_105 ?_
                        refine lv_topi (fun x27 ex27 => ?_)
                        replace hZ9 := bnd_s hZ9 ex27
                        refine lv_iconst (v := 1) hx hb dX9_check_106 (by decide) ?_
                        refine lv_icmp_lt (tgt := 125) hx hb dX9_check_107 (by decide) (fun c28 => ?_) (fun c28 => ?_)
                        · replace hZ9 := ite_t hZ9 c28
                          refine lv_iconst (v := 0) hx hb dX9_check_125 (by decide) ?_
                          refine lv_istore_n (lv' := [(2, .int 0), (4, .int (nI i12)), (1, .int 1), (3, .int (nI i1)), (0, .ref h)]) hx hb dX9_check_126 rfl hl (by decide) rfl (fun ls hl => ?_)
                          refine lv_iinc (v := nI (i12 + 1)) (lv' := [(4, .int (nI (i12 + 1))), (2, .int 0), (1, .int 1), (3, .int (nI i1)), (0, .ref h)]) hx hb dX9_check_127 hl (k := 1) rfl (nI_add i12 1) (by decide) rfl (fun ls hl => ?_)
                          refine lv_goto (tgt := 55) hx hb dX9_check_130 (by decide) ?_
                          exact ih14 (i12 + 1) 0 _ _ _ (by omega) (by omega)  hZ9 hP hD hS (lv_sub hl [0, 2, 3, 1, 4] rfl)
                        · replace hZ9 := ite_f hZ9 c28
                          refine lv_aload_n hx hb dX9_check_110 rfl (lv_at hl 4 rfl) ?_
                          refine va_get (D := (dC, dI)) (ci := 10) (v := .ref (a 7)) (C := RX9) (T := TX9) (N := 46) hx hb hts in_w_check_X9 hown hK hP 0 rfl rfl 7 (by decide) (hts (.fieldLink RX9 31 "ServiceTreeModel" "state" "[I") (by decide +kernel)) (fun _ h9 => h9) rfl dX9_check_111 ?_
                          refine lv_iload hx hb dX9_check_114 (lv_at hl 0 rfl) ?_
                          refine va_iald (n := 40) (f := F 7) hx hb hK hP 8 7 rfl rfl (vp_in_nI (n := i12) (by omega) (by decide)) dX9_check_116 ?_
                          refine p1_topr (v := .int x27) (congrArg Value.int ex27.symm) ?_
                          refine lv_iconst (v := 3) hx hb dX9_check_117 (by decide) ?_
                          refine lv_icmp_gt (tgt := 125) hx hb dX9_check_118 (by decide) (fun c30 => ?_) (fun c30 => ?_)
                          · replace hZ9 := ite_t hZ9 c30
                            refine lv_iconst (v := 0) hx hb dX9_check_125 (by decide) ?_
                            refine lv_istore_n (lv' := [(2, .int 0), (4, .int (nI i12)), (1, .int 1), (3, .int (nI i1)), (0, .ref h)]) hx hb dX9_check_126 rfl hl (by decide) rfl (fun ls hl => ?_)
                            refine lv_iinc (v := nI (i12 + 1)) (lv' := [(4, .int (nI (i12 + 1))), (2, .int 0), (1, .int 1), (3, .int (nI i1)), (0, .ref h)]) hx hb dX9_check_127 hl (k := 1) rfl (nI_add i12 1) (by decide) rfl (fun ls hl => ?_)
                            refine lv_goto (tgt := 55) hx hb dX9_check_130 (by decide) ?_
                            exact ih14 (i12 + 1) 0 _ _ _ (by omega) (by omega)  hZ9 hP hD hS (lv_sub hl [0, 2, 3, 1, 4] rfl)
                          · replace hZ9 := ite_f hZ9 c30
                            refine lv_iconst (v := 1) hx hb dX9_check_121 (by decide) ?_
                            refine lv_goto (tgt := 126) hx hb dX9_check_122 (by decide) ?_
                            refine lv_istore_n (lv' := [(2, .int 1), (4, .int (nI i12)), (1, .int 1), (3, .int (nI i1)), (0, .ref h)]) hx hb dX9_check_126 rfl hl (by decide) rfl (fun ls hl => ?_)
                            refine lv_iinc (v := nI (i12 + 1)) (lv' := [(4, .int (nI (i12 + 1))), (2, .int 1), (1, .int 1), (3, .int (nI i1)), (0, .ref h)]) hx hb dX9_check_127 hl (k := 1) rfl (nI_add i12 1) (by decide) rfl (fun ls hl => ?_)
                            refine lv_goto (tgt := 55) hx hb dX9_check_130 (by decide) ?_
                            exact ih14 (i12 + 1) 1 _ _ _ (by omega) (by omega)  hZ9 hP hD hS (lv_sub hl [0, 2, 3, 1, 4] rfl)
          exact lp15 (n + 1) 0 y5 _ _ _ (by omega) (by omega)  hZ9 hP hD hS hl
        · replace hZ9 := ite_t hZ9 c11
          refine lv_aload_n hx hb dX9_check_18 rfl (lv_at hl 3 rfl) ?_
          refine va_get (D := (dC, dI)) (ci := 10) (v := .ref (a 7)) (C := RX9) (T := TX9) (N := 46) hx hb hts in_w_check_X9 hown hK hP 0 rfl rfl 7 (by decide) (hts (.fieldLink RX9 31 "ServiceTreeModel" "state" "[I") (by decide +kernel)) (fun _ h9 => h9) rfl dX9_check_19 ?_
          refine lv_iload_n hx hb dX9_check_22 rfl (lv_at hl 0 rfl) ?_
          refine va_iald (n := 40) (f := F 7) hx hb hK hP 8 7 rfl rfl (vp_in_nI (n := i1) (by omega) (by decide)) dX9_check_23 ?_
          refine lv_topi (fun x31 ex31 => ?_)
          replace hZ9 := bnd_s hZ9 ex31
          refine lv_iconst (v := 1) hx hb dX9_check_24 (by decide) ?_
          refine lv_icmp_eq (tgt := 38) hx hb dX9_check_25 (by decide) (fun c32 => ?_) (fun c32 => ?_)
          · replace hZ9 := ite_t hZ9 c32
            refine lv_aload_n hx hb dX9_check_38 rfl (lv_at hl 3 rfl) ?_
            refine lv_iload_n hx hb dX9_check_39 rfl (lv_at hl 0 rfl) ?_
            have hFc := mw_free hD hS hA
            refine va_calli (va_runV (As := [.int (nI i1)]) (rest := []) ⟨hx, hb, hml, hown, hts⟩ (c_w_hasNeeds l dC dI h a k F V n (b) i1 H.size hI.1 (by omega) (by omega)) (cwV 1 hts wc_w_check_w_hasNeeds_231 rfl rfl rfl (by decide +kernel) ⟨Nat.le_of_ble_eq_true rfl, Nat.le_of_ble_eq_true rfl⟩) ⟨fun a9 U g mk q => by obtain ⟨q0, q1, qP, qK, qD⟩ := q; exact ⟨q0, q1, qP, va_K.moved (u := U) (U := U.calling g mk a9) (Vm.Alike.refl U.vm) qK, qD⟩, va_recv hK hP (ci := 10) (q0 := 0) rfl rfl, fun U hU hW => ⟨rfl, by rw [hU], by rw [hU]; exact hP, va_K.moved hW.alike hK, hD.weaken (fun _ _ _ _ => trivial)⟩⟩ rfl rfl hl.1 rfl (lv_room (Nat.le_of_ble_eq_true rfl)) dX9_check_40 ⟨Nat.le_of_ble_eq_true rfl, Nat.le_of_ble_eq_true rfl⟩) hS (fun q _ h => hFc q h) hFc (fun r33 u t H1 locs ht hvm hw hB hz1 hk1 hS => ?_)
            obtain ⟨F34, V35⟩ := u
            replace hP := hB.1
            rw [ht] at hP
            replace hD : va_D A (mW h a k F34 V35) := hB.2.weaken (fun _ q _ h9 => hFc q.1 h9)
            clear hB
            generalize H1 = H at hP hS ⊢
            replace hP : va_P (dC, dI) vwCl (mW h a k F34 V35) H := hP
            obtain ⟨hwF, hwV, hw⟩ : F34 = F ∧ V35 = V ∧ _ := hw
            rw [hwF, hwV] at hP hD
            obtain ⟨hw, hwe⟩ := hw
            replace hw : r33 = f_w_hasNeeds n i1 F := hw
            replace hZ9 := bnd_s hZ9 hw
            have br33 := hwe
            refine lv_if_ne (tgt := 50) hx hb dX9_check_43 (by decide) (fun c36 => ?_) (fun c36 => ?_)
            · replace hZ9 := ite_f hZ9 c36
              refine lv_iconst (v := 0) hx hb dX9_check_50 (by decide) ?_
              refine lv_istore_n (lv' := [(1, .int 0), (3, .int (nI i1)), (2, .int y5), (0, .ref h)]) hx hb dX9_check_51 rfl hl (by decide) rfl (fun ls hl => ?_)
              refine lv_iconst (v := 0) hx hb dX9_check_52 (by decide) ?_
              refine lv_istore (lv' := [(4, .int 0), (1, .int 0), (3, .int (nI i1)), (2, .int y5), (0, .ref h)]) hx hb dX9_check_53 hl (by decide) rfl (fun ls hl => ?_)
              obtain ⟨K9_55, hK9_55, hZ9⟩ := lp_gen hZ9
              have lp40 : ∀ (fu38 i37 : Nat) (y41 : Int32) (H : Heap) (locs : List Loc) (ls : Array Slot), n < i37 + fu38 → i37 ≤ n → RES = f_w_check_55q1 n F i1 x31 fu38 i37 y41 K9_55 → va_P (dC, dI) vwCl (mW h a k F V) H → va_D A (mW h a k F V) → va_S A s.heap H locs → lv_has ls 5 [(4, .int (nI i37)), (1, .int 0), (3, .int (nI i1)), (2, .int y41), (0, .ref h)] → W p l e (headSpec wq_w_check rm_w_check).room s m ([.ref h] : List Value).toArray below meth c H locs 0 0 Q0 (F0 m 55 ls []) := by
                intro fu38
                induction fu38 with
                | zero =>
                  intro i37 y41 H locs ls hf hi
                  exact absurd hf (by omega)
                | succ fu38 ih39 =>
                  intro i37 y41 H locs ls hfi37 hii37 hZ9 hP hD hS hl
                  rw [f_w_check_55q1] at hZ9
                  refine lv_iload hx hb dX9_check_55 (lv_at hl 0 rfl) ?_
                  refine lv_aload_n hx hb dX9_check_57 rfl (lv_at hl 4 rfl) ?_
                  refine va_get (D := (dC, dI)) (ci := 10) (v := .int (V 21)) (C := RX9) (T := TX9) (N := 46) hx hb hts in_w_check_X9 hown hK hP 0 rfl rfl 21 (by decide) (hts (.fieldLink RX9 126 "ServiceTreeModel" "services" "I") (by decide +kernel)) (fun _ h9 => h9) rfl dX9_check_58 ?_
                  refine p1_topr (v := .int (nI n)) (congrArg Value.int hI.1.2.1) ?_
                  refine lv_icmp_ge (tgt := 133) hx hb dX9_check_61 (by decide) (fun c42 => ?_) (fun c42 => ?_)
                  · replace c42 : n ≤ i37 := (nI_leI (a := n) (b := i37) (by omega) (by omega)).mp c42
                    replace hZ9 := ite_t hZ9 c42
                    replace hZ9 := lp_app2 hK9_55 hZ9
                    refine lv_iinc (v := nI (i1 + 1)) (lv' := [(3, .int (nI (i1 + 1))), (4, .int (nI i37)), (1, .int 0), (2, .int y41), (0, .ref h)]) hx hb dX9_check_133 hl (k := 2) rfl (nI_add i1 1) (by decide) rfl (fun ls hl => ?_)
                    refine lv_goto (tgt := 6) hx hb dX9_check_136 (by decide) ?_
                    exact ih3 (i1 + 1) y41 0 _ _ _ (by omega) (by omega)  hZ9 hP hD hS (lv_sub hl [0, 3, 2, 4] rfl)
                  · replace c42 : ¬ (n ≤ i37) := fun q9 => c42 ((nI_leI (a := n) (b := i37) (by omega) (by omega)).mpr q9)
                    replace hZ9 := ite_f hZ9 c42
                    refine lv_iload_n hx hb dX9_check_64 rfl (lv_at hl 3 rfl) ?_
                    refine lv_if_ne (tgt := 121) hx hb dX9_check_65 (by decide) (fun c43 => ?_) (fun c43 => ?_)
                    · replace hZ9 := ite_f hZ9 c43
                      refine lv_iconst (v := 1) hx hb dX9_check_121 (by decide) ?_
                      refine lv_goto (tgt := 126) hx hb dX9_check_122 (by decide) ?_
                      refine lv_istore_n (lv' := [(2, .int 1), (4, .int (nI i37)), (1, .int 0), (3, .int (nI i1)), (0, .ref h)]) hx hb dX9_check_126 rfl hl (by decide) rfl (fun ls hl => ?_)
                      refine lv_iinc (v := nI (i37 + 1)) (lv' := [(4, .int (nI (i37 + 1))), (2, .int 1), (1, .int 0), (3, .int (nI i1)), (0, .ref h)]) hx hb dX9_check_127 hl (k := 1) rfl (nI_add i37 1) (by decide) rfl (fun ls hl => ?_)
                      refine lv_goto (tgt := 55) hx hb dX9_check_130 (by decide) ?_
                      exact ih39 (i37 + 1) 1 _ _ _ (by omega) (by omega)  hZ9 hP hD hS (lv_sub hl [0, 2, 3, 1, 4] rfl)
                    · replace hZ9 := ite_t hZ9 c43
                      refine lv_aload_n hx hb dX9_check_68 rfl (lv_at hl 4 rfl) ?_
                      refine lv_iconst (v := 3) hx hb dX9_check_69 (by decide) ?_
                      refine lv_iload_n hx hb dX9_check_70 rfl (lv_at hl 2 rfl) ?_
                      refine lv_iload hx hb dX9_check_71 (lv_at hl 0 rfl) ?_
                      have hFc := mw_free hD hS hA
                      refine va_calli (va_runV (As := [.int 3, .int (nI i1), .int (nI i37)]) (rest := []) ⟨hx, hb, hml, hown, hts⟩ (c_w_has l dC dI h a k F V n (b) 3 i1 i37 H.size hI.1 (by omega) (by omega) (by omega) (by omega)) (cwV 3 hts wc_w_check_w_has_150 rfl rfl rfl (by decide +kernel) ⟨Nat.le_of_ble_eq_true rfl, Nat.le_of_ble_eq_true rfl⟩) ⟨fun a9 U g mk q => by obtain ⟨q0, q1, qP, qK, qD⟩ := q; exact ⟨q0, q1, qP, va_K.moved (u := U) (U := U.calling g mk a9) (Vm.Alike.refl U.vm) qK, qD⟩, va_recv hK hP (ci := 10) (q0 := 0) rfl rfl, fun U hU hW => ⟨rfl, by rw [hU], by rw [hU]; exact hP, va_K.moved hW.alike hK, hD.weaken (fun _ _ _ _ => trivial)⟩⟩ rfl rfl hl.1 rfl (lv_room (Nat.le_of_ble_eq_true rfl)) dX9_check_73 ⟨Nat.le_of_ble_eq_true rfl, Nat.le_of_ble_eq_true rfl⟩) hS (fun q _ h => hFc q h) hFc (fun r44 u t H1 locs ht hvm hw hB hz1 hk1 hS => ?_)
                      obtain ⟨F45, V46⟩ := u
                      replace hP := hB.1
                      rw [ht] at hP
                      replace hD : va_D A (mW h a k F45 V46) := hB.2.weaken (fun _ q _ h9 => hFc q.1 h9)
                      clear hB
                      generalize H1 = H at hP hS ⊢
                      replace hP : va_P (dC, dI) vwCl (mW h a k F45 V46) H := hP
                      obtain ⟨hwF, hwV, hw⟩ : F45 = F ∧ V46 = V ∧ _ := hw
                      rw [hwF, hwV] at hP hD
                      obtain ⟨hw, hwe⟩ := hw
                      replace hw : r44 = f_w_has n 3 i1 i37 F := hw
                      replace hZ9 := bnd_s hZ9 hw
                      have br44 := hwe
                      refine lv_if_eq (tgt := 125) hx hb dX9_check_76 (by decide) (fun c47 => ?_) (fun c47 => ?_)
                      · replace hZ9 := ite_t hZ9 c47
                        refine lv_iconst (v := 0) hx hb dX9_check_125 (by decide) ?_
                        refine lv_istore_n (lv' := [(2, .int 0), (4, .int (nI i37)), (1, .int 0), (3, .int (nI i1)), (0, .ref h)]) hx hb dX9_check_126 rfl hl (by decide) rfl (fun ls hl => ?_)
                        refine lv_iinc (v := nI (i37 + 1)) (lv' := [(4, .int (nI (i37 + 1))), (2, .int 0), (1, .int 0), (3, .int (nI i1)), (0, .ref h)]) hx hb dX9_check_127 hl (k := 1) rfl (nI_add i37 1) (by decide) rfl (fun ls hl => ?_)
                        refine lv_goto (tgt := 55) hx hb dX9_check_130 (by decide) ?_
                        exact ih39 (i37 + 1) 0 _ _ _ (by omega) (by omega)  hZ9 hP hD hS (lv_sub hl [0, 2, 3, 1, 4] rfl)
                      · replace hZ9 := ite_f hZ9 c47
                        refine lv_aload_n hx hb dX9_check_79 rfl (lv_at hl 4 rfl) ?_
                        refine va_get (D := (dC, dI)) (ci := 10) (v := .ref (a 7)) (C := RX9) (T := TX9) (N := 46) hx hb hts in_w_check_X9 hown hK hP 0 rfl rfl 7 (by decide) (hts (.fieldLink RX9 31 "ServiceTreeModel" "state" "[I") (by decide +kernel)) (fun _ h9 => h9) rfl dX9_check_80 ?_
                        refine lv_iload_n hx hb dX9_check_83 rfl (lv_at hl 2 rfl) ?_
                        refine va_iald (n := 40) (f := F 7) hx hb hK hP 8 7 rfl rfl (vp_in_nI (n := i1) (by omega) (by decide)) dX9_check_84 ?_
                        refine p1_topr (v := .int x31) (congrArg Value.int ex31.symm) ?_
                        refine lv_iconst (v := 1) hx hb dX9_check_85 (by decide) ?_
                        refine lv_icmp_lt (tgt := 125) hx hb dX9_check_86 (by decide) (fun c49 => ?_) (fun c49 => ?_)
                        · replace hZ9 := ite_t hZ9 c49
                          refine lv_iconst (v := 0) hx hb dX9_check_125 (by decide) ?_
                          refine lv_istore_n (lv' := [(2, .int 0), (4, .int (nI i37)), (1, .int 0), (3, .int (nI i1)), (0, .ref h)]) hx hb dX9_check_126 rfl hl (by decide) rfl (fun ls hl => ?_)
                          refine lv_iinc (v := nI (i37 + 1)) (lv' := [(4, .int (nI (i37 + 1))), (2, .int 0), (1, .int 0), (3, .int (nI i1)), (0, .ref h)]) hx hb dX9_check_127 hl (k := 1) rfl (nI_add i37 1) (by decide) rfl (fun ls hl => ?_)
                          refine lv_goto (tgt := 55) hx hb dX9_check_130 (by decide) ?_
                          exact ih39 (i37 + 1) 0 _ _ _ (by omega) (by omega)  hZ9 hP hD hS (lv_sub hl [0, 2, 3, 1, 4] rfl)
                        · replace hZ9 := ite_f hZ9 c49
                          refine lv_aload_n hx hb dX9_check_89 rfl (lv_at hl 4 rfl) ?_
                          refine va_get (D := (dC, dI)) (ci := 10) (v := .ref (a 7)) (C := RX9) (T := TX9) (N := 46) hx hb hts in_w_check_X9 hown hK hP 0 rfl rfl 7 (by decide) (hts (.fieldLink RX9 31 "ServiceTreeModel" "state" "[I") (by decide +kernel)) (fun _ h9 => h9) rfl dX9_check_90 ?_
                          refine lv_iload_n hx hb dX9_check_93 rfl (lv_at hl 2 rfl) ?_
                          refine va_iald (n := 40) (f := F 7) hx hb hK hP 8 7 rfl rfl (vp_in_nI (n := i1) (by omega) (by decide)) dX9_check_94 ?_
                          refine p1_topr (v := .int x31) (congrArg Value.int ex31.symm) ?_
                          refine lv_iconst (v := 3) hx hb dX9_check_95 (by decide) ?_
                          refine lv_icmp_gt (tgt := 125) hx hb dX9_check_96 (by decide) (fun c51 => ?_) (fun c51 => ?_)
                          · replace hZ9 := ite_t hZ9 c51
                            refine lv_iconst (v := 0) hx hb dX9_check_125 (by decide) ?_
                            refine lv_istore_n (lv' := [(2, .int 0), (4, .int (nI i37)), (1, .int 0), (3, .int (nI i1)), (0, .ref h)]) hx hb dX9_check_126 rfl hl (by decide) rfl (fun ls hl => ?_)
                            refine lv_iinc (v := nI (i37 + 1)) (lv' := [(4, .int (nI (i37 + 1))), (2, .int 0), (1, .int 0), (3, .int (nI i1)), (0, .ref h)]) hx hb dX9_check_127 hl (k := 1) rfl (nI_add i37 1) (by decide) rfl (fun ls hl => ?_)
                            refine lv_goto (tgt := 55) hx hb dX9_check_130 (by decide) ?_
                            exact ih39 (i37 + 1) 0 _ _ _ (by omega) (by omega)  hZ9 hP hD hS (lv_sub hl [0, 2, 3, 1, 4] rfl)
                          · replace hZ9 := ite_f hZ9 c51
                            refine lv_aload_n hx hb dX9_check_99 rfl (lv_at hl 4 rfl) ?_
                            refine va_get (D := (dC, dI)) (ci := 10) (v := .ref (a 7)) (C := RX9) (T := TX9) (N := 46) hx hb hts in_w_check_X9 hown hK hP 0 rfl rfl 7 (by decide) (hts (.fieldLink RX9 31 "ServiceTreeModel" "state" "[I") (by decide +kernel)) (fun _ h9 => h9) rfl dX9_check_100 ?_
                            refine lv_iload hx hb dX9_check_103 (lv_at hl 0 rfl) ?_
                            refine va_iald (n := 40) (f := F 7) hx hb hK hP 8 7 rfl rfl (vp_in_nI (n := i37) (by omega) (by decide)) dX9_check_105 ?_
                            refine lv_topi (fun x52 ex52 => ?_)
                            replace hZ9 := bnd_s hZ9 ex52
                            refine lv_iconst (v := 1) hx hb dX9_check_106 (by decide) ?_
                            refine lv_icmp_lt (tgt := 125) hx hb dX9_check_107 (by decide) (fun c53 => ?_) (fun c53 => ?_)
                            · replace hZ9 := ite_t hZ9 c53
                              refine lv_iconst (v := 0) hx hb dX9_check_125 (by decide) ?_
                              refine lv_istore_n (lv' := [(2, .int 0), (4, .int (nI i37)), (1, .int 0), (3, .int (nI i1)), (0, .ref h)]) hx hb dX9_check_126 rfl hl (by decide) rfl (fun ls hl => ?_)
                              refine lv_iinc (v := nI (i37 + 1)) (lv' := [(4, .int (nI (i37 + 1))), (2, .int 0), (1, .int 0), (3, .int (nI i1)), (0, .ref h)]) hx hb dX9_check_127 hl (k := 1) rfl (nI_add i37 1) (by decide) rfl (fun ls hl => ?_)
                              refine lv_goto (tgt := 55) hx hb dX9_check_130 (by decide) ?_
                              exact ih39 (i37 + 1) 0 _ _ _ (by omega) (by omega)  hZ9 hP hD hS (lv_sub hl [0, 2, 3, 1, 4] rfl)
                            · replace hZ9 := ite_f hZ9 c53
                              refine lv_aload_n hx hb dX9_check_110 rfl (lv_at hl 4 rfl) ?_
                              refine va_get (D := (dC, dI)) (ci := 10) (v := .ref (a 7)) (C := RX9) (T := TX9) (N := 46) hx hb hts in_w_check_X9 hown hK hP 0 rfl rfl 7 (by decide) (hts (.fieldLink RX9 31 "ServiceTreeModel" "state" "[I") (by decide +kernel)) (fun _ h9 => h9) rfl dX9_check_111 ?_
                              refine lv_iload hx hb dX9_check_114 (lv_at hl 0 rfl) ?_
                              refine va_iald (n := 40) (f := F 7) hx hb hK hP 8 7 rfl rfl (vp_in_nI (n := i37) (by omega) (by decide)) dX9_check_116 ?_
                              refine p1_topr (v := .int x52) (congrArg Value.int ex52.symm) ?_
                              refine lv_iconst (v := 3) hx hb dX9_check_117 (by decide) ?_
                              refine lv_icmp_gt (tgt := 125) hx hb dX9_check_118 (by decide) (fun c55 => ?_) (fun c55 => ?_)
                              · replace hZ9 := ite_t hZ9 c55
                                refine lv_iconst (v := 0) hx hb dX9_check_125 (by decide) ?_
                                refine lv_istore_n (lv' := [(2, .int 0), (4, .int (nI i37)), (1, .int 0), (3, .int (nI i1)), (0, .ref h)]) hx hb dX9_check_126 rfl hl (by decide) rfl (fun ls hl => ?_)
                                refine lv_iinc (v := nI (i37 + 1)) (lv' := [(4, .int (nI (i37 + 1))), (2, .int 0), (1, .int 0), (3, .int (nI i1)), (0, .ref h)]) hx hb dX9_check_127 hl (k := 1) rfl (nI_add i37 1) (by decide) rfl (fun ls hl => ?_)
                                refine lv_goto (tgt := 55) hx hb dX9_check_130 (by decide) ?_
                                exact ih39 (i37 + 1) 0 _ _ _ (by omega) (by omega)  hZ9 hP hD hS (lv_sub hl [0, 2, 3, 1, 4] rfl)
                              · replace hZ9 := ite_f hZ9 c55
                                refine lv_iconst (v := 1) hx hb dX9_check_121 (by decide) ?_
                                refine lv_goto (tgt := 126) hx hb dX9_check_122 (by decide) ?_
                                refine lv_istore_n (lv' := [(2, .int 1), (4, .int (nI i37)), (1, .int 0), (3, .int (nI i1)), (0, .ref h)]) hx hb dX9_check_126 rfl hl (by decide) rfl (fun ls hl => ?_)
                                refine lv_iinc (v := nI (i37 + 1)) (lv' := [(4, .int (nI (i37 + 1))), (2, .int 1), (1, .int 0), (3, .int (nI i1)), (0, .ref h)]) hx hb dX9_check_127 hl (k := 1) rfl (nI_add i37 1) (by decide) rfl (fun ls hl => ?_)
                                refine lv_goto (tgt := 55) hx hb dX9_check_130 (by decide) ?_
                                exact ih39 (i37 + 1) 1 _ _ _ (by omega) (by omega)  hZ9 hP hD hS (lv_sub hl [0, 2, 3, 1, 4] rfl)
              exact lp40 (n + 1) 0 y5 _ _ _ (by omega) (by omega)  hZ9 hP hD hS hl
            · replace hZ9 := ite_t hZ9 c36
              refine lv_iconst (v := 1) hx hb dX9_check_46 (by decide) ?_
              refine lv_goto (tgt := 51) hx hb dX9_check_47 (by decide) ?_
              refine lv_istore_n (lv' := [(1, .int 1), (3, .int (nI i1)), (2, .int y5), (0, .ref h)]) hx hb dX9_check_51 rfl hl (by decide) rfl (fun ls hl => ?_)
              refine lv_iconst (v := 0) hx hb dX9_check_52 (by decide) ?_
              refine lv_istore (lv' := [(4, .int 0), (1, .int 1), (3, .int (nI i1)), (2, .int y5), (0, .ref h)]) hx hb dX9_check_53 hl (by decide) rfl (fun ls hl => ?_)
              obtain ⟨K9_55, hK9_55, hZ9⟩ := lp_gen hZ9
              have lp59 : ∀ (fu57 i56 : Nat) (y60 : Int32) (H : Heap) (locs : List Loc) (ls : Array Slot), n < i56 + fu57 → i56 ≤ n → RES = f_w_check_55q2 n F i1 x31 fu57 i56 y60 K9_55 → va_P (dC, dI) vwCl (mW h a k F V) H → va_D A (mW h a k F V) → va_S A s.heap H locs → lv_has ls 5 [(4, .int (nI i56)), (1, .int 1), (3, .int (nI i1)), (2, .int y60), (0, .ref h)] → W p l e (headSpec wq_w_check rm_w_check).room s m ([.ref h] : List Value).toArray below meth c H locs 0 0 Q0 (F0 m 55 ls []) := by
                intro fu57
                induction fu57 with
                | zero =>
                  intro i56 y60 H locs ls hf hi
                  exact absurd hf (by omega)
                | succ fu57 ih58 =>
                  intro i56 y60 H locs ls hfi56 hii56 hZ9 hP hD hS hl
                  rw [f_w_check_55q2] at hZ9
                  refine lv_iload hx hb dX9_check_55 (lv_at hl 0 rfl) ?_
                  refine lv_aload_n hx hb dX9_check_57 rfl (lv_at hl 4 rfl) ?_
                  refine va_get (D := (dC, dI)) (ci := 10) (v := .int (V 21)) (C := RX9) (T := TX9) (N := 46) hx hb hts in_w_check_X9 hown hK hP 0 rfl rfl 21 (by decide) (hts (.fieldLink RX9 126 "ServiceTreeModel" "services" "I") (by decide +kernel)) (fun _ h9 => h9) rfl dX9_check_58 ?_
                  refine p1_topr (v := .int (nI n)) (congrArg Value.int hI.1.2.1) ?_
                  refine lv_icmp_ge (tgt := 133) hx hb dX9_check_61 (by decide) (fun c61 => ?_) (fun c61 => ?_)
                  · replace c61 : n ≤ i56 := (nI_leI (a := n) (b := i56) (by omega) (by omega)).mp c61
                    replace hZ9 := ite_t hZ9 c61
                    replace hZ9 := lp_app2 hK9_55 hZ9
                    refine lv_iinc (v := nI (i1 + 1)) (lv' := [(3, .int (nI (i1 + 1))), (4, .int (nI i56)), (1, .int 1), (2, .int y60), (0, .ref h)]) hx hb dX9_check_133 hl (k := 2) rfl (nI_add i1 1) (by decide) rfl (fun ls hl => ?_)
                    refine lv_goto (tgt := 6) hx hb dX9_check_136 (by decide) ?_
                    exact ih3 (i1 + 1) y60 1 _ _ _ (by omega) (by omega)  hZ9 hP hD hS (lv_sub hl [0, 3, 2, 4] rfl)
                  · replace c61 : ¬ (n ≤ i56) := fun q9 => c61 ((nI_leI (a := n) (b := i56) (by omega) (by omega)).mpr q9)
                    replace hZ9 := ite_f hZ9 c61
                    refine lv_iload_n hx hb dX9_check_64 rfl (lv_at hl 3 rfl) ?_
                    refine lv_if_ne (tgt := 121) hx hb dX9_check_65 (by decide) (fun c62 => ?_) (fun c62 => ?_)
                    · replace hZ9 := ite_f hZ9 c62
                      refine lv_iconst (v := 1) hx hb dX9_check_121 (by decide) ?_
                      refine lv_goto (tgt := 126) hx hb dX9_check_122 (by decide) ?_
                      refine lv_istore_n (lv' := [(2, .int 1), (4, .int (nI i56)), (1, .int 1), (3, .int (nI i1)), (0, .ref h)]) hx hb dX9_check_126 rfl hl (by decide) rfl (fun ls hl => ?_)
                      refine lv_iinc (v := nI (i56 + 1)) (lv' := [(4, .int (nI (i56 + 1))), (2, .int 1), (1, .int 1), (3, .int (nI i1)), (0, .ref h)]) hx hb dX9_check_127 hl (k := 1) rfl (nI_add i56 1) (by decide) rfl (fun ls hl => ?_)
                      refine lv_goto (tgt := 55) hx hb dX9_check_130 (by decide) ?_
                      exact ih58 (i56 + 1) 1 _ _ _ (by omega) (by omega)  hZ9 hP hD hS (lv_sub hl [0, 2, 3, 1, 4] rfl)
                    · replace hZ9 := ite_t hZ9 c62
                      refine lv_aload_n hx hb dX9_check_68 rfl (lv_at hl 4 rfl) ?_
                      refine lv_iconst (v := 3) hx hb dX9_check_69 (by decide) ?_
                      refine lv_iload_n hx hb dX9_check_70 rfl (lv_at hl 2 rfl) ?_
                      refine lv_iload hx hb dX9_check_71 (lv_at hl 0 rfl) ?_
                      have hFc := mw_free hD hS hA
                      refine va_calli (va_runV (As := [.int 3, .int (nI i1), .int (nI i56)]) (rest := []) ⟨hx, hb, hml, hown, hts⟩ (c_w_has l dC dI h a k F V n (b) 3 i1 i56 H.size hI.1 (by omega) (by omega) (by omega) (by omega)) (cwV 3 hts wc_w_check_w_has_150 rfl rfl rfl (by decide +kernel) ⟨Nat.le_of_ble_eq_true rfl, Nat.le_of_ble_eq_true rfl⟩) ⟨fun a9 U g mk q => by obtain ⟨q0, q1, qP, qK, qD⟩ := q; exact ⟨q0, q1, qP, va_K.moved (u := U) (U := U.calling g mk a9) (Vm.Alike.refl U.vm) qK, qD⟩, va_recv hK hP (ci := 10) (q0 := 0) rfl rfl, fun U hU hW => ⟨rfl, by rw [hU], by rw [hU]; exact hP, va_K.moved hW.alike hK, hD.weaken (fun _ _ _ _ => trivial)⟩⟩ rfl rfl hl.1 rfl (lv_room (Nat.le_of_ble_eq_true rfl)) dX9_check_73 ⟨Nat.le_of_ble_eq_true rfl, Nat.le_of_ble_eq_true rfl⟩) hS (fun q _ h => hFc q h) hFc (fun r63 u t H1 locs ht hvm hw hB hz1 hk1 hS => ?_)
                      obtain ⟨F64, V65⟩ := u
                      replace hP := hB.1
                      rw [ht] at hP
                      replace hD : va_D A (mW h a k F64 V65) := hB.2.weaken (fun _ q _ h9 => hFc q.1 h9)
                      clear hB
                      generalize H1 = H at hP hS ⊢
                      replace hP : va_P (dC, dI) vwCl (mW h a k F64 V65) H := hP
                      obtain ⟨hwF, hwV, hw⟩ : F64 = F ∧ V65 = V ∧ _ := hw
                      rw [hwF, hwV] at hP hD
                      obtain ⟨hw, hwe⟩ := hw
                      replace hw : r63 = f_w_has n 3 i1 i56 F := hw
                      replace hZ9 := bnd_s hZ9 hw
                      have br63 := hwe
                      refine lv_if_eq (tgt := 125) hx hb dX9_check_76 (by decide) (fun c66 => ?_) (fun c66 => ?_)
                      · replace hZ9 := ite_t hZ9 c66
                        refine lv_iconst (v := 0) hx hb dX9_check_125 (by decide) ?_
                        refine lv_istore_n (lv' := [(2, .int 0), (4, .int (nI i56)), (1, .int 1), (3, .int (nI i1)), (0, .ref h)]) hx hb dX9_check_126 rfl hl (by decide) rfl (fun ls hl => ?_)
                        refine lv_iinc (v := nI (i56 + 1)) (lv' := [(4, .int (nI (i56 + 1))), (2, .int 0), (1, .int 1), (3, .int (nI i1)), (0, .ref h)]) hx hb dX9_check_127 hl (k := 1) rfl (nI_add i56 1) (by decide) rfl (fun ls hl => ?_)
                        refine lv_goto (tgt := 55) hx hb dX9_check_130 (by decide) ?_
                        exact ih58 (i56 + 1) 0 _ _ _ (by omega) (by omega)  hZ9 hP hD hS (lv_sub hl [0, 2, 3, 1, 4] rfl)
                      · replace hZ9 := ite_f hZ9 c66
                        refine lv_aload_n hx hb dX9_check_79 rfl (lv_at hl 4 rfl) ?_
                        refine va_get (D := (dC, dI)) (ci := 10) (v := .ref (a 7)) (C := RX9) (T := TX9) (N := 46) hx hb hts in_w_check_X9 hown hK hP 0 rfl rfl 7 (by decide) (hts (.fieldLink RX9 31 "ServiceTreeModel" "state" "[I") (by decide +kernel)) (fun _ h9 => h9) rfl dX9_check_80 ?_
                        refine lv_iload_n hx hb dX9_check_83 rfl (lv_at hl 2 rfl) ?_
                        refine va_iald (n := 40) (f := F 7) hx hb hK hP 8 7 rfl rfl (vp_in_nI (n := i1) (by omega) (by decide)) dX9_check_84 ?_
                        refine p1_topr (v := .int x31) (congrArg Value.int ex31.symm) ?_
                        refine lv_iconst (v := 1) hx hb dX9_check_85 (by decide) ?_
                        refine lv_icmp_lt (tgt := 125) hx hb dX9_check_86 (by decide) (fun c68 => ?_) (fun c68 => ?_)
                        · replace hZ9 := ite_t hZ9 c68
                          refine lv_iconst (v := 0) hx hb dX9_check_125 (by decide) ?_
                          refine lv_istore_n (lv' := [(2, .int 0), (4, .int (nI i56)), (1, .int 1), (3, .int (nI i1)), (0, .ref h)]) hx hb dX9_check_126 rfl hl (by decide) rfl (fun ls hl => ?_)
                          refine lv_iinc (v := nI (i56 + 1)) (lv' := [(4, .int (nI (i56 + 1))), (2, .int 0), (1, .int 1), (3, .int (nI i1)), (0, .ref h)]) hx hb dX9_check_127 hl (k := 1) rfl (nI_add i56 1) (by decide) rfl (fun ls hl => ?_)
                          refine lv_goto (tgt := 55) hx hb dX9_check_130 (by decide) ?_
                          exact ih58 (i56 + 1) 0 _ _ _ (by omega) (by omega)  hZ9 hP hD hS (lv_sub hl [0, 2, 3, 1, 4] rfl)
                        · replace hZ9 := ite_f hZ9 c68
                          refine lv_aload_n hx hb dX9_check_89 rfl (lv_at hl 4 rfl) ?_
                          refine va_get (D := (dC, dI)) (ci := 10) (v := .ref (a 7)) (C := RX9) (T := TX9) (N := 46) hx hb hts in_w_check_X9 hown hK hP 0 rfl rfl 7 (by decide) (hts (.fieldLink RX9 31 "ServiceTreeModel" "state" "[I") (by decide +kernel)) (fun _ h9 => h9) rfl dX9_check_90 ?_
                          refine lv_iload_n hx hb dX9_check_93 rfl (lv_at hl 2 rfl) ?_
                          refine va_iald (n := 40) (f := F 7) hx hb hK hP 8 7 rfl rfl (vp_in_nI (n := i1) (by omega) (by decide)) dX9_check_94 ?_
                          refine p1_topr (v := .int x31) (congrArg Value.int ex31.symm) ?_
                          refine lv_iconst (v := 3) hx hb dX9_check_95 (by decide) ?_
                          refine lv_icmp_gt (tgt := 125) hx hb dX9_check_96 (by decide) (fun c70 => ?_) (fun c70 => ?_)
                          · replace hZ9 := ite_t hZ9 c70
                            refine lv_iconst (v := 0) hx hb dX9_check_125 (by decide) ?_
                            refine lv_istore_n (lv' := [(2, .int 0), (4, .int (nI i56)), (1, .int 1), (3, .int (nI i1)), (0, .ref h)]) hx hb dX9_check_126 rfl hl (by decide) rfl (fun ls hl => ?_)
                            refine lv_iinc (v := nI (i56 + 1)) (lv' := [(4, .int (nI (i56 + 1))), (2, .int 0), (1, .int 1), (3, .int (nI i1)), (0, .ref h)]) hx hb dX9_check_127 hl (k := 1) rfl (nI_add i56 1) (by decide) rfl (fun ls hl => ?_)
                            refine lv_goto (tgt := 55) hx hb dX9_check_130 (by decide) ?_
                            exact ih58 (i56 + 1) 0 _ _ _ (by omega) (by omega)  hZ9 hP hD hS (lv_sub hl [0, 2, 3, 1, 4] rfl)
                          · replace hZ9 := ite_f hZ9 c70
                            refine lv_aload_n hx hb dX9_check_99 rfl (lv_at hl 4 rfl) ?_
                            refine va_get (D := (dC, dI)) (ci := 10) (v := .ref (a 7)) (C := RX9) (T := TX9) (N := 46) hx hb hts in_w_check_X9 hown hK hP 0 rfl rfl 7 (by decide) (hts (.fieldLink RX9 31 "ServiceTreeModel" "state" "[I") (by decide +kernel)) (fun _ h9 => h9) rfl dX9_check_100 ?_
                            refine lv_iload hx hb dX9_check_103 (lv_at hl 0 rfl) ?_
                            refine va_iald (n := 40) (f := F 7) hx hb hK hP 8 7 rfl rfl (vp_in_nI (n := i56) (by omega) (by decide)) dX9_check_105 ?_
                            refine lv_topi (fun x71 ex71 => ?_)
                            replace hZ9 := bnd_s hZ9 ex71
                            refine lv_iconst (v := 1) hx hb dX9_check_106 (by decide) ?_
                            refine lv_icmp_lt (tgt := 125) hx hb dX9_check_107 (by decide) (fun c72 => ?_) (fun c72 => ?_)
                            · replace hZ9 := ite_t hZ9 c72
                              refine lv_iconst (v := 0) hx hb dX9_check_125 (by decide) ?_
                              refine lv_istore_n (lv' := [(2, .int 0), (4, .int (nI i56)), (1, .int 1), (3, .int (nI i1)), (0, .ref h)]) hx hb dX9_check_126 rfl hl (by decide) rfl (fun ls hl => ?_)
                              refine lv_iinc (v := nI (i56 + 1)) (lv' := [(4, .int (nI (i56 + 1))), (2, .int 0), (1, .int 1), (3, .int (nI i1)), (0, .ref h)]) hx hb dX9_check_127 hl (k := 1) rfl (nI_add i56 1) (by decide) rfl (fun ls hl => ?_)
                              refine lv_goto (tgt := 55) hx hb dX9_check_130 (by decide) ?_
                              exact ih58 (i56 + 1) 0 _ _ _ (by omega) (by omega)  hZ9 hP hD hS (lv_sub hl [0, 2, 3, 1, 4] rfl)
                            · replace hZ9 := ite_f hZ9 c72
                              refine lv_aload_n hx hb dX9_check_110 rfl (lv_at hl 4 rfl) ?_
                              refine va_get (D := (dC, dI)) (ci := 10) (v := .ref (a 7)) (C := RX9) (T := TX9) (N := 46) hx hb hts in_w_check_X9 hown hK hP 0 rfl rfl 7 (by decide) (hts (.fieldLink RX9 31 "ServiceTreeModel" "state" "[I") (by decide +kernel)) (fun _ h9 => h9) rfl dX9_check_111 ?_
                              refine lv_iload hx hb dX9_check_114 (lv_at hl 0 rfl) ?_
                              refine va_iald (n := 40) (f := F 7) hx hb hK hP 8 7 rfl rfl (vp_in_nI (n := i56) (by omega) (by decide)) dX9_check_116 ?_
                              refine p1_topr (v := .int x71) (congrArg Value.int ex71.symm) ?_
                              refine lv_iconst (v := 3) hx hb dX9_check_117 (by decide) ?_
                              refine lv_icmp_gt (tgt := 125) hx hb dX9_check_118 (by decide) (fun c74 => ?_) (fun c74 => ?_)
                              · replace hZ9 := ite_t hZ9 c74
                                refine lv_iconst (v := 0) hx hb dX9_check_125 (by decide) ?_
                                refine lv_istore_n (lv' := [(2, .int 0), (4, .int (nI i56)), (1, .int 1), (3, .int (nI i1)), (0, .ref h)]) hx hb dX9_check_126 rfl hl (by decide) rfl (fun ls hl => ?_)
                                refine lv_iinc (v := nI (i56 + 1)) (lv' := [(4, .int (nI (i56 + 1))), (2, .int 0), (1, .int 1), (3, .int (nI i1)), (0, .ref h)]) hx hb dX9_check_127 hl (k := 1) rfl (nI_add i56 1) (by decide) rfl (fun ls hl => ?_)
                                refine lv_goto (tgt := 55) hx hb dX9_check_130 (by decide) ?_
                                exact ih58 (i56 + 1) 0 _ _ _ (by omega) (by omega)  hZ9 hP hD hS (lv_sub hl [0, 2, 3, 1, 4] rfl)
                              · replace hZ9 := ite_f hZ9 c74
                                refine lv_iconst (v := 1) hx hb dX9_check_121 (by decide) ?_
                                refine lv_goto (tgt := 126) hx hb dX9_check_122 (by decide) ?_
                                refine lv_istore_n (lv' := [(2, .int 1), (4, .int (nI i56)), (1, .int 1), (3, .int (nI i1)), (0, .ref h)]) hx hb dX9_check_126 rfl hl (by decide) rfl (fun ls hl => ?_)
                                refine lv_iinc (v := nI (i56 + 1)) (lv' := [(4, .int (nI (i56 + 1))), (2, .int 1), (1, .int 1), (3, .int (nI i1)), (0, .ref h)]) hx hb dX9_check_127 hl (k := 1) rfl (nI_add i56 1) (by decide) rfl (fun ls hl => ?_)
                                refine lv_goto (tgt := 55) hx hb dX9_check_130 (by decide) ?_
                                exact ih58 (i56 + 1) 1 _ _ _ (by omega) (by omega)  hZ9 hP hD hS (lv_sub hl [0, 2, 3, 1, 4] rfl)
              exact lp59 (n + 1) 0 y5 _ _ _ (by omega) (by omega)  hZ9 hP hD hS hl
          · replace hZ9 := ite_f hZ9 c32
            refine lv_aload_n hx hb dX9_check_28 rfl (lv_at hl 3 rfl) ?_
            refine va_get (D := (dC, dI)) (ci := 10) (v := .ref (a 7)) (C := RX9) (T := TX9) (N := 46) hx hb hts in_w_check_X9 hown hK hP 0 rfl rfl 7 (by decide) (hts (.fieldLink RX9 31 "ServiceTreeModel" "state" "[I") (by decide +kernel)) (fun _ h9 => h9) rfl dX9_check_29 ?_
            refine lv_iload_n hx hb dX9_check_32 rfl (lv_at hl 0 rfl) ?_
            refine va_iald (n := 40) (f := F 7) hx hb hK hP 8 7 rfl rfl (vp_in_nI (n := i1) (by omega) (by decide)) dX9_check_33 ?_
            refine p1_topr (v := .int x31) (congrArg Value.int ex31.symm) ?_
            refine lv_iconst (v := 2) hx hb dX9_check_34 (by decide) ?_
            refine lv_icmp_ne (tgt := 50) hx hb dX9_check_35 (by decide) (fun c76 => ?_) (fun c76 => ?_)
            · replace hZ9 := ite_f hZ9 c76
              refine lv_iconst (v := 0) hx hb dX9_check_50 (by decide) ?_
              refine lv_istore_n (lv' := [(1, .int 0), (3, .int (nI i1)), (2, .int y5), (0, .ref h)]) hx hb dX9_check_51 rfl hl (by decide) rfl (fun ls hl => ?_)
              refine lv_iconst (v := 0) hx hb dX9_check_52 (by decide) ?_
              refine lv_istore (lv' := [(4, .int 0), (1, .int 0), (3, .int (nI i1)), (2, .int y5), (0, .ref h)]) hx hb dX9_check_53 hl (by decide) rfl (fun ls hl => ?_)
              obtain ⟨K9_55, hK9_55, hZ9⟩ := lp_gen hZ9
              have lp80 : ∀ (fu78 i77 : Nat) (y81 : Int32) (H : Heap) (locs : List Loc) (ls : Array Slot), n < i77 + fu78 → i77 ≤ n → RES = f_w_check_55q3 n F i1 x31 fu78 i77 y81 K9_55 → va_P (dC, dI) vwCl (mW h a k F V) H → va_D A (mW h a k F V) → va_S A s.heap H locs → lv_has ls 5 [(4, .int (nI i77)), (1, .int 0), (3, .int (nI i1)), (2, .int y81), (0, .ref h)] → W p l e (headSpec wq_w_check rm_w_check).room s m ([.ref h] : List Value).toArray below meth c H locs 0 0 Q0 (F0 m 55 ls []) := by
                intro fu78
                induction fu78 with
                | zero =>
                  intro i77 y81 H locs ls hf hi
                  exact absurd hf (by omega)
                | succ fu78 ih79 =>
                  intro i77 y81 H locs ls hfi77 hii77 hZ9 hP hD hS hl
                  rw [f_w_check_55q3] at hZ9
                  refine lv_iload hx hb dX9_check_55 (lv_at hl 0 rfl) ?_
                  refine lv_aload_n hx hb dX9_check_57 rfl (lv_at hl 4 rfl) ?_
                  refine va_get (D := (dC, dI)) (ci := 10) (v := .int (V 21)) (C := RX9) (T := TX9) (N := 46) hx hb hts in_w_check_X9 hown hK hP 0 rfl rfl 21 (by decide) (hts (.fieldLink RX9 126 "ServiceTreeModel" "services" "I") (by decide +kernel)) (fun _ h9 => h9) rfl dX9_check_58 ?_
                  refine p1_topr (v := .int (nI n)) (congrArg Value.int hI.1.2.1) ?_
                  refine lv_icmp_ge (tgt := 133) hx hb dX9_check_61 (by decide) (fun c82 => ?_) (fun c82 => ?_)
                  · replace c82 : n ≤ i77 := (nI_leI (a := n) (b := i77) (by omega) (by omega)).mp c82
                    replace hZ9 := ite_t hZ9 c82
                    replace hZ9 := lp_app2 hK9_55 hZ9
                    refine lv_iinc (v := nI (i1 + 1)) (lv' := [(3, .int (nI (i1 + 1))), (4, .int (nI i77)), (1, .int 0), (2, .int y81), (0, .ref h)]) hx hb dX9_check_133 hl (k := 2) rfl (nI_add i1 1) (by decide) rfl (fun ls hl => ?_)
                    refine lv_goto (tgt := 6) hx hb dX9_check_136 (by decide) ?_
                    exact ih3 (i1 + 1) y81 0 _ _ _ (by omega) (by omega)  hZ9 hP hD hS (lv_sub hl [0, 3, 2, 4] rfl)
                  · replace c82 : ¬ (n ≤ i77) := fun q9 => c82 ((nI_leI (a := n) (b := i77) (by omega) (by omega)).mpr q9)
                    replace hZ9 := ite_f hZ9 c82
                    refine lv_iload_n hx hb dX9_check_64 rfl (lv_at hl 3 rfl) ?_
                    refine lv_if_ne (tgt := 121) hx hb dX9_check_65 (by decide) (fun c83 => ?_) (fun c83 => ?_)
                    · replace hZ9 := ite_f hZ9 c83
                      refine lv_iconst (v := 1) hx hb dX9_check_121 (by decide) ?_
                      refine lv_goto (tgt := 126) hx hb dX9_check_122 (by decide) ?_
                      refine lv_istore_n (lv' := [(2, .int 1), (4, .int (nI i77)), (1, .int 0), (3, .int (nI i1)), (0, .ref h)]) hx hb dX9_check_126 rfl hl (by decide) rfl (fun ls hl => ?_)
                      refine lv_iinc (v := nI (i77 + 1)) (lv' := [(4, .int (nI (i77 + 1))), (2, .int 1), (1, .int 0), (3, .int (nI i1)), (0, .ref h)]) hx hb dX9_check_127 hl (k := 1) rfl (nI_add i77 1) (by decide) rfl (fun ls hl => ?_)
                      refine lv_goto (tgt := 55) hx hb dX9_check_130 (by decide) ?_
                      exact ih79 (i77 + 1) 1 _ _ _ (by omega) (by omega)  hZ9 hP hD hS (lv_sub hl [0, 2, 3, 1, 4] rfl)
                    · replace hZ9 := ite_t hZ9 c83
                      refine lv_aload_n hx hb dX9_check_68 rfl (lv_at hl 4 rfl) ?_
                      refine lv_iconst (v := 3) hx hb dX9_check_69 (by decide) ?_
                      refine lv_iload_n hx hb dX9_check_70 rfl (lv_at hl 2 rfl) ?_
                      refine lv_iload hx hb dX9_check_71 (lv_at hl 0 rfl) ?_
                      have hFc := mw_free hD hS hA
                      refine va_calli (va_runV (As := [.int 3, .int (nI i1), .int (nI i77)]) (rest := []) ⟨hx, hb, hml, hown, hts⟩ (c_w_has l dC dI h a k F V n (b) 3 i1 i77 H.size hI.1 (by omega) (by omega) (by omega) (by omega)) (cwV 3 hts wc_w_check_w_has_150 rfl rfl rfl (by decide +kernel) ⟨Nat.le_of_ble_eq_true rfl, Nat.le_of_ble_eq_true rfl⟩) ⟨fun a9 U g mk q => by obtain ⟨q0, q1, qP, qK, qD⟩ := q; exact ⟨q0, q1, qP, va_K.moved (u := U) (U := U.calling g mk a9) (Vm.Alike.refl U.vm) qK, qD⟩, va_recv hK hP (ci := 10) (q0 := 0) rfl rfl, fun U hU hW => ⟨rfl, by rw [hU], by rw [hU]; exact hP, va_K.moved hW.alike hK, hD.weaken (fun _ _ _ _ => trivial)⟩⟩ rfl rfl hl.1 rfl (lv_room (Nat.le_of_ble_eq_true rfl)) dX9_check_73 ⟨Nat.le_of_ble_eq_true rfl, Nat.le_of_ble_eq_true rfl⟩) hS (fun q _ h => hFc q h) hFc (fun r84 u t H1 locs ht hvm hw hB hz1 hk1 hS => ?_)
                      obtain ⟨F85, V86⟩ := u
                      replace hP := hB.1
                      rw [ht] at hP
                      replace hD : va_D A (mW h a k F85 V86) := hB.2.weaken (fun _ q _ h9 => hFc q.1 h9)
                      clear hB
                      generalize H1 = H at hP hS ⊢
                      replace hP : va_P (dC, dI) vwCl (mW h a k F85 V86) H := hP
                      obtain ⟨hwF, hwV, hw⟩ : F85 = F ∧ V86 = V ∧ _ := hw
                      rw [hwF, hwV] at hP hD
                      obtain ⟨hw, hwe⟩ := hw
                      replace hw : r84 = f_w_has n 3 i1 i77 F := hw
                      replace hZ9 := bnd_s hZ9 hw
                      have br84 := hwe
                      refine lv_if_eq (tgt := 125) hx hb dX9_check_76 (by decide) (fun c87 => ?_) (fun c87 => ?_)
                      · replace hZ9 := ite_t hZ9 c87
                        refine lv_iconst (v := 0) hx hb dX9_check_125 (by decide) ?_
                        refine lv_istore_n (lv' := [(2, .int 0), (4, .int (nI i77)), (1, .int 0), (3, .int (nI i1)), (0, .ref h)]) hx hb dX9_check_126 rfl hl (by decide) rfl (fun ls hl => ?_)
                        refine lv_iinc (v := nI (i77 + 1)) (lv' := [(4, .int (nI (i77 + 1))), (2, .int 0), (1, .int 0), (3, .int (nI i1)), (0, .ref h)]) hx hb dX9_check_127 hl (k := 1) rfl (nI_add i77 1) (by decide) rfl (fun ls hl => ?_)
                        refine lv_goto (tgt := 55) hx hb dX9_check_130 (by decide) ?_
                        exact ih79 (i77 + 1) 0 _ _ _ (by omega) (by omega)  hZ9 hP hD hS (lv_sub hl [0, 2, 3, 1, 4] rfl)
                      · replace hZ9 := ite_f hZ9 c87
                        refine lv_aload_n hx hb dX9_check_79 rfl (lv_at hl 4 rfl) ?_
                        refine va_get (D := (dC, dI)) (ci := 10) (v := .ref (a 7)) (C := RX9) (T := TX9) (N := 46) hx hb hts in_w_check_X9 hown hK hP 0 rfl rfl 7 (by decide) (hts (.fieldLink RX9 31 "ServiceTreeModel" "state" "[I") (by decide +kernel)) (fun _ h9 => h9) rfl dX9_check_80 ?_
                        refine lv_iload_n hx hb dX9_check_83 rfl (lv_at hl 2 rfl) ?_
                        refine va_iald (n := 40) (f := F 7) hx hb hK hP 8 7 rfl rfl (vp_in_nI (n := i1) (by omega) (by decide)) dX9_check_84 ?_
                        refine p1_topr (v := .int x31) (congrArg Value.int ex31.symm) ?_
                        refine lv_iconst (v := 1) hx hb dX9_check_85 (by decide) ?_
                        refine lv_icmp_lt (tgt := 125) hx hb dX9_check_86 (by decide) (fun c89 => ?_) (fun c89 => ?_)
                        · replace hZ9 := ite_t hZ9 c89
                          refine lv_iconst (v := 0) hx hb dX9_check_125 (by decide) ?_
                          refine lv_istore_n (lv' := [(2, .int 0), (4, .int (nI i77)), (1, .int 0), (3, .int (nI i1)), (0, .ref h)]) hx hb dX9_check_126 rfl hl (by decide) rfl (fun ls hl => ?_)
                          refine lv_iinc (v := nI (i77 + 1)) (lv' := [(4, .int (nI (i77 + 1))), (2, .int 0), (1, .int 0), (3, .int (nI i1)), (0, .ref h)]) hx hb dX9_check_127 hl (k := 1) rfl (nI_add i77 1) (by decide) rfl (fun ls hl => ?_)
                          refine lv_goto (tgt := 55) hx hb dX9_check_130 (by decide) ?_
                          exact ih79 (i77 + 1) 0 _ _ _ (by omega) (by omega)  hZ9 hP hD hS (lv_sub hl [0, 2, 3, 1, 4] rfl)
                        · replace hZ9 := ite_f hZ9 c89
                          refine lv_aload_n hx hb dX9_check_89 rfl (lv_at hl 4 rfl) ?_
                          refine va_get (D := (dC, dI)) (ci := 10) (v := .ref (a 7)) (C := RX9) (T := TX9) (N := 46) hx hb hts in_w_check_X9 hown hK hP 0 rfl rfl 7 (by decide) (hts (.fieldLink RX9 31 "ServiceTreeModel" "state" "[I") (by decide +kernel)) (fun _ h9 => h9) rfl dX9_check_90 ?_
                          refine lv_iload_n hx hb dX9_check_93 rfl (lv_at hl 2 rfl) ?_
                          refine va_iald (n := 40) (f := F 7) hx hb hK hP 8 7 rfl rfl (vp_in_nI (n := i1) (by omega) (by decide)) dX9_check_94 ?_
                          refine p1_topr (v := .int x31) (congrArg Value.int ex31.symm) ?_
                          refine lv_iconst (v := 3) hx hb dX9_check_95 (by decide) ?_
                          refine lv_icmp_gt (tgt := 125) hx hb dX9_check_96 (by decide) (fun c91 => ?_) (fun c91 => ?_)
                          · replace hZ9 := ite_t hZ9 c91
                            refine lv_iconst (v := 0) hx hb dX9_check_125 (by decide) ?_
                            refine lv_istore_n (lv' := [(2, .int 0), (4, .int (nI i77)), (1, .int 0), (3, .int (nI i1)), (0, .ref h)]) hx hb dX9_check_126 rfl hl (by decide) rfl (fun ls hl => ?_)
                            refine lv_iinc (v := nI (i77 + 1)) (lv' := [(4, .int (nI (i77 + 1))), (2, .int 0), (1, .int 0), (3, .int (nI i1)), (0, .ref h)]) hx hb dX9_check_127 hl (k := 1) rfl (nI_add i77 1) (by decide) rfl (fun ls hl => ?_)
                            refine lv_goto (tgt := 55) hx hb dX9_check_130 (by decide) ?_
                            exact ih79 (i77 + 1) 0 _ _ _ (by omega) (by omega)  hZ9 hP hD hS (lv_sub hl [0, 2, 3, 1, 4] rfl)
                          · replace hZ9 := ite_f hZ9 c91
                            refine lv_aload_n hx hb dX9_check_99 rfl (lv_at hl 4 rfl) ?_
                            refine va_get (D := (dC, dI)) (ci := 10) (v := .ref (a 7)) (C := RX9) (T := TX9) (N := 46) hx hb hts in_w_check_X9 hown hK hP 0 rfl rfl 7 (by decide) (hts (.fieldLink RX9 31 "ServiceTreeModel" "state" "[I") (by decide +kernel)) (fun _ h9 => h9) rfl dX9_check_100 ?_
                            refine lv_iload hx hb dX9_check_103 (lv_at hl 0 rfl) ?_
                            refine va_iald (n := 40) (f := F 7) hx hb hK hP 8 7 rfl rfl (vp_in_nI (n := i77) (by omega) (by decide)) dX9_check_105 ?_
                            refine lv_topi (fun x92 ex92 => ?_)
                            replace hZ9 := bnd_s hZ9 ex92
                            refine lv_iconst (v := 1) hx hb dX9_check_106 (by decide) ?_
                            refine lv_icmp_lt (tgt := 125) hx hb dX9_check_107 (by decide) (fun c93 => ?_) (fun c93 => ?_)
                            · replace hZ9 := ite_t hZ9 c93
                              refine lv_iconst (v := 0) hx hb dX9_check_125 (by decide) ?_
                              refine lv_istore_n (lv' := [(2, .int 0), (4, .int (nI i77)), (1, .int 0), (3, .int (nI i1)), (0, .ref h)]) hx hb dX9_check_126 rfl hl (by decide) rfl (fun ls hl => ?_)
                              refine lv_iinc (v := nI (i77 + 1)) (lv' := [(4, .int (nI (i77 + 1))), (2, .int 0), (1, .int 0), (3, .int (nI i1)), (0, .ref h)]) hx hb dX9_check_127 hl (k := 1) rfl (nI_add i77 1) (by decide) rfl (fun ls hl => ?_)
                              refine lv_goto (tgt := 55) hx hb dX9_check_130 (by decide) ?_
                              exact ih79 (i77 + 1) 0 _ _ _ (by omega) (by omega)  hZ9 hP hD hS (lv_sub hl [0, 2, 3, 1, 4] rfl)
                            · replace hZ9 := ite_f hZ9 c93
                              refine lv_aload_n hx hb dX9_check_110 rfl (lv_at hl 4 rfl) ?_
                              refine va_get (D := (dC, dI)) (ci := 10) (v := .ref (a 7)) (C := RX9) (T := TX9) (N := 46) hx hb hts in_w_check_X9 hown hK hP 0 rfl rfl 7 (by decide) (hts (.fieldLink RX9 31 "ServiceTreeModel" "state" "[I") (by decide +kernel)) (fun _ h9 => h9) rfl dX9_check_111 ?_
                              refine lv_iload hx hb dX9_check_114 (lv_at hl 0 rfl) ?_
                              refine va_iald (n := 40) (f := F 7) hx hb hK hP 8 7 rfl rfl (vp_in_nI (n := i77) (by omega) (by decide)) dX9_check_116 ?_
                              refine p1_topr (v := .int x92) (congrArg Value.int ex92.symm) ?_
                              refine lv_iconst (v := 3) hx hb dX9_check_117 (by decide) ?_
                              refine lv_icmp_gt (tgt := 125) hx hb dX9_check_118 (by decide) (fun c95 => ?_) (fun c95 => ?_)
                              · replace hZ9 := ite_t hZ9 c95
                                refine lv_iconst (v := 0) hx hb dX9_check_125 (by decide) ?_
                                refine lv_istore_n (lv' := [(2, .int 0), (4, .int (nI i77)), (1, .int 0), (3, .int (nI i1)), (0, .ref h)]) hx hb dX9_check_126 rfl hl (by decide) rfl (fun ls hl => ?_)
                                refine lv_iinc (v := nI (i77 + 1)) (lv' := [(4, .int (nI (i77 + 1))), (2, .int 0), (1, .int 0), (3, .int (nI i1)), (0, .ref h)]) hx hb dX9_check_127 hl (k := 1) rfl (nI_add i77 1) (by decide) rfl (fun ls hl => ?_)
                                refine lv_goto (tgt := 55) hx hb dX9_check_130 (by decide) ?_
                                exact ih79 (i77 + 1) 0 _ _ _ (by omega) (by omega)  hZ9 hP hD hS (lv_sub hl [0, 2, 3, 1, 4] rfl)
                              · replace hZ9 := ite_f hZ9 c95
                                refine lv_iconst (v := 1) hx hb dX9_check_121 (by decide) ?_
                                refine lv_goto (tgt := 126) hx hb dX9_check_122 (by decide) ?_
                                refine lv_istore_n (lv' := [(2, .int 1), (4, .int (nI i77)), (1, .int 0), (3, .int (nI i1)), (0, .ref h)]) hx hb dX9_check_126 rfl hl (by decide) rfl (fun ls hl => ?_)
                                refine lv_iinc (v := nI (i77 + 1)) (lv' := [(4, .int (nI (i77 + 1))), (2, .int 1), (1, .int 0), (3, .int (nI i1)), (0, .ref h)]) hx hb dX9_check_127 hl (k := 1) rfl (nI_add i77 1) (by decide) rfl (fun ls hl => ?_)
                                refine lv_goto (tgt := 55) hx hb dX9_check_130 (by decide) ?_
                                exact ih79 (i77 + 1) 1 _ _ _ (by omega) (by omega)  hZ9 hP hD hS (lv_sub hl [0, 2, 3, 1, 4] rfl)
              exact lp80 (n + 1) 0 y5 _ _ _ (by omega) (by omega)  hZ9 hP hD hS hl
            · replace hZ9 := ite_t hZ9 c76
              refine lv_aload_n hx hb dX9_check_38 rfl (lv_at hl 3 rfl) ?_
              refine lv_iload_n hx hb dX9_check_39 rfl (lv_at hl 0 rfl) ?_
              have hFc := mw_free hD hS hA
              refine va_calli (va_runV (As := [.int (nI i1)]) (rest := []) ⟨hx, hb, hml, hown, hts⟩ (c_w_hasNeeds l dC dI h a k F V n (b) i1 H.size hI.1 (by omega) (by omega)) (cwV 1 hts wc_w_check_w_hasNeeds_231 rfl rfl rfl (by decide +kernel) ⟨Nat.le_of_ble_eq_true rfl, Nat.le_of_ble_eq_true rfl⟩) ⟨fun a9 U g mk q => by obtain ⟨q0, q1, qP, qK, qD⟩ := q; exact ⟨q0, q1, qP, va_K.moved (u := U) (U := U.calling g mk a9) (Vm.Alike.refl U.vm) qK, qD⟩, va_recv hK hP (ci := 10) (q0 := 0) rfl rfl, fun U hU hW => ⟨rfl, by rw [hU], by rw [hU]; exact hP, va_K.moved hW.alike hK, hD.weaken (fun _ _ _ _ => trivial)⟩⟩ rfl rfl hl.1 rfl (lv_room (Nat.le_of_ble_eq_true rfl)) dX9_check_40 ⟨Nat.le_of_ble_eq_true rfl, Nat.le_of_ble_eq_true rfl⟩) hS (fun q _ h => hFc q h) hFc (fun r96 u t H1 locs ht hvm hw hB hz1 hk1 hS => ?_)
              obtain ⟨F97, V98⟩ := u
              replace hP := hB.1
              rw [ht] at hP
              replace hD : va_D A (mW h a k F97 V98) := hB.2.weaken (fun _ q _ h9 => hFc q.1 h9)
              clear hB
              generalize H1 = H at hP hS ⊢
              replace hP : va_P (dC, dI) vwCl (mW h a k F97 V98) H := hP
              obtain ⟨hwF, hwV, hw⟩ : F97 = F ∧ V98 = V ∧ _ := hw
              rw [hwF, hwV] at hP hD
              obtain ⟨hw, hwe⟩ := hw
              replace hw : r96 = f_w_hasNeeds n i1 F := hw
              replace hZ9 := bnd_s hZ9 hw
              have br96 := hwe
              refine lv_if_ne (tgt := 50) hx hb dX9_check_43 (by decide) (fun c99 => ?_) (fun c99 => ?_)
              · replace hZ9 := ite_f hZ9 c99
                refine lv_iconst (v := 0) hx hb dX9_check_50 (by decide) ?_
                refine lv_istore_n (lv' := [(1, .int 0), (3, .int (nI i1)), (2, .int y5), (0, .ref h)]) hx hb dX9_check_51 rfl hl (by decide) rfl (fun ls hl => ?_)
                refine lv_iconst (v := 0) hx hb dX9_check_52 (by decide) ?_
                refine lv_istore (lv' := [(4, .int 0), (1, .int 0), (3, .int (nI i1)), (2, .int y5), (0, .ref h)]) hx hb dX9_check_53 hl (by decide) rfl (fun ls hl => ?_)
                obtain ⟨K9_55, hK9_55, hZ9⟩ := lp_gen hZ9
                have lp103 : ∀ (fu101 i100 : Nat) (y104 : Int32) (H : Heap) (locs : List Loc) (ls : Array Slot), n < i100 + fu101 → i100 ≤ n → RES = f_w_check_55q4 n F i1 x31 fu101 i100 y104 K9_55 → va_P (dC, dI) vwCl (mW h a k F V) H → va_D A (mW h a k F V) → va_S A s.heap H locs → lv_has ls 5 [(4, .int (nI i100)), (1, .int 0), (3, .int (nI i1)), (2, .int y104), (0, .ref h)] → W p l e (headSpec wq_w_check rm_w_check).room s m ([.ref h] : List Value).toArray below meth c H locs 0 0 Q0 (F0 m 55 ls []) := by
                  intro fu101
                  induction fu101 with
                  | zero =>
                    intro i100 y104 H locs ls hf hi
                    exact absurd hf (by omega)
                  | succ fu101 ih102 =>
                    intro i100 y104 H locs ls hfi100 hii100 hZ9 hP hD hS hl
                    rw [f_w_check_55q4] at hZ9
                    refine lv_iload hx hb dX9_check_55 (lv_at hl 0 rfl) ?_
                    refine lv_aload_n hx hb dX9_check_57 rfl (lv_at hl 4 rfl) ?_
                    refine va_get (D := (dC, dI)) (ci := 10) (v := .int (V 21)) (C := RX9) (T := TX9) (N := 46) hx hb hts in_w_check_X9 hown hK hP 0 rfl rfl 21 (by decide) (hts (.fieldLink RX9 126 "ServiceTreeModel" "services" "I") (by decide +kernel)) (fun _ h9 => h9) rfl dX9_check_58 ?_
                    refine p1_topr (v := .int (nI n)) (congrArg Value.int hI.1.2.1) ?_
                    refine lv_icmp_ge (tgt := 133) hx hb dX9_check_61 (by decide) (fun c105 => ?_) (fun c105 => ?_)
                    · replace c105 : n ≤ i100 := (nI_leI (a := n) (b := i100) (by omega) (by omega)).mp c105
                      replace hZ9 := ite_t hZ9 c105
                      replace hZ9 := lp_app2 hK9_55 hZ9
                      refine lv_iinc (v := nI (i1 + 1)) (lv' := [(3, .int (nI (i1 + 1))), (4, .int (nI i100)), (1, .int 0), (2, .int y104), (0, .ref h)]) hx hb dX9_check_133 hl (k := 2) rfl (nI_add i1 1) (by decide) rfl (fun ls hl => ?_)
                      refine lv_goto (tgt := 6) hx hb dX9_check_136 (by decide) ?_
                      exact ih3 (i1 + 1) y104 0 _ _ _ (by omega) (by omega)  hZ9 hP hD hS (lv_sub hl [0, 3, 2, 4] rfl)
                    · replace c105 : ¬ (n ≤ i100) := fun q9 => c105 ((nI_leI (a := n) (b := i100) (by omega) (by omega)).mpr q9)
                      replace hZ9 := ite_f hZ9 c105
                      refine lv_iload_n hx hb dX9_check_64 rfl (lv_at hl 3 rfl) ?_
                      refine lv_if_ne (tgt := 121) hx hb dX9_check_65 (by decide) (fun c106 => ?_) (fun c106 => ?_)
                      · replace hZ9 := ite_f hZ9 c106
                        refine lv_iconst (v := 1) hx hb dX9_check_121 (by decide) ?_
                        refine lv_goto (tgt := 126) hx hb dX9_check_122 (by decide) ?_
                        refine lv_istore_n (lv' := [(2, .int 1), (4, .int (nI i100)), (1, .int 0), (3, .int (nI i1)), (0, .ref h)]) hx hb dX9_check_126 rfl hl (by decide) rfl (fun ls hl => ?_)
                        refine lv_iinc (v := nI (i100 + 1)) (lv' := [(4, .int (nI (i100 + 1))), (2, .int 1), (1, .int 0), (3, .int (nI i1)), (0, .ref h)]) hx hb dX9_check_127 hl (k := 1) rfl (nI_add i100 1) (by decide) rfl (fun ls hl => ?_)
                        refine lv_goto (tgt := 55) hx hb dX9_check_130 (by decide) ?_
                        exact ih102 (i100 + 1) 1 _ _ _ (by omega) (by omega)  hZ9 hP hD hS (lv_sub hl [0, 2, 3, 1, 4] rfl)
                      · replace hZ9 := ite_t hZ9 c106
                        refine lv_aload_n hx hb dX9_check_68 rfl (lv_at hl 4 rfl) ?_
                        refine lv_iconst (v := 3) hx hb dX9_check_69 (by decide) ?_
                        refine lv_iload_n hx hb dX9_check_70 rfl (lv_at hl 2 rfl) ?_
                        refine lv_iload hx hb dX9_check_71 (lv_at hl 0 rfl) ?_
                        have hFc := mw_free hD hS hA
                        refine va_calli (va_runV (As := [.int 3, .int (nI i1), .int (nI i100)]) (rest := []) ⟨hx, hb, hml, hown, hts⟩ (c_w_has l dC dI h a k F V n (b) 3 i1 i100 H.size hI.1 (by omega) (by omega) (by omega) (by omega)) (cwV 3 hts wc_w_check_w_has_150 rfl rfl rfl (by decide +kernel) ⟨Nat.le_of_ble_eq_true rfl, Nat.le_of_ble_eq_true rfl⟩) ⟨fun a9 U g mk q => by obtain ⟨q0, q1, qP, qK, qD⟩ := q; exact ⟨q0, q1, qP, va_K.moved (u := U) (U := U.calling g mk a9) (Vm.Alike.refl U.vm) qK, qD⟩, va_recv hK hP (ci := 10) (q0 := 0) rfl rfl, fun U hU hW => ⟨rfl, by rw [hU], by rw [hU]; exact hP, va_K.moved hW.alike hK, hD.weaken (fun _ _ _ _ => trivial)⟩⟩ rfl rfl hl.1 rfl (lv_room (Nat.le_of_ble_eq_true rfl)) dX9_check_73 ⟨Nat.le_of_ble_eq_true rfl, Nat.le_of_ble_eq_true rfl⟩) hS (fun q _ h => hFc q h) hFc (fun r107 u t H1 locs ht hvm hw hB hz1 hk1 hS => ?_)
                        obtain ⟨F108, V109⟩ := u
                        replace hP := hB.1
                        rw [ht] at hP
                        replace hD : va_D A (mW h a k F108 V109) := hB.2.weaken (fun _ q _ h9 => hFc q.1 h9)
                        clear hB
                        generalize H1 = H at hP hS ⊢
                        replace hP : va_P (dC, dI) vwCl (mW h a k F108 V109) H := hP
                        obtain ⟨hwF, hwV, hw⟩ : F108 = F ∧ V109 = V ∧ _ := hw
                        rw [hwF, hwV] at hP hD
                        obtain ⟨hw, hwe⟩ := hw
                        replace hw : r107 = f_w_has n 3 i1 i100 F := hw
                        replace hZ9 := bnd_s hZ9 hw
                        have br107 := hwe
                        refine lv_if_eq (tgt := 125) hx hb dX9_check_76 (by decide) (fun c110 => ?_) (fun c110 => ?_)
                        · replace hZ9 := ite_t hZ9 c110
                          refine lv_iconst (v := 0) hx hb dX9_check_125 (by decide) ?_
                          refine lv_istore_n (lv' := [(2, .int 0), (4, .int (nI i100)), (1, .int 0), (3, .int (nI i1)), (0, .ref h)]) hx hb dX9_check_126 rfl hl (by decide) rfl (fun ls hl => ?_)
                          refine lv_iinc (v := nI (i100 + 1)) (lv' := [(4, .int (nI (i100 + 1))), (2, .int 0), (1, .int 0), (3, .int (nI i1)), (0, .ref h)]) hx hb dX9_check_127 hl (k := 1) rfl (nI_add i100 1) (by decide) rfl (fun ls hl => ?_)
                          refine lv_goto (tgt := 55) hx hb dX9_check_130 (by decide) ?_
                          exact ih102 (i100 + 1) 0 _ _ _ (by omega) (by omega)  hZ9 hP hD hS (lv_sub hl [0, 2, 3, 1, 4] rfl)
                        · replace hZ9 := ite_f hZ9 c110
                          refine lv_aload_n hx hb dX9_check_79 rfl (lv_at hl 4 rfl) ?_
                          refine va_get (D := (dC, dI)) (ci := 10) (v := .ref (a 7)) (C := RX9) (T := TX9) (N := 46) hx hb hts in_w_check_X9 hown hK hP 0 rfl rfl 7 (by decide) (hts (.fieldLink RX9 31 "ServiceTreeModel" "state" "[I") (by decide +kernel)) (fun _ h9 => h9) rfl dX9_check_80 ?_
                          refine lv_iload_n hx hb dX9_check_83 rfl (lv_at hl 2 rfl) ?_
                          refine va_iald (n := 40) (f := F 7) hx hb hK hP 8 7 rfl rfl (vp_in_nI (n := i1) (by omega) (by decide)) dX9_check_84 ?_
                          refine p1_topr (v := .int x31) (congrArg Value.int ex31.symm) ?_
                          refine lv_iconst (v := 1) hx hb dX9_check_85 (by decide) ?_
                          refine lv_icmp_lt (tgt := 125) hx hb dX9_check_86 (by decide) (fun c112 => ?_) (fun c112 => ?_)
                          · replace hZ9 := ite_t hZ9 c112
                            refine lv_iconst (v := 0) hx hb dX9_check_125 (by decide) ?_
                            refine lv_istore_n (lv' := [(2, .int 0), (4, .int (nI i100)), (1, .int 0), (3, .int (nI i1)), (0, .ref h)]) hx hb dX9_check_126 rfl hl (by decide) rfl (fun ls hl => ?_)
                            refine lv_iinc (v := nI (i100 + 1)) (lv' := [(4, .int (nI (i100 + 1))), (2, .int 0), (1, .int 0), (3, .int (nI i1)), (0, .ref h)]) hx hb dX9_check_127 hl (k := 1) rfl (nI_add i100 1) (by decide) rfl (fun ls hl => ?_)
                            refine lv_goto (tgt := 55) hx hb dX9_check_130 (by decide) ?_
                            exact ih102 (i100 + 1) 0 _ _ _ (by omega) (by omega)  hZ9 hP hD hS (lv_sub hl [0, 2, 3, 1, 4] rfl)
                          · replace hZ9 := ite_f hZ9 c112
                            refine lv_aload_n hx hb dX9_check_89 rfl (lv_at hl 4 rfl) ?_
                            refine va_get (D := (dC, dI)) (ci := 10) (v := .ref (a 7)) (C := RX9) (T := TX9) (N := 46) hx hb hts in_w_check_X9 hown hK hP 0 rfl rfl 7 (by decide) (hts (.fieldLink RX9 31 "ServiceTreeModel" "state" "[I") (by decide +kernel)) (fun _ h9 => h9) rfl dX9_check_90 ?_
                            refine lv_iload_n hx hb dX9_check_93 rfl (lv_at hl 2 rfl) ?_
                            refine va_iald (n := 40) (f := F 7) hx hb hK hP 8 7 rfl rfl (vp_in_nI (n := i1) (by omega) (by decide)) dX9_check_94 ?_
                            refine p1_topr (v := .int x31) (congrArg Value.int ex31.symm) ?_
                            refine lv_iconst (v := 3) hx hb dX9_check_95 (by decide) ?_
                            refine lv_icmp_gt (tgt := 125) hx hb dX9_check_96 (by decide) (fun c114 => ?_) (fun c114 => ?_)
                            · replace hZ9 := ite_t hZ9 c114
                              refine lv_iconst (v := 0) hx hb dX9_check_125 (by decide) ?_
                              refine lv_istore_n (lv' := [(2, .int 0), (4, .int (nI i100)), (1, .int 0), (3, .int (nI i1)), (0, .ref h)]) hx hb dX9_check_126 rfl hl (by decide) rfl (fun ls hl => ?_)
                              refine lv_iinc (v := nI (i100 + 1)) (lv' := [(4, .int (nI (i100 + 1))), (2, .int 0), (1, .int 0), (3, .int (nI i1)), (0, .ref h)]) hx hb dX9_check_127 hl (k := 1) rfl (nI_add i100 1) (by decide) rfl (fun ls hl => ?_)
                              refine lv_goto (tgt := 55) hx hb dX9_check_130 (by decide) ?_
                              exact ih102 (i100 + 1) 0 _ _ _ (by omega) (by omega)  hZ9 hP hD hS (lv_sub hl [0, 2, 3, 1, 4] rfl)
                            · replace hZ9 := ite_f hZ9 c114
                              refine lv_aload_n hx hb dX9_check_99 rfl (lv_at hl 4 rfl) ?_
                              refine va_get (D := (dC, dI)) (ci := 10) (v := .ref (a 7)) (C := RX9) (T := TX9) (N := 46) hx hb hts in_w_check_X9 hown hK hP 0 rfl rfl 7 (by decide) (hts (.fieldLink RX9 31 "ServiceTreeModel" "state" "[I") (by decide +kernel)) (fun _ h9 => h9) rfl dX9_check_100 ?_
                              refine lv_iload hx hb dX9_check_103 (lv_at hl 0 rfl) ?_
                              refine va_iald (n := 40) (f := F 7) hx hb hK hP 8 7 rfl rfl (vp_in_nI (n := i100) (by omega) (by decide)) dX9_check_105 ?_
                              refine lv_topi (fun x115 ex115 => ?_)
                              replace hZ9 := bnd_s hZ9 ex115
                              refine lv_iconst (v := 1) hx hb dX9_check_106 (by decide) ?_
                              refine lv_icmp_lt (tgt := 125) hx hb dX9_check_107 (by decide) (fun c116 => ?_) (fun c116 => ?_)
                              · replace hZ9 := ite_t hZ9 c116
                                refine lv_iconst (v := 0) hx hb dX9_check_125 (by decide) ?_
                                refine lv_istore_n (lv' := [(2, .int 0), (4, .int (nI i100)), (1, .int 0), (3, .int (nI i1)), (0, .ref h)]) hx hb dX9_check_126 rfl hl (by decide) rfl (fun ls hl => ?_)
                                refine lv_iinc (v := nI (i100 + 1)) (lv' := [(4, .int (nI (i100 + 1))), (2, .int 0), (1, .int 0), (3, .int (nI i1)), (0, .ref h)]) hx hb dX9_check_127 hl (k := 1) rfl (nI_add i100 1) (by decide) rfl (fun ls hl => ?_)
                                refine lv_goto (tgt := 55) hx hb dX9_check_130 (by decide) ?_
                                exact ih102 (i100 + 1) 0 _ _ _ (by omega) (by omega)  hZ9 hP hD hS (lv_sub hl [0, 2, 3, 1, 4] rfl)
                              · replace hZ9 := ite_f hZ9 c116
                                refine lv_aload_n hx hb dX9_check_110 rfl (lv_at hl 4 rfl) ?_
                                refine va_get (D := (dC, dI)) (ci := 10) (v := .ref (a 7)) (C := RX9) (T := TX9) (N := 46) hx hb hts in_w_check_X9 hown hK hP 0 rfl rfl 7 (by decide) (hts (.fieldLink RX9 31 "ServiceTreeModel" "state" "[I") (by decide +kernel)) (fun _ h9 => h9) rfl dX9_check_111 ?_
                                refine lv_iload hx hb dX9_check_114 (lv_at hl 0 rfl) ?_
                                refine va_iald (n := 40) (f := F 7) hx hb hK hP 8 7 rfl rfl (vp_in_nI (n := i100) (by omega) (by decide)) dX9_check_116 ?_
                                refine p1_topr (v := .int x115) (congrArg Value.int ex115.symm) ?_
                                refine lv_iconst (v := 3) hx hb dX9_check_117 (by decide) ?_
                                refine lv_icmp_gt (tgt := 125) hx hb dX9_check_118 (by decide) (fun c118 => ?_) (fun c118 => ?_)
                                · replace hZ9 := ite_t hZ9 c118
                                  refine lv_iconst (v := 0) hx hb dX9_check_125 (by decide) ?_
                                  refine lv_istore_n (lv' := [(2, .int 0), (4, .int (nI i100)), (1, .int 0), (3, .int (nI i1)), (0, .ref h)]) hx hb dX9_check_126 rfl hl (by decide) rfl (fun ls hl => ?_)
                                  refine lv_iinc (v := nI (i100 + 1)) (lv' := [(4, .int (nI (i100 + 1))), (2, .int 0), (1, .int 0), (3, .int (nI i1)), (0, .ref h)]) hx hb dX9_check_127 hl (k := 1) rfl (nI_add i100 1) (by decide) rfl (fun ls hl => ?_)
                                  refine lv_goto (tgt := 55) hx hb dX9_check_130 (by decide) ?_
                                  exact ih102 (i100 + 1) 0 _ _ _ (by omega) (by omega)  hZ9 hP hD hS (lv_sub hl [0, 2, 3, 1, 4] rfl)
                                · replace hZ9 := ite_f hZ9 c118
                                  refine lv_iconst (v := 1) hx hb dX9_check_121 (by decide) ?_
                                  refine lv_goto (tgt := 126) hx hb dX9_check_122 (by decide) ?_
                                  refine lv_istore_n (lv' := [(2, .int 1), (4, .int (nI i100)), (1, .int 0), (3, .int (nI i1)), (0, .ref h)]) hx hb dX9_check_126 rfl hl (by decide) rfl (fun ls hl => ?_)
                                  refine lv_iinc (v := nI (i100 + 1)) (lv' := [(4, .int (nI (i100 + 1))), (2, .int 1), (1, .int 0), (3, .int (nI i1)), (0, .ref h)]) hx hb dX9_check_127 hl (k := 1) rfl (nI_add i100 1) (by decide) rfl (fun ls hl => ?_)
                                  refine lv_goto (tgt := 55) hx hb dX9_check_130 (by decide) ?_
                                  exact ih102 (i100 + 1) 1 _ _ _ (by omega) (by omega)  hZ9 hP hD hS (lv_sub hl [0, 2, 3, 1, 4] rfl)
                exact lp103 (n + 1) 0 y5 _ _ _ (by omega) (by omega)  hZ9 hP hD hS hl
              · replace hZ9 := ite_t hZ9 c99
                refine lv_iconst (v := 1) hx hb dX9_check_46 (by decide) ?_
                refine lv_goto (tgt := 51) hx hb dX9_check_47 (by decide) ?_
                refine lv_istore_n (lv' := [(1, .int 1), (3, .int (nI i1)), (2, .int y5), (0, .ref h)]) hx hb dX9_check_51 rfl hl (by decide) rfl (fun ls hl => ?_)
                refine lv_iconst (v := 0) hx hb dX9_check_52 (by decide) ?_
                refine lv_istore (lv' := [(4, .int 0), (1, .int 1), (3, .int (nI i1)), (2, .int y5), (0, .ref h)]) hx hb dX9_check_53 hl (by decide) rfl (fun ls hl => ?_)
                obtain ⟨K9_55, hK9_55, hZ9⟩ := lp_gen hZ9
                have lp122 : ∀ (fu120 i119 : Nat) (y123 : Int32) (H : Heap) (locs : List Loc) (ls : Array Slot), n < i119 + fu120 → i119 ≤ n → RES = f_w_check_55q5 n F i1 x31 fu120 i119 y123 K9_55 → va_P (dC, dI) vwCl (mW h a k F V) H → va_D A (mW h a k F V) → va_S A s.heap H locs → lv_has ls 5 [(4, .int (nI i119)), (1, .int 1), (3, .int (nI i1)), (2, .int y123), (0, .ref h)] → W p l e (headSpec wq_w_check rm_w_check).room s m ([.ref h] : List Value).toArray below meth c H locs 0 0 Q0 (F0 m 55 ls []) := by
                  intro fu120
                  induction fu120 with
                  | zero =>
                    intro i119 y123 H locs ls hf hi
                    exact absurd hf (by omega)
                  | succ fu120 ih121 =>
                    intro i119 y123 H locs ls hfi119 hii119 hZ9 hP hD hS hl
                    rw [f_w_check_55q5] at hZ9
                    refine lv_iload hx hb dX9_check_55 (lv_at hl 0 rfl) ?_
                    refine lv_aload_n hx hb dX9_check_57 rfl (lv_at hl 4 rfl) ?_
                    refine va_get (D := (dC, dI)) (ci := 10) (v := .int (V 21)) (C := RX9) (T := TX9) (N := 46) hx hb hts in_w_check_X9 hown hK hP 0 rfl rfl 21 (by decide) (hts (.fieldLink RX9 126 "ServiceTreeModel" "services" "I") (by decide +kernel)) (fun _ h9 => h9) rfl dX9_check_58 ?_
                    refine p1_topr (v := .int (nI n)) (congrArg Value.int hI.1.2.1) ?_
                    refine lv_icmp_ge (tgt := 133) hx hb dX9_check_61 (by decide) (fun c124 => ?_) (fun c124 => ?_)
                    · replace c124 : n ≤ i119 := (nI_leI (a := n) (b := i119) (by omega) (by omega)).mp c124
                      replace hZ9 := ite_t hZ9 c124
                      replace hZ9 := lp_app2 hK9_55 hZ9
                      refine lv_iinc (v := nI (i1 + 1)) (lv' := [(3, .int (nI (i1 + 1))), (4, .int (nI i119)), (1, .int 1), (2, .int y123), (0, .ref h)]) hx hb dX9_check_133 hl (k := 2) rfl (nI_add i1 1) (by decide) rfl (fun ls hl => ?_)
                      refine lv_goto (tgt := 6) hx hb dX9_check_136 (by decide) ?_
                      exact ih3 (i1 + 1) y123 1 _ _ _ (by omega) (by omega)  hZ9 hP hD hS (lv_sub hl [0, 3, 2, 4] rfl)
                    · replace c124 : ¬ (n ≤ i119) := fun q9 => c124 ((nI_leI (a := n) (b := i119) (by omega) (by omega)).mpr q9)
                      replace hZ9 := ite_f hZ9 c124
                      refine lv_iload_n hx hb dX9_check_64 rfl (lv_at hl 3 rfl) ?_
                      refine lv_if_ne (tgt := 121) hx hb dX9_check_65 (by decide) (fun c125 => ?_) (fun c125 => ?_)
                      · replace hZ9 := ite_f hZ9 c125
                        refine lv_iconst (v := 1) hx hb dX9_check_121 (by decide) ?_
                        refine lv_goto (tgt := 126) hx hb dX9_check_122 (by decide) ?_
                        refine lv_istore_n (lv' := [(2, .int 1), (4, .int (nI i119)), (1, .int 1), (3, .int (nI i1)), (0, .ref h)]) hx hb dX9_check_126 rfl hl (by decide) rfl (fun ls hl => ?_)
                        refine lv_iinc (v := nI (i119 + 1)) (lv' := [(4, .int (nI (i119 + 1))), (2, .int 1), (1, .int 1), (3, .int (nI i1)), (0, .ref h)]) hx hb dX9_check_127 hl (k := 1) rfl (nI_add i119 1) (by decide) rfl (fun ls hl => ?_)
                        refine lv_goto (tgt := 55) hx hb dX9_check_130 (by decide) ?_
                        exact ih121 (i119 + 1) 1 _ _ _ (by omega) (by omega)  hZ9 hP hD hS (lv_sub hl [0, 2, 3, 1, 4] rfl)
                      · replace hZ9 := ite_t hZ9 c125
                        refine lv_aload_n hx hb dX9_check_68 rfl (lv_at hl 4 rfl) ?_
                        refine lv_iconst (v := 3) hx hb dX9_check_69 (by decide) ?_
                        refine lv_iload_n hx hb dX9_check_70 rfl (lv_at hl 2 rfl) ?_
                        refine lv_iload hx hb dX9_check_71 (lv_at hl 0 rfl) ?_
                        have hFc := mw_free hD hS hA
                        refine va_calli (va_runV (As := [.int 3, .int (nI i1), .int (nI i119)]) (rest := []) ⟨hx, hb, hml, hown, hts⟩ (c_w_has l dC dI h a k F V n (b) 3 i1 i119 H.size hI.1 (by omega) (by omega) (by omega) (by omega)) (cwV 3 hts wc_w_check_w_has_150 rfl rfl rfl (by decide +kernel) ⟨Nat.le_of_ble_eq_true rfl, Nat.le_of_ble_eq_true rfl⟩) ⟨fun a9 U g mk q => by obtain ⟨q0, q1, qP, qK, qD⟩ := q; exact ⟨q0, q1, qP, va_K.moved (u := U) (U := U.calling g mk a9) (Vm.Alike.refl U.vm) qK, qD⟩, va_recv hK hP (ci := 10) (q0 := 0) rfl rfl, fun U hU hW => ⟨rfl, by rw [hU], by rw [hU]; exact hP, va_K.moved hW.alike hK, hD.weaken (fun _ _ _ _ => trivial)⟩⟩ rfl rfl hl.1 rfl (lv_room (Nat.le_of_ble_eq_true rfl)) dX9_check_73 ⟨Nat.le_of_ble_eq_true rfl, Nat.le_of_ble_eq_true rfl⟩) hS (fun q _ h => hFc q h) hFc (fun r126 u t H1 locs ht hvm hw hB hz1 hk1 hS => ?_)
                        obtain ⟨F127, V128⟩ := u
                        replace hP := hB.1
                        rw [ht] at hP
                        replace hD : va_D A (mW h a k F127 V128) := hB.2.weaken (fun _ q _ h9 => hFc q.1 h9)
                        clear hB
                        generalize H1 = H at hP hS ⊢
                        replace hP : va_P (dC, dI) vwCl (mW h a k F127 V128) H := hP
                        obtain ⟨hwF, hwV, hw⟩ : F127 = F ∧ V128 = V ∧ _ := hw
                        rw [hwF, hwV] at hP hD
                        obtain ⟨hw, hwe⟩ := hw
                        replace hw : r126 = f_w_has n 3 i1 i119 F := hw
                        replace hZ9 := bnd_s hZ9 hw
                        have br126 := hwe
                        refine lv_if_eq (tgt := 125) hx hb dX9_check_76 (by decide) (fun c129 => ?_) (fun c129 => ?_)
                        · replace hZ9 := ite_t hZ9 c129
                          refine lv_iconst (v := 0) hx hb dX9_check_125 (by decide) ?_
                          refine lv_istore_n (lv' := [(2, .int 0), (4, .int (nI i119)), (1, .int 1), (3, .int (nI i1)), (0, .ref h)]) hx hb dX9_check_126 rfl hl (by decide) rfl (fun ls hl => ?_)
                          refine lv_iinc (v := nI (i119 + 1)) (lv' := [(4, .int (nI (i119 + 1))), (2, .int 0), (1, .int 1), (3, .int (nI i1)), (0, .ref h)]) hx hb dX9_check_127 hl (k := 1) rfl (nI_add i119 1) (by decide) rfl (fun ls hl => ?_)
                          refine lv_goto (tgt := 55) hx hb dX9_check_130 (by decide) ?_
                          exact ih121 (i119 + 1) 0 _ _ _ (by omega) (by omega)  hZ9 hP hD hS (lv_sub hl [0, 2, 3, 1, 4] rfl)
                        · replace hZ9 := ite_f hZ9 c129
                          refine lv_aload_n hx hb dX9_check_79 rfl (lv_at hl 4 rfl) ?_
                          refine va_get (D := (dC, dI)) (ci := 10) (v := .ref (a 7)) (C := RX9) (T := TX9) (N := 46) hx hb hts in_w_check_X9 hown hK hP 0 rfl rfl 7 (by decide) (hts (.fieldLink RX9 31 "ServiceTreeModel" "state" "[I") (by decide +kernel)) (fun _ h9 => h9) rfl dX9_check_80 ?_
                          refine lv_iload_n hx hb dX9_check_83 rfl (lv_at hl 2 rfl) ?_
                          refine va_iald (n := 40) (f := F 7) hx hb hK hP 8 7 rfl rfl (vp_in_nI (n := i1) (by omega) (by decide)) dX9_check_84 ?_
                          refine p1_topr (v := .int x31) (congrArg Value.int ex31.symm) ?_
                          refine lv_iconst (v := 1) hx hb dX9_check_85 (by decide) ?_
                          refine lv_icmp_lt (tgt := 125) hx hb dX9_check_86 (by decide) (fun c131 => ?_) (fun c131 => ?_)
                          · replace hZ9 := ite_t hZ9 c131
                            refine lv_iconst (v := 0) hx hb dX9_check_125 (by decide) ?_
                            refine lv_istore_n (lv' := [(2, .int 0), (4, .int (nI i119)), (1, .int 1), (3, .int (nI i1)), (0, .ref h)]) hx hb dX9_check_126 rfl hl (by decide) rfl (fun ls hl => ?_)
                            refine lv_iinc (v := nI (i119 + 1)) (lv' := [(4, .int (nI (i119 + 1))), (2, .int 0), (1, .int 1), (3, .int (nI i1)), (0, .ref h)]) hx hb dX9_check_127 hl (k := 1) rfl (nI_add i119 1) (by decide) rfl (fun ls hl => ?_)
                            refine lv_goto (tgt := 55) hx hb dX9_check_130 (by decide) ?_
                            exact ih121 (i119 + 1) 0 _ _ _ (by omega) (by omega)  hZ9 hP hD hS (lv_sub hl [0, 2, 3, 1, 4] rfl)
                          · replace hZ9 := ite_f hZ9 c131
                            refine lv_aload_n hx hb dX9_check_89 rfl (lv_at hl 4 rfl) ?_
                            refine va_get (D := (dC, dI)) (ci := 10) (v := .ref (a 7)) (C := RX9) (T := TX9) (N := 46) hx hb hts in_w_check_X9 hown hK hP 0 rfl rfl 7 (by decide) (hts (.fieldLink RX9 31 "ServiceTreeModel" "state" "[I") (by decide +kernel)) (fun _ h9 => h9) rfl dX9_check_90 ?_
                            refine lv_iload_n hx hb dX9_check_93 rfl (lv_at hl 2 rfl) ?_
                            refine va_iald (n := 40) (f := F 7) hx hb hK hP 8 7 rfl rfl (vp_in_nI (n := i1) (by omega) (by decide)) dX9_check_94 ?_
                            refine p1_topr (v := .int x31) (congrArg Value.int ex31.symm) ?_
                            refine lv_iconst (v := 3) hx hb dX9_check_95 (by decide) ?_
                            refine lv_icmp_gt (tgt := 125) hx hb dX9_check_96 (by decide) (fun c133 => ?_) (fun c133 => ?_)
                            · replace hZ9 := ite_t hZ9 c133
                              refine lv_iconst (v := 0) hx hb dX9_check_125 (by decide) ?_
                              refine lv_istore_n (lv' := [(2, .int 0), (4, .int (nI i119)), (1, .int 1), (3, .int (nI i1)), (0, .ref h)]) hx hb dX9_check_126 rfl hl (by decide) rfl (fun ls hl => ?_)
                              refine lv_iinc (v := nI (i119 + 1)) (lv' := [(4, .int (nI (i119 + 1))), (2, .int 0), (1, .int 1), (3, .int (nI i1)), (0, .ref h)]) hx hb dX9_check_127 hl (k := 1) rfl (nI_add i119 1) (by decide) rfl (fun ls hl => ?_)
                              refine lv_goto (tgt := 55) hx hb dX9_check_130 (by decide) ?_
                              exact ih121 (i119 + 1) 0 _ _ _ (by omega) (by omega)  hZ9 hP hD hS (lv_sub hl [0, 2, 3, 1, 4] rfl)
                            · replace hZ9 := ite_f hZ9 c133
                              refine lv_aload_n hx hb dX9_check_99 rfl (lv_at hl 4 rfl) ?_
                              refine va_get (D := (dC, dI)) (ci := 10) (v := .ref (a 7)) (C := RX9) (T := TX9) (N := 46) hx hb hts in_w_check_X9 hown hK hP 0 rfl rfl 7 (by decide) (hts (.fieldLink RX9 31 "ServiceTreeModel" "state" "[I") (by decide +kernel)) (fun _ h9 => h9) rfl dX9_check_100 ?_
                              refine lv_iload hx hb dX9_check_103 (lv_at hl 0 rfl) ?_
                              refine va_iald (n := 40) (f := F 7) hx hb hK hP 8 7 rfl rfl (vp_in_nI (n := i119) (by omega) (by decide)) dX9_check_105 ?_
                              refine lv_topi (fun x134 ex134 => ?_)
                              replace hZ9 := bnd_s hZ9 ex134
                              refine lv_iconst (v := 1) hx hb dX9_check_106 (by decide) ?_
                              refine lv_icmp_lt (tgt := 125) hx hb dX9_check_107 (by decide) (fun c135 => ?_) (fun c135 => ?_)
                              · replace hZ9 := ite_t hZ9 c135
                                refine lv_iconst (v := 0) hx hb dX9_check_125 (by decide) ?_
                                refine lv_istore_n (lv' := [(2, .int 0), (4, .int (nI i119)), (1, .int 1), (3, .int (nI i1)), (0, .ref h)]) hx hb dX9_check_126 rfl hl (by decide) rfl (fun ls hl => ?_)
                                refine lv_iinc (v := nI (i119 + 1)) (lv' := [(4, .int (nI (i119 + 1))), (2, .int 0), (1, .int 1), (3, .int (nI i1)), (0, .ref h)]) hx hb dX9_check_127 hl (k := 1) rfl (nI_add i119 1) (by decide) rfl (fun ls hl => ?_)
                                refine lv_goto (tgt := 55) hx hb dX9_check_130 (by decide) ?_
                                exact ih121 (i119 + 1) 0 _ _ _ (by omega) (by omega)  hZ9 hP hD hS (lv_sub hl [0, 2, 3, 1, 4] rfl)
                              · replace hZ9 := ite_f hZ9 c135
                                refine lv_aload_n hx hb dX9_check_110 rfl (lv_at hl 4 rfl) ?_
                                refine va_get (D := (dC, dI)) (ci := 10) (v := .ref (a 7)) (C := RX9) (T := TX9) (N := 46) hx hb hts in_w_check_X9 hown hK hP 0 rfl rfl 7 (by decide) (hts (.fieldLink RX9 31 "ServiceTreeModel" "state" "[I") (by decide +kernel)) (fun _ h9 => h9) rfl dX9_check_111 ?_
                                refine lv_iload hx hb dX9_check_114 (lv_at hl 0 rfl) ?_
                                refine va_iald (n := 40) (f := F 7) hx hb hK hP 8 7 rfl rfl (vp_in_nI (n := i119) (by omega) (by decide)) dX9_check_116 ?_
                                refine p1_topr (v := .int x134) (congrArg Value.int ex134.symm) ?_
                                refine lv_iconst (v := 3) hx hb dX9_check_117 (by decide) ?_
                                refine lv_icmp_gt (tgt := 125) hx hb dX9_check_118 (by decide) (fun c137 => ?_) (fun c137 => ?_)
                                · replace hZ9 := ite_t hZ9 c137
                                  refine lv_iconst (v := 0) hx hb dX9_check_125 (by decide) ?_
                                  refine lv_istore_n (lv' := [(2, .int 0), (4, .int (nI i119)), (1, .int 1), (3, .int (nI i1)), (0, .ref h)]) hx hb dX9_check_126 rfl hl (by decide) rfl (fun ls hl => ?_)
                                  refine lv_iinc (v := nI (i119 + 1)) (lv' := [(4, .int (nI (i119 + 1))), (2, .int 0), (1, .int 1), (3, .int (nI i1)), (0, .ref h)]) hx hb dX9_check_127 hl (k := 1) rfl (nI_add i119 1) (by decide) rfl (fun ls hl => ?_)
                                  refine lv_goto (tgt := 55) hx hb dX9_check_130 (by decide) ?_
                                  exact ih121 (i119 + 1) 0 _ _ _ (by omega) (by omega)  hZ9 hP hD hS (lv_sub hl [0, 2, 3, 1, 4] rfl)
                                · replace hZ9 := ite_f hZ9 c137
                                  refine lv_iconst (v := 1) hx hb dX9_check_121 (by decide) ?_
                                  refine lv_goto (tgt := 126) hx hb dX9_check_122 (by decide) ?_
                                  refine lv_istore_n (lv' := [(2, .int 1), (4, .int (nI i119)), (1, .int 1), (3, .int (nI i1)), (0, .ref h)]) hx hb dX9_check_126 rfl hl (by decide) rfl (fun ls hl => ?_)
                                  refine lv_iinc (v := nI (i119 + 1)) (lv' := [(4, .int (nI (i119 + 1))), (2, .int 1), (1, .int 1), (3, .int (nI i1)), (0, .ref h)]) hx hb dX9_check_127 hl (k := 1) rfl (nI_add i119 1) (by decide) rfl (fun ls hl => ?_)
                                  refine lv_goto (tgt := 55) hx hb dX9_check_130 (by decide) ?_
                                  exact ih121 (i119 + 1) 1 _ _ _ (by omega) (by omega)  hZ9 hP hD hS (lv_sub hl [0, 2, 3, 1, 4] rfl)
                exact lp122 (n + 1) 0 y5 _ _ _ (by omega) (by omega)  hZ9 hP hD hS hl
  exact lp4 (n + 1) 0 0 0 _ _ _ (by omega) (by omega)  hZ9 hP hD hS hl

end
section
def f_w_reckon_7 (n : Nat) (sv : Nat) (F : Nat → Nat → Int32) : Nat → Nat → Int32 → Int32 → (Nat → Int32 → Int32 → (Nat → Nat → Int32) × (Nat → Int32)) → (Nat → Nat → Int32) × (Nat → Int32)
  | 0, i1, y5, y6, K9_7 => K9_7 i1 y5 y6
  | fu2 + 1, i1, y5, y6, K9_7 => if n ≤ i1 then (K9_7 i1 y5 y6) else (bnd (f_w_waitsAmong_newJob n sv i1 F) (fun (r22 : Int32) => if r22 = (0 : Int32) then (f_w_reckon_7 n sv F fu2 (i1 + 1) y5 y6 K9_7) else (if y5 = (0 : Int32) then (bnd (F 40 (nI i1).toNatClampNeg) (fun (x27 : Int32) => if x27 ≤ y6 then (f_w_reckon_7 n sv F fu2 (i1 + 1) (0 : Int32) y6 K9_7) else (f_w_reckon_7 n sv F fu2 (i1 + 1) (0 : Int32) x27 K9_7))) else (bnd (F 40 (nI i1).toNatClampNeg) (fun (x30 : Int32) => if x30 < (0 : Int32) then (if x30 ≤ y6 then (f_w_reckon_7 n sv F fu2 (i1 + 1) (0 : Int32) y6 K9_7) else (f_w_reckon_7 n sv F fu2 (i1 + 1) (0 : Int32) x30 K9_7)) else (if x30 ≤ y6 then (f_w_reckon_7 n sv F fu2 (i1 + 1) (1 : Int32) y6 K9_7) else (f_w_reckon_7 n sv F fu2 (i1 + 1) (1 : Int32) x30 K9_7)))))))
def f_w_reckon (n : Nat) (sv : Nat) (F : Nat → Nat → Int32) (V : Nat → Int32) : (Nat → Nat → Int32) × (Nat → Int32) := f_w_reckon_7 n sv F (n + 1) (0 : Nat) (1 : Int32) (0 : Int32) (fun (i1 : Nat) (y5 : Int32) (y6 : Int32) => if y5 = (0 : Int32) then ((F, V)) else (bnd (va_up F 41 (upd (F 41) (nI sv).toNatClampNeg y6)) (fun (F9 : Nat → Nat → Int32) => bnd (F9 30 (nI sv).toNatClampNeg) (fun (x10 : Int32) => if x10 = (1 : Int32) then (bnd (F9 1 (nI sv).toNatClampNeg) (fun (x19 : Int32) => bnd (y6 + x19) (fun (x20 : Int32) => bnd (va_up F9 40 (upd (F9 40) (nI sv).toNatClampNeg x20)) (fun (F21 : Nat → Nat → Int32) => (F21, V))))) else (bnd (F9 7 (nI sv).toNatClampNeg) (fun (x12 : Int32) => if x12 = (5 : Int32) then (bnd (y6 + (0 : Int32)) (fun (x17 : Int32) => bnd (va_up F9 40 (upd (F9 40) (nI sv).toNatClampNeg x17)) (fun (F18 : Nat → Nat → Int32) => (F18, V)))) else (bnd (F9 2 (nI sv).toNatClampNeg) (fun (x14 : Int32) => bnd (y6 + x14) (fun (x15 : Int32) => bnd (va_up F9 40 (upd (F9 40) (nI sv).toNatClampNeg x15)) (fun (F16 : Nat → Nat → Int32) => (F16, V)))))))))))
def wq_w_reckon : List Cond := ([.code yX9_reckon cX9_reckon 5 none, .fieldLink RX9 126 "ServiceTreeModel" "services" "I", .fieldLink RX9 114 "ServiceTreeModel" "begins" "[I", .fieldLink RX9 111 "ServiceTreeModel" "ends" "[I", .fieldLink RX9 86 "ServiceTreeModel" "newJob" "[I", .fieldLink RX9 31 "ServiceTreeModel" "state" "[I", .fieldLink RX9 16 "ServiceTreeModel" "stop" "[I", .fieldLink RX9 13 "ServiceTreeModel" "start" "[I", .methodLink RX9 167 yX9_waitsAmong, .instanceMethod yX9_waitsAmong, .selects RX9 yX9_waitsAmong yX9_waitsAmong, .initialized RX9] : List Cond) ++ (wsX90 ++ (wq_w_waitsAmong_newJob))
theorem in_w_reckon_X9 : ∀ w ∈ wsX90, w ∈ wq_w_reckon := fun _ h => List.mem_append_right _ (List.mem_append_left _ (h))
set_option maxRecDepth 20000 in
theorem wi_w_reckon : ∀ w ∈ wq_w_reckon, w ∈ lw_tbl := List.forall_mem_append.mpr ⟨(wix [1166, 873, 893, 892, 882, 859, 854, 853, 1083, 1085, 47, 69] rfl), List.forall_mem_append.mpr ⟨inKX9, wi_w_waitsAmong_newJob⟩⟩
set_option maxRecDepth 20000 in
theorem wg_w_reckon : GoodIn wq_w_reckon wq_w_reckon := goodIn_sub (fun _ h => h) (by decide +kernel)
set_option maxRecDepth 20000 in
theorem wc_w_reckon_w_waitsAmong_newJob_167 : GoodIn wq_w_reckon (wsV RX9 167 RX9 yX9_waitsAmong wq_w_waitsAmong_newJob) := goodIn_app (goodIn_of _ (by decide +kernel)) (fun w h => ⟨List.mem_append_right _ (List.mem_append_right _ (h)), (wg_w_waitsAmong_newJob w h).2⟩)
def rm_w_reckon : Room := { frames := 2, cells := 0, slots := 0, locals := 46 }
set_option maxHeartbeats 4000000 in
set_option maxRecDepth 100000 in
theorem c_w_reckon (l : Launch) (dC : Nat → ClassId) (dI : Nat → Nat → Nat) (h : Nat) (a : Nat → Nat) (k : Nat → ClassId) (F : Nat → Nat → Int32) (V : Nat → Int32) (n b : Nat) (sv : Nat) (sz : Nat) (hI0 : InvM n b F V) (hb0 : b + 0 < 2147483648) (hp0 : sv < n) : Met l yX9_reckon wq_w_reckon rm_w_reckon (va_Pc [.ref h, .int (nI sv)] (fun U => U.heap.size = sz ∧ va_P (dC, dI) vwCl (mW h a k F V) U.heap ∧ va_K (dC, dI) vwCl (mT k) U ∧ va_D (fun _ => True) (mW h a k F V))) (va_Qv (fun (u : (Nat → Nat → Int32) × (Nat → Int32)) => StM n (b + 0) F V u.1 u.2 ∧ (∀ j : Nat, j ∉ ([40, 41] : List Nat) → u.1 j = F j) ∧ (∀ j : Nat, j ∉ ([] : List Nat) → u.2 j = V j) ∧ ((u.1, u.2) = f_w_reckon n sv F V)) (fun (u : (Nat → Nat → Int32) × (Nat → Int32)) (t : State) => va_P (dC, dI) vwCl (mW h a k u.1 u.2) t.heap ∧ va_D (va_A (mW h a k F V) sz) (mW h a k u.1 u.2)) (va_A (mW h a k F V) sz)) 0 0 (va_A (mW h a k F V) sz) := by
  have hn : n ≤ 40 := hI0.1
  have hI : StM n b F V F V := StM.rf hI0
  have hU : ∀ j : Nat, j ∉ ([40, 41] : List Nat) → F j = F j := fun _ _ => rfl
  have hV : ∀ j : Nat, j ∉ ([] : List Nat) → V j = V j := fun _ _ => rfl
  refine Met.ofW (cc := cX9_reckon) (maxL := 5) (ret := none) (by decide) rfl ?_
  intro p e s m args below meth c s₁ B hml hv
  obtain ⟨rfl, hsz, hP, hK, hD0⟩ := hv
  have hx := B.exec
  have hb := B.bytes
  have hr := B.returns
  have hts := atoms_spec (ws := wq_w_reckon) B.pre
  have hown : s.vm.findClass RX9 = some m.cls := findClass_of_methodNamed B.named
  have hlocks := B.notSynchronized
  subst hsz
  have hD := hD0.self (sz := s.heap.size)
  generalize hAe : va_A (mW h a k F V) s.heap.size = A at hD ⊢
  have hA : ∀ q : Nat, s.heap.size ≤ q → A q := fun q h => by rw [← hAe]; exact Or.inr h
  have hS : va_S A s.heap s.heap [] := va_S.rf
  have hl := lv_entry ([.ref h, .int (nI sv)]) (n := 5) (Nat.le_of_ble_eq_true rfl)
  rw [lg_entry_eq]
  generalize (lg_sl ([.ref h, .int (nI sv)]) ++ List.replicate (5 - (lg_sl ([.ref h, .int (nI sv)])).length) Slot.unset).toArray = ls at hl ⊢
  have hl : lv_has ls 5 [(0, .ref h), (1, .int (nI sv))] := hl
  refine mw_Q (fun Q0 hQ => ?_)
  obtain ⟨RES, hR0⟩ : ∃ R9, R9 = f_w_reckon n sv F V := ⟨_, rfl⟩
  have hZ9 := hR0
  unfold f_w_reckon at hZ9
  refine lv_iconst (v := 0) hx hb dX9_reckon_0 (by decide) ?_
  refine lv_istore_n (lv' := [(2, .int 0), (0, .ref h), (1, .int (nI sv))]) hx hb dX9_reckon_1 rfl hl (by decide) rfl (fun ls hl => ?_)
  refine lv_iconst (v := 1) hx hb dX9_reckon_2 (by decide) ?_
  refine lv_istore_n (lv' := [(3, .int 1), (2, .int 0), (0, .ref h), (1, .int (nI sv))]) hx hb dX9_reckon_3 rfl hl (by decide) rfl (fun ls hl => ?_)
  refine lv_iconst (v := 0) hx hb dX9_reckon_4 (by decide) ?_
  refine lv_istore (lv' := [(4, .int 0), (3, .int 1), (2, .int 0), (0, .ref h), (1, .int (nI sv))]) hx hb dX9_reckon_5 hl (by decide) rfl (fun ls hl => ?_)
  obtain ⟨K9_7, hK9_7, hZ9⟩ := lp_gen hZ9
  have lp4 : ∀ (fu2 i1 : Nat) (y5 : Int32) (y6 : Int32) (H : Heap) (locs : List Loc) (ls : Array Slot), n < i1 + fu2 → i1 ≤ n → RES = f_w_reckon_7 n sv F fu2 i1 y5 y6 K9_7 → va_P (dC, dI) vwCl (mW h a k F V) H → va_D A (mW h a k F V) → va_S A s.heap H locs → lv_has ls 5 [(4, .int (nI i1)), (3, .int y5), (2, .int y6), (0, .ref h), (1, .int (nI sv))] → W p l e (headSpec wq_w_reckon rm_w_reckon).room s m ([.ref h, .int (nI sv)] : List Value).toArray below meth c H locs 0 0 Q0 (F0 m 7 ls []) := by
    intro fu2
    induction fu2 with
    | zero =>
      intro i1 y5 y6 H locs ls hf hi
      exact absurd hf (by omega)
    | succ fu2 ih3 =>
      intro i1 y5 y6 H locs ls hfi1 hii1 hZ9 hP hD hS hl
      rw [f_w_reckon_7] at hZ9
      refine lv_iload hx hb dX9_reckon_7 (lv_at hl 0 rfl) ?_
      refine lv_aload_n hx hb dX9_reckon_9 rfl (lv_at hl 3 rfl) ?_
      refine va_get (D := (dC, dI)) (ci := 10) (v := .int (V 21)) (C := RX9) (T := TX9) (N := 46) hx hb hts in_w_reckon_X9 hown hK hP 0 rfl rfl 21 (by decide) (hts (.fieldLink RX9 126 "ServiceTreeModel" "services" "I") (by decide +kernel)) (fun _ h9 => h9) rfl dX9_reckon_10 ?_
      refine p1_topr (v := .int (nI n)) (congrArg Value.int hI.1.2.1) ?_
      refine lv_icmp_ge (tgt := 79) hx hb dX9_reckon_13 (by decide) (fun c7 => ?_) (fun c7 => ?_)
      · replace c7 : n ≤ i1 := (nI_leI (a := n) (b := i1) (by omega) (by omega)).mp c7
        replace hZ9 := ite_t hZ9 c7
        replace hZ9 := lp_app3 hK9_7 hZ9
        refine lv_iload_n hx hb dX9_reckon_79 rfl (lv_at hl 1 rfl) ?_
        refine lv_if_eq (tgt := 137) hx hb dX9_reckon_80 (by decide) (fun c8 => ?_) (fun c8 => ?_)
        · replace hZ9 := ite_t hZ9 c8
          rw [hQ]
          exact W.vret hx hb hr (fun t ht hW => ⟨⟨(F, V), rfl, ⟨hI.mono (by omega), hU, hV, hZ9.symm.trans hR0⟩, by rw [ht]; exact hP, hD⟩, hS.F ht⟩) hS.2.2 dX9_reckon_137
        · replace hZ9 := ite_f hZ9 c8
          refine lv_aload_n hx hb dX9_reckon_83 rfl (lv_at hl 3 rfl) ?_
          refine va_get (D := (dC, dI)) (ci := 10) (v := .ref (a 41)) (C := RX9) (T := TX9) (N := 46) hx hb hts in_w_reckon_X9 hown hK hP 0 rfl rfl 41 (by decide) (hts (.fieldLink RX9 114 "ServiceTreeModel" "begins" "[I") (by decide +kernel)) (fun _ h9 => h9) rfl dX9_reckon_84 ?_
          refine lv_iload_n hx hb dX9_reckon_87 rfl (lv_at hl 4 rfl) ?_
          refine lv_iload_n hx hb dX9_reckon_88 rfl (lv_at hl 2 rfl) ?_
          refine va_iast (n := 40) (f := F 41) hx hb hK hP hD hS 34 33 rfl rfl (vp_in_nI (n := sv) (by omega) (by decide)) dX9_reckon_89 (fun H locs hP hD hS => ?_)
          rw [mW_set_41] at hP hD
          obtain ⟨F9, eF9⟩ : ∃ f9 : Nat → Nat → Int32, f9 = va_up F 41 (upd (F 41) (nI sv).toNatClampNeg y6) := ⟨_, rfl⟩
          rw [← eF9] at hP hD
          replace hZ9 := bnd_s hZ9 eF9
          replace hI : StM n (b) F V F9 V := ⟨by rw [eF9]; exact hI.1.setF (by decide), trivial⟩
          replace hU : ∀ j : Nat, j ∉ ([40, 41] : List Nat) → F9 j = F j := by rw [eF9]; exact mw_up (by decide) hU
          refine lv_aload_n hx hb dX9_reckon_90 rfl (lv_at hl 3 rfl) ?_
          refine va_get (D := (dC, dI)) (ci := 10) (v := .ref (a 40)) (C := RX9) (T := TX9) (N := 46) hx hb hts in_w_reckon_X9 hown hK hP 0 rfl rfl 40 (by decide) (hts (.fieldLink RX9 111 "ServiceTreeModel" "ends" "[I") (by decide +kernel)) (fun _ h9 => h9) rfl dX9_reckon_91 ?_
          refine lv_iload_n hx hb dX9_reckon_94 rfl (lv_at hl 4 rfl) ?_
          refine lv_iload_n hx hb dX9_reckon_95 rfl (lv_at hl 2 rfl) ?_
          refine lv_aload_n hx hb dX9_reckon_96 rfl (lv_at hl 3 rfl) ?_
          refine va_get (D := (dC, dI)) (ci := 10) (v := .ref (a 30)) (C := RX9) (T := TX9) (N := 46) hx hb hts in_w_reckon_X9 hown hK hP 0 rfl rfl 30 (by decide) (hts (.fieldLink RX9 86 "ServiceTreeModel" "newJob" "[I") (by decide +kernel)) (fun _ h9 => h9) rfl dX9_reckon_97 ?_
          refine lv_iload_n hx hb dX9_reckon_100 rfl (lv_at hl 4 rfl) ?_
          refine va_iald (n := 40) (f := F9 30) hx hb hK hP 26 25 rfl rfl (vp_in_nI (n := sv) (by omega) (by decide)) dX9_reckon_101 ?_
          refine lv_topi (fun x10 ex10 => ?_)
          replace hZ9 := bnd_s hZ9 ex10
          refine lv_iconst (v := 1) hx hb dX9_reckon_102 (by decide) ?_
          refine lv_icmp_ne (tgt := 115) hx hb dX9_reckon_103 (by decide) (fun c11 => ?_) (fun c11 => ?_)
          · replace hZ9 := ite_f hZ9 c11
            refine lv_aload_n hx hb dX9_reckon_115 rfl (lv_at hl 3 rfl) ?_
            refine va_get (D := (dC, dI)) (ci := 10) (v := .ref (a 7)) (C := RX9) (T := TX9) (N := 46) hx hb hts in_w_reckon_X9 hown hK hP 0 rfl rfl 7 (by decide) (hts (.fieldLink RX9 31 "ServiceTreeModel" "state" "[I") (by decide +kernel)) (fun _ h9 => h9) rfl dX9_reckon_116 ?_
            refine lv_iload_n hx hb dX9_reckon_119 rfl (lv_at hl 4 rfl) ?_
            refine va_iald (n := 40) (f := F9 7) hx hb hK hP 8 7 rfl rfl (vp_in_nI (n := sv) (by omega) (by decide)) dX9_reckon_120 ?_
            refine lv_topi (fun x12 ex12 => ?_)
            replace hZ9 := bnd_s hZ9 ex12
            refine lv_iconst (v := 5) hx hb dX9_reckon_121 (by decide) ?_
            refine lv_icmp_ne (tgt := 129) hx hb dX9_reckon_122 (by decide) (fun c13 => ?_) (fun c13 => ?_)
            · replace hZ9 := ite_f hZ9 c13
              refine lv_aload_n hx hb dX9_reckon_129 rfl (lv_at hl 3 rfl) ?_
              refine va_get (D := (dC, dI)) (ci := 10) (v := .ref (a 2)) (C := RX9) (T := TX9) (N := 46) hx hb hts in_w_reckon_X9 hown hK hP 0 rfl rfl 2 (by decide) (hts (.fieldLink RX9 16 "ServiceTreeModel" "stop" "[I") (by decide +kernel)) (fun _ h9 => h9) rfl dX9_reckon_130 ?_
              refine lv_iload_n hx hb dX9_reckon_133 rfl (lv_at hl 4 rfl) ?_
              refine va_iald (n := 40) (f := F9 2) hx hb hK hP 3 2 rfl rfl (vp_in_nI (n := sv) (by omega) (by decide)) dX9_reckon_134 ?_
              refine lv_topi (fun x14 ex14 => ?_)
              replace hZ9 := bnd_s hZ9 ex14
              refine lv_iadd hx hb dX9_reckon_135 ?_
              refine lv_topi (fun x15 ex15 => ?_)
              replace hZ9 := bnd_s hZ9 ex15
              refine va_iast (n := 40) (f := F9 40) hx hb hK hP hD hS 33 32 rfl rfl (vp_in_nI (n := sv) (by omega) (by decide)) dX9_reckon_136 (fun H locs hP hD hS => ?_)
              rw [mW_set_40] at hP hD
              obtain ⟨F16, eF16⟩ : ∃ f9 : Nat → Nat → Int32, f9 = va_up F9 40 (upd (F9 40) (nI sv).toNatClampNeg x15) := ⟨_, rfl⟩
              rw [← eF16] at hP hD
              replace hZ9 := bnd_s hZ9 eF16
              replace hI : StM n (b) F V F16 V := ⟨by rw [eF16]; exact hI.1.setF (by decide), trivial⟩
              replace hU : ∀ j : Nat, j ∉ ([40, 41] : List Nat) → F16 j = F j := by rw [eF16]; exact mw_up (by decide) hU
              rw [hQ]
              exact W.vret hx hb hr (fun t ht hW => ⟨⟨(F16, V), rfl, ⟨hI.mono (by omega), hU, hV, hZ9.symm.trans hR0⟩, by rw [ht]; exact hP, hD⟩, hS.F ht⟩) hS.2.2 dX9_reckon_137
            · replace hZ9 := ite_t hZ9 c13
              refine lv_iconst (v := 0) hx hb dX9_reckon_125 (by decide) ?_
              refine lv_goto (tgt := 135) hx hb dX9_reckon_126 (by decide) ?_
              refine lv_iadd hx hb dX9_reckon_135 ?_
              refine lv_topi (fun x17 ex17 => ?_)
              replace hZ9 := bnd_s hZ9 ex17
              refine va_iast (n := 40) (f := F9 40) hx hb hK hP hD hS 33 32 rfl rfl (vp_in_nI (n := sv) (by omega) (by decide)) dX9_reckon_136 (fun H locs hP hD hS => ?_)
              rw [mW_set_40] at hP hD
              obtain ⟨F18, eF18⟩ : ∃ f9 : Nat → Nat → Int32, f9 = va_up F9 40 (upd (F9 40) (nI sv).toNatClampNeg x17) := ⟨_, rfl⟩
              rw [← eF18] at hP hD
              replace hZ9 := bnd_s hZ9 eF18
              replace hI : StM n (b) F V F18 V := ⟨by rw [eF18]; exact hI.1.setF (by decide), trivial⟩
              replace hU : ∀ j : Nat, j ∉ ([40, 41] : List Nat) → F18 j = F j := by rw [eF18]; exact mw_up (by decide) hU
              rw [hQ]
              exact W.vret hx hb hr (fun t ht hW => ⟨⟨(F18, V), rfl, ⟨hI.mono (by omega), hU, hV, hZ9.symm.trans hR0⟩, by rw [ht]; exact hP, hD⟩, hS.F ht⟩) hS.2.2 dX9_reckon_137
          · replace hZ9 := ite_t hZ9 c11
            refine lv_aload_n hx hb dX9_reckon_106 rfl (lv_at hl 3 rfl) ?_
            refine va_get (D := (dC, dI)) (ci := 10) (v := .ref (a 1)) (C := RX9) (T := TX9) (N := 46) hx hb hts in_w_reckon_X9 hown hK hP 0 rfl rfl 1 (by decide) (hts (.fieldLink RX9 13 "ServiceTreeModel" "start" "[I") (by decide +kernel)) (fun _ h9 => h9) rfl dX9_reckon_107 ?_
            refine lv_iload_n hx hb dX9_reckon_110 rfl (lv_at hl 4 rfl) ?_
            refine va_iald (n := 40) (f := F9 1) hx hb hK hP 2 1 rfl rfl (vp_in_nI (n := sv) (by omega) (by decide)) dX9_reckon_111 ?_
            refine lv_topi (fun x19 ex19 => ?_)
            replace hZ9 := bnd_s hZ9 ex19
            refine lv_goto (tgt := 135) hx hb dX9_reckon_112 (by decide) ?_
            refine lv_iadd hx hb dX9_reckon_135 ?_
            refine lv_topi (fun x20 ex20 => ?_)
            replace hZ9 := bnd_s hZ9 ex20
            refine va_iast (n := 40) (f := F9 40) hx hb hK hP hD hS 33 32 rfl rfl (vp_in_nI (n := sv) (by omega) (by decide)) dX9_reckon_136 (fun H locs hP hD hS => ?_)
            rw [mW_set_40] at hP hD
            obtain ⟨F21, eF21⟩ : ∃ f9 : Nat → Nat → Int32, f9 = va_up F9 40 (upd (F9 40) (nI sv).toNatClampNeg x20) := ⟨_, rfl⟩
            rw [← eF21] at hP hD
            replace hZ9 := bnd_s hZ9 eF21
            replace hI : StM n (b) F V F21 V := ⟨by rw [eF21]; exact hI.1.setF (by decide), trivial⟩
            replace hU : ∀ j : Nat, j ∉ ([40, 41] : List Nat) → F21 j = F j := by rw [eF21]; exact mw_up (by decide) hU
            rw [hQ]
            exact W.vret hx hb hr (fun t ht hW => ⟨⟨(F21, V), rfl, ⟨hI.mono (by omega), hU, hV, hZ9.symm.trans hR0⟩, by rw [ht]; exact hP, hD⟩, hS.F ht⟩) hS.2.2 dX9_reckon_137
      · replace c7 : ¬ (n ≤ i1) := fun q9 => c7 ((nI_leI (a := n) (b := i1) (by omega) (by omega)).mpr q9)
        replace hZ9 := ite_f hZ9 c7
        refine lv_aload_n hx hb dX9_reckon_16 rfl (lv_at hl 3 rfl) ?_
        refine lv_aload_n hx hb dX9_reckon_17 rfl (lv_at hl 3 rfl) ?_
        refine va_get (D := (dC, dI)) (ci := 10) (v := .ref (a 30)) (C := RX9) (T := TX9) (N := 46) hx hb hts in_w_reckon_X9 hown hK hP 0 rfl rfl 30 (by decide) (hts (.fieldLink RX9 86 "ServiceTreeModel" "newJob" "[I") (by decide +kernel)) (fun _ h9 => h9) rfl dX9_reckon_18 ?_
        refine lv_iload_n hx hb dX9_reckon_21 rfl (lv_at hl 4 rfl) ?_
        refine lv_iload hx hb dX9_reckon_22 (lv_at hl 0 rfl) ?_
        have hFc := mw_free hD hS hA
        refine va_calli (va_runV (As := [.ref (a 30), .int (nI sv), .int (nI i1)]) (rest := []) ⟨hx, hb, hml, hown, hts⟩ (c_w_waitsAmong_newJob l dC dI h a k F V n (b) sv i1 H.size hI.1 (by omega) (by omega) (by omega)) (cwV 3 hts wc_w_reckon_w_waitsAmong_newJob_167 rfl rfl rfl (by decide +kernel) ⟨Nat.le_of_ble_eq_true rfl, Nat.le_of_ble_eq_true rfl⟩) ⟨fun a9 U g mk q => by obtain ⟨q0, q1, qP, qK, qD⟩ := q; exact ⟨q0, q1, qP, va_K.moved (u := U) (U := U.calling g mk a9) (Vm.Alike.refl U.vm) qK, qD⟩, va_recv hK hP (ci := 10) (q0 := 0) rfl rfl, fun U hU hW => ⟨rfl, by rw [hU], by rw [hU]; exact hP, va_K.moved hW.alike hK, hD.weaken (fun _ _ _ _ => trivial)⟩⟩ rfl rfl hl.1 rfl (lv_room (Nat.le_of_ble_eq_true rfl)) dX9_reckon_24 ⟨Nat.le_of_ble_eq_true rfl, Nat.le_of_ble_eq_true rfl⟩) hS (fun q _ h => hFc q h) hFc (fun r22 u t H1 locs ht hvm hw hB hz1 hk1 hS => ?_)
        obtain ⟨F23, V24⟩ := u
        replace hP := hB.1
        rw [ht] at hP
        replace hD : va_D A (mW h a k F23 V24) := hB.2.weaken (fun _ q _ h9 => hFc q.1 h9)
        clear hB
        generalize H1 = H at hP hS ⊢
        replace hP : va_P (dC, dI) vwCl (mW h a k F23 V24) H := hP
        obtain ⟨hwF, hwV, hw⟩ : F23 = F ∧ V24 = V ∧ _ := hw
        rw [hwF, hwV] at hP hD
        obtain ⟨hw, hwe⟩ := hw
        replace hw : r22 = f_w_waitsAmong_newJob n sv i1 F := hw
        replace hZ9 := bnd_s hZ9 hw
        have br22 := hwe
        refine lv_if_eq (tgt := 73) hx hb dX9_reckon_27 (by decide) (fun c25 => ?_) (fun c25 => ?_)
        · replace hZ9 := ite_t hZ9 c25
          refine lv_iinc (v := nI (i1 + 1)) (lv' := [(4, .int (nI (i1 + 1))), (3, .int y5), (2, .int y6), (0, .ref h), (1, .int (nI sv))]) hx hb dX9_reckon_73 hl (k := 0) rfl (nI_add i1 1) (by decide) rfl (fun ls hl => ?_)
          refine lv_goto (tgt := 7) hx hb dX9_reckon_76 (by decide) ?_
          exact ih3 (i1 + 1) y5 y6 _ _ _ (by omega) (by omega)  hZ9 hP hD hS (lv_sub hl [0, 1, 2, 3, 4] rfl)
        · replace hZ9 := ite_f hZ9 c25
          refine lv_iload_n hx hb dX9_reckon_30 rfl (lv_at hl 1 rfl) ?_
          refine lv_if_eq (tgt := 48) hx hb dX9_reckon_31 (by decide) (fun c26 => ?_) (fun c26 => ?_)
          · replace hZ9 := ite_t hZ9 c26
            refine lv_iconst (v := 0) hx hb dX9_reckon_48 (by decide) ?_
            refine lv_istore_n (lv' := [(3, .int 0), (4, .int (nI i1)), (2, .int y6), (0, .ref h), (1, .int (nI sv))]) hx hb dX9_reckon_49 rfl hl (by decide) rfl (fun ls hl => ?_)
            refine lv_aload_n hx hb dX9_reckon_50 rfl (lv_at hl 3 rfl) ?_
            refine va_get (D := (dC, dI)) (ci := 10) (v := .ref (a 40)) (C := RX9) (T := TX9) (N := 46) hx hb hts in_w_reckon_X9 hown hK hP 0 rfl rfl 40 (by decide) (hts (.fieldLink RX9 111 "ServiceTreeModel" "ends" "[I") (by decide +kernel)) (fun _ h9 => h9) rfl dX9_reckon_51 ?_
            refine lv_iload hx hb dX9_reckon_54 (lv_at hl 1 rfl) ?_
            refine va_iald (n := 40) (f := F 40) hx hb hK hP 33 32 rfl rfl (vp_in_nI (n := i1) (by omega) (by decide)) dX9_reckon_56 ?_
            refine lv_topi (fun x27 ex27 => ?_)
            replace hZ9 := bnd_s hZ9 ex27
            refine lv_iload_n hx hb dX9_reckon_57 rfl (lv_at hl 2 rfl) ?_
            refine lv_icmp_le (tgt := 71) hx hb dX9_reckon_58 (by decide) (fun c28 => ?_) (fun c28 => ?_)
            · replace hZ9 := ite_t hZ9 c28
              refine lv_iload_n hx hb dX9_reckon_71 rfl (lv_at hl 2 rfl) ?_
              refine lv_istore_n (lv' := [(2, .int y6), (3, .int 0), (4, .int (nI i1)), (0, .ref h), (1, .int (nI sv))]) hx hb dX9_reckon_72 rfl hl (by decide) rfl (fun ls hl => ?_)
              refine lv_iinc (v := nI (i1 + 1)) (lv' := [(4, .int (nI (i1 + 1))), (2, .int y6), (3, .int 0), (0, .ref h), (1, .int (nI sv))]) hx hb dX9_reckon_73 hl (k := 2) rfl (nI_add i1 1) (by decide) rfl (fun ls hl => ?_)
              refine lv_goto (tgt := 7) hx hb dX9_reckon_76 (by decide) ?_
              exact ih3 (i1 + 1) 0 y6 _ _ _ (by omega) (by omega)  hZ9 hP hD hS (lv_sub hl [0, 2, 1, 3, 4] rfl)
            · replace hZ9 := ite_f hZ9 c28
              refine lv_aload_n hx hb dX9_reckon_61 rfl (lv_at hl 3 rfl) ?_
              refine va_get (D := (dC, dI)) (ci := 10) (v := .ref (a 40)) (C := RX9) (T := TX9) (N := 46) hx hb hts in_w_reckon_X9 hown hK hP 0 rfl rfl 40 (by decide) (hts (.fieldLink RX9 111 "ServiceTreeModel" "ends" "[I") (by decide +kernel)) (fun _ h9 => h9) rfl dX9_reckon_62 ?_
              refine lv_iload hx hb dX9_reckon_65 (lv_at hl 1 rfl) ?_
              refine va_iald (n := 40) (f := F 40) hx hb hK hP 33 32 rfl rfl (vp_in_nI (n := i1) (by omega) (by decide)) dX9_reckon_67 ?_
              refine p1_topr (v := .int x27) (congrArg Value.int ex27.symm) ?_
              refine lv_goto (tgt := 72) hx hb dX9_reckon_68 (by decide) ?_
              refine lv_istore_n (lv' := [(2, .int x27), (3, .int 0), (4, .int (nI i1)), (0, .ref h), (1, .int (nI sv))]) hx hb dX9_reckon_72 rfl hl (by decide) rfl (fun ls hl => ?_)
              refine lv_iinc (v := nI (i1 + 1)) (lv' := [(4, .int (nI (i1 + 1))), (2, .int x27), (3, .int 0), (0, .ref h), (1, .int (nI sv))]) hx hb dX9_reckon_73 hl (k := 2) rfl (nI_add i1 1) (by decide) rfl (fun ls hl => ?_)
              refine lv_goto (tgt := 7) hx hb dX9_reckon_76 (by decide) ?_
              exact ih3 (i1 + 1) 0 x27 _ _ _ (by omega) (by omega)  hZ9 hP hD hS (lv_sub hl [0, 2, 1, 3, 4] rfl)
          · replace hZ9 := ite_f hZ9 c26
            refine lv_aload_n hx hb dX9_reckon_34 rfl (lv_at hl 3 rfl) ?_
            refine va_get (D := (dC, dI)) (ci := 10) (v := .ref (a 40)) (C := RX9) (T := TX9) (N := 46) hx hb hts in_w_reckon_X9 hown hK hP 0 rfl rfl 40 (by decide) (hts (.fieldLink RX9 111 "ServiceTreeModel" "ends" "[I") (by decide +kernel)) (fun _ h9 => h9) rfl dX9_reckon_35 ?_
            refine lv_iload hx hb dX9_reckon_38 (lv_at hl 0 rfl) ?_
            refine va_iald (n := 40) (f := F 40) hx hb hK hP 33 32 rfl rfl (vp_in_nI (n := i1) (by omega) (by decide)) dX9_reckon_40 ?_
            refine lv_topi (fun x30 ex30 => ?_)
            replace hZ9 := bnd_s hZ9 ex30
            refine lv_if_lt (tgt := 48) hx hb dX9_reckon_41 (by decide) (fun c31 => ?_) (fun c31 => ?_)
            · replace hZ9 := ite_t hZ9 c31
              refine lv_iconst (v := 0) hx hb dX9_reckon_48 (by decide) ?_
              refine lv_istore_n (lv' := [(3, .int 0), (4, .int (nI i1)), (2, .int y6), (0, .ref h), (1, .int (nI sv))]) hx hb dX9_reckon_49 rfl hl (by decide) rfl (fun ls hl => ?_)
              refine lv_aload_n hx hb dX9_reckon_50 rfl (lv_at hl 3 rfl) ?_
              refine va_get (D := (dC, dI)) (ci := 10) (v := .ref (a 40)) (C := RX9) (T := TX9) (N := 46) hx hb hts in_w_reckon_X9 hown hK hP 0 rfl rfl 40 (by decide) (hts (.fieldLink RX9 111 "ServiceTreeModel" "ends" "[I") (by decide +kernel)) (fun _ h9 => h9) rfl dX9_reckon_51 ?_
              refine lv_iload hx hb dX9_reckon_54 (lv_at hl 1 rfl) ?_
              refine va_iald (n := 40) (f := F 40) hx hb hK hP 33 32 rfl rfl (vp_in_nI (n := i1) (by omega) (by decide)) dX9_reckon_56 ?_
              refine p1_topr (v := .int x30) (congrArg Value.int ex30.symm) ?_
              refine lv_iload_n hx hb dX9_reckon_57 rfl (lv_at hl 2 rfl) ?_
              refine lv_icmp_le (tgt := 71) hx hb dX9_reckon_58 (by decide) (fun c33 => ?_) (fun c33 => ?_)
              · replace hZ9 := ite_t hZ9 c33
                refine lv_iload_n hx hb dX9_reckon_71 rfl (lv_at hl 2 rfl) ?_
                refine lv_istore_n (lv' := [(2, .int y6), (3, .int 0), (4, .int (nI i1)), (0, .ref h), (1, .int (nI sv))]) hx hb dX9_reckon_72 rfl hl (by decide) rfl (fun ls hl => ?_)
                refine lv_iinc (v := nI (i1 + 1)) (lv' := [(4, .int (nI (i1 + 1))), (2, .int y6), (3, .int 0), (0, .ref h), (1, .int (nI sv))]) hx hb dX9_reckon_73 hl (k := 2) rfl (nI_add i1 1) (by decide) rfl (fun ls hl => ?_)
                refine lv_goto (tgt := 7) hx hb dX9_reckon_76 (by decide) ?_
                exact ih3 (i1 + 1) 0 y6 _ _ _ (by omega) (by omega)  hZ9 hP hD hS (lv_sub hl [0, 2, 1, 3, 4] rfl)
              · replace hZ9 := ite_f hZ9 c33
                refine lv_aload_n hx hb dX9_reckon_61 rfl (lv_at hl 3 rfl) ?_
                refine va_get (D := (dC, dI)) (ci := 10) (v := .ref (a 40)) (C := RX9) (T := TX9) (N := 46) hx hb hts in_w_reckon_X9 hown hK hP 0 rfl rfl 40 (by decide) (hts (.fieldLink RX9 111 "ServiceTreeModel" "ends" "[I") (by decide +kernel)) (fun _ h9 => h9) rfl dX9_reckon_62 ?_
                refine lv_iload hx hb dX9_reckon_65 (lv_at hl 1 rfl) ?_
                refine va_iald (n := 40) (f := F 40) hx hb hK hP 33 32 rfl rfl (vp_in_nI (n := i1) (by omega) (by decide)) dX9_reckon_67 ?_
                refine p1_topr (v := .int x30) (congrArg Value.int ex30.symm) ?_
                refine lv_goto (tgt := 72) hx hb dX9_reckon_68 (by decide) ?_
                refine lv_istore_n (lv' := [(2, .int x30), (3, .int 0), (4, .int (nI i1)), (0, .ref h), (1, .int (nI sv))]) hx hb dX9_reckon_72 rfl hl (by decide) rfl (fun ls hl => ?_)
                refine lv_iinc (v := nI (i1 + 1)) (lv' := [(4, .int (nI (i1 + 1))), (2, .int x30), (3, .int 0), (0, .ref h), (1, .int (nI sv))]) hx hb dX9_reckon_73 hl (k := 2) rfl (nI_add i1 1) (by decide) rfl (fun ls hl => ?_)
                refine lv_goto (tgt := 7) hx hb dX9_reckon_76 (by decide) ?_
                exact ih3 (i1 + 1) 0 x30 _ _ _ (by omega) (by omega)  hZ9 hP hD hS (lv_sub hl [0, 2, 1, 3, 4] rfl)
            · replace hZ9 := ite_f hZ9 c31
              refine lv_iconst (v := 1) hx hb dX9_reckon_44 (by decide) ?_
              refine lv_goto (tgt := 49) hx hb dX9_reckon_45 (by decide) ?_
              refine lv_istore_n (lv' := [(3, .int 1), (4, .int (nI i1)), (2, .int y6), (0, .ref h), (1, .int (nI sv))]) hx hb dX9_reckon_49 rfl hl (by decide) rfl (fun ls hl => ?_)
              refine lv_aload_n hx hb dX9_reckon_50 rfl (lv_at hl 3 rfl) ?_
              refine va_get (D := (dC, dI)) (ci := 10) (v := .ref (a 40)) (C := RX9) (T := TX9) (N := 46) hx hb hts in_w_reckon_X9 hown hK hP 0 rfl rfl 40 (by decide) (hts (.fieldLink RX9 111 "ServiceTreeModel" "ends" "[I") (by decide +kernel)) (fun _ h9 => h9) rfl dX9_reckon_51 ?_
              refine lv_iload hx hb dX9_reckon_54 (lv_at hl 1 rfl) ?_
              refine va_iald (n := 40) (f := F 40) hx hb hK hP 33 32 rfl rfl (vp_in_nI (n := i1) (by omega) (by decide)) dX9_reckon_56 ?_
              refine p1_topr (v := .int x30) (congrArg Value.int ex30.symm) ?_
              refine lv_iload_n hx hb dX9_reckon_57 rfl (lv_at hl 2 rfl) ?_
              refine lv_icmp_le (tgt := 71) hx hb dX9_reckon_58 (by decide) (fun c36 => ?_) (fun c36 => ?_)
              · replace hZ9 := ite_t hZ9 c36
                refine lv_iload_n hx hb dX9_reckon_71 rfl (lv_at hl 2 rfl) ?_
                refine lv_istore_n (lv' := [(2, .int y6), (3, .int 1), (4, .int (nI i1)), (0, .ref h), (1, .int (nI sv))]) hx hb dX9_reckon_72 rfl hl (by decide) rfl (fun ls hl => ?_)
                refine lv_iinc (v := nI (i1 + 1)) (lv' := [(4, .int (nI (i1 + 1))), (2, .int y6), (3, .int 1), (0, .ref h), (1, .int (nI sv))]) hx hb dX9_reckon_73 hl (k := 2) rfl (nI_add i1 1) (by decide) rfl (fun ls hl => ?_)
                refine lv_goto (tgt := 7) hx hb dX9_reckon_76 (by decide) ?_
                exact ih3 (i1 + 1) 1 y6 _ _ _ (by omega) (by omega)  hZ9 hP hD hS (lv_sub hl [0, 2, 1, 3, 4] rfl)
              · replace hZ9 := ite_f hZ9 c36
                refine lv_aload_n hx hb dX9_reckon_61 rfl (lv_at hl 3 rfl) ?_
                refine va_get (D := (dC, dI)) (ci := 10) (v := .ref (a 40)) (C := RX9) (T := TX9) (N := 46) hx hb hts in_w_reckon_X9 hown hK hP 0 rfl rfl 40 (by decide) (hts (.fieldLink RX9 111 "ServiceTreeModel" "ends" "[I") (by decide +kernel)) (fun _ h9 => h9) rfl dX9_reckon_62 ?_
                refine lv_iload hx hb dX9_reckon_65 (lv_at hl 1 rfl) ?_
                refine va_iald (n := 40) (f := F 40) hx hb hK hP 33 32 rfl rfl (vp_in_nI (n := i1) (by omega) (by decide)) dX9_reckon_67 ?_
                refine p1_topr (v := .int x30) (congrArg Value.int ex30.symm) ?_
                refine lv_goto (tgt := 72) hx hb dX9_reckon_68 (by decide) ?_
                refine lv_istore_n (lv' := [(2, .int x30), (3, .int 1), (4, .int (nI i1)), (0, .ref h), (1, .int (nI sv))]) hx hb dX9_reckon_72 rfl hl (by decide) rfl (fun ls hl => ?_)
                refine lv_iinc (v := nI (i1 + 1)) (lv' := [(4, .int (nI (i1 + 1))), (2, .int x30), (3, .int 1), (0, .ref h), (1, .int (nI sv))]) hx hb dX9_reckon_73 hl (k := 2) rfl (nI_add i1 1) (by decide) rfl (fun ls hl => ?_)
                refine lv_goto (tgt := 7) hx hb dX9_reckon_76 (by decide) ?_
                exact ih3 (i1 + 1) 1 x30 _ _ _ (by omega) (by omega)  hZ9 hP hD hS (lv_sub hl [0, 2, 1, 3, 4] rfl)
  exact lp4 (n + 1) 0 1 0 _ _ _ (by omega) (by omega)  hZ9 hP hD hS hl
def f_w_plan_158 (n : Nat) (i27 : Nat) : Nat → Nat → (Nat → Nat → Int32) → (Nat → (Nat → Nat → Int32) → Int32 × (Nat → Nat → Int32) × (Nat → Int32)) → Int32 × (Nat → Nat → Int32) × (Nat → Int32)
  | 0, i38, F42, K9_158 => K9_158 i38 F42
  | fu39 + 1, i38, F42, K9_158 => if i38 ≤ 0 then (K9_158 i38 F42) else (bnd (F42 36 (nI (i38 - 1)).toNatClampNeg) (fun (x60 : Int32) => bnd (F42 41 (nI i27).toNatClampNeg) (fun (x61 : Int32) => if x60 ≤ x61 then (K9_158 i38 F42) else (bnd (F42 34 (nI (i38 - 1)).toNatClampNeg) (fun (x79 : Int32) => bnd (va_up F42 34 (upd (F42 34) (nI i38).toNatClampNeg x79)) (fun (F80 : Nat → Nat → Int32) => bnd (F80 35 (nI (i38 - 1)).toNatClampNeg) (fun (x81 : Int32) => bnd (va_up F80 35 (upd (F80 35) (nI i38).toNatClampNeg x81)) (fun (F82 : Nat → Nat → Int32) => bnd (F82 36 (nI (i38 - 1)).toNatClampNeg) (fun (x83 : Int32) => bnd (va_up F82 36 (upd (F82 36) (nI i38).toNatClampNeg x83)) (fun (F84 : Nat → Nat → Int32) => bnd (F84 37 (nI (i38 - 1)).toNatClampNeg) (fun (x85 : Int32) => bnd (va_up F84 37 (upd (F84 37) (nI i38).toNatClampNeg x85)) (fun (F86 : Nat → Nat → Int32) => f_w_plan_158 n i27 fu39 (i38 - 1) F86 K9_158))))))))))))
def f_w_plan_133 (n : Nat)  : Nat → Nat → (Nat → Nat → Int32) → (Nat → Int32) → (Nat → (Nat → Nat → Int32) → (Nat → Int32) → Int32 × (Nat → Nat → Int32) × (Nat → Int32)) → Int32 × (Nat → Nat → Int32) × (Nat → Int32)
  | 0, i27, F31, V32, K9_133 => K9_133 i27 F31 V32
  | fu28 + 1, i27, F31, V32, K9_133 => if n ≤ i27 then (K9_133 i27 F31 V32) else (bnd (F31 30 (nI i27).toNatClampNeg) (fun (x35 : Int32) => if x35 = (0 : Int32) then (f_w_plan_133 n  fu28 (i27 + 1) F31 V32 K9_133) else (bnd ((V32 38).toNatClampNeg) (fun (pl37 : Nat) => f_w_plan_158 n i27 (pl37 + 1) pl37 F31 (fun (i38 : Nat) (F42 : Nat → Nat → Int32) => bnd (va_up F42 34 (upd (F42 34) (nI i38).toNatClampNeg (nI i27))) (fun (F44 : Nat → Nat → Int32) => bnd (F44 30 (nI i27).toNatClampNeg) (fun (x45 : Int32) => bnd (va_up F44 35 (upd (F44 35) (nI i38).toNatClampNeg x45)) (fun (F46 : Nat → Nat → Int32) => bnd (F46 41 (nI i27).toNatClampNeg) (fun (x47 : Int32) => bnd (va_up F46 36 (upd (F46 36) (nI i38).toNatClampNeg x47)) (fun (F48 : Nat → Nat → Int32) => bnd (F48 40 (nI i27).toNatClampNeg) (fun (x49 : Int32) => bnd (va_up F48 37 (upd (F48 37) (nI i38).toNatClampNeg x49)) (fun (F50 : Nat → Nat → Int32) => bnd ((V32 38).toNatClampNeg) (fun (pl51 : Nat) => bnd (va_up V32 38 (nI (pl51 + 1))) (fun (V52 : Nat → Int32) => bnd (F50 40 (nI i27).toNatClampNeg) (fun (x53 : Int32) => bnd (V52 39) (fun (x54 : Int32) => if x53 ≤ x54 then (bnd (V52 39) (fun (x56 : Int32) => bnd (va_up V52 39 x56) (fun (V57 : Nat → Int32) => f_w_plan_133 n  fu28 (i27 + 1) F50 V57 K9_133))) else (bnd (va_up V52 39 x53) (fun (V59 : Nat → Int32) => f_w_plan_133 n  fu28 (i27 + 1) F50 V59 K9_133))))))))))))))))))
def f_w_plan_73 (n : Nat)  : Nat → Nat → (Nat → Nat → Int32) → (Nat → Int32) → (Nat → (Nat → Nat → Int32) → (Nat → Int32) → Int32 × (Nat → Nat → Int32) × (Nat → Int32)) → Int32 × (Nat → Nat → Int32) × (Nat → Int32)
  | 0, i87, F91, V92, K9_73 => K9_73 i87 F91 V92
  | fu88 + 1, i87, F91, V92, K9_73 => if n ≤ i87 then (K9_73 i87 F91 V92) else (bnd (F91 30 (nI i87).toNatClampNeg) (fun (x94 : Int32) => if x94 = (0 : Int32) then (f_w_plan_73 n  fu88 (i87 + 1) F91 V92 K9_73) else (bnd (F91 40 (nI i87).toNatClampNeg) (fun (x96 : Int32) => if (0 : Int32) ≤ x96 then (f_w_plan_73 n  fu88 (i87 + 1) F91 V92 K9_73) else (bn2 (f_w_reckon n i87 F91 V92) (fun (F99 : Nat → Nat → Int32) (V100 : Nat → Int32) => f_w_plan_73 n  fu88 (i87 + 1) F99 V100 K9_73))))))
def f_w_plan_61 (n : Nat)  : Nat → Nat → (Nat → Nat → Int32) → (Nat → Int32) → (Nat → (Nat → Nat → Int32) → (Nat → Int32) → Int32 × (Nat → Nat → Int32) × (Nat → Int32)) → Int32 × (Nat → Nat → Int32) × (Nat → Int32)
  | 0, i18, F22, V23, K9_61 => K9_61 i18 F22 V23
  | fu19 + 1, i18, F22, V23, K9_61 => if n ≤ i18 then (K9_61 i18 F22 V23) else (f_w_plan_73 n  (n + 1) (0 : Nat) F22 V23 (fun (i87 : Nat) (F91 : Nat → Nat → Int32) (V92 : Nat → Int32) => f_w_plan_61 n  fu19 (i18 + 1) F91 V92 K9_61))
def f_w_plan_35 (n : Nat)  : Nat → Nat → (Nat → Nat → Int32) → (Nat → Int32) → (Nat → (Nat → Nat → Int32) → (Nat → Int32) → Int32 × (Nat → Nat → Int32) × (Nat → Int32)) → Int32 × (Nat → Nat → Int32) × (Nat → Int32)
  | 0, i11, F15, V16, K9_35 => K9_35 i11 F15 V16
  | fu12 + 1, i11, F15, V16, K9_35 => if n ≤ i11 then (K9_35 i11 F15 V16) else (bnd (va_up F15 40 (upd (F15 40) (nI i11).toNatClampNeg (-1))) (fun (F101 : Nat → Nat → Int32) => f_w_plan_35 n  fu12 (i11 + 1) F101 V16 K9_35))
def f_w_plan (n : Nat) (p0 : Int32) (p1 : Int32) (F : Nat → Nat → Int32) (V : Nat → Int32) : Int32 × (Nat → Nat → Int32) × (Nat → Int32) := if p0 < (0 : Int32) then (((-1 : Int32), F, V)) else (if (2 : Int32) < p0 then (((-1 : Int32), F, V)) else (if (0 : Int32) ≤ p1 ∧ p1 < nI n then (bnd (p1.toNatClampNeg) (fun (j6 : Nat) => bn3 (f_w_look n p0 j6 F V) (fun (r7 : Int32) (F8 : Nat → Nat → Int32) (V9 : Nat → Int32) => if r7 = (0 : Int32) then (f_w_plan_35 n  (n + 1) (0 : Nat) F8 V9 (fun (i11 : Nat) (F15 : Nat → Nat → Int32) (V16 : Nat → Int32) => f_w_plan_61 n  (n + 1) (0 : Nat) F15 V16 (fun (i18 : Nat) (F22 : Nat → Nat → Int32) (V23 : Nat → Int32) => bnd (va_up V23 38 (0 : Int32)) (fun (V25 : Nat → Int32) => bnd (va_up V25 39 (0 : Int32)) (fun (V26 : Nat → Int32) => f_w_plan_133 n  (n + 1) (0 : Nat) F22 V26 (fun (i27 : Nat) (F31 : Nat → Nat → Int32) (V32 : Nat → Int32) => bnd ((V32 38).toNatClampNeg) (fun (pl34 : Nat) => ((nI pl34), F31, V32)))))))) else ((r7, F8, V9))))) else (((-1 : Int32), F, V))))
def wq_w_plan : List Cond := ([.code yX9_plan cX9_plan 6 (some .int), .fieldLink RX9 126 "ServiceTreeModel" "services" "I", .fieldLink RX9 258 "ServiceTreeModel" "planned" "I", .fieldLink RX9 107 "ServiceTreeModel" "quick" "I", .fieldLink RX9 86 "ServiceTreeModel" "newJob" "[I", .fieldLink RX9 95 "ServiceTreeModel" "planService" "[I", .fieldLink RX9 98 "ServiceTreeModel" "planHow" "[I", .fieldLink RX9 101 "ServiceTreeModel" "planBegin" "[I", .fieldLink RX9 114 "ServiceTreeModel" "begins" "[I", .fieldLink RX9 104 "ServiceTreeModel" "planEnd" "[I", .fieldLink RX9 111 "ServiceTreeModel" "ends" "[I", .methodLink RX9 135 yX9_is, .instanceMethod yX9_is, .selects RX9 yX9_is yX9_is, .initialized RX9, .methodLink RX9 207 yX9_look, .instanceMethod yX9_look, .selects RX9 yX9_look yX9_look, .methodLink RX9 255 yX9_reckon, .instanceMethod yX9_reckon, .selects RX9 yX9_reckon yX9_reckon] : List Cond) ++ (wsX90 ++ (wq_w_is ++ (wq_w_look ++ (wq_w_reckon))))
theorem in_w_plan_X9 : ∀ w ∈ wsX90, w ∈ wq_w_plan := fun _ h => List.mem_append_right _ (List.mem_append_left _ (h))
set_option maxRecDepth 20000 in
theorem wi_w_plan : ∀ w ∈ wq_w_plan, w ∈ lw_tbl := List.forall_mem_append.mpr ⟨(wix [1162, 873, 890, 891, 882, 886, 887, 888, 893, 889, 892, 1000, 1002, 32, 69, 1039, 1041, 37, 1163, 1165, 58] rfl), List.forall_mem_append.mpr ⟨inKX9, List.forall_mem_append.mpr ⟨wi_w_is, List.forall_mem_append.mpr ⟨wi_w_look, wi_w_reckon⟩⟩⟩⟩
set_option maxRecDepth 20000 in
theorem wg_w_plan : GoodIn wq_w_plan wq_w_plan := goodIn_sub (fun _ h => h) (by decide +kernel)
set_option maxRecDepth 20000 in
theorem wc_w_plan_w_is_135 : GoodIn wq_w_plan (wsV RX9 135 RX9 yX9_is wq_w_is) := goodIn_app (goodIn_of _ (by decide +kernel)) (fun w h => ⟨List.mem_append_right _ (List.mem_append_right _ (List.mem_append_left _ (h))), (wg_w_is w h).2⟩)
set_option maxRecDepth 20000 in
theorem wc_w_plan_w_look_207 : GoodIn wq_w_plan (wsV RX9 207 RX9 yX9_look wq_w_look) := goodIn_app (goodIn_of _ (by decide +kernel)) (fun w h => ⟨List.mem_append_right _ (List.mem_append_right _ (List.mem_append_right _ (List.mem_append_left _ (h)))), (wg_w_look w h).2⟩)
set_option maxRecDepth 20000 in
theorem wc_w_plan_w_reckon_255 : GoodIn wq_w_plan (wsV RX9 255 RX9 yX9_reckon wq_w_reckon) := goodIn_app (goodIn_of _ (by decide +kernel)) (fun w h => ⟨List.mem_append_right _ (List.mem_append_right _ (List.mem_append_right _ (List.mem_append_right _ (h)))), (wg_w_reckon w h).2⟩)
def rm_w_plan : Room := { frames := 4, cells := 0, slots := 0, locals := 98 }
set_option maxHeartbeats 4000000 in
set_option maxRecDepth 100000 in
theorem c_w_plan (l : Launch) (dC : Nat → ClassId) (dI : Nat → Nat → Nat) (h : Nat) (a : Nat → Nat) (k : Nat → ClassId) (F : Nat → Nat → Int32) (V : Nat → Int32) (n b : Nat) (p0 : Int32) (p1 : Int32) (sz : Nat) (hI0 : InvM n b F V) (hb0 : b + 0 < 2147483648)  : Met l yX9_plan wq_w_plan rm_w_plan (va_Pc [.ref h, .int p0, .int p1] (fun U => U.heap.size = sz ∧ va_P (dC, dI) vwCl (mW h a k F V) U.heap ∧ va_K (dC, dI) vwCl (mT k) U ∧ va_D (fun _ => True) (mW h a k F V))) (va_Qi (fun (r : Int32) (u : (Nat → Nat → Int32) × (Nat → Int32)) => StM n (b + 0) F V u.1 u.2 ∧ (∀ j : Nat, j ∉ ([27, 28, 29, 30, 31, 32, 34, 35, 36, 37, 40, 41] : List Nat) → u.1 j = F j) ∧ (∀ j : Nat, j ∉ ([33, 38, 39] : List Nat) → u.2 j = V j) ∧ ((r, u.1, u.2) = f_w_plan n p0 p1 F V)) (fun (u : (Nat → Nat → Int32) × (Nat → Int32)) (t : State) => va_P (dC, dI) vwCl (mW h a k u.1 u.2) t.heap ∧ va_D (va_A (mW h a k F V) sz) (mW h a k u.1 u.2)) (va_A (mW h a k F V) sz)) 0 0 (va_A (mW h a k F V) sz) := by
  have hn : n ≤ 40 := hI0.1
  have hI : StM n b F V F V := StM.rf hI0
  have hU : ∀ j : Nat, j ∉ ([27, 28, 29, 30, 31, 32, 34, 35, 36, 37, 40, 41] : List Nat) → F j = F j := fun _ _ => rfl
  have hV : ∀ j : Nat, j ∉ ([33, 38, 39] : List Nat) → V j = V j := fun _ _ => rfl
  refine Met.ofW (cc := cX9_plan) (maxL := 6) (ret := (some .int)) (by decide) rfl ?_
  intro p e s m args below meth c s₁ B hml hv
  obtain ⟨rfl, hsz, hP, hK, hD0⟩ := hv
  have hx := B.exec
  have hb := B.bytes
  have hr := B.returns
  have hts := atoms_spec (ws := wq_w_plan) B.pre
  have hown : s.vm.findClass RX9 = some m.cls := findClass_of_methodNamed B.named
  have hlocks := B.notSynchronized
  subst hsz
  have hD := hD0.self (sz := s.heap.size)
  generalize hAe : va_A (mW h a k F V) s.heap.size = A at hD ⊢
  have hA : ∀ q : Nat, s.heap.size ≤ q → A q := fun q h => by rw [← hAe]; exact Or.inr h
  have hS : va_S A s.heap s.heap [] := va_S.rf
  have hl := lv_entry ([.ref h, .int p0, .int p1]) (n := 6) (Nat.le_of_ble_eq_true rfl)
  rw [lg_entry_eq]
  generalize (lg_sl ([.ref h, .int p0, .int p1]) ++ List.replicate (6 - (lg_sl ([.ref h, .int p0, .int p1])).length) Slot.unset).toArray = ls at hl ⊢
  have hl : lv_has ls 6 [(0, .ref h), (1, .int p0), (2, .int p1)] := hl
  refine mw_Q (fun Q0 hQ => ?_)
  obtain ⟨RES, hR0⟩ : ∃ R9, R9 = f_w_plan n p0 p1 F V := ⟨_, rfl⟩
  have hZ9 := hR0
  unfold f_w_plan at hZ9
  refine lv_iload_n hx hb dX9_plan_0 rfl (lv_at hl 1 rfl) ?_
  refine lv_if_lt (tgt := 17) hx hb dX9_plan_1 (by decide) (fun c1 => ?_) (fun c1 => ?_)
  · replace hZ9 := ite_t hZ9 c1
    refine lv_iconst (v := (-1)) hx hb dX9_plan_17 (by decide) ?_
    rw [hQ]
    exact W.iret (v := (-1)) hx hb hr (fun t ht hW => ⟨⟨(-1), (F, V), rfl, ⟨hI.mono (by omega), hU, hV, hZ9.symm.trans hR0⟩, by rw [ht]; exact hP, hD⟩, hS.F ht⟩) hS.2.2 dX9_plan_18
  · replace hZ9 := ite_f hZ9 c1
    refine lv_iload_n hx hb dX9_plan_4 rfl (lv_at hl 1 rfl) ?_
    refine lv_iconst (v := 2) hx hb dX9_plan_5 (by decide) ?_
    refine lv_icmp_gt (tgt := 17) hx hb dX9_plan_6 (by decide) (fun c2 => ?_) (fun c2 => ?_)
    · replace hZ9 := ite_t hZ9 c2
      refine lv_iconst (v := (-1)) hx hb dX9_plan_17 (by decide) ?_
      rw [hQ]
      exact W.iret (v := (-1)) hx hb hr (fun t ht hW => ⟨⟨(-1), (F, V), rfl, ⟨hI.mono (by omega), hU, hV, hZ9.symm.trans hR0⟩, by rw [ht]; exact hP, hD⟩, hS.F ht⟩) hS.2.2 dX9_plan_18
    · replace hZ9 := ite_f hZ9 c2
      refine lv_aload_n hx hb dX9_plan_9 rfl (lv_at hl 0 rfl) ?_
      refine lv_iload_n hx hb dX9_plan_10 rfl (lv_at hl 2 rfl) ?_
      have hFc := mw_free hD hS hA
      refine va_calli (va_runV (As := [.int p1]) (rest := []) ⟨hx, hb, hml, hown, hts⟩ (c_w_is l dC dI h a k F V n (b) p1 s.heap.size hI.1 (by omega) ) (cwV 1 hts wc_w_plan_w_is_135 rfl rfl rfl (by decide +kernel) ⟨Nat.le_of_ble_eq_true rfl, Nat.le_of_ble_eq_true rfl⟩) ⟨fun a9 U g mk q => by obtain ⟨q0, q1, qP, qK, qD⟩ := q; exact ⟨q0, q1, qP, va_K.moved (u := U) (U := U.calling g mk a9) (Vm.Alike.refl U.vm) qK, qD⟩, va_recv hK hP (ci := 10) (q0 := 0) rfl rfl, fun U hU hW => ⟨rfl, by rw [hU], by rw [hU]; exact hP, va_K.moved hW.alike hK, hD.weaken (fun _ _ _ _ => trivial)⟩⟩ rfl rfl hl.1 rfl (lv_room (Nat.le_of_ble_eq_true rfl)) dX9_plan_11 ⟨Nat.le_of_ble_eq_true rfl, Nat.le_of_ble_eq_true rfl⟩) hS (fun q _ h => hFc q h) hFc (fun r3 u t H1 locs ht hvm hw hB hz1 hk1 hS => ?_)
      obtain ⟨F4, V5⟩ := u
      replace hP := hB.1
      rw [ht] at hP
      replace hD : va_D A (mW h a k F4 V5) := hB.2.weaken (fun _ q _ h9 => hFc q.1 h9)
      clear hB
      generalize H1 = H at hP hS ⊢
      replace hP : va_P (dC, dI) vwCl (mW h a k F4 V5) H := hP
      obtain ⟨hwF, hwV, hw⟩ : F4 = F ∧ V5 = V ∧ _ := hw
      rw [hwF, hwV] at hP hD
      rcases hw with ⟨rfl, j6, hj6, ej6⟩ | ⟨rfl, noj6⟩
      · replace hZ9 := ite_t hZ9 (show (0 : Int32) ≤ p1 ∧ p1 < nI n by rw [ej6]; exact ⟨nI_pos' (by omega), nI_lt hj6 (by omega)⟩)
        replace hZ9 := bnd_s hZ9 (show j6 = p1.toNatClampNeg by rw [ej6, nI_clamp (by omega)])
        subst ej6
        refine lv_if_ne (tgt := 19) hx hb dX9_plan_14 (by decide) (fun _ => ?_) (fun c9 => absurd c9 (by decide))
        refine lv_aload_n hx hb dX9_plan_19 rfl (lv_at hl 0 rfl) ?_
        refine lv_iload_n hx hb dX9_plan_20 rfl (lv_at hl 1 rfl) ?_
        refine lv_iload_n hx hb dX9_plan_21 rfl (lv_at hl 2 rfl) ?_
        have hFc := mw_free hD hS hA
        refine va_calli (va_runV (As := [.int p0, .int (nI j6)]) (rest := []) ⟨hx, hb, hml, hown, hts⟩ (c_w_look l dC dI h a k F V n (b) p0 j6 H.size hI.1 (by omega) (by omega)) (cwV 2 hts wc_w_plan_w_look_207 rfl rfl rfl (by decide +kernel) ⟨Nat.le_of_ble_eq_true rfl, Nat.le_of_ble_eq_true rfl⟩) ⟨fun a9 U g mk q => by obtain ⟨q0, q1, qP, qK, qD⟩ := q; exact ⟨q0, q1, qP, va_K.moved (u := U) (U := U.calling g mk a9) (Vm.Alike.refl U.vm) qK, qD⟩, va_recv hK hP (ci := 10) (q0 := 0) rfl rfl, fun U hU hW => ⟨rfl, by rw [hU], by rw [hU]; exact hP, va_K.moved hW.alike hK, hD.weaken (fun _ _ _ _ => trivial)⟩⟩ rfl rfl hl.1 rfl (lv_room (Nat.le_of_ble_eq_true rfl)) dX9_plan_22 ⟨Nat.le_of_ble_eq_true rfl, Nat.le_of_ble_eq_true rfl⟩) hS (fun q _ h => hFc q h) hFc (fun r7 u t H1 locs ht hvm hw hB hz1 hk1 hS => ?_)
        obtain ⟨F8, V9⟩ := u
        replace hP := hB.1
        rw [ht] at hP
        replace hD : va_D A (mW h a k F8 V9) := hB.2.weaken (fun _ q _ h9 => hFc q.1 h9)
        clear hB
        generalize H1 = H at hP hS ⊢
        replace hP : va_P (dC, dI) vwCl (mW h a k F8 V9) H := hP
        obtain ⟨hwI, hwU, hwV, hw⟩ := hw
        replace hU : ∀ j : Nat, j ∉ ([27, 28, 29, 30, 31, 32, 34, 35, 36, 37, 40, 41] : List Nat) → F8 j = F j := mw_tr (by decide) hwU hU
        replace hV : ∀ j : Nat, j ∉ ([33, 38, 39] : List Nat) → V9 j = V j := mw_tr (by decide) hwV hV
        replace hI : StM n (b + 0) F V F8 V9 := hI.trans hwI
        replace hI : StM n (b) F V F8 V9 := hI
        replace hw : (r7, F8, V9) = f_w_look n p0 j6 F V := hw
        replace hZ9 := bn3_s hZ9 hw
        refine lv_istore_n (lv' := [(3, .int r7), (0, .ref h), (1, .int p0), (2, .int (nI j6))]) hx hb dX9_plan_25 rfl hl (by decide) rfl (fun ls hl => ?_)
        refine lv_iload_n hx hb dX9_plan_26 rfl (lv_at hl 0 rfl) ?_
        refine lv_if_eq (tgt := 32) hx hb dX9_plan_27 (by decide) (fun c10 => ?_) (fun c10 => ?_)
        · replace hZ9 := ite_t hZ9 c10
          refine lv_iconst (v := 0) hx hb dX9_plan_32 (by decide) ?_
          refine lv_istore (lv' := [(4, .int 0), (3, .int r7), (0, .ref h), (1, .int p0), (2, .int (nI j6))]) hx hb dX9_plan_33 hl (by decide) rfl (fun ls hl => ?_)
          obtain ⟨K9_35, hK9_35, hZ9⟩ := lp_gen hZ9
          have lp14 : ∀ (fu12 i11 : Nat)  (F15 : Nat → Nat → Int32) (V16 : Nat → Int32) (H : Heap) (locs : List Loc) (ls : Array Slot), n < i11 + fu12 → i11 ≤ n → StM n (b) F V F15 V16 → (∀ j : Nat, j ∉ ([27, 28, 29, 30, 31, 32, 34, 35, 36, 37, 40, 41] : List Nat) → F15 j = F j) → (∀ j : Nat, j ∉ ([33, 38, 39] : List Nat) → V16 j = V j) → RES = f_w_plan_35 n  fu12 i11 F15 V16 K9_35 → va_P (dC, dI) vwCl (mW h a k F15 V16) H → va_D A (mW h a k F15 V16) → va_S A s.heap H locs → lv_has ls 6 [(4, .int (nI i11)), (3, .int r7), (0, .ref h), (1, .int p0), (2, .int (nI j6))] → W p l e (headSpec wq_w_plan rm_w_plan).room s m ([.ref h, .int p0, .int (nI j6)] : List Value).toArray below meth c H locs 0 0 Q0 (F0 m 35 ls []) := by
            intro fu12
            induction fu12 with
            | zero =>
              intro i11  F15 V16 H locs ls hf hi
              exact absurd hf (by omega)
            | succ fu12 ih13 =>
              intro i11  F15 V16 H locs ls hfi11 hii11 hI hU hV hZ9 hP hD hS hl
              rw [f_w_plan_35] at hZ9
              refine lv_iload hx hb dX9_plan_35 (lv_at hl 0 rfl) ?_
              refine lv_aload_n hx hb dX9_plan_37 rfl (lv_at hl 2 rfl) ?_
              refine va_get (D := (dC, dI)) (ci := 10) (v := .int (V16 21)) (C := RX9) (T := TX9) (N := 46) hx hb hts in_w_plan_X9 hown hK hP 0 rfl rfl 21 (by decide) (hts (.fieldLink RX9 126 "ServiceTreeModel" "services" "I") (by decide +kernel)) (fun _ h9 => h9) rfl dX9_plan_38 ?_
              refine p1_topr (v := .int (nI n)) (congrArg Value.int hI.1.2.1) ?_
              refine lv_icmp_ge (tgt := 58) hx hb dX9_plan_41 (by decide) (fun c17 => ?_) (fun c17 => ?_)
              · replace c17 : n ≤ i11 := (nI_leI (a := n) (b := i11) (by omega) (by omega)).mp c17
                replace hZ9 := ite_t hZ9 c17
                replace hZ9 := lp_app3 hK9_35 hZ9
                refine lv_iconst (v := 0) hx hb dX9_plan_58 (by decide) ?_
                refine lv_istore (lv' := [(4, .int 0), (3, .int r7), (0, .ref h), (1, .int p0), (2, .int (nI j6))]) hx hb dX9_plan_59 hl (by decide) rfl (fun ls hl => ?_)
                obtain ⟨K9_61, hK9_61, hZ9⟩ := lp_gen hZ9
                have lp21 : ∀ (fu19 i18 : Nat)  (F22 : Nat → Nat → Int32) (V23 : Nat → Int32) (H : Heap) (locs : List Loc) (ls : Array Slot), n < i18 + fu19 → i18 ≤ n → StM n (b) F V F22 V23 → (∀ j : Nat, j ∉ ([27, 28, 29, 30, 31, 32, 34, 35, 36, 37, 40, 41] : List Nat) → F22 j = F j) → (∀ j : Nat, j ∉ ([33, 38, 39] : List Nat) → V23 j = V j) → RES = f_w_plan_61 n  fu19 i18 F22 V23 K9_61 → va_P (dC, dI) vwCl (mW h a k F22 V23) H → va_D A (mW h a k F22 V23) → va_S A s.heap H locs → lv_has ls 6 [(4, .int (nI i18)), (3, .int r7), (0, .ref h), (1, .int p0), (2, .int (nI j6))] → W p l e (headSpec wq_w_plan rm_w_plan).room s m ([.ref h, .int p0, .int (nI j6)] : List Value).toArray below meth c H locs 0 0 Q0 (F0 m 61 ls []) := by
                  intro fu19
                  induction fu19 with
                  | zero =>
                    intro i18  F22 V23 H locs ls hf hi
                    exact absurd hf (by omega)
                  | succ fu19 ih20 =>
                    intro i18  F22 V23 H locs ls hfi18 hii18 hI hU hV hZ9 hP hD hS hl
                    rw [f_w_plan_61] at hZ9
                    refine lv_iload hx hb dX9_plan_61 (lv_at hl 0 rfl) ?_
                    refine lv_aload_n hx hb dX9_plan_63 rfl (lv_at hl 2 rfl) ?_
                    refine va_get (D := (dC, dI)) (ci := 10) (v := .int (V23 21)) (C := RX9) (T := TX9) (N := 46) hx hb hts in_w_plan_X9 hown hK hP 0 rfl rfl 21 (by decide) (hts (.fieldLink RX9 126 "ServiceTreeModel" "services" "I") (by decide +kernel)) (fun _ h9 => h9) rfl dX9_plan_64 ?_
                    refine p1_topr (v := .int (nI n)) (congrArg Value.int hI.1.2.1) ?_
                    refine lv_icmp_ge (tgt := 120) hx hb dX9_plan_67 (by decide) (fun c24 => ?_) (fun c24 => ?_)
                    · replace c24 : n ≤ i18 := (nI_leI (a := n) (b := i18) (by omega) (by omega)).mp c24
                      replace hZ9 := ite_t hZ9 c24
                      replace hZ9 := lp_app3 hK9_61 hZ9
                      refine lv_aload_n hx hb dX9_plan_120 rfl (lv_at hl 2 rfl) ?_
                      refine lv_iconst (v := 0) hx hb dX9_plan_121 (by decide) ?_
                      refine va_put (D := (dC, dI)) (ci := 10) (fs := mF a V23) (v := .int 0) (ty := .int) (C := RX9) (T := TX9) (N := 46) hx hb hts in_w_plan_X9 tyX9 tyX9_ok nmX9 hown hK hP hD hS 0 rfl rfl 38 (by decide) (hts (.fieldLink RX9 258 "ServiceTreeModel" "planned" "I") (by decide +kernel)) (fun _ h9 => h9) rfl (by decide +kernel) rfl rfl (Nat.le_of_ble_eq_true rfl) dX9_plan_122 (fun H locs hP hD hS => ?_)
                      rw [mW_put_38] at hP hD
                      obtain ⟨V25, eV25⟩ : ∃ f9 : Nat → Int32, f9 = va_up V23 38 0 := ⟨_, rfl⟩
                      rw [← eV25] at hP hD
                      replace hZ9 := bnd_s hZ9 eV25
                      replace hI : StM n (b) F V F22 V25 := ⟨by rw [eV25]; exact hI.1.put38 (x := 0) (by omega), trivial⟩
                      replace hV : ∀ j : Nat, j ∉ ([33, 38, 39] : List Nat) → V25 j = V j := by rw [eV25]; exact mw_up (by decide) hV
                      refine lv_aload_n hx hb dX9_plan_125 rfl (lv_at hl 2 rfl) ?_
                      refine lv_iconst (v := 0) hx hb dX9_plan_126 (by decide) ?_
                      refine va_put (D := (dC, dI)) (ci := 10) (fs := mF a V25) (v := .int 0) (ty := .int) (C := RX9) (T := TX9) (N := 46) hx hb hts in_w_plan_X9 tyX9 tyX9_ok nmX9 hown hK hP hD hS 0 rfl rfl 39 (by decide) (hts (.fieldLink RX9 107 "ServiceTreeModel" "quick" "I") (by decide +kernel)) (fun _ h9 => h9) rfl (by decide +kernel) rfl rfl (Nat.le_of_ble_eq_true rfl) dX9_plan_127 (fun H locs hP hD hS => ?_)
                      rw [mW_put_39] at hP hD
                      obtain ⟨V26, eV26⟩ : ∃ f9 : Nat → Int32, f9 = va_up V25 39 0 := ⟨_, rfl⟩
                      rw [← eV26] at hP hD
                      replace hZ9 := bnd_s hZ9 eV26
                      replace hI : StM n (b) F V F22 V26 := ⟨by rw [eV26]; exact hI.1.setV (by decide), trivial⟩
                      replace hV : ∀ j : Nat, j ∉ ([33, 38, 39] : List Nat) → V26 j = V j := by rw [eV26]; exact mw_up (by decide) hV
                      refine lv_iconst (v := 0) hx hb dX9_plan_130 (by decide) ?_
                      refine lv_istore (lv' := [(4, .int 0), (3, .int r7), (0, .ref h), (1, .int p0), (2, .int (nI j6))]) hx hb dX9_plan_131 hl (by decide) rfl (fun ls hl => ?_)
                      obtain ⟨K9_133, hK9_133, hZ9⟩ := lp_gen hZ9
                      have lp30 : ∀ (fu28 i27 : Nat)  (F31 : Nat → Nat → Int32) (V32 : Nat → Int32) (H : Heap) (locs : List Loc) (ls : Array Slot), n < i27 + fu28 → i27 ≤ n → StM n (b) F V F31 V32 → (∀ j : Nat, j ∉ ([27, 28, 29, 30, 31, 32, 34, 35, 36, 37, 40, 41] : List Nat) → F31 j = F j) → (∀ j : Nat, j ∉ ([33, 38, 39] : List Nat) → V32 j = V j) → (∃ p9 : Nat, p9 ≤ i27 ∧ V32 38 = nI p9) → RES = f_w_plan_133 n  fu28 i27 F31 V32 K9_133 → va_P (dC, dI) vwCl (mW h a k F31 V32) H → va_D A (mW h a k F31 V32) → va_S A s.heap H locs → lv_has ls 6 [(4, .int (nI i27)), (3, .int r7), (0, .ref h), (1, .int p0), (2, .int (nI j6))] → W p l e (headSpec wq_w_plan rm_w_plan).room s m ([.ref h, .int p0, .int (nI j6)] : List Value).toArray below meth c H locs 0 0 Q0 (F0 m 133 ls []) := by
                        intro fu28
                        induction fu28 with
                        | zero =>
                          intro i27  F31 V32 H locs ls hf hi
                          exact absurd hf (by omega)
                        | succ fu28 ih29 =>
                          intro i27  F31 V32 H locs ls hfi27 hii27 hI hU hV hqi27 hZ9 hP hD hS hl
                          rw [f_w_plan_133] at hZ9
                          refine lv_iload hx hb dX9_plan_133 (lv_at hl 0 rfl) ?_
                          refine lv_aload_n hx hb dX9_plan_135 rfl (lv_at hl 2 rfl) ?_
                          refine va_get (D := (dC, dI)) (ci := 10) (v := .int (V32 21)) (C := RX9) (T := TX9) (N := 46) hx hb hts in_w_plan_X9 hown hK hP 0 rfl rfl 21 (by decide) (hts (.fieldLink RX9 126 "ServiceTreeModel" "services" "I") (by decide +kernel)) (fun _ h9 => h9) rfl dX9_plan_136 ?_
                          refine p1_topr (v := .int (nI n)) (congrArg Value.int hI.1.2.1) ?_
                          refine lv_icmp_ge (tgt := 351) hx hb dX9_plan_139 (by decide) (fun c33 => ?_) (fun c33 => ?_)
                          · replace c33 : n ≤ i27 := (nI_leI (a := n) (b := i27) (by omega) (by omega)).mp c33
                            replace hZ9 := ite_t hZ9 c33
                            replace hZ9 := lp_app3 hK9_133 hZ9
                            refine lv_aload_n hx hb dX9_plan_351 rfl (lv_at hl 2 rfl) ?_
                            refine va_get (D := (dC, dI)) (ci := 10) (v := .int (V32 38)) (C := RX9) (T := TX9) (N := 46) hx hb hts in_w_plan_X9 hown hK hP 0 rfl rfl 38 (by decide) (hts (.fieldLink RX9 258 "ServiceTreeModel" "planned" "I") (by decide +kernel)) (fun _ h9 => h9) rfl dX9_plan_352 ?_
                            obtain ⟨pl34, hpl34, epl34⟩ := hI.1.2.2.1
                            refine p1_topr (v := .int (nI pl34)) (congrArg Value.int epl34) ?_
                            replace hZ9 := bnd_s hZ9 (show pl34 = (V32 38).toNatClampNeg by rw [epl34, nI_clamp (by omega)])
                            rw [hQ]
                            exact W.iret (v := (nI pl34)) hx hb hr (fun t ht hW => ⟨⟨(nI pl34), (F31, V32), rfl, ⟨hI.mono (by omega), hU, hV, hZ9.symm.trans hR0⟩, by rw [ht]; exact hP, hD⟩, hS.F ht⟩) hS.2.2 dX9_plan_355
                          · replace c33 : ¬ (n ≤ i27) := fun q9 => c33 ((nI_leI (a := n) (b := i27) (by omega) (by omega)).mpr q9)
                            replace hZ9 := ite_f hZ9 c33
                            refine lv_aload_n hx hb dX9_plan_142 rfl (lv_at hl 2 rfl) ?_
                            refine va_get (D := (dC, dI)) (ci := 10) (v := .ref (a 30)) (C := RX9) (T := TX9) (N := 46) hx hb hts in_w_plan_X9 hown hK hP 0 rfl rfl 30 (by decide) (hts (.fieldLink RX9 86 "ServiceTreeModel" "newJob" "[I") (by decide +kernel)) (fun _ h9 => h9) rfl dX9_plan_143 ?_
                            refine lv_iload hx hb dX9_plan_146 (lv_at hl 0 rfl) ?_
                            refine va_iald (n := 40) (f := F31 30) hx hb hK hP 26 25 rfl rfl (vp_in_nI (n := i27) (by omega) (by decide)) dX9_plan_148 ?_
                            refine lv_topi (fun x35 ex35 => ?_)
                            replace hZ9 := bnd_s hZ9 ex35
                            refine lv_if_eq (tgt := 345) hx hb dX9_plan_149 (by decide) (fun c36 => ?_) (fun c36 => ?_)
                            · replace hZ9 := ite_t hZ9 c36
                              refine lv_iinc (v := nI (i27 + 1)) (lv' := [(4, .int (nI (i27 + 1))), (3, .int r7), (0, .ref h), (1, .int p0), (2, .int (nI j6))]) hx hb dX9_plan_345 hl (k := 0) rfl (nI_add i27 1) (by decide) rfl (fun ls hl => ?_)
                              refine lv_goto (tgt := 133) hx hb dX9_plan_348 (by decide) ?_
                              exact ih29 (i27 + 1)  F31 V32 _ _ _ (by omega) (by omega) (hI.mono (by omega)) hU hV (by obtain ⟨p9, h9, e9⟩ := hqi27; exact ⟨p9, by omega, e9⟩) hZ9 hP hD hS (lv_sub hl [0, 1, 2, 3, 4] rfl)
                            · replace hZ9 := ite_f hZ9 c36
                              refine lv_aload_n hx hb dX9_plan_152 rfl (lv_at hl 2 rfl) ?_
                              refine va_get (D := (dC, dI)) (ci := 10) (v := .int (V32 38)) (C := RX9) (T := TX9) (N := 46) hx hb hts in_w_plan_X9 hown hK hP 0 rfl rfl 38 (by decide) (hts (.fieldLink RX9 258 "ServiceTreeModel" "planned" "I") (by decide +kernel)) (fun _ h9 => h9) rfl dX9_plan_153 ?_
                              obtain ⟨pl37, hpl37, epl37⟩ := id hqi27
                              refine p1_topr (v := .int (nI pl37)) (congrArg Value.int epl37) ?_
                              replace hZ9 := bnd_s hZ9 (show pl37 = (V32 38).toNatClampNeg by rw [epl37, nI_clamp (by omega)])
                              refine lv_istore (lv' := [(5, .int (nI pl37)), (4, .int (nI i27)), (3, .int r7), (0, .ref h), (1, .int p0), (2, .int (nI j6))]) hx hb dX9_plan_156 hl (by decide) rfl (fun ls hl => ?_)
                              obtain ⟨K9_158, hK9_158, hZ9⟩ := lp_gen hZ9
                              have lp41 : ∀ (fu39 i38 : Nat)  (F42 : Nat → Nat → Int32) (H : Heap) (locs : List Loc) (ls : Array Slot), i38 < fu39 → i38 ≤ i27 → StM n (b) F V F42 V32 → (∀ j : Nat, j ∉ ([27, 28, 29, 30, 31, 32, 34, 35, 36, 37, 40, 41] : List Nat) → F42 j = F j) → RES = f_w_plan_158 n i27 fu39 i38 F42 K9_158 → va_P (dC, dI) vwCl (mW h a k F42 V32) H → va_D A (mW h a k F42 V32) → va_S A s.heap H locs → lv_has ls 6 [(5, .int (nI i38)), (4, .int (nI i27)), (3, .int r7), (0, .ref h), (1, .int p0), (2, .int (nI j6))] → W p l e (headSpec wq_w_plan rm_w_plan).room s m ([.ref h, .int p0, .int (nI j6)] : List Value).toArray below meth c H locs 0 0 Q0 (F0 m 158 ls []) := by
                                intro fu39
                                induction fu39 with
                                | zero =>
                                  intro i38  F42 H locs ls hf hi
                                  exact absurd hf (by omega)
                                | succ fu39 ih40 =>
                                  intro i38  F42 H locs ls hfi38 hii38 hI hU hZ9 hP hD hS hl
                                  rw [f_w_plan_158] at hZ9
                                  refine lv_iload hx hb dX9_plan_158 (lv_at hl 0 rfl) ?_
                                  refine lv_if_le (tgt := 252) hx hb dX9_plan_160 (by decide) (fun c43 => ?_) (fun c43 => ?_)
                                  · replace c43 : i38 ≤ 0 := (nI_leI (a := i38) (b := 0) (by omega) (by omega)).mp c43
                                    replace hZ9 := ite_t hZ9 c43
                                    replace hZ9 := lp_app2 hK9_158 hZ9
                                    refine lv_aload_n hx hb dX9_plan_252 rfl (lv_at hl 3 rfl) ?_
                                    refine va_get (D := (dC, dI)) (ci := 10) (v := .ref (a 34)) (C := RX9) (T := TX9) (N := 46) hx hb hts in_w_plan_X9 hown hK hP 0 rfl rfl 34 (by decide) (hts (.fieldLink RX9 95 "ServiceTreeModel" "planService" "[I") (by decide +kernel)) (fun _ h9 => h9) rfl dX9_plan_253 ?_
                                    refine lv_iload hx hb dX9_plan_256 (lv_at hl 0 rfl) ?_
                                    refine lv_iload hx hb dX9_plan_258 (lv_at hl 1 rfl) ?_
                                    refine va_iast (n := 40) (f := F42 34) hx hb hK hP hD hS 29 28 rfl rfl (vp_in_nI (n := i38) (by omega) (by decide)) dX9_plan_260 (fun H locs hP hD hS => ?_)
                                    rw [mW_set_34] at hP hD
                                    obtain ⟨F44, eF44⟩ : ∃ f9 : Nat → Nat → Int32, f9 = va_up F42 34 (upd (F42 34) (nI i38).toNatClampNeg (nI i27)) := ⟨_, rfl⟩
                                    rw [← eF44] at hP hD
                                    replace hZ9 := bnd_s hZ9 eF44
                                    replace hI : StM n (b) F V F44 V32 := ⟨by rw [eF44]; exact hI.1.setF (by decide), trivial⟩
                                    replace hU : ∀ j : Nat, j ∉ ([27, 28, 29, 30, 31, 32, 34, 35, 36, 37, 40, 41] : List Nat) → F44 j = F j := by rw [eF44]; exact mw_up (by decide) hU
                                    refine lv_aload_n hx hb dX9_plan_261 rfl (lv_at hl 3 rfl) ?_
                                    refine va_get (D := (dC, dI)) (ci := 10) (v := .ref (a 35)) (C := RX9) (T := TX9) (N := 46) hx hb hts in_w_plan_X9 hown hK hP 0 rfl rfl 35 (by decide) (hts (.fieldLink RX9 98 "ServiceTreeModel" "planHow" "[I") (by decide +kernel)) (fun _ h9 => h9) rfl dX9_plan_262 ?_
                                    refine lv_iload hx hb dX9_plan_265 (lv_at hl 0 rfl) ?_
                                    refine lv_aload_n hx hb dX9_plan_267 rfl (lv_at hl 3 rfl) ?_
                                    refine va_get (D := (dC, dI)) (ci := 10) (v := .ref (a 30)) (C := RX9) (T := TX9) (N := 46) hx hb hts in_w_plan_X9 hown hK hP 0 rfl rfl 30 (by decide) (hts (.fieldLink RX9 86 "ServiceTreeModel" "newJob" "[I") (by decide +kernel)) (fun _ h9 => h9) rfl dX9_plan_268 ?_
                                    refine lv_iload hx hb dX9_plan_271 (lv_at hl 1 rfl) ?_
                                    refine va_iald (n := 40) (f := F44 30) hx hb hK hP 26 25 rfl rfl (vp_in_nI (n := i27) (by omega) (by decide)) dX9_plan_273 ?_
                                    refine lv_topi (fun x45 ex45 => ?_)
                                    replace hZ9 := bnd_s hZ9 ex45
                                    refine va_iast (n := 40) (f := F44 35) hx hb hK hP hD hS 30 29 rfl rfl (vp_in_nI (n := i38) (by omega) (by decide)) dX9_plan_274 (fun H locs hP hD hS => ?_)
                                    rw [mW_set_35] at hP hD
                                    obtain ⟨F46, eF46⟩ : ∃ f9 : Nat → Nat → Int32, f9 = va_up F44 35 (upd (F44 35) (nI i38).toNatClampNeg x45) := ⟨_, rfl⟩
                                    rw [← eF46] at hP hD
                                    replace hZ9 := bnd_s hZ9 eF46
                                    replace hI : StM n (b) F V F46 V32 := ⟨by rw [eF46]; exact hI.1.setF (by decide), trivial⟩
                                    replace hU : ∀ j : Nat, j ∉ ([27, 28, 29, 30, 31, 32, 34, 35, 36, 37, 40, 41] : List Nat) → F46 j = F j := by rw [eF46]; exact mw_up (by decide) hU
                                    refine lv_aload_n hx hb dX9_plan_275 rfl (lv_at hl 3 rfl) ?_
                                    refine va_get (D := (dC, dI)) (ci := 10) (v := .ref (a 36)) (C := RX9) (T := TX9) (N := 46) hx hb hts in_w_plan_X9 hown hK hP 0 rfl rfl 36 (by decide) (hts (.fieldLink RX9 101 "ServiceTreeModel" "planBegin" "[I") (by decide +kernel)) (fun _ h9 => h9) rfl dX9_plan_276 ?_
                                    refine lv_iload hx hb dX9_plan_279 (lv_at hl 0 rfl) ?_
                                    refine lv_aload_n hx hb dX9_plan_281 rfl (lv_at hl 3 rfl) ?_
                                    refine va_get (D := (dC, dI)) (ci := 10) (v := .ref (a 41)) (C := RX9) (T := TX9) (N := 46) hx hb hts in_w_plan_X9 hown hK hP 0 rfl rfl 41 (by decide) (hts (.fieldLink RX9 114 "ServiceTreeModel" "begins" "[I") (by decide +kernel)) (fun _ h9 => h9) rfl dX9_plan_282 ?_
                                    refine lv_iload hx hb dX9_plan_285 (lv_at hl 1 rfl) ?_
                                    refine va_iald (n := 40) (f := F46 41) hx hb hK hP 34 33 rfl rfl (vp_in_nI (n := i27) (by omega) (by decide)) dX9_plan_287 ?_
                                    refine lv_topi (fun x47 ex47 => ?_)
                                    replace hZ9 := bnd_s hZ9 ex47
                                    refine va_iast (n := 40) (f := F46 36) hx hb hK hP hD hS 31 30 rfl rfl (vp_in_nI (n := i38) (by omega) (by decide)) dX9_plan_288 (fun H locs hP hD hS => ?_)
                                    rw [mW_set_36] at hP hD
                                    obtain ⟨F48, eF48⟩ : ∃ f9 : Nat → Nat → Int32, f9 = va_up F46 36 (upd (F46 36) (nI i38).toNatClampNeg x47) := ⟨_, rfl⟩
                                    rw [← eF48] at hP hD
                                    replace hZ9 := bnd_s hZ9 eF48
                                    replace hI : StM n (b) F V F48 V32 := ⟨by rw [eF48]; exact hI.1.setF (by decide), trivial⟩
                                    replace hU : ∀ j : Nat, j ∉ ([27, 28, 29, 30, 31, 32, 34, 35, 36, 37, 40, 41] : List Nat) → F48 j = F j := by rw [eF48]; exact mw_up (by decide) hU
                                    refine lv_aload_n hx hb dX9_plan_289 rfl (lv_at hl 3 rfl) ?_
                                    refine va_get (D := (dC, dI)) (ci := 10) (v := .ref (a 37)) (C := RX9) (T := TX9) (N := 46) hx hb hts in_w_plan_X9 hown hK hP 0 rfl rfl 37 (by decide) (hts (.fieldLink RX9 104 "ServiceTreeModel" "planEnd" "[I") (by decide +kernel)) (fun _ h9 => h9) rfl dX9_plan_290 ?_
                                    refine lv_iload hx hb dX9_plan_293 (lv_at hl 0 rfl) ?_
                                    refine lv_aload_n hx hb dX9_plan_295 rfl (lv_at hl 3 rfl) ?_
                                    refine va_get (D := (dC, dI)) (ci := 10) (v := .ref (a 40)) (C := RX9) (T := TX9) (N := 46) hx hb hts in_w_plan_X9 hown hK hP 0 rfl rfl 40 (by decide) (hts (.fieldLink RX9 111 "ServiceTreeModel" "ends" "[I") (by decide +kernel)) (fun _ h9 => h9) rfl dX9_plan_296 ?_
                                    refine lv_iload hx hb dX9_plan_299 (lv_at hl 1 rfl) ?_
                                    refine va_iald (n := 40) (f := F48 40) hx hb hK hP 33 32 rfl rfl (vp_in_nI (n := i27) (by omega) (by decide)) dX9_plan_301 ?_
                                    refine lv_topi (fun x49 ex49 => ?_)
                                    replace hZ9 := bnd_s hZ9 ex49
                                    refine va_iast (n := 40) (f := F48 37) hx hb hK hP hD hS 32 31 rfl rfl (vp_in_nI (n := i38) (by omega) (by decide)) dX9_plan_302 (fun H locs hP hD hS => ?_)
                                    rw [mW_set_37] at hP hD
                                    obtain ⟨F50, eF50⟩ : ∃ f9 : Nat → Nat → Int32, f9 = va_up F48 37 (upd (F48 37) (nI i38).toNatClampNeg x49) := ⟨_, rfl⟩
                                    rw [← eF50] at hP hD
                                    replace hZ9 := bnd_s hZ9 eF50
                                    replace hI : StM n (b) F V F50 V32 := ⟨by rw [eF50]; exact hI.1.setF (by decide), trivial⟩
                                    replace hU : ∀ j : Nat, j ∉ ([27, 28, 29, 30, 31, 32, 34, 35, 36, 37, 40, 41] : List Nat) → F50 j = F j := by rw [eF50]; exact mw_up (by decide) hU
                                    refine lv_aload_n hx hb dX9_plan_303 rfl (lv_at hl 3 rfl) ?_
                                    refine lv_dup hx hb dX9_plan_304 rfl ?_
                                    refine va_get (D := (dC, dI)) (ci := 10) (v := .int (V32 38)) (C := RX9) (T := TX9) (N := 46) hx hb hts in_w_plan_X9 hown hK hP 0 rfl rfl 38 (by decide) (hts (.fieldLink RX9 258 "ServiceTreeModel" "planned" "I") (by decide +kernel)) (fun _ h9 => h9) rfl dX9_plan_305 ?_
                                    obtain ⟨pl51, hpl51, epl51⟩ := id hqi27
                                    refine p1_topr (v := .int (nI pl51)) (congrArg Value.int epl51) ?_
                                    replace hZ9 := bnd_s hZ9 (show pl51 = (V32 38).toNatClampNeg by rw [epl51, nI_clamp (by omega)])
                                    refine lv_iconst (v := 1) hx hb dX9_plan_308 (by decide) ?_
                                    refine lv_iadd hx hb dX9_plan_309 ?_
                                    refine p1_topr (v := .int (nI (pl51 + 1))) (congrArg Value.int (nI_add pl51 1)) ?_
                                    refine va_put (D := (dC, dI)) (ci := 10) (fs := mF a V32) (v := .int (nI (pl51 + 1))) (ty := .int) (C := RX9) (T := TX9) (N := 46) hx hb hts in_w_plan_X9 tyX9 tyX9_ok nmX9 hown hK hP hD hS 0 rfl rfl 38 (by decide) (hts (.fieldLink RX9 258 "ServiceTreeModel" "planned" "I") (by decide +kernel)) (fun _ h9 => h9) rfl (by decide +kernel) rfl rfl (Nat.le_of_ble_eq_true rfl) dX9_plan_310 (fun H locs hP hD hS => ?_)
                                    rw [mW_put_38] at hP hD
                                    obtain ⟨V52, eV52⟩ : ∃ f9 : Nat → Int32, f9 = va_up V32 38 (nI (pl51 + 1)) := ⟨_, rfl⟩
                                    rw [← eV52] at hP hD
                                    replace hZ9 := bnd_s hZ9 eV52
                                    replace hI : StM n (b) F V F50 V52 := ⟨by rw [eV52]; exact hI.1.put38 (x := pl51 + 1) (by omega), trivial⟩
                                    replace hV : ∀ j : Nat, j ∉ ([33, 38, 39] : List Nat) → V52 j = V j := by rw [eV52]; exact mw_up (by decide) hV
                                    refine lv_aload_n hx hb dX9_plan_313 rfl (lv_at hl 3 rfl) ?_
                                    refine lv_aload_n hx hb dX9_plan_314 rfl (lv_at hl 3 rfl) ?_
                                    refine va_get (D := (dC, dI)) (ci := 10) (v := .ref (a 40)) (C := RX9) (T := TX9) (N := 46) hx hb hts in_w_plan_X9 hown hK hP 0 rfl rfl 40 (by decide) (hts (.fieldLink RX9 111 "ServiceTreeModel" "ends" "[I") (by decide +kernel)) (fun _ h9 => h9) rfl dX9_plan_315 ?_
                                    refine lv_iload hx hb dX9_plan_318 (lv_at hl 1 rfl) ?_
                                    refine va_iald (n := 40) (f := F50 40) hx hb hK hP 33 32 rfl rfl (vp_in_nI (n := i27) (by omega) (by decide)) dX9_plan_320 ?_
                                    refine lv_topi (fun x53 ex53 => ?_)
                                    replace hZ9 := bnd_s hZ9 ex53
                                    refine lv_aload_n hx hb dX9_plan_321 rfl (lv_at hl 3 rfl) ?_
                                    refine va_get (D := (dC, dI)) (ci := 10) (v := .int (V52 39)) (C := RX9) (T := TX9) (N := 46) hx hb hts in_w_plan_X9 hown hK hP 0 rfl rfl 39 (by decide) (hts (.fieldLink RX9 107 "ServiceTreeModel" "quick" "I") (by decide +kernel)) (fun _ h9 => h9) rfl dX9_plan_322 ?_
                                    refine lv_topi (fun x54 ex54 => ?_)
                                    replace hZ9 := bnd_s hZ9 ex54
                                    refine lv_icmp_le (tgt := 338) hx hb dX9_plan_325 (by decide) (fun c55 => ?_) (fun c55 => ?_)
                                    · replace hZ9 := ite_t hZ9 c55
                                      refine lv_aload_n hx hb dX9_plan_338 rfl (lv_at hl 3 rfl) ?_
                                      refine va_get (D := (dC, dI)) (ci := 10) (v := .int (V52 39)) (C := RX9) (T := TX9) (N := 46) hx hb hts in_w_plan_X9 hown hK hP 0 rfl rfl 39 (by decide) (hts (.fieldLink RX9 107 "ServiceTreeModel" "quick" "I") (by decide +kernel)) (fun _ h9 => h9) rfl dX9_plan_339 ?_
                                      refine lv_topi (fun x56 ex56 => ?_)
                                      replace hZ9 := bnd_s hZ9 ex56
                                      refine va_put (D := (dC, dI)) (ci := 10) (fs := mF a V52) (v := .int x56) (ty := .int) (C := RX9) (T := TX9) (N := 46) hx hb hts in_w_plan_X9 tyX9 tyX9_ok nmX9 hown hK hP hD hS 0 rfl rfl 39 (by decide) (hts (.fieldLink RX9 107 "ServiceTreeModel" "quick" "I") (by decide +kernel)) (fun _ h9 => h9) rfl (by decide +kernel) rfl rfl (Nat.le_of_ble_eq_true rfl) dX9_plan_342 (fun H locs hP hD hS => ?_)
                                      rw [mW_put_39] at hP hD
                                      obtain ⟨V57, eV57⟩ : ∃ f9 : Nat → Int32, f9 = va_up V52 39 x56 := ⟨_, rfl⟩
                                      rw [← eV57] at hP hD
                                      replace hZ9 := bnd_s hZ9 eV57
                                      replace hI : StM n (b) F V F50 V57 := ⟨by rw [eV57]; exact hI.1.setV (by decide), trivial⟩
                                      replace hV : ∀ j : Nat, j ∉ ([33, 38, 39] : List Nat) → V57 j = V j := by rw [eV57]; exact mw_up (by decide) hV
                                      refine lv_iinc (v := nI (i27 + 1)) (lv' := [(4, .int (nI (i27 + 1))), (5, .int (nI i38)), (3, .int r7), (0, .ref h), (1, .int p0), (2, .int (nI j6))]) hx hb dX9_plan_345 hl (k := 1) rfl (nI_add i27 1) (by decide) rfl (fun ls hl => ?_)
                                      refine lv_goto (tgt := 133) hx hb dX9_plan_348 (by decide) ?_
                                      exact ih29 (i27 + 1)  F50 V57 _ _ _ (by omega) (by omega) (hI.mono (by omega)) hU hV (⟨pl51 + 1, by omega, (by rw [eV57, va_up_ne _ _ (by decide)]; exact (by rw [eV52]; exact va_up_self V32 38 _))⟩) hZ9 hP hD hS (lv_sub hl [0, 2, 3, 4, 5] rfl)
                                    · replace hZ9 := ite_f hZ9 c55
                                      refine lv_aload_n hx hb dX9_plan_328 rfl (lv_at hl 3 rfl) ?_
                                      refine va_get (D := (dC, dI)) (ci := 10) (v := .ref (a 40)) (C := RX9) (T := TX9) (N := 46) hx hb hts in_w_plan_X9 hown hK hP 0 rfl rfl 40 (by decide) (hts (.fieldLink RX9 111 "ServiceTreeModel" "ends" "[I") (by decide +kernel)) (fun _ h9 => h9) rfl dX9_plan_329 ?_
                                      refine lv_iload hx hb dX9_plan_332 (lv_at hl 1 rfl) ?_
                                      refine va_iald (n := 40) (f := F50 40) hx hb hK hP 33 32 rfl rfl (vp_in_nI (n := i27) (by omega) (by decide)) dX9_plan_334 ?_
                                      refine p1_topr (v := .int x53) (congrArg Value.int ex53.symm) ?_
                                      refine lv_goto (tgt := 342) hx hb dX9_plan_335 (by decide) ?_
                                      refine va_put (D := (dC, dI)) (ci := 10) (fs := mF a V52) (v := .int x53) (ty := .int) (C := RX9) (T := TX9) (N := 46) hx hb hts in_w_plan_X9 tyX9 tyX9_ok nmX9 hown hK hP hD hS 0 rfl rfl 39 (by decide) (hts (.fieldLink RX9 107 "ServiceTreeModel" "quick" "I") (by decide +kernel)) (fun _ h9 => h9) rfl (by decide +kernel) rfl rfl (Nat.le_of_ble_eq_true rfl) dX9_plan_342 (fun H locs hP hD hS => ?_)
                                      rw [mW_put_39] at hP hD
                                      obtain ⟨V59, eV59⟩ : ∃ f9 : Nat → Int32, f9 = va_up V52 39 x53 := ⟨_, rfl⟩
                                      rw [← eV59] at hP hD
                                      replace hZ9 := bnd_s hZ9 eV59
                                      replace hI : StM n (b) F V F50 V59 := ⟨by rw [eV59]; exact hI.1.setV (by decide), trivial⟩
                                      replace hV : ∀ j : Nat, j ∉ ([33, 38, 39] : List Nat) → V59 j = V j := by rw [eV59]; exact mw_up (by decide) hV
                                      refine lv_iinc (v := nI (i27 + 1)) (lv' := [(4, .int (nI (i27 + 1))), (5, .int (nI i38)), (3, .int r7), (0, .ref h), (1, .int p0), (2, .int (nI j6))]) hx hb dX9_plan_345 hl (k := 1) rfl (nI_add i27 1) (by decide) rfl (fun ls hl => ?_)
                                      refine lv_goto (tgt := 133) hx hb dX9_plan_348 (by decide) ?_
                                      exact ih29 (i27 + 1)  F50 V59 _ _ _ (by omega) (by omega) (hI.mono (by omega)) hU hV (⟨pl51 + 1, by omega, (by rw [eV59, va_up_ne _ _ (by decide)]; exact (by rw [eV52]; exact va_up_self V32 38 _))⟩) hZ9 hP hD hS (lv_sub hl [0, 2, 3, 4, 5] rfl)
                                  · replace c43 : ¬ (i38 ≤ 0) := fun q9 => c43 ((nI_leI (a := i38) (b := 0) (by omega) (by omega)).mpr q9)
                                    replace hZ9 := ite_f hZ9 c43
                                    refine lv_aload_n hx hb dX9_plan_163 rfl (lv_at hl 3 rfl) ?_
                                    refine va_get (D := (dC, dI)) (ci := 10) (v := .ref (a 36)) (C := RX9) (T := TX9) (N := 46) hx hb hts in_w_plan_X9 hown hK hP 0 rfl rfl 36 (by decide) (hts (.fieldLink RX9 101 "ServiceTreeModel" "planBegin" "[I") (by decide +kernel)) (fun _ h9 => h9) rfl dX9_plan_164 ?_
                                    refine lv_iload hx hb dX9_plan_167 (lv_at hl 0 rfl) ?_
                                    refine lv_iconst (v := 1) hx hb dX9_plan_169 (by decide) ?_
                                    refine lv_isub hx hb dX9_plan_170 ?_
                                    refine p1_topr (v := .int (nI (i38 - 1))) (congrArg Value.int (pk_sub (a := i38) (b := 1) (by omega))) ?_
                                    refine va_iald (n := 40) (f := F42 36) hx hb hK hP 31 30 rfl rfl (vp_in_nI (n := i38 - 1) (by omega) (by decide)) dX9_plan_171 ?_
                                    refine lv_topi (fun x60 ex60 => ?_)
                                    replace hZ9 := bnd_s hZ9 ex60
                                    refine lv_aload_n hx hb dX9_plan_172 rfl (lv_at hl 3 rfl) ?_
                                    refine va_get (D := (dC, dI)) (ci := 10) (v := .ref (a 41)) (C := RX9) (T := TX9) (N := 46) hx hb hts in_w_plan_X9 hown hK hP 0 rfl rfl 41 (by decide) (hts (.fieldLink RX9 114 "ServiceTreeModel" "begins" "[I") (by decide +kernel)) (fun _ h9 => h9) rfl dX9_plan_173 ?_
                                    refine lv_iload hx hb dX9_plan_176 (lv_at hl 1 rfl) ?_
                                    refine va_iald (n := 40) (f := F42 41) hx hb hK hP 34 33 rfl rfl (vp_in_nI (n := i27) (by omega) (by decide)) dX9_plan_178 ?_
                                    refine lv_topi (fun x61 ex61 => ?_)
                                    replace hZ9 := bnd_s hZ9 ex61
                                    refine lv_icmp_le (tgt := 252) hx hb dX9_plan_179 (by decide) (fun c62 => ?_) (fun c62 => ?_)
                                    · replace hZ9 := ite_t hZ9 c62
                                      replace hZ9 := lp_app2 hK9_158 hZ9
                                      refine lv_aload_n hx hb dX9_plan_252 rfl (lv_at hl 3 rfl) ?_
                                      refine va_get (D := (dC, dI)) (ci := 10) (v := .ref (a 34)) (C := RX9) (T := TX9) (N := 46) hx hb hts in_w_plan_X9 hown hK hP 0 rfl rfl 34 (by decide) (hts (.fieldLink RX9 95 "ServiceTreeModel" "planService" "[I") (by decide +kernel)) (fun _ h9 => h9) rfl dX9_plan_253 ?_
                                      refine lv_iload hx hb dX9_plan_256 (lv_at hl 0 rfl) ?_
                                      refine lv_iload hx hb dX9_plan_258 (lv_at hl 1 rfl) ?_
                                      refine va_iast (n := 40) (f := F42 34) hx hb hK hP hD hS 29 28 rfl rfl (vp_in_nI (n := i38) (by omega) (by decide)) dX9_plan_260 (fun H locs hP hD hS => ?_)
                                      rw [mW_set_34] at hP hD
                                      obtain ⟨F63, eF63⟩ : ∃ f9 : Nat → Nat → Int32, f9 = va_up F42 34 (upd (F42 34) (nI i38).toNatClampNeg (nI i27)) := ⟨_, rfl⟩
                                      rw [← eF63] at hP hD
                                      replace hZ9 := bnd_s hZ9 eF63
                                      replace hI : StM n (b) F V F63 V32 := ⟨by rw [eF63]; exact hI.1.setF (by decide), trivial⟩
                                      replace hU : ∀ j : Nat, j ∉ ([27, 28, 29, 30, 31, 32, 34, 35, 36, 37, 40, 41] : List Nat) → F63 j = F j := by rw [eF63]; exact mw_up (by decide) hU
                                      refine lv_aload_n hx hb dX9_plan_261 rfl (lv_at hl 3 rfl) ?_
                                      refine va_get (D := (dC, dI)) (ci := 10) (v := .ref (a 35)) (C := RX9) (T := TX9) (N := 46) hx hb hts in_w_plan_X9 hown hK hP 0 rfl rfl 35 (by decide) (hts (.fieldLink RX9 98 "ServiceTreeModel" "planHow" "[I") (by decide +kernel)) (fun _ h9 => h9) rfl dX9_plan_262 ?_
                                      refine lv_iload hx hb dX9_plan_265 (lv_at hl 0 rfl) ?_
                                      refine lv_aload_n hx hb dX9_plan_267 rfl (lv_at hl 3 rfl) ?_
                                      refine va_get (D := (dC, dI)) (ci := 10) (v := .ref (a 30)) (C := RX9) (T := TX9) (N := 46) hx hb hts in_w_plan_X9 hown hK hP 0 rfl rfl 30 (by decide) (hts (.fieldLink RX9 86 "ServiceTreeModel" "newJob" "[I") (by decide +kernel)) (fun _ h9 => h9) rfl dX9_plan_268 ?_
                                      refine lv_iload hx hb dX9_plan_271 (lv_at hl 1 rfl) ?_
                                      refine va_iald (n := 40) (f := F63 30) hx hb hK hP 26 25 rfl rfl (vp_in_nI (n := i27) (by omega) (by decide)) dX9_plan_273 ?_
                                      refine lv_topi (fun x64 ex64 => ?_)
                                      replace hZ9 := bnd_s hZ9 ex64
                                      refine va_iast (n := 40) (f := F63 35) hx hb hK hP hD hS 30 29 rfl rfl (vp_in_nI (n := i38) (by omega) (by decide)) dX9_plan_274 (fun H locs hP hD hS => ?_)
                                      rw [mW_set_35] at hP hD
                                      obtain ⟨F65, eF65⟩ : ∃ f9 : Nat → Nat → Int32, f9 = va_up F63 35 (upd (F63 35) (nI i38).toNatClampNeg x64) := ⟨_, rfl⟩
                                      rw [← eF65] at hP hD
                                      replace hZ9 := bnd_s hZ9 eF65
                                      replace hI : StM n (b) F V F65 V32 := ⟨by rw [eF65]; exact hI.1.setF (by decide), trivial⟩
                                      replace hU : ∀ j : Nat, j ∉ ([27, 28, 29, 30, 31, 32, 34, 35, 36, 37, 40, 41] : List Nat) → F65 j = F j := by rw [eF65]; exact mw_up (by decide) hU
                                      refine lv_aload_n hx hb dX9_plan_275 rfl (lv_at hl 3 rfl) ?_
                                      refine va_get (D := (dC, dI)) (ci := 10) (v := .ref (a 36)) (C := RX9) (T := TX9) (N := 46) hx hb hts in_w_plan_X9 hown hK hP 0 rfl rfl 36 (by decide) (hts (.fieldLink RX9 101 "ServiceTreeModel" "planBegin" "[I") (by decide +kernel)) (fun _ h9 => h9) rfl dX9_plan_276 ?_
                                      refine lv_iload hx hb dX9_plan_279 (lv_at hl 0 rfl) ?_
                                      refine lv_aload_n hx hb dX9_plan_281 rfl (lv_at hl 3 rfl) ?_
                                      refine va_get (D := (dC, dI)) (ci := 10) (v := .ref (a 41)) (C := RX9) (T := TX9) (N := 46) hx hb hts in_w_plan_X9 hown hK hP 0 rfl rfl 41 (by decide) (hts (.fieldLink RX9 114 "ServiceTreeModel" "begins" "[I") (by decide +kernel)) (fun _ h9 => h9) rfl dX9_plan_282 ?_
                                      refine lv_iload hx hb dX9_plan_285 (lv_at hl 1 rfl) ?_
                                      refine va_iald (n := 40) (f := F65 41) hx hb hK hP 34 33 rfl rfl (vp_in_nI (n := i27) (by omega) (by decide)) dX9_plan_287 ?_
                                      refine lv_topi (fun x66 ex66 => ?_)
                                      replace hZ9 := bnd_s hZ9 ex66
                                      refine va_iast (n := 40) (f := F65 36) hx hb hK hP hD hS 31 30 rfl rfl (vp_in_nI (n := i38) (by omega) (by decide)) dX9_plan_288 (fun H locs hP hD hS => ?_)
                                      rw [mW_set_36] at hP hD
                                      obtain ⟨F67, eF67⟩ : ∃ f9 : Nat → Nat → Int32, f9 = va_up F65 36 (upd (F65 36) (nI i38).toNatClampNeg x66) := ⟨_, rfl⟩
                                      rw [← eF67] at hP hD
                                      replace hZ9 := bnd_s hZ9 eF67
                                      replace hI : StM n (b) F V F67 V32 := ⟨by rw [eF67]; exact hI.1.setF (by decide), trivial⟩
                                      replace hU : ∀ j : Nat, j ∉ ([27, 28, 29, 30, 31, 32, 34, 35, 36, 37, 40, 41] : List Nat) → F67 j = F j := by rw [eF67]; exact mw_up (by decide) hU
                                      refine lv_aload_n hx hb dX9_plan_289 rfl (lv_at hl 3 rfl) ?_
                                      refine va_get (D := (dC, dI)) (ci := 10) (v := .ref (a 37)) (C := RX9) (T := TX9) (N := 46) hx hb hts in_w_plan_X9 hown hK hP 0 rfl rfl 37 (by decide) (hts (.fieldLink RX9 104 "ServiceTreeModel" "planEnd" "[I") (by decide +kernel)) (fun _ h9 => h9) rfl dX9_plan_290 ?_
                                      refine lv_iload hx hb dX9_plan_293 (lv_at hl 0 rfl) ?_
                                      refine lv_aload_n hx hb dX9_plan_295 rfl (lv_at hl 3 rfl) ?_
                                      refine va_get (D := (dC, dI)) (ci := 10) (v := .ref (a 40)) (C := RX9) (T := TX9) (N := 46) hx hb hts in_w_plan_X9 hown hK hP 0 rfl rfl 40 (by decide) (hts (.fieldLink RX9 111 "ServiceTreeModel" "ends" "[I") (by decide +kernel)) (fun _ h9 => h9) rfl dX9_plan_296 ?_
                                      refine lv_iload hx hb dX9_plan_299 (lv_at hl 1 rfl) ?_
                                      refine va_iald (n := 40) (f := F67 40) hx hb hK hP 33 32 rfl rfl (vp_in_nI (n := i27) (by omega) (by decide)) dX9_plan_301 ?_
                                      refine lv_topi (fun x68 ex68 => ?_)
                                      replace hZ9 := bnd_s hZ9 ex68
                                      refine va_iast (n := 40) (f := F67 37) hx hb hK hP hD hS 32 31 rfl rfl (vp_in_nI (n := i38) (by omega) (by decide)) dX9_plan_302 (fun H locs hP hD hS => ?_)
                                      rw [mW_set_37] at hP hD
                                      obtain ⟨F69, eF69⟩ : ∃ f9 : Nat → Nat → Int32, f9 = va_up F67 37 (upd (F67 37) (nI i38).toNatClampNeg x68) := ⟨_, rfl⟩
                                      rw [← eF69] at hP hD
                                      replace hZ9 := bnd_s hZ9 eF69
                                      replace hI : StM n (b) F V F69 V32 := ⟨by rw [eF69]; exact hI.1.setF (by decide), trivial⟩
                                      replace hU : ∀ j : Nat, j ∉ ([27, 28, 29, 30, 31, 32, 34, 35, 36, 37, 40, 41] : List Nat) → F69 j = F j := by rw [eF69]; exact mw_up (by decide) hU
                                      refine lv_aload_n hx hb dX9_plan_303 rfl (lv_at hl 3 rfl) ?_
                                      refine lv_dup hx hb dX9_plan_304 rfl ?_
                                      refine va_get (D := (dC, dI)) (ci := 10) (v := .int (V32 38)) (C := RX9) (T := TX9) (N := 46) hx hb hts in_w_plan_X9 hown hK hP 0 rfl rfl 38 (by decide) (hts (.fieldLink RX9 258 "ServiceTreeModel" "planned" "I") (by decide +kernel)) (fun _ h9 => h9) rfl dX9_plan_305 ?_
                                      obtain ⟨pl70, hpl70, epl70⟩ := id hqi27
                                      refine p1_topr (v := .int (nI pl70)) (congrArg Value.int epl70) ?_
                                      replace hZ9 := bnd_s hZ9 (show pl70 = (V32 38).toNatClampNeg by rw [epl70, nI_clamp (by omega)])
                                      refine lv_iconst (v := 1) hx hb dX9_plan_308 (by decide) ?_
                                      refine lv_iadd hx hb dX9_plan_309 ?_
                                      refine p1_topr (v := .int (nI (pl70 + 1))) (congrArg Value.int (nI_add pl70 1)) ?_
                                      refine va_put (D := (dC, dI)) (ci := 10) (fs := mF a V32) (v := .int (nI (pl70 + 1))) (ty := .int) (C := RX9) (T := TX9) (N := 46) hx hb hts in_w_plan_X9 tyX9 tyX9_ok nmX9 hown hK hP hD hS 0 rfl rfl 38 (by decide) (hts (.fieldLink RX9 258 "ServiceTreeModel" "planned" "I") (by decide +kernel)) (fun _ h9 => h9) rfl (by decide +kernel) rfl rfl (Nat.le_of_ble_eq_true rfl) dX9_plan_310 (fun H locs hP hD hS => ?_)
                                      rw [mW_put_38] at hP hD
                                      obtain ⟨V71, eV71⟩ : ∃ f9 : Nat → Int32, f9 = va_up V32 38 (nI (pl70 + 1)) := ⟨_, rfl⟩
                                      rw [← eV71] at hP hD
                                      replace hZ9 := bnd_s hZ9 eV71
                                      replace hI : StM n (b) F V F69 V71 := ⟨by rw [eV71]; exact hI.1.put38 (x := pl70 + 1) (by omega), trivial⟩
                                      replace hV : ∀ j : Nat, j ∉ ([33, 38, 39] : List Nat) → V71 j = V j := by rw [eV71]; exact mw_up (by decide) hV
                                      refine lv_aload_n hx hb dX9_plan_313 rfl (lv_at hl 3 rfl) ?_
                                      refine lv_aload_n hx hb dX9_plan_314 rfl (lv_at hl 3 rfl) ?_
                                      refine va_get (D := (dC, dI)) (ci := 10) (v := .ref (a 40)) (C := RX9) (T := TX9) (N := 46) hx hb hts in_w_plan_X9 hown hK hP 0 rfl rfl 40 (by decide) (hts (.fieldLink RX9 111 "ServiceTreeModel" "ends" "[I") (by decide +kernel)) (fun _ h9 => h9) rfl dX9_plan_315 ?_
                                      refine lv_iload hx hb dX9_plan_318 (lv_at hl 1 rfl) ?_
                                      refine va_iald (n := 40) (f := F69 40) hx hb hK hP 33 32 rfl rfl (vp_in_nI (n := i27) (by omega) (by decide)) dX9_plan_320 ?_
                                      refine lv_topi (fun x72 ex72 => ?_)
                                      replace hZ9 := bnd_s hZ9 ex72
                                      refine lv_aload_n hx hb dX9_plan_321 rfl (lv_at hl 3 rfl) ?_
                                      refine va_get (D := (dC, dI)) (ci := 10) (v := .int (V71 39)) (C := RX9) (T := TX9) (N := 46) hx hb hts in_w_plan_X9 hown hK hP 0 rfl rfl 39 (by decide) (hts (.fieldLink RX9 107 "ServiceTreeModel" "quick" "I") (by decide +kernel)) (fun _ h9 => h9) rfl dX9_plan_322 ?_
                                      refine lv_topi (fun x73 ex73 => ?_)
                                      replace hZ9 := bnd_s hZ9 ex73
                                      refine lv_icmp_le (tgt := 338) hx hb dX9_plan_325 (by decide) (fun c74 => ?_) (fun c74 => ?_)
                                      · replace hZ9 := ite_t hZ9 c74
                                        refine lv_aload_n hx hb dX9_plan_338 rfl (lv_at hl 3 rfl) ?_
                                        refine va_get (D := (dC, dI)) (ci := 10) (v := .int (V71 39)) (C := RX9) (T := TX9) (N := 46) hx hb hts in_w_plan_X9 hown hK hP 0 rfl rfl 39 (by decide) (hts (.fieldLink RX9 107 "ServiceTreeModel" "quick" "I") (by decide +kernel)) (fun _ h9 => h9) rfl dX9_plan_339 ?_
                                        refine lv_topi (fun x75 ex75 => ?_)
                                        replace hZ9 := bnd_s hZ9 ex75
                                        refine va_put (D := (dC, dI)) (ci := 10) (fs := mF a V71) (v := .int x75) (ty := .int) (C := RX9) (T := TX9) (N := 46) hx hb hts in_w_plan_X9 tyX9 tyX9_ok nmX9 hown hK hP hD hS 0 rfl rfl 39 (by decide) (hts (.fieldLink RX9 107 "ServiceTreeModel" "quick" "I") (by decide +kernel)) (fun _ h9 => h9) rfl (by decide +kernel) rfl rfl (Nat.le_of_ble_eq_true rfl) dX9_plan_342 (fun H locs hP hD hS => ?_)
                                        rw [mW_put_39] at hP hD
                                        obtain ⟨V76, eV76⟩ : ∃ f9 : Nat → Int32, f9 = va_up V71 39 x75 := ⟨_, rfl⟩
                                        rw [← eV76] at hP hD
                                        replace hZ9 := bnd_s hZ9 eV76
                                        replace hI : StM n (b) F V F69 V76 := ⟨by rw [eV76]; exact hI.1.setV (by decide), trivial⟩
                                        replace hV : ∀ j : Nat, j ∉ ([33, 38, 39] : List Nat) → V76 j = V j := by rw [eV76]; exact mw_up (by decide) hV
                                        refine lv_iinc (v := nI (i27 + 1)) (lv' := [(4, .int (nI (i27 + 1))), (5, .int (nI i38)), (3, .int r7), (0, .ref h), (1, .int p0), (2, .int (nI j6))]) hx hb dX9_plan_345 hl (k := 1) rfl (nI_add i27 1) (by decide) rfl (fun ls hl => ?_)
                                        refine lv_goto (tgt := 133) hx hb dX9_plan_348 (by decide) ?_
                                        exact ih29 (i27 + 1)  F69 V76 _ _ _ (by omega) (by omega) (hI.mono (by omega)) hU hV (⟨pl70 + 1, by omega, (by rw [eV76, va_up_ne _ _ (by decide)]; exact (by rw [eV71]; exact va_up_self V32 38 _))⟩) hZ9 hP hD hS (lv_sub hl [0, 2, 3, 4, 5] rfl)
                                      · replace hZ9 := ite_f hZ9 c74
                                        refine lv_aload_n hx hb dX9_plan_328 rfl (lv_at hl 3 rfl) ?_
                                        refine va_get (D := (dC, dI)) (ci := 10) (v := .ref (a 40)) (C := RX9) (T := TX9) (N := 46) hx hb hts in_w_plan_X9 hown hK hP 0 rfl rfl 40 (by decide) (hts (.fieldLink RX9 111 "ServiceTreeModel" "ends" "[I") (by decide +kernel)) (fun _ h9 => h9) rfl dX9_plan_329 ?_
                                        refine lv_iload hx hb dX9_plan_332 (lv_at hl 1 rfl) ?_
                                        refine va_iald (n := 40) (f := F69 40) hx hb hK hP 33 32 rfl rfl (vp_in_nI (n := i27) (by omega) (by decide)) dX9_plan_334 ?_
                                        refine p1_topr (v := .int x72) (congrArg Value.int ex72.symm) ?_
                                        refine lv_goto (tgt := 342) hx hb dX9_plan_335 (by decide) ?_
                                        refine va_put (D := (dC, dI)) (ci := 10) (fs := mF a V71) (v := .int x72) (ty := .int) (C := RX9) (T := TX9) (N := 46) hx hb hts in_w_plan_X9 tyX9 tyX9_ok nmX9 hown hK hP hD hS 0 rfl rfl 39 (by decide) (hts (.fieldLink RX9 107 "ServiceTreeModel" "quick" "I") (by decide +kernel)) (fun _ h9 => h9) rfl (by decide +kernel) rfl rfl (Nat.le_of_ble_eq_true rfl) dX9_plan_342 (fun H locs hP hD hS => ?_)
                                        rw [mW_put_39] at hP hD
                                        obtain ⟨V78, eV78⟩ : ∃ f9 : Nat → Int32, f9 = va_up V71 39 x72 := ⟨_, rfl⟩
                                        rw [← eV78] at hP hD
                                        replace hZ9 := bnd_s hZ9 eV78
                                        replace hI : StM n (b) F V F69 V78 := ⟨by rw [eV78]; exact hI.1.setV (by decide), trivial⟩
                                        replace hV : ∀ j : Nat, j ∉ ([33, 38, 39] : List Nat) → V78 j = V j := by rw [eV78]; exact mw_up (by decide) hV
                                        refine lv_iinc (v := nI (i27 + 1)) (lv' := [(4, .int (nI (i27 + 1))), (5, .int (nI i38)), (3, .int r7), (0, .ref h), (1, .int p0), (2, .int (nI j6))]) hx hb dX9_plan_345 hl (k := 1) rfl (nI_add i27 1) (by decide) rfl (fun ls hl => ?_)
                                        refine lv_goto (tgt := 133) hx hb dX9_plan_348 (by decide) ?_
                                        exact ih29 (i27 + 1)  F69 V78 _ _ _ (by omega) (by omega) (hI.mono (by omega)) hU hV (⟨pl70 + 1, by omega, (by rw [eV78, va_up_ne _ _ (by decide)]; exact (by rw [eV71]; exact va_up_self V32 38 _))⟩) hZ9 hP hD hS (lv_sub hl [0, 2, 3, 4, 5] rfl)
                                    · replace hZ9 := ite_f hZ9 c62
                                      refine lv_aload_n hx hb dX9_plan_182 rfl (lv_at hl 3 rfl) ?_
                                      refine va_get (D := (dC, dI)) (ci := 10) (v := .ref (a 34)) (C := RX9) (T := TX9) (N := 46) hx hb hts in_w_plan_X9 hown hK hP 0 rfl rfl 34 (by decide) (hts (.fieldLink RX9 95 "ServiceTreeModel" "planService" "[I") (by decide +kernel)) (fun _ h9 => h9) rfl dX9_plan_183 ?_
                                      refine lv_iload hx hb dX9_plan_186 (lv_at hl 0 rfl) ?_
                                      refine lv_aload_n hx hb dX9_plan_188 rfl (lv_at hl 3 rfl) ?_
                                      refine va_get (D := (dC, dI)) (ci := 10) (v := .ref (a 34)) (C := RX9) (T := TX9) (N := 46) hx hb hts in_w_plan_X9 hown hK hP 0 rfl rfl 34 (by decide) (hts (.fieldLink RX9 95 "ServiceTreeModel" "planService" "[I") (by decide +kernel)) (fun _ h9 => h9) rfl dX9_plan_189 ?_
                                      refine lv_iload hx hb dX9_plan_192 (lv_at hl 0 rfl) ?_
                                      refine lv_iconst (v := 1) hx hb dX9_plan_194 (by decide) ?_
                                      refine lv_isub hx hb dX9_plan_195 ?_
                                      refine p1_topr (v := .int (nI (i38 - 1))) (congrArg Value.int (pk_sub (a := i38) (b := 1) (by omega))) ?_
                                      refine va_iald (n := 40) (f := F42 34) hx hb hK hP 29 28 rfl rfl (vp_in_nI (n := i38 - 1) (by omega) (by decide)) dX9_plan_196 ?_
                                      refine lv_topi (fun x79 ex79 => ?_)
                                      replace hZ9 := bnd_s hZ9 ex79
                                      refine va_iast (n := 40) (f := F42 34) hx hb hK hP hD hS 29 28 rfl rfl (vp_in_nI (n := i38) (by omega) (by decide)) dX9_plan_197 (fun H locs hP hD hS => ?_)
                                      rw [mW_set_34] at hP hD
                                      obtain ⟨F80, eF80⟩ : ∃ f9 : Nat → Nat → Int32, f9 = va_up F42 34 (upd (F42 34) (nI i38).toNatClampNeg x79) := ⟨_, rfl⟩
                                      rw [← eF80] at hP hD
                                      replace hZ9 := bnd_s hZ9 eF80
                                      replace hI : StM n (b) F V F80 V32 := ⟨by rw [eF80]; exact hI.1.setF (by decide), trivial⟩
                                      replace hU : ∀ j : Nat, j ∉ ([27, 28, 29, 30, 31, 32, 34, 35, 36, 37, 40, 41] : List Nat) → F80 j = F j := by rw [eF80]; exact mw_up (by decide) hU
                                      refine lv_aload_n hx hb dX9_plan_198 rfl (lv_at hl 3 rfl) ?_
                                      refine va_get (D := (dC, dI)) (ci := 10) (v := .ref (a 35)) (C := RX9) (T := TX9) (N := 46) hx hb hts in_w_plan_X9 hown hK hP 0 rfl rfl 35 (by decide) (hts (.fieldLink RX9 98 "ServiceTreeModel" "planHow" "[I") (by decide +kernel)) (fun _ h9 => h9) rfl dX9_plan_199 ?_
                                      refine lv_iload hx hb dX9_plan_202 (lv_at hl 0 rfl) ?_
                                      refine lv_aload_n hx hb dX9_plan_204 rfl (lv_at hl 3 rfl) ?_
                                      refine va_get (D := (dC, dI)) (ci := 10) (v := .ref (a 35)) (C := RX9) (T := TX9) (N := 46) hx hb hts in_w_plan_X9 hown hK hP 0 rfl rfl 35 (by decide) (hts (.fieldLink RX9 98 "ServiceTreeModel" "planHow" "[I") (by decide +kernel)) (fun _ h9 => h9) rfl dX9_plan_205 ?_
                                      refine lv_iload hx hb dX9_plan_208 (lv_at hl 0 rfl) ?_
                                      refine lv_iconst (v := 1) hx hb dX9_plan_210 (by decide) ?_
                                      refine lv_isub hx hb dX9_plan_211 ?_
                                      refine p1_topr (v := .int (nI (i38 - 1))) (congrArg Value.int (pk_sub (a := i38) (b := 1) (by omega))) ?_
                                      refine va_iald (n := 40) (f := F80 35) hx hb hK hP 30 29 rfl rfl (vp_in_nI (n := i38 - 1) (by omega) (by decide)) dX9_plan_212 ?_
                                      refine lv_topi (fun x81 ex81 => ?_)
                                      replace hZ9 := bnd_s hZ9 ex81
                                      refine va_iast (n := 40) (f := F80 35) hx hb hK hP hD hS 30 29 rfl rfl (vp_in_nI (n := i38) (by omega) (by decide)) dX9_plan_213 (fun H locs hP hD hS => ?_)
                                      rw [mW_set_35] at hP hD
                                      obtain ⟨F82, eF82⟩ : ∃ f9 : Nat → Nat → Int32, f9 = va_up F80 35 (upd (F80 35) (nI i38).toNatClampNeg x81) := ⟨_, rfl⟩
                                      rw [← eF82] at hP hD
                                      replace hZ9 := bnd_s hZ9 eF82
                                      replace hI : StM n (b) F V F82 V32 := ⟨by rw [eF82]; exact hI.1.setF (by decide), trivial⟩
                                      replace hU : ∀ j : Nat, j ∉ ([27, 28, 29, 30, 31, 32, 34, 35, 36, 37, 40, 41] : List Nat) → F82 j = F j := by rw [eF82]; exact mw_up (by decide) hU
                                      refine lv_aload_n hx hb dX9_plan_214 rfl (lv_at hl 3 rfl) ?_
                                      refine va_get (D := (dC, dI)) (ci := 10) (v := .ref (a 36)) (C := RX9) (T := TX9) (N := 46) hx hb hts in_w_plan_X9 hown hK hP 0 rfl rfl 36 (by decide) (hts (.fieldLink RX9 101 "ServiceTreeModel" "planBegin" "[I") (by decide +kernel)) (fun _ h9 => h9) rfl dX9_plan_215 ?_
                                      refine lv_iload hx hb dX9_plan_218 (lv_at hl 0 rfl) ?_
                                      refine lv_aload_n hx hb dX9_plan_220 rfl (lv_at hl 3 rfl) ?_
                                      refine va_get (D := (dC, dI)) (ci := 10) (v := .ref (a 36)) (C := RX9) (T := TX9) (N := 46) hx hb hts in_w_plan_X9 hown hK hP 0 rfl rfl 36 (by decide) (hts (.fieldLink RX9 101 "ServiceTreeModel" "planBegin" "[I") (by decide +kernel)) (fun _ h9 => h9) rfl dX9_plan_221 ?_
                                      refine lv_iload hx hb dX9_plan_224 (lv_at hl 0 rfl) ?_
                                      refine lv_iconst (v := 1) hx hb dX9_plan_226 (by decide) ?_
                                      refine lv_isub hx hb dX9_plan_227 ?_
                                      refine p1_topr (v := .int (nI (i38 - 1))) (congrArg Value.int (pk_sub (a := i38) (b := 1) (by omega))) ?_
                                      refine va_iald (n := 40) (f := F82 36) hx hb hK hP 31 30 rfl rfl (vp_in_nI (n := i38 - 1) (by omega) (by decide)) dX9_plan_228 ?_
                                      refine lv_topi (fun x83 ex83 => ?_)
                                      replace hZ9 := bnd_s hZ9 ex83
                                      refine va_iast (n := 40) (f := F82 36) hx hb hK hP hD hS 31 30 rfl rfl (vp_in_nI (n := i38) (by omega) (by decide)) dX9_plan_229 (fun H locs hP hD hS => ?_)
                                      rw [mW_set_36] at hP hD
                                      obtain ⟨F84, eF84⟩ : ∃ f9 : Nat → Nat → Int32, f9 = va_up F82 36 (upd (F82 36) (nI i38).toNatClampNeg x83) := ⟨_, rfl⟩
                                      rw [← eF84] at hP hD
                                      replace hZ9 := bnd_s hZ9 eF84
                                      replace hI : StM n (b) F V F84 V32 := ⟨by rw [eF84]; exact hI.1.setF (by decide), trivial⟩
                                      replace hU : ∀ j : Nat, j ∉ ([27, 28, 29, 30, 31, 32, 34, 35, 36, 37, 40, 41] : List Nat) → F84 j = F j := by rw [eF84]; exact mw_up (by decide) hU
                                      refine lv_aload_n hx hb dX9_plan_230 rfl (lv_at hl 3 rfl) ?_
                                      refine va_get (D := (dC, dI)) (ci := 10) (v := .ref (a 37)) (C := RX9) (T := TX9) (N := 46) hx hb hts in_w_plan_X9 hown hK hP 0 rfl rfl 37 (by decide) (hts (.fieldLink RX9 104 "ServiceTreeModel" "planEnd" "[I") (by decide +kernel)) (fun _ h9 => h9) rfl dX9_plan_231 ?_
                                      refine lv_iload hx hb dX9_plan_234 (lv_at hl 0 rfl) ?_
                                      refine lv_aload_n hx hb dX9_plan_236 rfl (lv_at hl 3 rfl) ?_
                                      refine va_get (D := (dC, dI)) (ci := 10) (v := .ref (a 37)) (C := RX9) (T := TX9) (N := 46) hx hb hts in_w_plan_X9 hown hK hP 0 rfl rfl 37 (by decide) (hts (.fieldLink RX9 104 "ServiceTreeModel" "planEnd" "[I") (by decide +kernel)) (fun _ h9 => h9) rfl dX9_plan_237 ?_
                                      refine lv_iload hx hb dX9_plan_240 (lv_at hl 0 rfl) ?_
                                      refine lv_iconst (v := 1) hx hb dX9_plan_242 (by decide) ?_
                                      refine lv_isub hx hb dX9_plan_243 ?_
                                      refine p1_topr (v := .int (nI (i38 - 1))) (congrArg Value.int (pk_sub (a := i38) (b := 1) (by omega))) ?_
                                      refine va_iald (n := 40) (f := F84 37) hx hb hK hP 32 31 rfl rfl (vp_in_nI (n := i38 - 1) (by omega) (by decide)) dX9_plan_244 ?_
                                      refine lv_topi (fun x85 ex85 => ?_)
                                      replace hZ9 := bnd_s hZ9 ex85
                                      refine va_iast (n := 40) (f := F84 37) hx hb hK hP hD hS 32 31 rfl rfl (vp_in_nI (n := i38) (by omega) (by decide)) dX9_plan_245 (fun H locs hP hD hS => ?_)
                                      rw [mW_set_37] at hP hD
                                      obtain ⟨F86, eF86⟩ : ∃ f9 : Nat → Nat → Int32, f9 = va_up F84 37 (upd (F84 37) (nI i38).toNatClampNeg x85) := ⟨_, rfl⟩
                                      rw [← eF86] at hP hD
                                      replace hZ9 := bnd_s hZ9 eF86
                                      replace hI : StM n (b) F V F86 V32 := ⟨by rw [eF86]; exact hI.1.setF (by decide), trivial⟩
                                      replace hU : ∀ j : Nat, j ∉ ([27, 28, 29, 30, 31, 32, 34, 35, 36, 37, 40, 41] : List Nat) → F86 j = F j := by rw [eF86]; exact mw_up (by decide) hU
                                      refine lv_iinc (v := nI (i38 - 1)) (lv' := [(5, .int (nI (i38 - 1))), (4, .int (nI i27)), (3, .int r7), (0, .ref h), (1, .int p0), (2, .int (nI j6))]) hx hb dX9_plan_246 hl (k := 0) rfl (sb_m1 (by omega)) (by decide) rfl (fun ls hl => ?_)
                                      refine lv_goto (tgt := 158) hx hb dX9_plan_249 (by decide) ?_
                                      exact ih40 (i38 - 1)  F86 _ _ _ (by omega) (by omega) (hI.mono (by omega)) hU  hZ9 hP hD hS (lv_sub hl [0, 1, 2, 3, 4, 5] rfl)
                              exact lp41 (pl37 + 1) pl37  F31 _ _ _ (by omega) (by omega) (hI.mono (by omega)) hU  hZ9 hP hD hS hl
                      exact lp30 (n + 1) 0  F22 V26 _ _ _ (by omega) (by omega) (hI.mono (by omega)) hU hV (⟨0, by omega, (by rw [eV26, va_up_ne _ _ (by decide)]; exact (by rw [eV25]; exact va_up_self V23 38 _))⟩) hZ9 hP hD hS hl
                    · replace c24 : ¬ (n ≤ i18) := fun q9 => c24 ((nI_leI (a := n) (b := i18) (by omega) (by omega)).mpr q9)
                      replace hZ9 := ite_f hZ9 c24
                      refine lv_iconst (v := 0) hx hb dX9_plan_70 (by decide) ?_
                      refine lv_istore (lv' := [(5, .int 0), (4, .int (nI i18)), (3, .int r7), (0, .ref h), (1, .int p0), (2, .int (nI j6))]) hx hb dX9_plan_71 hl (by decide) rfl (fun ls hl => ?_)
                      obtain ⟨K9_73, hK9_73, hZ9⟩ := lp_gen hZ9
                      have lp90 : ∀ (fu88 i87 : Nat)  (F91 : Nat → Nat → Int32) (V92 : Nat → Int32) (H : Heap) (locs : List Loc) (ls : Array Slot), n < i87 + fu88 → i87 ≤ n → StM n (b) F V F91 V92 → (∀ j : Nat, j ∉ ([27, 28, 29, 30, 31, 32, 34, 35, 36, 37, 40, 41] : List Nat) → F91 j = F j) → (∀ j : Nat, j ∉ ([33, 38, 39] : List Nat) → V92 j = V j) → RES = f_w_plan_73 n  fu88 i87 F91 V92 K9_73 → va_P (dC, dI) vwCl (mW h a k F91 V92) H → va_D A (mW h a k F91 V92) → va_S A s.heap H locs → lv_has ls 6 [(5, .int (nI i87)), (4, .int (nI i18)), (3, .int r7), (0, .ref h), (1, .int p0), (2, .int (nI j6))] → W p l e (headSpec wq_w_plan rm_w_plan).room s m ([.ref h, .int p0, .int (nI j6)] : List Value).toArray below meth c H locs 0 0 Q0 (F0 m 73 ls []) := by
                        intro fu88
                        induction fu88 with
                        | zero =>
                          intro i87  F91 V92 H locs ls hf hi
                          exact absurd hf (by omega)
                        | succ fu88 ih89 =>
                          intro i87  F91 V92 H locs ls hfi87 hii87 hI hU hV hZ9 hP hD hS hl
                          rw [f_w_plan_73] at hZ9
                          refine lv_iload hx hb dX9_plan_73 (lv_at hl 0 rfl) ?_
                          refine lv_aload_n hx hb dX9_plan_75 rfl (lv_at hl 3 rfl) ?_
                          refine va_get (D := (dC, dI)) (ci := 10) (v := .int (V92 21)) (C := RX9) (T := TX9) (N := 46) hx hb hts in_w_plan_X9 hown hK hP 0 rfl rfl 21 (by decide) (hts (.fieldLink RX9 126 "ServiceTreeModel" "services" "I") (by decide +kernel)) (fun _ h9 => h9) rfl dX9_plan_76 ?_
                          refine p1_topr (v := .int (nI n)) (congrArg Value.int hI.1.2.1) ?_
                          refine lv_icmp_ge (tgt := 114) hx hb dX9_plan_79 (by decide) (fun c93 => ?_) (fun c93 => ?_)
                          · replace c93 : n ≤ i87 := (nI_leI (a := n) (b := i87) (by omega) (by omega)).mp c93
                            replace hZ9 := ite_t hZ9 c93
                            replace hZ9 := lp_app3 hK9_73 hZ9
                            refine lv_iinc (v := nI (i18 + 1)) (lv' := [(4, .int (nI (i18 + 1))), (5, .int (nI i87)), (3, .int r7), (0, .ref h), (1, .int p0), (2, .int (nI j6))]) hx hb dX9_plan_114 hl (k := 1) rfl (nI_add i18 1) (by decide) rfl (fun ls hl => ?_)
                            refine lv_goto (tgt := 61) hx hb dX9_plan_117 (by decide) ?_
                            exact ih20 (i18 + 1)  F91 V92 _ _ _ (by omega) (by omega) (hI.mono (by omega)) hU hV  hZ9 hP hD hS (lv_sub hl [0, 2, 3, 4, 5] rfl)
                          · replace c93 : ¬ (n ≤ i87) := fun q9 => c93 ((nI_leI (a := n) (b := i87) (by omega) (by omega)).mpr q9)
                            replace hZ9 := ite_f hZ9 c93
                            refine lv_aload_n hx hb dX9_plan_82 rfl (lv_at hl 3 rfl) ?_
                            refine va_get (D := (dC, dI)) (ci := 10) (v := .ref (a 30)) (C := RX9) (T := TX9) (N := 46) hx hb hts in_w_plan_X9 hown hK hP 0 rfl rfl 30 (by decide) (hts (.fieldLink RX9 86 "ServiceTreeModel" "newJob" "[I") (by decide +kernel)) (fun _ h9 => h9) rfl dX9_plan_83 ?_
                            refine lv_iload hx hb dX9_plan_86 (lv_at hl 0 rfl) ?_
                            refine va_iald (n := 40) (f := F91 30) hx hb hK hP 26 25 rfl rfl (vp_in_nI (n := i87) (by omega) (by decide)) dX9_plan_88 ?_
                            refine lv_topi (fun x94 ex94 => ?_)
                            replace hZ9 := bnd_s hZ9 ex94
                            refine lv_if_eq (tgt := 108) hx hb dX9_plan_89 (by decide) (fun c95 => ?_) (fun c95 => ?_)
                            · replace hZ9 := ite_t hZ9 c95
                              refine lv_iinc (v := nI (i87 + 1)) (lv' := [(5, .int (nI (i87 + 1))), (4, .int (nI i18)), (3, .int r7), (0, .ref h), (1, .int p0), (2, .int (nI j6))]) hx hb dX9_plan_108 hl (k := 0) rfl (nI_add i87 1) (by decide) rfl (fun ls hl => ?_)
                              refine lv_goto (tgt := 73) hx hb dX9_plan_111 (by decide) ?_
                              exact ih89 (i87 + 1)  F91 V92 _ _ _ (by omega) (by omega) (hI.mono (by omega)) hU hV  hZ9 hP hD hS (lv_sub hl [0, 1, 2, 3, 4, 5] rfl)
                            · replace hZ9 := ite_f hZ9 c95
                              refine lv_aload_n hx hb dX9_plan_92 rfl (lv_at hl 3 rfl) ?_
                              refine va_get (D := (dC, dI)) (ci := 10) (v := .ref (a 40)) (C := RX9) (T := TX9) (N := 46) hx hb hts in_w_plan_X9 hown hK hP 0 rfl rfl 40 (by decide) (hts (.fieldLink RX9 111 "ServiceTreeModel" "ends" "[I") (by decide +kernel)) (fun _ h9 => h9) rfl dX9_plan_93 ?_
                              refine lv_iload hx hb dX9_plan_96 (lv_at hl 0 rfl) ?_
                              refine va_iald (n := 40) (f := F91 40) hx hb hK hP 33 32 rfl rfl (vp_in_nI (n := i87) (by omega) (by decide)) dX9_plan_98 ?_
                              refine lv_topi (fun x96 ex96 => ?_)
                              replace hZ9 := bnd_s hZ9 ex96
                              refine lv_if_ge (tgt := 108) hx hb dX9_plan_99 (by decide) (fun c97 => ?_) (fun c97 => ?_)
                              · replace hZ9 := ite_t hZ9 c97
                                refine lv_iinc (v := nI (i87 + 1)) (lv' := [(5, .int (nI (i87 + 1))), (4, .int (nI i18)), (3, .int r7), (0, .ref h), (1, .int p0), (2, .int (nI j6))]) hx hb dX9_plan_108 hl (k := 0) rfl (nI_add i87 1) (by decide) rfl (fun ls hl => ?_)
                                refine lv_goto (tgt := 73) hx hb dX9_plan_111 (by decide) ?_
                                exact ih89 (i87 + 1)  F91 V92 _ _ _ (by omega) (by omega) (hI.mono (by omega)) hU hV  hZ9 hP hD hS (lv_sub hl [0, 1, 2, 3, 4, 5] rfl)
                              · replace hZ9 := ite_f hZ9 c97
                                refine lv_aload_n hx hb dX9_plan_102 rfl (lv_at hl 3 rfl) ?_
                                refine lv_iload hx hb dX9_plan_103 (lv_at hl 0 rfl) ?_
                                have hFc := mw_free hD hS hA
                                refine va_callv (va_runV (As := [.int (nI i87)]) (rest := []) ⟨hx, hb, hml, hown, hts⟩ (c_w_reckon l dC dI h a k F91 V92 n (b) i87 H.size hI.1 (by omega) (by omega)) (cwV 1 hts wc_w_plan_w_reckon_255 rfl rfl rfl (by decide +kernel) ⟨Nat.le_of_ble_eq_true rfl, Nat.le_of_ble_eq_true rfl⟩) ⟨fun a9 U g mk q => by obtain ⟨q0, q1, qP, qK, qD⟩ := q; exact ⟨q0, q1, qP, va_K.moved (u := U) (U := U.calling g mk a9) (Vm.Alike.refl U.vm) qK, qD⟩, va_recv hK hP (ci := 10) (q0 := 0) rfl rfl, fun U hU hW => ⟨rfl, by rw [hU], by rw [hU]; exact hP, va_K.moved hW.alike hK, hD.weaken (fun _ _ _ _ => trivial)⟩⟩ rfl rfl hl.1 rfl (lv_room (Nat.le_of_ble_eq_true rfl)) dX9_plan_105 ⟨Nat.le_of_ble_eq_true rfl, Nat.le_of_ble_eq_true rfl⟩) hS (fun q _ h => hFc q h) hFc (fun u t H1 locs ht hvm hw hB hz1 hk1 hS => ?_)
                                obtain ⟨F99, V100⟩ := u
                                replace hP := hB.1
                                rw [ht] at hP
                                replace hD : va_D A (mW h a k F99 V100) := hB.2.weaken (fun _ q _ h9 => hFc q.1 h9)
                                clear hB
                                generalize H1 = H at hP hS ⊢
                                replace hP : va_P (dC, dI) vwCl (mW h a k F99 V100) H := hP
                                obtain ⟨hwI, hwU, hwV, hw⟩ := hw
                                replace hU : ∀ j : Nat, j ∉ ([27, 28, 29, 30, 31, 32, 34, 35, 36, 37, 40, 41] : List Nat) → F99 j = F j := mw_tr (by decide) hwU hU
                                replace hV : ∀ j : Nat, j ∉ ([33, 38, 39] : List Nat) → V100 j = V j := mw_tr (by decide) hwV hV
                                replace hI : StM n (b + 0) F V F99 V100 := hI.trans hwI
                                replace hI : StM n (b) F V F99 V100 := hI
                                replace hw : (F99, V100) = f_w_reckon n i87 F91 V92 := hw
                                replace hZ9 := bn2_s hZ9 hw
                                refine lv_iinc (v := nI (i87 + 1)) (lv' := [(5, .int (nI (i87 + 1))), (4, .int (nI i18)), (3, .int r7), (0, .ref h), (1, .int p0), (2, .int (nI j6))]) hx hb dX9_plan_108 hl (k := 0) rfl (nI_add i87 1) (by decide) rfl (fun ls hl => ?_)
                                refine lv_goto (tgt := 73) hx hb dX9_plan_111 (by decide) ?_
                                exact ih89 (i87 + 1)  F99 V100 _ _ _ (by omega) (by omega) (hI.mono (by omega)) hU hV  hZ9 hP hD hS (lv_sub hl [0, 1, 2, 3, 4, 5] rfl)
                      exact lp90 (n + 1) 0  F22 V23 _ _ _ (by omega) (by omega) (hI.mono (by omega)) hU hV  hZ9 hP hD hS hl
                exact lp21 (n + 1) 0  F15 V16 _ _ _ (by omega) (by omega) (hI.mono (by omega)) hU hV  hZ9 hP hD hS hl
              · replace c17 : ¬ (n ≤ i11) := fun q9 => c17 ((nI_leI (a := n) (b := i11) (by omega) (by omega)).mpr q9)
                replace hZ9 := ite_f hZ9 c17
                refine lv_aload_n hx hb dX9_plan_44 rfl (lv_at hl 2 rfl) ?_
                refine va_get (D := (dC, dI)) (ci := 10) (v := .ref (a 40)) (C := RX9) (T := TX9) (N := 46) hx hb hts in_w_plan_X9 hown hK hP 0 rfl rfl 40 (by decide) (hts (.fieldLink RX9 111 "ServiceTreeModel" "ends" "[I") (by decide +kernel)) (fun _ h9 => h9) rfl dX9_plan_45 ?_
                refine lv_iload hx hb dX9_plan_48 (lv_at hl 0 rfl) ?_
                refine lv_iconst (v := (-1)) hx hb dX9_plan_50 (by decide) ?_
                refine va_iast (n := 40) (f := F15 40) hx hb hK hP hD hS 33 32 rfl rfl (vp_in_nI (n := i11) (by omega) (by decide)) dX9_plan_51 (fun H locs hP hD hS => ?_)
                rw [mW_set_40] at hP hD
                obtain ⟨F101, eF101⟩ : ∃ f9 : Nat → Nat → Int32, f9 = va_up F15 40 (upd (F15 40) (nI i11).toNatClampNeg (-1)) := ⟨_, rfl⟩
                rw [← eF101] at hP hD
                replace hZ9 := bnd_s hZ9 eF101
                replace hI : StM n (b) F V F101 V16 := ⟨by rw [eF101]; exact hI.1.setF (by decide), trivial⟩
                replace hU : ∀ j : Nat, j ∉ ([27, 28, 29, 30, 31, 32, 34, 35, 36, 37, 40, 41] : List Nat) → F101 j = F j := by rw [eF101]; exact mw_up (by decide) hU
                refine lv_iinc (v := nI (i11 + 1)) (lv' := [(4, .int (nI (i11 + 1))), (3, .int r7), (0, .ref h), (1, .int p0), (2, .int (nI j6))]) hx hb dX9_plan_52 hl (k := 0) rfl (nI_add i11 1) (by decide) rfl (fun ls hl => ?_)
                refine lv_goto (tgt := 35) hx hb dX9_plan_55 (by decide) ?_
                exact ih13 (i11 + 1)  F101 V16 _ _ _ (by omega) (by omega) (hI.mono (by omega)) hU hV  hZ9 hP hD hS (lv_sub hl [0, 1, 2, 3, 4] rfl)
          exact lp14 (n + 1) 0  F8 V9 _ _ _ (by omega) (by omega) (hI.mono (by omega)) hU hV  hZ9 hP hD hS hl
        · replace hZ9 := ite_f hZ9 c10
          refine lv_iload_n hx hb dX9_plan_30 rfl (lv_at hl 0 rfl) ?_
          rw [hQ]
          exact W.iret (v := r7) hx hb hr (fun t ht hW => ⟨⟨r7, (F8, V9), rfl, ⟨hI.mono (by omega), hU, hV, hZ9.symm.trans hR0⟩, by rw [ht]; exact hP, hD⟩, hS.F ht⟩) hS.2.2 dX9_plan_31
      · replace hZ9 := ite_f hZ9 noj6
        refine lv_if_ne (tgt := 19) hx hb dX9_plan_14 (by decide) (fun c9 => absurd (by decide) c9) (fun _ => ?_)
        refine lv_iconst (v := (-1)) hx hb dX9_plan_17 (by decide) ?_
        rw [hQ]
        exact W.iret (v := (-1)) hx hb hr (fun t ht hW => ⟨⟨(-1), (F, V), rfl, ⟨hI.mono (by omega), hU, hV, hZ9.symm.trans hR0⟩, by rw [ht]; exact hP, hD⟩, hS.F ht⟩) hS.2.2 dX9_plan_18

end
section
def f_w_life (n : Nat) (p0 : Int32) (p1 : Int32) (p2 : Int32) (F : Nat → Nat → Int32) (V : Nat → Int32) : Int32 × (Nat → Nat → Int32) × (Nat → Int32) := if (0 : Int32) ≤ p0 ∧ p0 < nI n then (bnd (p0.toNatClampNeg) (fun (j4 : Nat) => if p1 < (0 : Int32) then (((-1 : Int32), F, V)) else (if (7 : Int32) < p1 then (((-1 : Int32), F, V)) else (bnd (p1.toNatClampNeg) (fun (j7 : Nat) => if p2 < (0 : Int32) then (((-1 : Int32), F, V)) else (if p2 ≤ (1000 : Int32) then (bnd (F 0 (nI j4).toNatClampNeg) (fun (x10 : Int32) => if x10 = (3 : Int32) then (((-2 : Int32), F, V)) else (bnd (F 3 (nI ((8 * j4) + j7)).toNatClampNeg) (fun (x12 : Int32) => bnd (va_up F 3 (upd (F 3) (nI ((8 * j4) + j7)).toNatClampNeg p2)) (fun (F13 : Nat → Nat → Int32) => (x12, F13, V)))))) else (((-1 : Int32), F, V)))))))) else (((-1 : Int32), F, V))
def wq_w_life : List Cond := ([.code yX9_life cX9_life 5 (some .int), .fieldLink RX9 9 "ServiceTreeModel" "kind" "[I", .fieldLink RX9 19 "ServiceTreeModel" "life" "[I", .methodLink RX9 135 yX9_is, .instanceMethod yX9_is, .selects RX9 yX9_is yX9_is, .initialized RX9] : List Cond) ++ (wsX90 ++ (wq_w_is))
theorem in_w_life_X9 : ∀ w ∈ wsX90, w ∈ wq_w_life := fun _ h => List.mem_append_right _ (List.mem_append_left _ (h))
set_option maxRecDepth 20000 in
theorem wi_w_life : ∀ w ∈ wq_w_life, w ∈ lw_tbl := List.forall_mem_append.mpr ⟨(wix [999, 852, 855, 1000, 1002, 32, 69] rfl), List.forall_mem_append.mpr ⟨inKX9, wi_w_is⟩⟩
set_option maxRecDepth 20000 in
theorem wg_w_life : GoodIn wq_w_life wq_w_life := goodIn_sub (fun _ h => h) (by decide +kernel)
set_option maxRecDepth 20000 in
theorem wc_w_life_w_is_135 : GoodIn wq_w_life (wsV RX9 135 RX9 yX9_is wq_w_is) := goodIn_app (goodIn_of _ (by decide +kernel)) (fun w h => ⟨List.mem_append_right _ (List.mem_append_right _ (h)), (wg_w_is w h).2⟩)
def rm_w_life : Room := { frames := 1, cells := 0, slots := 0, locals := 21 }
set_option maxHeartbeats 4000000 in
set_option maxRecDepth 100000 in
theorem c_w_life (l : Launch) (dC : Nat → ClassId) (dI : Nat → Nat → Nat) (h : Nat) (a : Nat → Nat) (k : Nat → ClassId) (F : Nat → Nat → Int32) (V : Nat → Int32) (n b : Nat) (p0 : Int32) (p1 : Int32) (p2 : Int32) (sz : Nat) (hI0 : InvM n b F V) (hb0 : b + 0 < 2147483648)  : Met l yX9_life wq_w_life rm_w_life (va_Pc [.ref h, .int p0, .int p1, .int p2] (fun U => U.heap.size = sz ∧ va_P (dC, dI) vwCl (mW h a k F V) U.heap ∧ va_K (dC, dI) vwCl (mT k) U ∧ va_D (fun _ => True) (mW h a k F V))) (va_Qi (fun (r : Int32) (u : (Nat → Nat → Int32) × (Nat → Int32)) => StM n (b + 0) F V u.1 u.2 ∧ (∀ j : Nat, j ∉ ([3] : List Nat) → u.1 j = F j) ∧ (∀ j : Nat, j ∉ ([] : List Nat) → u.2 j = V j) ∧ ((r, u.1, u.2) = f_w_life n p0 p1 p2 F V)) (fun (u : (Nat → Nat → Int32) × (Nat → Int32)) (t : State) => va_P (dC, dI) vwCl (mW h a k u.1 u.2) t.heap ∧ va_D (va_A (mW h a k F V) sz) (mW h a k u.1 u.2)) (va_A (mW h a k F V) sz)) 0 0 (va_A (mW h a k F V) sz) := by
  have hn : n ≤ 40 := hI0.1
  have hI : StM n b F V F V := StM.rf hI0
  have hU : ∀ j : Nat, j ∉ ([3] : List Nat) → F j = F j := fun _ _ => rfl
  have hV : ∀ j : Nat, j ∉ ([] : List Nat) → V j = V j := fun _ _ => rfl
  refine Met.ofW (cc := cX9_life) (maxL := 5) (ret := (some .int)) (by decide) rfl ?_
  intro p e s m args below meth c s₁ B hml hv
  obtain ⟨rfl, hsz, hP, hK, hD0⟩ := hv
  have hx := B.exec
  have hb := B.bytes
  have hr := B.returns
  have hts := atoms_spec (ws := wq_w_life) B.pre
  have hown : s.vm.findClass RX9 = some m.cls := findClass_of_methodNamed B.named
  have hlocks := B.notSynchronized
  subst hsz
  have hD := hD0.self (sz := s.heap.size)
  generalize hAe : va_A (mW h a k F V) s.heap.size = A at hD ⊢
  have hA : ∀ q : Nat, s.heap.size ≤ q → A q := fun q h => by rw [← hAe]; exact Or.inr h
  have hS : va_S A s.heap s.heap [] := va_S.rf
  have hl := lv_entry ([.ref h, .int p0, .int p1, .int p2]) (n := 5) (Nat.le_of_ble_eq_true rfl)
  rw [lg_entry_eq]
  generalize (lg_sl ([.ref h, .int p0, .int p1, .int p2]) ++ List.replicate (5 - (lg_sl ([.ref h, .int p0, .int p1, .int p2])).length) Slot.unset).toArray = ls at hl ⊢
  have hl : lv_has ls 5 [(0, .ref h), (1, .int p0), (2, .int p1), (3, .int p2)] := hl
  obtain ⟨RES, hR0⟩ : ∃ R9, R9 = f_w_life n p0 p1 p2 F V := ⟨_, rfl⟩
  have hZ9 := hR0
  unfold f_w_life at hZ9
  refine lv_aload_n hx hb dX9_life_0 rfl (lv_at hl 0 rfl) ?_
  refine lv_iload_n hx hb dX9_life_1 rfl (lv_at hl 1 rfl) ?_
  have hFc := mw_free hD hS hA
  refine va_calli (va_runV (As := [.int p0]) (rest := []) ⟨hx, hb, hml, hown, hts⟩ (c_w_is l dC dI h a k F V n (b) p0 s.heap.size hI.1 (by omega) ) (cwV 1 hts wc_w_life_w_is_135 rfl rfl rfl (by decide +kernel) ⟨Nat.le_of_ble_eq_true rfl, Nat.le_of_ble_eq_true rfl⟩) ⟨fun a9 U g mk q => by obtain ⟨q0, q1, qP, qK, qD⟩ := q; exact ⟨q0, q1, qP, va_K.moved (u := U) (U := U.calling g mk a9) (Vm.Alike.refl U.vm) qK, qD⟩, va_recv hK hP (ci := 10) (q0 := 0) rfl rfl, fun U hU hW => ⟨rfl, by rw [hU], by rw [hU]; exact hP, va_K.moved hW.alike hK, hD.weaken (fun _ _ _ _ => trivial)⟩⟩ rfl rfl hl.1 rfl (lv_room (Nat.le_of_ble_eq_true rfl)) dX9_life_2 ⟨Nat.le_of_ble_eq_true rfl, Nat.le_of_ble_eq_true rfl⟩) hS (fun q _ h => hFc q h) hFc (fun r1 u t H1 locs ht hvm hw hB hz1 hk1 hS => ?_)
  obtain ⟨F2, V3⟩ := u
  replace hP := hB.1
  rw [ht] at hP
  replace hD : va_D A (mW h a k F2 V3) := hB.2.weaken (fun _ q _ h9 => hFc q.1 h9)
  clear hB
  generalize H1 = H at hP hS ⊢
  replace hP : va_P (dC, dI) vwCl (mW h a k F2 V3) H := hP
  obtain ⟨hwF, hwV, hw⟩ : F2 = F ∧ V3 = V ∧ _ := hw
  rw [hwF, hwV] at hP hD
  rcases hw with ⟨rfl, j4, hj4, ej4⟩ | ⟨rfl, noj4⟩
  · replace hZ9 := ite_t hZ9 (show (0 : Int32) ≤ p0 ∧ p0 < nI n by rw [ej4]; exact ⟨nI_pos' (by omega), nI_lt hj4 (by omega)⟩)
    replace hZ9 := bnd_s hZ9 (show j4 = p0.toNatClampNeg by rw [ej4, nI_clamp (by omega)])
    subst ej4
    refine lv_if_eq (tgt := 29) hx hb dX9_life_5 (by decide) (fun c9 => absurd c9 (by decide)) (fun _ => ?_)
    refine lv_iload_n hx hb dX9_life_8 rfl (lv_at hl 2 rfl) ?_
    refine lv_if_lt (tgt := 29) hx hb dX9_life_9 (by decide) (fun c5 => ?_) (fun c5 => ?_)
    · replace hZ9 := ite_t hZ9 c5
      refine lv_iconst (v := (-1)) hx hb dX9_life_29 (by decide) ?_
      exact W.iret (v := (-1)) hx hb hr (fun t ht hW => ⟨⟨(-1), (F, V), rfl, ⟨hI.mono (by omega), hU, hV, hZ9.symm.trans hR0⟩, by rw [ht]; exact hP, hD⟩, hS.F ht⟩) hS.2.2 dX9_life_30
    · replace hZ9 := ite_f hZ9 c5
      refine lv_iload_n hx hb dX9_life_12 rfl (lv_at hl 2 rfl) ?_
      refine lv_bipush (v := 7) hx hb dX9_life_13 (by decide) ?_
      refine lv_icmp_gt (tgt := 29) hx hb dX9_life_15 (by decide) (fun c6 => ?_) (fun c6 => ?_)
      · replace hZ9 := ite_t hZ9 c6
        refine lv_iconst (v := (-1)) hx hb dX9_life_29 (by decide) ?_
        exact W.iret (v := (-1)) hx hb hr (fun t ht hW => ⟨⟨(-1), (F, V), rfl, ⟨hI.mono (by omega), hU, hV, hZ9.symm.trans hR0⟩, by rw [ht]; exact hP, hD⟩, hS.F ht⟩) hS.2.2 dX9_life_30
      · replace hZ9 := ite_f hZ9 c6
        obtain ⟨j7, hj7, ej7⟩ := nI_of2 (x := p1) (M := 7) (n := 7) (by decide) c5 (Int32.not_lt.mp c6)
        replace hZ9 := bnd_s hZ9 (show j7 = p1.toNatClampNeg by rw [ej7, nI_clamp (by omega)])
        subst ej7
        refine lv_iload_n hx hb dX9_life_18 rfl (lv_at hl 3 rfl) ?_
        refine lv_if_lt (tgt := 29) hx hb dX9_life_19 (by decide) (fun c8 => ?_) (fun c8 => ?_)
        · replace hZ9 := ite_t hZ9 c8
          refine lv_iconst (v := (-1)) hx hb dX9_life_29 (by decide) ?_
          exact W.iret (v := (-1)) hx hb hr (fun t ht hW => ⟨⟨(-1), (F, V), rfl, ⟨hI.mono (by omega), hU, hV, hZ9.symm.trans hR0⟩, by rw [ht]; exact hP, hD⟩, hS.F ht⟩) hS.2.2 dX9_life_30
        · replace hZ9 := ite_f hZ9 c8
          refine lv_iload_n hx hb dX9_life_22 rfl (lv_at hl 3 rfl) ?_
          refine lv_sipush (v := 1000) hx hb dX9_life_23 (by decide) ?_
          refine lv_icmp_le (tgt := 31) hx hb dX9_life_26 (by decide) (fun c9 => ?_) (fun c9 => ?_)
          · replace hZ9 := ite_t hZ9 c9
            refine lv_aload_n hx hb dX9_life_31 rfl (lv_at hl 0 rfl) ?_
            refine va_get (D := (dC, dI)) (ci := 10) (v := .ref (a 0)) (C := RX9) (T := TX9) (N := 46) hx hb hts in_w_life_X9 hown hK hP 0 rfl rfl 0 (by decide) (hts (.fieldLink RX9 9 "ServiceTreeModel" "kind" "[I") (by decide +kernel)) (fun _ h9 => h9) rfl dX9_life_32 ?_
            refine lv_iload_n hx hb dX9_life_35 rfl (lv_at hl 1 rfl) ?_
            refine va_iald (n := 40) (f := F 0) hx hb hK hP 1 0 rfl rfl (vp_in_nI (n := j4) (by omega) (by decide)) dX9_life_36 ?_
            refine lv_topi (fun x10 ex10 => ?_)
            replace hZ9 := bnd_s hZ9 ex10
            refine lv_iconst (v := 3) hx hb dX9_life_37 (by decide) ?_
            refine lv_icmp_ne (tgt := 44) hx hb dX9_life_38 (by decide) (fun c11 => ?_) (fun c11 => ?_)
            · replace hZ9 := ite_f hZ9 c11
              refine lv_aload_n hx hb dX9_life_44 rfl (lv_at hl 0 rfl) ?_
              refine va_get (D := (dC, dI)) (ci := 10) (v := .ref (a 3)) (C := RX9) (T := TX9) (N := 46) hx hb hts in_w_life_X9 hown hK hP 0 rfl rfl 3 (by decide) (hts (.fieldLink RX9 19 "ServiceTreeModel" "life" "[I") (by decide +kernel)) (fun _ h9 => h9) rfl dX9_life_45 ?_
              refine lv_bipush (v := 8) hx hb dX9_life_48 (by decide) ?_
              refine lv_iload_n hx hb dX9_life_50 rfl (lv_at hl 1 rfl) ?_
              refine lv_imul hx hb dX9_life_51 ?_
              refine p1_topr (v := .int (nI (8 * j4))) (congrArg Value.int (pk_mul 8 j4)) ?_
              refine lv_iload_n hx hb dX9_life_52 rfl (lv_at hl 2 rfl) ?_
              refine lv_iadd hx hb dX9_life_53 ?_
              refine p1_topr (v := .int (nI ((8 * j4) + j7))) (congrArg Value.int (nI_add (8 * j4) j7)) ?_
              refine va_iald (n := 320) (f := F 3) hx hb hK hP 4 3 rfl rfl (vp_in_nI (n := (8 * j4) + j7) (by omega) (by decide)) dX9_life_54 ?_
              refine lv_topi (fun x12 ex12 => ?_)
              replace hZ9 := bnd_s hZ9 ex12
              refine lv_istore (lv' := [(4, .int x12), (0, .ref h), (1, .int (nI j4)), (2, .int (nI j7)), (3, .int p2)]) hx hb dX9_life_55 hl (by decide) rfl (fun ls hl => ?_)
              refine lv_aload_n hx hb dX9_life_57 rfl (lv_at hl 1 rfl) ?_
              refine va_get (D := (dC, dI)) (ci := 10) (v := .ref (a 3)) (C := RX9) (T := TX9) (N := 46) hx hb hts in_w_life_X9 hown hK hP 0 rfl rfl 3 (by decide) (hts (.fieldLink RX9 19 "ServiceTreeModel" "life" "[I") (by decide +kernel)) (fun _ h9 => h9) rfl dX9_life_58 ?_
              refine lv_bipush (v := 8) hx hb dX9_life_61 (by decide) ?_
              refine lv_iload_n hx hb dX9_life_63 rfl (lv_at hl 2 rfl) ?_
              refine lv_imul hx hb dX9_life_64 ?_
              refine p1_topr (v := .int (nI (8 * j4))) (congrArg Value.int (pk_mul 8 j4)) ?_
              refine lv_iload_n hx hb dX9_life_65 rfl (lv_at hl 3 rfl) ?_
              refine lv_iadd hx hb dX9_life_66 ?_
              refine p1_topr (v := .int (nI ((8 * j4) + j7))) (congrArg Value.int (nI_add (8 * j4) j7)) ?_
              refine lv_iload_n hx hb dX9_life_67 rfl (lv_at hl 4 rfl) ?_
              refine va_iast (n := 320) (f := F 3) hx hb hK hP hD hS 4 3 rfl rfl (vp_in_nI (n := (8 * j4) + j7) (by omega) (by decide)) dX9_life_68 (fun H locs hP hD hS => ?_)
              rw [mW_set_3] at hP hD
              obtain ⟨F13, eF13⟩ : ∃ f9 : Nat → Nat → Int32, f9 = va_up F 3 (upd (F 3) (nI ((8 * j4) + j7)).toNatClampNeg p2) := ⟨_, rfl⟩
              rw [← eF13] at hP hD
              replace hZ9 := bnd_s hZ9 eF13
              replace hI : StM n (b) F V F13 V := ⟨by rw [eF13]; exact hI.1.setF (by decide), trivial⟩
              replace hU : ∀ j : Nat, j ∉ ([3] : List Nat) → F13 j = F j := by rw [eF13]; exact mw_up (by decide) hU
              refine lv_iload hx hb dX9_life_69 (lv_at hl 0 rfl) ?_
              exact W.iret (v := x12) hx hb hr (fun t ht hW => ⟨⟨x12, (F13, V), rfl, ⟨hI.mono (by omega), hU, hV, hZ9.symm.trans hR0⟩, by rw [ht]; exact hP, hD⟩, hS.F ht⟩) hS.2.2 dX9_life_71
            · replace hZ9 := ite_t hZ9 c11
              refine lv_bipush (v := (-2)) hx hb dX9_life_41 (by decide) ?_
              exact W.iret (v := (-2)) hx hb hr (fun t ht hW => ⟨⟨(-2), (F, V), rfl, ⟨hI.mono (by omega), hU, hV, hZ9.symm.trans hR0⟩, by rw [ht]; exact hP, hD⟩, hS.F ht⟩) hS.2.2 dX9_life_43
          · replace hZ9 := ite_f hZ9 c9
            refine lv_iconst (v := (-1)) hx hb dX9_life_29 (by decide) ?_
            exact W.iret (v := (-1)) hx hb hr (fun t ht hW => ⟨⟨(-1), (F, V), rfl, ⟨hI.mono (by omega), hU, hV, hZ9.symm.trans hR0⟩, by rw [ht]; exact hP, hD⟩, hS.F ht⟩) hS.2.2 dX9_life_30
  · replace hZ9 := ite_f hZ9 noj4
    refine lv_if_eq (tgt := 29) hx hb dX9_life_5 (by decide) (fun _ => ?_) (fun c9 => absurd (by decide) c9)
    refine lv_iconst (v := (-1)) hx hb dX9_life_29 (by decide) ?_
    exact W.iret (v := (-1)) hx hb hr (fun t ht hW => ⟨⟨(-1), (F, V), rfl, ⟨hI.mono (by omega), hU, hV, hZ9.symm.trans hR0⟩, by rw [ht]; exact hP, hD⟩, hS.F ht⟩) hS.2.2 dX9_life_30
def f_w_again (n : Nat) (p0 : Int32) (p1 : Int32) (p2 : Int32) (p3 : Int32) (F : Nat → Nat → Int32) (V : Nat → Int32) : Int32 × (Nat → Nat → Int32) × (Nat → Int32) := if (0 : Int32) ≤ p0 ∧ p0 < nI n then (bnd (p0.toNatClampNeg) (fun (j4 : Nat) => if p1 < (1 : Int32) then (((-1 : Int32), F, V)) else (if (50 : Int32) < p1 then (((-1 : Int32), F, V)) else (if p2 < (0 : Int32) then (((-1 : Int32), F, V)) else (if (10 : Int32) < p2 then (((-1 : Int32), F, V)) else (if p3 < (1 : Int32) then (((-1 : Int32), F, V)) else (if p3 ≤ (200 : Int32) then (bnd (va_up F 4 (upd (F 4) (nI j4).toNatClampNeg p1)) (fun (F11 : Nat → Nat → Int32) => bnd (va_up F11 5 (upd (F11 5) (nI j4).toNatClampNeg p2)) (fun (F12 : Nat → Nat → Int32) => bnd (va_up F12 6 (upd (F12 6) (nI j4).toNatClampNeg p3)) (fun (F13 : Nat → Nat → Int32) => ((1 : Int32), F13, V))))) else (((-1 : Int32), F, V))))))))) else (((-1 : Int32), F, V))
def wq_w_again : List Cond := ([.code yX9_again cX9_again 5 (some .int), .fieldLink RX9 22 "ServiceTreeModel" "delay" "[I", .fieldLink RX9 25 "ServiceTreeModel" "budget" "[I", .fieldLink RX9 28 "ServiceTreeModel" "window" "[I", .methodLink RX9 135 yX9_is, .instanceMethod yX9_is, .selects RX9 yX9_is yX9_is, .initialized RX9] : List Cond) ++ (wsX90 ++ (wq_w_is))
theorem in_w_again_X9 : ∀ w ∈ wsX90, w ∈ wq_w_again := fun _ h => List.mem_append_right _ (List.mem_append_left _ (h))
set_option maxRecDepth 20000 in
theorem wi_w_again : ∀ w ∈ wq_w_again, w ∈ lw_tbl := List.forall_mem_append.mpr ⟨(wix [1007, 856, 857, 858, 1000, 1002, 32, 69] rfl), List.forall_mem_append.mpr ⟨inKX9, wi_w_is⟩⟩
set_option maxRecDepth 20000 in
theorem wg_w_again : GoodIn wq_w_again wq_w_again := goodIn_sub (fun _ h => h) (by decide +kernel)
set_option maxRecDepth 20000 in
theorem wc_w_again_w_is_135 : GoodIn wq_w_again (wsV RX9 135 RX9 yX9_is wq_w_is) := goodIn_app (goodIn_of _ (by decide +kernel)) (fun w h => ⟨List.mem_append_right _ (List.mem_append_right _ (h)), (wg_w_is w h).2⟩)
def rm_w_again : Room := { frames := 1, cells := 0, slots := 0, locals := 21 }
set_option maxHeartbeats 4000000 in
set_option maxRecDepth 100000 in
theorem c_w_again (l : Launch) (dC : Nat → ClassId) (dI : Nat → Nat → Nat) (h : Nat) (a : Nat → Nat) (k : Nat → ClassId) (F : Nat → Nat → Int32) (V : Nat → Int32) (n b : Nat) (p0 : Int32) (p1 : Int32) (p2 : Int32) (p3 : Int32) (sz : Nat) (hI0 : InvM n b F V) (hb0 : b + 0 < 2147483648)  : Met l yX9_again wq_w_again rm_w_again (va_Pc [.ref h, .int p0, .int p1, .int p2, .int p3] (fun U => U.heap.size = sz ∧ va_P (dC, dI) vwCl (mW h a k F V) U.heap ∧ va_K (dC, dI) vwCl (mT k) U ∧ va_D (fun _ => True) (mW h a k F V))) (va_Qi (fun (r : Int32) (u : (Nat → Nat → Int32) × (Nat → Int32)) => StM n (b + 0) F V u.1 u.2 ∧ (∀ j : Nat, j ∉ ([4, 5, 6] : List Nat) → u.1 j = F j) ∧ (∀ j : Nat, j ∉ ([] : List Nat) → u.2 j = V j) ∧ ((r, u.1, u.2) = f_w_again n p0 p1 p2 p3 F V)) (fun (u : (Nat → Nat → Int32) × (Nat → Int32)) (t : State) => va_P (dC, dI) vwCl (mW h a k u.1 u.2) t.heap ∧ va_D (va_A (mW h a k F V) sz) (mW h a k u.1 u.2)) (va_A (mW h a k F V) sz)) 0 0 (va_A (mW h a k F V) sz) := by
  have hn : n ≤ 40 := hI0.1
  have hI : StM n b F V F V := StM.rf hI0
  have hU : ∀ j : Nat, j ∉ ([4, 5, 6] : List Nat) → F j = F j := fun _ _ => rfl
  have hV : ∀ j : Nat, j ∉ ([] : List Nat) → V j = V j := fun _ _ => rfl
  refine Met.ofW (cc := cX9_again) (maxL := 5) (ret := (some .int)) (by decide) rfl ?_
  intro p e s m args below meth c s₁ B hml hv
  obtain ⟨rfl, hsz, hP, hK, hD0⟩ := hv
  have hx := B.exec
  have hb := B.bytes
  have hr := B.returns
  have hts := atoms_spec (ws := wq_w_again) B.pre
  have hown : s.vm.findClass RX9 = some m.cls := findClass_of_methodNamed B.named
  have hlocks := B.notSynchronized
  subst hsz
  have hD := hD0.self (sz := s.heap.size)
  generalize hAe : va_A (mW h a k F V) s.heap.size = A at hD ⊢
  have hA : ∀ q : Nat, s.heap.size ≤ q → A q := fun q h => by rw [← hAe]; exact Or.inr h
  have hS : va_S A s.heap s.heap [] := va_S.rf
  have hl := lv_entry ([.ref h, .int p0, .int p1, .int p2, .int p3]) (n := 5) (Nat.le_of_ble_eq_true rfl)
  rw [lg_entry_eq]
  generalize (lg_sl ([.ref h, .int p0, .int p1, .int p2, .int p3]) ++ List.replicate (5 - (lg_sl ([.ref h, .int p0, .int p1, .int p2, .int p3])).length) Slot.unset).toArray = ls at hl ⊢
  have hl : lv_has ls 5 [(0, .ref h), (1, .int p0), (2, .int p1), (3, .int p2), (4, .int p3)] := hl
  obtain ⟨RES, hR0⟩ : ∃ R9, R9 = f_w_again n p0 p1 p2 p3 F V := ⟨_, rfl⟩
  have hZ9 := hR0
  unfold f_w_again at hZ9
  refine lv_aload_n hx hb dX9_again_0 rfl (lv_at hl 0 rfl) ?_
  refine lv_iload_n hx hb dX9_again_1 rfl (lv_at hl 1 rfl) ?_
  have hFc := mw_free hD hS hA
  refine va_calli (va_runV (As := [.int p0]) (rest := []) ⟨hx, hb, hml, hown, hts⟩ (c_w_is l dC dI h a k F V n (b) p0 s.heap.size hI.1 (by omega) ) (cwV 1 hts wc_w_again_w_is_135 rfl rfl rfl (by decide +kernel) ⟨Nat.le_of_ble_eq_true rfl, Nat.le_of_ble_eq_true rfl⟩) ⟨fun a9 U g mk q => by obtain ⟨q0, q1, qP, qK, qD⟩ := q; exact ⟨q0, q1, qP, va_K.moved (u := U) (U := U.calling g mk a9) (Vm.Alike.refl U.vm) qK, qD⟩, va_recv hK hP (ci := 10) (q0 := 0) rfl rfl, fun U hU hW => ⟨rfl, by rw [hU], by rw [hU]; exact hP, va_K.moved hW.alike hK, hD.weaken (fun _ _ _ _ => trivial)⟩⟩ rfl rfl hl.1 rfl (lv_room (Nat.le_of_ble_eq_true rfl)) dX9_again_2 ⟨Nat.le_of_ble_eq_true rfl, Nat.le_of_ble_eq_true rfl⟩) hS (fun q _ h => hFc q h) hFc (fun r1 u t H1 locs ht hvm hw hB hz1 hk1 hS => ?_)
  obtain ⟨F2, V3⟩ := u
  replace hP := hB.1
  rw [ht] at hP
  replace hD : va_D A (mW h a k F2 V3) := hB.2.weaken (fun _ q _ h9 => hFc q.1 h9)
  clear hB
  generalize H1 = H at hP hS ⊢
  replace hP : va_P (dC, dI) vwCl (mW h a k F2 V3) H := hP
  obtain ⟨hwF, hwV, hw⟩ : F2 = F ∧ V3 = V ∧ _ := hw
  rw [hwF, hwV] at hP hD
  rcases hw with ⟨rfl, j4, hj4, ej4⟩ | ⟨rfl, noj4⟩
  · replace hZ9 := ite_t hZ9 (show (0 : Int32) ≤ p0 ∧ p0 < nI n by rw [ej4]; exact ⟨nI_pos' (by omega), nI_lt hj4 (by omega)⟩)
    replace hZ9 := bnd_s hZ9 (show j4 = p0.toNatClampNeg by rw [ej4, nI_clamp (by omega)])
    subst ej4
    refine lv_if_eq (tgt := 43) hx hb dX9_again_5 (by decide) (fun c9 => absurd c9 (by decide)) (fun _ => ?_)
    refine lv_iload_n hx hb dX9_again_8 rfl (lv_at hl 2 rfl) ?_
    refine lv_iconst (v := 1) hx hb dX9_again_9 (by decide) ?_
    refine lv_icmp_lt (tgt := 43) hx hb dX9_again_10 (by decide) (fun c5 => ?_) (fun c5 => ?_)
    · replace hZ9 := ite_t hZ9 c5
      refine lv_iconst (v := (-1)) hx hb dX9_again_43 (by decide) ?_
      exact W.iret (v := (-1)) hx hb hr (fun t ht hW => ⟨⟨(-1), (F, V), rfl, ⟨hI.mono (by omega), hU, hV, hZ9.symm.trans hR0⟩, by rw [ht]; exact hP, hD⟩, hS.F ht⟩) hS.2.2 dX9_again_44
    · replace hZ9 := ite_f hZ9 c5
      refine lv_iload_n hx hb dX9_again_13 rfl (lv_at hl 2 rfl) ?_
      refine lv_bipush (v := 50) hx hb dX9_again_14 (by decide) ?_
      refine lv_icmp_gt (tgt := 43) hx hb dX9_again_16 (by decide) (fun c6 => ?_) (fun c6 => ?_)
      · replace hZ9 := ite_t hZ9 c6
        refine lv_iconst (v := (-1)) hx hb dX9_again_43 (by decide) ?_
        exact W.iret (v := (-1)) hx hb hr (fun t ht hW => ⟨⟨(-1), (F, V), rfl, ⟨hI.mono (by omega), hU, hV, hZ9.symm.trans hR0⟩, by rw [ht]; exact hP, hD⟩, hS.F ht⟩) hS.2.2 dX9_again_44
      · replace hZ9 := ite_f hZ9 c6
        refine lv_iload_n hx hb dX9_again_19 rfl (lv_at hl 3 rfl) ?_
        refine lv_if_lt (tgt := 43) hx hb dX9_again_20 (by decide) (fun c7 => ?_) (fun c7 => ?_)
        · replace hZ9 := ite_t hZ9 c7
          refine lv_iconst (v := (-1)) hx hb dX9_again_43 (by decide) ?_
          exact W.iret (v := (-1)) hx hb hr (fun t ht hW => ⟨⟨(-1), (F, V), rfl, ⟨hI.mono (by omega), hU, hV, hZ9.symm.trans hR0⟩, by rw [ht]; exact hP, hD⟩, hS.F ht⟩) hS.2.2 dX9_again_44
        · replace hZ9 := ite_f hZ9 c7
          refine lv_iload_n hx hb dX9_again_23 rfl (lv_at hl 3 rfl) ?_
          refine lv_bipush (v := 10) hx hb dX9_again_24 (by decide) ?_
          refine lv_icmp_gt (tgt := 43) hx hb dX9_again_26 (by decide) (fun c8 => ?_) (fun c8 => ?_)
          · replace hZ9 := ite_t hZ9 c8
            refine lv_iconst (v := (-1)) hx hb dX9_again_43 (by decide) ?_
            exact W.iret (v := (-1)) hx hb hr (fun t ht hW => ⟨⟨(-1), (F, V), rfl, ⟨hI.mono (by omega), hU, hV, hZ9.symm.trans hR0⟩, by rw [ht]; exact hP, hD⟩, hS.F ht⟩) hS.2.2 dX9_again_44
          · replace hZ9 := ite_f hZ9 c8
            refine lv_iload hx hb dX9_again_29 (lv_at hl 4 rfl) ?_
            refine lv_iconst (v := 1) hx hb dX9_again_31 (by decide) ?_
            refine lv_icmp_lt (tgt := 43) hx hb dX9_again_32 (by decide) (fun c9 => ?_) (fun c9 => ?_)
            · replace hZ9 := ite_t hZ9 c9
              refine lv_iconst (v := (-1)) hx hb dX9_again_43 (by decide) ?_
              exact W.iret (v := (-1)) hx hb hr (fun t ht hW => ⟨⟨(-1), (F, V), rfl, ⟨hI.mono (by omega), hU, hV, hZ9.symm.trans hR0⟩, by rw [ht]; exact hP, hD⟩, hS.F ht⟩) hS.2.2 dX9_again_44
            · replace hZ9 := ite_f hZ9 c9
              refine lv_iload hx hb dX9_again_35 (lv_at hl 4 rfl) ?_
              refine lv_sipush (v := 200) hx hb dX9_again_37 (by decide) ?_
              refine lv_icmp_le (tgt := 45) hx hb dX9_again_40 (by decide) (fun c10 => ?_) (fun c10 => ?_)
              · replace hZ9 := ite_t hZ9 c10
                refine lv_aload_n hx hb dX9_again_45 rfl (lv_at hl 0 rfl) ?_
                refine va_get (D := (dC, dI)) (ci := 10) (v := .ref (a 4)) (C := RX9) (T := TX9) (N := 46) hx hb hts in_w_again_X9 hown hK hP 0 rfl rfl 4 (by decide) (hts (.fieldLink RX9 22 "ServiceTreeModel" "delay" "[I") (by decide +kernel)) (fun _ h9 => h9) rfl dX9_again_46 ?_
                refine lv_iload_n hx hb dX9_again_49 rfl (lv_at hl 1 rfl) ?_
                refine lv_iload_n hx hb dX9_again_50 rfl (lv_at hl 2 rfl) ?_
                refine va_iast (n := 40) (f := F 4) hx hb hK hP hD hS 5 4 rfl rfl (vp_in_nI (n := j4) (by omega) (by decide)) dX9_again_51 (fun H locs hP hD hS => ?_)
                rw [mW_set_4] at hP hD
                obtain ⟨F11, eF11⟩ : ∃ f9 : Nat → Nat → Int32, f9 = va_up F 4 (upd (F 4) (nI j4).toNatClampNeg p1) := ⟨_, rfl⟩
                rw [← eF11] at hP hD
                replace hZ9 := bnd_s hZ9 eF11
                replace hI : StM n (b) F V F11 V := ⟨by rw [eF11]; exact hI.1.setF (by decide), trivial⟩
                replace hU : ∀ j : Nat, j ∉ ([4, 5, 6] : List Nat) → F11 j = F j := by rw [eF11]; exact mw_up (by decide) hU
                refine lv_aload_n hx hb dX9_again_52 rfl (lv_at hl 0 rfl) ?_
                refine va_get (D := (dC, dI)) (ci := 10) (v := .ref (a 5)) (C := RX9) (T := TX9) (N := 46) hx hb hts in_w_again_X9 hown hK hP 0 rfl rfl 5 (by decide) (hts (.fieldLink RX9 25 "ServiceTreeModel" "budget" "[I") (by decide +kernel)) (fun _ h9 => h9) rfl dX9_again_53 ?_
                refine lv_iload_n hx hb dX9_again_56 rfl (lv_at hl 1 rfl) ?_
                refine lv_iload_n hx hb dX9_again_57 rfl (lv_at hl 3 rfl) ?_
                refine va_iast (n := 40) (f := F11 5) hx hb hK hP hD hS 6 5 rfl rfl (vp_in_nI (n := j4) (by omega) (by decide)) dX9_again_58 (fun H locs hP hD hS => ?_)
                rw [mW_set_5] at hP hD
                obtain ⟨F12, eF12⟩ : ∃ f9 : Nat → Nat → Int32, f9 = va_up F11 5 (upd (F11 5) (nI j4).toNatClampNeg p2) := ⟨_, rfl⟩
                rw [← eF12] at hP hD
                replace hZ9 := bnd_s hZ9 eF12
                replace hI : StM n (b) F V F12 V := ⟨by rw [eF12]; exact hI.1.setF (by decide), trivial⟩
                replace hU : ∀ j : Nat, j ∉ ([4, 5, 6] : List Nat) → F12 j = F j := by rw [eF12]; exact mw_up (by decide) hU
                refine lv_aload_n hx hb dX9_again_59 rfl (lv_at hl 0 rfl) ?_
                refine va_get (D := (dC, dI)) (ci := 10) (v := .ref (a 6)) (C := RX9) (T := TX9) (N := 46) hx hb hts in_w_again_X9 hown hK hP 0 rfl rfl 6 (by decide) (hts (.fieldLink RX9 28 "ServiceTreeModel" "window" "[I") (by decide +kernel)) (fun _ h9 => h9) rfl dX9_again_60 ?_
                refine lv_iload_n hx hb dX9_again_63 rfl (lv_at hl 1 rfl) ?_
                refine lv_iload hx hb dX9_again_64 (lv_at hl 4 rfl) ?_
                refine va_iast (n := 40) (f := F12 6) hx hb hK hP hD hS 7 6 rfl rfl (vp_in_nI (n := j4) (by omega) (by decide)) dX9_again_66 (fun H locs hP hD hS => ?_)
                rw [mW_set_6] at hP hD
                obtain ⟨F13, eF13⟩ : ∃ f9 : Nat → Nat → Int32, f9 = va_up F12 6 (upd (F12 6) (nI j4).toNatClampNeg p3) := ⟨_, rfl⟩
                rw [← eF13] at hP hD
                replace hZ9 := bnd_s hZ9 eF13
                replace hI : StM n (b) F V F13 V := ⟨by rw [eF13]; exact hI.1.setF (by decide), trivial⟩
                replace hU : ∀ j : Nat, j ∉ ([4, 5, 6] : List Nat) → F13 j = F j := by rw [eF13]; exact mw_up (by decide) hU
                refine lv_iconst (v := 1) hx hb dX9_again_67 (by decide) ?_
                exact W.iret (v := 1) hx hb hr (fun t ht hW => ⟨⟨1, (F13, V), rfl, ⟨hI.mono (by omega), hU, hV, hZ9.symm.trans hR0⟩, by rw [ht]; exact hP, hD⟩, hS.F ht⟩) hS.2.2 dX9_again_68
              · replace hZ9 := ite_f hZ9 c10
                refine lv_iconst (v := (-1)) hx hb dX9_again_43 (by decide) ?_
                exact W.iret (v := (-1)) hx hb hr (fun t ht hW => ⟨⟨(-1), (F, V), rfl, ⟨hI.mono (by omega), hU, hV, hZ9.symm.trans hR0⟩, by rw [ht]; exact hP, hD⟩, hS.F ht⟩) hS.2.2 dX9_again_44
  · replace hZ9 := ite_f hZ9 noj4
    refine lv_if_eq (tgt := 43) hx hb dX9_again_5 (by decide) (fun _ => ?_) (fun c9 => absurd (by decide) c9)
    refine lv_iconst (v := (-1)) hx hb dX9_again_43 (by decide) ?_
    exact W.iret (v := (-1)) hx hb hr (fun t ht hW => ⟨⟨(-1), (F, V), rfl, ⟨hI.mono (by omega), hU, hV, hZ9.symm.trans hR0⟩, by rw [ht]; exact hP, hD⟩, hS.F ht⟩) hS.2.2 dX9_again_44
def f_w_make (n : Nat) (p0 : Int32) (p1 : Int32) (p2 : Int32) (F : Nat → Nat → Int32) (V : Nat → Int32) : Int32 × (Nat → Nat → Int32) × (Nat → Int32) := if p0 < (0 : Int32) then (((-1 : Int32), F, V)) else (if (3 : Int32) < p0 then (((-1 : Int32), F, V)) else (if p1 < (0 : Int32) then (((-1 : Int32), F, V)) else (if (50 : Int32) < p1 then (((-1 : Int32), F, V)) else (if p2 < (0 : Int32) then (((-1 : Int32), F, V)) else (if (50 : Int32) < p2 then (((-1 : Int32), F, V)) else (if p0 = (3 : Int32) then (if (0 : Int32) < p1 then (((-1 : Int32), F, V)) else (if p2 ≤ (0 : Int32) then (if n = 40 then (((-6 : Int32), F, V)) else (bnd (va_up F 0 (upd (F 0) (nI n).toNatClampNeg p0)) (fun (F19 : Nat → Nat → Int32) => bnd (va_up F19 1 (upd (F19 1) (nI n).toNatClampNeg p1)) (fun (F20 : Nat → Nat → Int32) => bnd (va_up F20 2 (upd (F20 2) (nI n).toNatClampNeg p2)) (fun (F21 : Nat → Nat → Int32) => bnd (va_up F21 4 (upd (F21 4) (nI n).toNatClampNeg 1)) (fun (F22 : Nat → Nat → Int32) => bnd (va_up F22 6 (upd (F22 6) (nI n).toNatClampNeg 1)) (fun (F23 : Nat → Nat → Int32) => bnd (va_up F23 16 (upd (F23 16) (nI n).toNatClampNeg (-1))) (fun (F24 : Nat → Nat → Int32) => bnd (va_up V 21 (nI (n + 1))) (fun (V25 : Nat → Int32) => ((nI n), F24, V25)))))))))) else (((-1 : Int32), F, V)))) else (if n = 40 then (((-6 : Int32), F, V)) else (bnd (va_up F 0 (upd (F 0) (nI n).toNatClampNeg p0)) (fun (F9 : Nat → Nat → Int32) => bnd (va_up F9 1 (upd (F9 1) (nI n).toNatClampNeg p1)) (fun (F10 : Nat → Nat → Int32) => bnd (va_up F10 2 (upd (F10 2) (nI n).toNatClampNeg p2)) (fun (F11 : Nat → Nat → Int32) => bnd (va_up F11 4 (upd (F11 4) (nI n).toNatClampNeg 1)) (fun (F12 : Nat → Nat → Int32) => bnd (va_up F12 6 (upd (F12 6) (nI n).toNatClampNeg 1)) (fun (F13 : Nat → Nat → Int32) => bnd (va_up F13 16 (upd (F13 16) (nI n).toNatClampNeg (-1))) (fun (F14 : Nat → Nat → Int32) => bnd (va_up V 21 (nI (n + 1))) (fun (V15 : Nat → Int32) => ((nI n), F14, V15))))))))))))))))
def wq_w_make : List Cond := ([.code yX9_make cX9_make 5 (some .int), .fieldLink RX9 126 "ServiceTreeModel" "services" "I", .fieldLink RX9 9 "ServiceTreeModel" "kind" "[I", .fieldLink RX9 13 "ServiceTreeModel" "start" "[I", .fieldLink RX9 16 "ServiceTreeModel" "stop" "[I", .fieldLink RX9 22 "ServiceTreeModel" "delay" "[I", .fieldLink RX9 28 "ServiceTreeModel" "window" "[I", .fieldLink RX9 59 "ServiceTreeModel" "readLast" "[I"] : List Cond) ++ (wsX90)
theorem in_w_make_X9 : ∀ w ∈ wsX90, w ∈ wq_w_make := fun _ h => List.mem_append_right _ (h)
set_option maxRecDepth 20000 in
theorem wi_w_make : ∀ w ∈ wq_w_make, w ∈ lw_tbl := List.forall_mem_append.mpr ⟨(wix [995, 873, 852, 853, 854, 856, 858, 868] rfl), inKX9⟩
set_option maxRecDepth 20000 in
theorem wg_w_make : GoodIn wq_w_make wq_w_make := goodIn_sub (fun _ h => h) (by decide +kernel)
def rm_w_make : Room := { frames := 0, cells := 0, slots := 0, locals := 0 }
set_option maxHeartbeats 4000000 in
set_option maxRecDepth 100000 in
theorem c_w_make (l : Launch) (dC : Nat → ClassId) (dI : Nat → Nat → Nat) (h : Nat) (a : Nat → Nat) (k : Nat → ClassId) (F : Nat → Nat → Int32) (V : Nat → Int32) (n b : Nat) (p0 : Int32) (p1 : Int32) (p2 : Int32) (sz : Nat) (hI0 : InvM n b F V) (hb0 : b + 0 < 2147483648)  : Met l yX9_make wq_w_make rm_w_make (va_Pc [.ref h, .int p0, .int p1, .int p2] (fun U => U.heap.size = sz ∧ va_P (dC, dI) vwCl (mW h a k F V) U.heap ∧ va_K (dC, dI) vwCl (mT k) U ∧ va_D (fun _ => True) (mW h a k F V))) (va_Qi (fun (r : Int32) (u : (Nat → Nat → Int32) × (Nat → Int32)) => (((0 ≤ p0 ∧ p0 ≤ 3 ∧ 0 ≤ p1 ∧ p1 ≤ 50 ∧ 0 ≤ p2 ∧ p2 ≤ 50 ∧ (p0 = 3 → p1 ≤ 0 ∧ p2 ≤ 0)) ∧ n < 40 ∧ r = nI n ∧ InvM (n + 1) b u.1 u.2 ∧ (∀ j : Nat, j ∉ ([0, 1, 2, 4, 6, 16] : List Nat) → u.1 j = F j) ∧ (∀ j : Nat, j ∉ ([21] : List Nat) → u.2 j = V j) ∧ u.1 0 = upd (F 0) (nI n).toNatClampNeg p0) ∨ ((¬ (0 ≤ p0 ∧ p0 ≤ 3 ∧ 0 ≤ p1 ∧ p1 ≤ 50 ∧ 0 ≤ p2 ∧ p2 ≤ 50 ∧ (p0 = 3 → p1 ≤ 0 ∧ p2 ≤ 0)) ∨ n = 40) ∧ r = (if 0 ≤ p0 ∧ p0 ≤ 3 ∧ 0 ≤ p1 ∧ p1 ≤ 50 ∧ 0 ≤ p2 ∧ p2 ≤ 50 ∧ (p0 = 3 → p1 ≤ 0 ∧ p2 ≤ 0) then -6 else -1) ∧ u.1 = F ∧ u.2 = V)) ∧ ((r, u.1, u.2) = f_w_make n p0 p1 p2 F V)) (fun (u : (Nat → Nat → Int32) × (Nat → Int32)) (t : State) => va_P (dC, dI) vwCl (mW h a k u.1 u.2) t.heap ∧ va_D (va_A (mW h a k F V) sz) (mW h a k u.1 u.2)) (va_A (mW h a k F V) sz)) 0 0 (va_A (mW h a k F V) sz) := by
  have hn : n ≤ 40 := hI0.1
  have hI : StM n b F V F V := StM.rf hI0
  have hU : ∀ j : Nat, j ∉ ([0, 1, 2, 4, 6, 16] : List Nat) → F j = F j := fun _ _ => rfl
  have hV : ∀ j : Nat, j ∉ ([21] : List Nat) → V j = V j := fun _ _ => rfl
  refine Met.ofW (cc := cX9_make) (maxL := 5) (ret := (some .int)) (by decide) rfl ?_
  intro p e s m args below meth c s₁ B hml hv
  obtain ⟨rfl, hsz, hP, hK, hD0⟩ := hv
  have hx := B.exec
  have hb := B.bytes
  have hr := B.returns
  have hts := atoms_spec (ws := wq_w_make) B.pre
  have hown : s.vm.findClass RX9 = some m.cls := findClass_of_methodNamed B.named
  have hlocks := B.notSynchronized
  subst hsz
  have hD := hD0.self (sz := s.heap.size)
  generalize hAe : va_A (mW h a k F V) s.heap.size = A at hD ⊢
  have hA : ∀ q : Nat, s.heap.size ≤ q → A q := fun q h => by rw [← hAe]; exact Or.inr h
  have hS : va_S A s.heap s.heap [] := va_S.rf
  have hl := lv_entry ([.ref h, .int p0, .int p1, .int p2]) (n := 5) (Nat.le_of_ble_eq_true rfl)
  rw [lg_entry_eq]
  generalize (lg_sl ([.ref h, .int p0, .int p1, .int p2]) ++ List.replicate (5 - (lg_sl ([.ref h, .int p0, .int p1, .int p2])).length) Slot.unset).toArray = ls at hl ⊢
  have hl : lv_has ls 5 [(0, .ref h), (1, .int p0), (2, .int p1), (3, .int p2)] := hl
  obtain ⟨RES, hR0⟩ : ∃ R9, R9 = f_w_make n p0 p1 p2 F V := ⟨_, rfl⟩
  have hZ9 := hR0
  unfold f_w_make at hZ9
  refine lv_iload_n hx hb dX9_make_0 rfl (lv_at hl 1 rfl) ?_
  refine lv_if_lt (tgt := 42) hx hb dX9_make_1 (by decide) (fun c1 => ?_) (fun c1 => ?_)
  · replace hZ9 := ite_t hZ9 c1
    refine lv_iconst (v := (-1)) hx hb dX9_make_42 (by decide) ?_
    exact W.iret (v := (-1)) hx hb hr (fun t ht hW => ⟨⟨(-1), (F, V), rfl, ⟨Or.inr ⟨Or.inl (by have k0 := c1; simp only [p1_le, p1_lt, p1_eq, p1_m6, p1_m1, p1_0, p1_1, p1_2, p1_3, p1_4, p1_5, p1_6, p1_7, p1_8, p1_9, p1_10, p1_11, p1_12, p1_13, p1_14, p1_15, p1_16, p1_17, p1_18, p1_19, p1_20, p1_40, p1_50, p1_200, p1_1000] at k0 ⊢; omega), (if_neg (by have k0 := c1; simp only [p1_le, p1_lt, p1_eq, p1_m6, p1_m1, p1_0, p1_1, p1_2, p1_3, p1_4, p1_5, p1_6, p1_7, p1_8, p1_9, p1_10, p1_11, p1_12, p1_13, p1_14, p1_15, p1_16, p1_17, p1_18, p1_19, p1_20, p1_40, p1_50, p1_200, p1_1000] at k0 ⊢; omega)).symm, rfl, rfl⟩, hZ9.symm.trans hR0⟩, by rw [ht]; exact hP, hD⟩, hS.F ht⟩) hS.2.2 dX9_make_43
  · replace hZ9 := ite_f hZ9 c1
    refine lv_iload_n hx hb dX9_make_4 rfl (lv_at hl 1 rfl) ?_
    refine lv_iconst (v := 3) hx hb dX9_make_5 (by decide) ?_
    refine lv_icmp_gt (tgt := 42) hx hb dX9_make_6 (by decide) (fun c2 => ?_) (fun c2 => ?_)
    · replace hZ9 := ite_t hZ9 c2
      refine lv_iconst (v := (-1)) hx hb dX9_make_42 (by decide) ?_
      exact W.iret (v := (-1)) hx hb hr (fun t ht hW => ⟨⟨(-1), (F, V), rfl, ⟨Or.inr ⟨Or.inl (by have k0 := c1; have k1 := c2; simp only [p1_le, p1_lt, p1_eq, p1_m6, p1_m1, p1_0, p1_1, p1_2, p1_3, p1_4, p1_5, p1_6, p1_7, p1_8, p1_9, p1_10, p1_11, p1_12, p1_13, p1_14, p1_15, p1_16, p1_17, p1_18, p1_19, p1_20, p1_40, p1_50, p1_200, p1_1000] at k0 k1 ⊢; omega), (if_neg (by have k0 := c1; have k1 := c2; simp only [p1_le, p1_lt, p1_eq, p1_m6, p1_m1, p1_0, p1_1, p1_2, p1_3, p1_4, p1_5, p1_6, p1_7, p1_8, p1_9, p1_10, p1_11, p1_12, p1_13, p1_14, p1_15, p1_16, p1_17, p1_18, p1_19, p1_20, p1_40, p1_50, p1_200, p1_1000] at k0 k1 ⊢; omega)).symm, rfl, rfl⟩, hZ9.symm.trans hR0⟩, by rw [ht]; exact hP, hD⟩, hS.F ht⟩) hS.2.2 dX9_make_43
    · replace hZ9 := ite_f hZ9 c2
      refine lv_iload_n hx hb dX9_make_9 rfl (lv_at hl 2 rfl) ?_
      refine lv_if_lt (tgt := 42) hx hb dX9_make_10 (by decide) (fun c3 => ?_) (fun c3 => ?_)
      · replace hZ9 := ite_t hZ9 c3
        refine lv_iconst (v := (-1)) hx hb dX9_make_42 (by decide) ?_
        exact W.iret (v := (-1)) hx hb hr (fun t ht hW => ⟨⟨(-1), (F, V), rfl, ⟨Or.inr ⟨Or.inl (by have k0 := c1; have k1 := c2; have k2 := c3; simp only [p1_le, p1_lt, p1_eq, p1_m6, p1_m1, p1_0, p1_1, p1_2, p1_3, p1_4, p1_5, p1_6, p1_7, p1_8, p1_9, p1_10, p1_11, p1_12, p1_13, p1_14, p1_15, p1_16, p1_17, p1_18, p1_19, p1_20, p1_40, p1_50, p1_200, p1_1000] at k0 k1 k2 ⊢; omega), (if_neg (by have k0 := c1; have k1 := c2; have k2 := c3; simp only [p1_le, p1_lt, p1_eq, p1_m6, p1_m1, p1_0, p1_1, p1_2, p1_3, p1_4, p1_5, p1_6, p1_7, p1_8, p1_9, p1_10, p1_11, p1_12, p1_13, p1_14, p1_15, p1_16, p1_17, p1_18, p1_19, p1_20, p1_40, p1_50, p1_200, p1_1000] at k0 k1 k2 ⊢; omega)).symm, rfl, rfl⟩, hZ9.symm.trans hR0⟩, by rw [ht]; exact hP, hD⟩, hS.F ht⟩) hS.2.2 dX9_make_43
      · replace hZ9 := ite_f hZ9 c3
        refine lv_iload_n hx hb dX9_make_13 rfl (lv_at hl 2 rfl) ?_
        refine lv_bipush (v := 50) hx hb dX9_make_14 (by decide) ?_
        refine lv_icmp_gt (tgt := 42) hx hb dX9_make_16 (by decide) (fun c4 => ?_) (fun c4 => ?_)
        · replace hZ9 := ite_t hZ9 c4
          refine lv_iconst (v := (-1)) hx hb dX9_make_42 (by decide) ?_
          exact W.iret (v := (-1)) hx hb hr (fun t ht hW => ⟨⟨(-1), (F, V), rfl, ⟨Or.inr ⟨Or.inl (by have k0 := c1; have k1 := c2; have k2 := c3; have k3 := c4; simp only [p1_le, p1_lt, p1_eq, p1_m6, p1_m1, p1_0, p1_1, p1_2, p1_3, p1_4, p1_5, p1_6, p1_7, p1_8, p1_9, p1_10, p1_11, p1_12, p1_13, p1_14, p1_15, p1_16, p1_17, p1_18, p1_19, p1_20, p1_40, p1_50, p1_200, p1_1000] at k0 k1 k2 k3 ⊢; omega), (if_neg (by have k0 := c1; have k1 := c2; have k2 := c3; have k3 := c4; simp only [p1_le, p1_lt, p1_eq, p1_m6, p1_m1, p1_0, p1_1, p1_2, p1_3, p1_4, p1_5, p1_6, p1_7, p1_8, p1_9, p1_10, p1_11, p1_12, p1_13, p1_14, p1_15, p1_16, p1_17, p1_18, p1_19, p1_20, p1_40, p1_50, p1_200, p1_1000] at k0 k1 k2 k3 ⊢; omega)).symm, rfl, rfl⟩, hZ9.symm.trans hR0⟩, by rw [ht]; exact hP, hD⟩, hS.F ht⟩) hS.2.2 dX9_make_43
        · replace hZ9 := ite_f hZ9 c4
          refine lv_iload_n hx hb dX9_make_19 rfl (lv_at hl 3 rfl) ?_
          refine lv_if_lt (tgt := 42) hx hb dX9_make_20 (by decide) (fun c5 => ?_) (fun c5 => ?_)
          · replace hZ9 := ite_t hZ9 c5
            refine lv_iconst (v := (-1)) hx hb dX9_make_42 (by decide) ?_
            exact W.iret (v := (-1)) hx hb hr (fun t ht hW => ⟨⟨(-1), (F, V), rfl, ⟨Or.inr ⟨Or.inl (by have k0 := c1; have k1 := c2; have k2 := c3; have k3 := c4; have k4 := c5; simp only [p1_le, p1_lt, p1_eq, p1_m6, p1_m1, p1_0, p1_1, p1_2, p1_3, p1_4, p1_5, p1_6, p1_7, p1_8, p1_9, p1_10, p1_11, p1_12, p1_13, p1_14, p1_15, p1_16, p1_17, p1_18, p1_19, p1_20, p1_40, p1_50, p1_200, p1_1000] at k0 k1 k2 k3 k4 ⊢; omega), (if_neg (by have k0 := c1; have k1 := c2; have k2 := c3; have k3 := c4; have k4 := c5; simp only [p1_le, p1_lt, p1_eq, p1_m6, p1_m1, p1_0, p1_1, p1_2, p1_3, p1_4, p1_5, p1_6, p1_7, p1_8, p1_9, p1_10, p1_11, p1_12, p1_13, p1_14, p1_15, p1_16, p1_17, p1_18, p1_19, p1_20, p1_40, p1_50, p1_200, p1_1000] at k0 k1 k2 k3 k4 ⊢; omega)).symm, rfl, rfl⟩, hZ9.symm.trans hR0⟩, by rw [ht]; exact hP, hD⟩, hS.F ht⟩) hS.2.2 dX9_make_43
          · replace hZ9 := ite_f hZ9 c5
            refine lv_iload_n hx hb dX9_make_23 rfl (lv_at hl 3 rfl) ?_
            refine lv_bipush (v := 50) hx hb dX9_make_24 (by decide) ?_
            refine lv_icmp_gt (tgt := 42) hx hb dX9_make_26 (by decide) (fun c6 => ?_) (fun c6 => ?_)
            · replace hZ9 := ite_t hZ9 c6
              refine lv_iconst (v := (-1)) hx hb dX9_make_42 (by decide) ?_
              exact W.iret (v := (-1)) hx hb hr (fun t ht hW => ⟨⟨(-1), (F, V), rfl, ⟨Or.inr ⟨Or.inl (by have k0 := c1; have k1 := c2; have k2 := c3; have k3 := c4; have k4 := c5; have k5 := c6; simp only [p1_le, p1_lt, p1_eq, p1_m6, p1_m1, p1_0, p1_1, p1_2, p1_3, p1_4, p1_5, p1_6, p1_7, p1_8, p1_9, p1_10, p1_11, p1_12, p1_13, p1_14, p1_15, p1_16, p1_17, p1_18, p1_19, p1_20, p1_40, p1_50, p1_200, p1_1000] at k0 k1 k2 k3 k4 k5 ⊢; omega), (if_neg (by have k0 := c1; have k1 := c2; have k2 := c3; have k3 := c4; have k4 := c5; have k5 := c6; simp only [p1_le, p1_lt, p1_eq, p1_m6, p1_m1, p1_0, p1_1, p1_2, p1_3, p1_4, p1_5, p1_6, p1_7, p1_8, p1_9, p1_10, p1_11, p1_12, p1_13, p1_14, p1_15, p1_16, p1_17, p1_18, p1_19, p1_20, p1_40, p1_50, p1_200, p1_1000] at k0 k1 k2 k3 k4 k5 ⊢; omega)).symm, rfl, rfl⟩, hZ9.symm.trans hR0⟩, by rw [ht]; exact hP, hD⟩, hS.F ht⟩) hS.2.2 dX9_make_43
            · replace hZ9 := ite_f hZ9 c6
              refine lv_iload_n hx hb dX9_make_29 rfl (lv_at hl 1 rfl) ?_
              refine lv_iconst (v := 3) hx hb dX9_make_30 (by decide) ?_
              refine lv_icmp_ne (tgt := 44) hx hb dX9_make_31 (by decide) (fun c7 => ?_) (fun c7 => ?_)
              · replace hZ9 := ite_f hZ9 c7
                refine lv_aload_n hx hb dX9_make_44 rfl (lv_at hl 0 rfl) ?_
                refine va_get (D := (dC, dI)) (ci := 10) (v := .int (V 21)) (C := RX9) (T := TX9) (N := 46) hx hb hts in_w_make_X9 hown hK hP 0 rfl rfl 21 (by decide) (hts (.fieldLink RX9 126 "ServiceTreeModel" "services" "I") (by decide +kernel)) (fun _ h9 => h9) rfl dX9_make_45 ?_
                refine p1_topr (v := .int (nI n)) (congrArg Value.int hI.1.2.1) ?_
                refine lv_bipush (v := 40) hx hb dX9_make_48 (by decide) ?_
                refine lv_icmp_ne (tgt := 56) hx hb dX9_make_50 (by decide) (fun c8 => ?_) (fun c8 => ?_)
                · replace c8 : ¬ (n = 40) := fun q9 => c8 ((nI_eq (a := n) (b := 40) (by omega) (by omega)).mpr q9)
                  replace hZ9 := ite_f hZ9 c8
                  refine lv_aload_n hx hb dX9_make_56 rfl (lv_at hl 0 rfl) ?_
                  refine va_get (D := (dC, dI)) (ci := 10) (v := .int (V 21)) (C := RX9) (T := TX9) (N := 46) hx hb hts in_w_make_X9 hown hK hP 0 rfl rfl 21 (by decide) (hts (.fieldLink RX9 126 "ServiceTreeModel" "services" "I") (by decide +kernel)) (fun _ h9 => h9) rfl dX9_make_57 ?_
                  refine p1_topr (v := .int (nI n)) (congrArg Value.int hI.1.2.1) ?_
                  refine lv_istore (lv' := [(4, .int (nI n)), (0, .ref h), (1, .int p0), (2, .int p1), (3, .int p2)]) hx hb dX9_make_60 hl (by decide) rfl (fun ls hl => ?_)
                  refine lv_aload_n hx hb dX9_make_62 rfl (lv_at hl 1 rfl) ?_
                  refine va_get (D := (dC, dI)) (ci := 10) (v := .ref (a 0)) (C := RX9) (T := TX9) (N := 46) hx hb hts in_w_make_X9 hown hK hP 0 rfl rfl 0 (by decide) (hts (.fieldLink RX9 9 "ServiceTreeModel" "kind" "[I") (by decide +kernel)) (fun _ h9 => h9) rfl dX9_make_63 ?_
                  refine lv_iload hx hb dX9_make_66 (lv_at hl 0 rfl) ?_
                  refine lv_iload_n hx hb dX9_make_68 rfl (lv_at hl 2 rfl) ?_
                  refine va_iast (n := 40) (f := F 0) hx hb hK hP hD hS 1 0 rfl rfl (vp_in_nI (n := n) (by omega) (by decide)) dX9_make_69 (fun H locs hP hD hS => ?_)
                  rw [mW_set_0] at hP hD
                  obtain ⟨F9, eF9⟩ : ∃ f9 : Nat → Nat → Int32, f9 = va_up F 0 (upd (F 0) (nI n).toNatClampNeg p0) := ⟨_, rfl⟩
                  rw [← eF9] at hP hD
                  replace hZ9 := bnd_s hZ9 eF9
                  replace hI : StM n (b) F V F9 V := ⟨by rw [eF9]; exact hI.1.setF (by decide), trivial⟩
                  replace hU : ∀ j : Nat, j ∉ ([0, 1, 2, 4, 6, 16] : List Nat) → F9 j = F j := by rw [eF9]; exact mw_up (by decide) hU
                  refine lv_aload_n hx hb dX9_make_70 rfl (lv_at hl 1 rfl) ?_
                  refine va_get (D := (dC, dI)) (ci := 10) (v := .ref (a 1)) (C := RX9) (T := TX9) (N := 46) hx hb hts in_w_make_X9 hown hK hP 0 rfl rfl 1 (by decide) (hts (.fieldLink RX9 13 "ServiceTreeModel" "start" "[I") (by decide +kernel)) (fun _ h9 => h9) rfl dX9_make_71 ?_
                  refine lv_iload hx hb dX9_make_74 (lv_at hl 0 rfl) ?_
                  refine lv_iload_n hx hb dX9_make_76 rfl (lv_at hl 3 rfl) ?_
                  refine va_iast (n := 40) (f := F9 1) hx hb hK hP hD hS 2 1 rfl rfl (vp_in_nI (n := n) (by omega) (by decide)) dX9_make_77 (fun H locs hP hD hS => ?_)
                  rw [mW_set_1] at hP hD
                  obtain ⟨F10, eF10⟩ : ∃ f9 : Nat → Nat → Int32, f9 = va_up F9 1 (upd (F9 1) (nI n).toNatClampNeg p1) := ⟨_, rfl⟩
                  rw [← eF10] at hP hD
                  replace hZ9 := bnd_s hZ9 eF10
                  replace hI : StM n (b) F V F10 V := ⟨by rw [eF10]; exact hI.1.setF (by decide), trivial⟩
                  replace hU : ∀ j : Nat, j ∉ ([0, 1, 2, 4, 6, 16] : List Nat) → F10 j = F j := by rw [eF10]; exact mw_up (by decide) hU
                  refine lv_aload_n hx hb dX9_make_78 rfl (lv_at hl 1 rfl) ?_
                  refine va_get (D := (dC, dI)) (ci := 10) (v := .ref (a 2)) (C := RX9) (T := TX9) (N := 46) hx hb hts in_w_make_X9 hown hK hP 0 rfl rfl 2 (by decide) (hts (.fieldLink RX9 16 "ServiceTreeModel" "stop" "[I") (by decide +kernel)) (fun _ h9 => h9) rfl dX9_make_79 ?_
                  refine lv_iload hx hb dX9_make_82 (lv_at hl 0 rfl) ?_
                  refine lv_iload_n hx hb dX9_make_84 rfl (lv_at hl 4 rfl) ?_
                  refine va_iast (n := 40) (f := F10 2) hx hb hK hP hD hS 3 2 rfl rfl (vp_in_nI (n := n) (by omega) (by decide)) dX9_make_85 (fun H locs hP hD hS => ?_)
                  rw [mW_set_2] at hP hD
                  obtain ⟨F11, eF11⟩ : ∃ f9 : Nat → Nat → Int32, f9 = va_up F10 2 (upd (F10 2) (nI n).toNatClampNeg p2) := ⟨_, rfl⟩
                  rw [← eF11] at hP hD
                  replace hZ9 := bnd_s hZ9 eF11
                  replace hI : StM n (b) F V F11 V := ⟨by rw [eF11]; exact hI.1.setF (by decide), trivial⟩
                  replace hU : ∀ j : Nat, j ∉ ([0, 1, 2, 4, 6, 16] : List Nat) → F11 j = F j := by rw [eF11]; exact mw_up (by decide) hU
                  refine lv_aload_n hx hb dX9_make_86 rfl (lv_at hl 1 rfl) ?_
                  refine va_get (D := (dC, dI)) (ci := 10) (v := .ref (a 4)) (C := RX9) (T := TX9) (N := 46) hx hb hts in_w_make_X9 hown hK hP 0 rfl rfl 4 (by decide) (hts (.fieldLink RX9 22 "ServiceTreeModel" "delay" "[I") (by decide +kernel)) (fun _ h9 => h9) rfl dX9_make_87 ?_
                  refine lv_iload hx hb dX9_make_90 (lv_at hl 0 rfl) ?_
                  refine lv_iconst (v := 1) hx hb dX9_make_92 (by decide) ?_
                  refine va_iast (n := 40) (f := F11 4) hx hb hK hP hD hS 5 4 rfl rfl (vp_in_nI (n := n) (by omega) (by decide)) dX9_make_93 (fun H locs hP hD hS => ?_)
                  rw [mW_set_4] at hP hD
                  obtain ⟨F12, eF12⟩ : ∃ f9 : Nat → Nat → Int32, f9 = va_up F11 4 (upd (F11 4) (nI n).toNatClampNeg 1) := ⟨_, rfl⟩
                  rw [← eF12] at hP hD
                  replace hZ9 := bnd_s hZ9 eF12
                  replace hI : StM n (b) F V F12 V := ⟨by rw [eF12]; exact hI.1.setF (by decide), trivial⟩
                  replace hU : ∀ j : Nat, j ∉ ([0, 1, 2, 4, 6, 16] : List Nat) → F12 j = F j := by rw [eF12]; exact mw_up (by decide) hU
                  refine lv_aload_n hx hb dX9_make_94 rfl (lv_at hl 1 rfl) ?_
                  refine va_get (D := (dC, dI)) (ci := 10) (v := .ref (a 6)) (C := RX9) (T := TX9) (N := 46) hx hb hts in_w_make_X9 hown hK hP 0 rfl rfl 6 (by decide) (hts (.fieldLink RX9 28 "ServiceTreeModel" "window" "[I") (by decide +kernel)) (fun _ h9 => h9) rfl dX9_make_95 ?_
                  refine lv_iload hx hb dX9_make_98 (lv_at hl 0 rfl) ?_
                  refine lv_iconst (v := 1) hx hb dX9_make_100 (by decide) ?_
                  refine va_iast (n := 40) (f := F12 6) hx hb hK hP hD hS 7 6 rfl rfl (vp_in_nI (n := n) (by omega) (by decide)) dX9_make_101 (fun H locs hP hD hS => ?_)
                  rw [mW_set_6] at hP hD
                  obtain ⟨F13, eF13⟩ : ∃ f9 : Nat → Nat → Int32, f9 = va_up F12 6 (upd (F12 6) (nI n).toNatClampNeg 1) := ⟨_, rfl⟩
                  rw [← eF13] at hP hD
                  replace hZ9 := bnd_s hZ9 eF13
                  replace hI : StM n (b) F V F13 V := ⟨by rw [eF13]; exact hI.1.setF (by decide), trivial⟩
                  replace hU : ∀ j : Nat, j ∉ ([0, 1, 2, 4, 6, 16] : List Nat) → F13 j = F j := by rw [eF13]; exact mw_up (by decide) hU
                  refine lv_aload_n hx hb dX9_make_102 rfl (lv_at hl 1 rfl) ?_
                  refine va_get (D := (dC, dI)) (ci := 10) (v := .ref (a 16)) (C := RX9) (T := TX9) (N := 46) hx hb hts in_w_make_X9 hown hK hP 0 rfl rfl 16 (by decide) (hts (.fieldLink RX9 59 "ServiceTreeModel" "readLast" "[I") (by decide +kernel)) (fun _ h9 => h9) rfl dX9_make_103 ?_
                  refine lv_iload hx hb dX9_make_106 (lv_at hl 0 rfl) ?_
                  refine lv_iconst (v := (-1)) hx hb dX9_make_108 (by decide) ?_
                  refine va_iast (n := 40) (f := F13 16) hx hb hK hP hD hS 17 16 rfl rfl (vp_in_nI (n := n) (by omega) (by decide)) dX9_make_109 (fun H locs hP hD hS => ?_)
                  rw [mW_set_16] at hP hD
                  obtain ⟨F14, eF14⟩ : ∃ f9 : Nat → Nat → Int32, f9 = va_up F13 16 (upd (F13 16) (nI n).toNatClampNeg (-1)) := ⟨_, rfl⟩
                  rw [← eF14] at hP hD
                  replace hZ9 := bnd_s hZ9 eF14
                  replace hI : StM n (b) F V F14 V := ⟨by rw [eF14]; exact hI.1.setF (by decide), trivial⟩
                  replace hU : ∀ j : Nat, j ∉ ([0, 1, 2, 4, 6, 16] : List Nat) → F14 j = F j := by rw [eF14]; exact mw_up (by decide) hU
                  refine lv_aload_n hx hb dX9_make_110 rfl (lv_at hl 1 rfl) ?_
                  refine lv_dup hx hb dX9_make_111 rfl ?_
                  refine va_get (D := (dC, dI)) (ci := 10) (v := .int (V 21)) (C := RX9) (T := TX9) (N := 46) hx hb hts in_w_make_X9 hown hK hP 0 rfl rfl 21 (by decide) (hts (.fieldLink RX9 126 "ServiceTreeModel" "services" "I") (by decide +kernel)) (fun _ h9 => h9) rfl dX9_make_112 ?_
                  refine p1_topr (v := .int (nI n)) (congrArg Value.int hI.1.2.1) ?_
                  refine lv_iconst (v := 1) hx hb dX9_make_115 (by decide) ?_
                  refine lv_iadd hx hb dX9_make_116 ?_
                  refine p1_topr (v := .int (nI (n + 1))) (congrArg Value.int (nI_add n 1)) ?_
                  refine va_put (D := (dC, dI)) (ci := 10) (fs := mF a V) (v := .int (nI (n + 1))) (ty := .int) (C := RX9) (T := TX9) (N := 46) hx hb hts in_w_make_X9 tyX9 tyX9_ok nmX9 hown hK hP hD hS 0 rfl rfl 21 (by decide) (hts (.fieldLink RX9 126 "ServiceTreeModel" "services" "I") (by decide +kernel)) (fun _ h9 => h9) rfl (by decide +kernel) rfl rfl (Nat.le_of_ble_eq_true rfl) dX9_make_117 (fun H locs hP hD hS => ?_)
                  rw [mW_put_21] at hP hD
                  obtain ⟨V15, eV15⟩ : ∃ f9 : Nat → Int32, f9 = va_up V 21 (nI (n + 1)) := ⟨_, rfl⟩
                  rw [← eV15] at hP hD
                  replace hZ9 := bnd_s hZ9 eV15
                  replace hI : StM (n + 1) (b) F V F14 V15 := ⟨by rw [eV15]; exact hI.1.put21 (by omega), trivial⟩
                  replace hV : ∀ j : Nat, j ∉ ([21] : List Nat) → V15 j = V j := by rw [eV15]; exact mw_up (by decide) hV
                  refine lv_iload hx hb dX9_make_120 (lv_at hl 0 rfl) ?_
                  exact W.iret (v := (nI n)) hx hb hr (fun t ht hW => ⟨⟨(nI n), (F14, V15), rfl, ⟨Or.inl ⟨(by have k0 := c1; have k1 := c2; have k2 := c3; have k3 := c4; have k4 := c5; have k5 := c6; have k6 := c7; simp only [p1_le, p1_lt, p1_eq, p1_m6, p1_m1, p1_0, p1_1, p1_2, p1_3, p1_4, p1_5, p1_6, p1_7, p1_8, p1_9, p1_10, p1_11, p1_12, p1_13, p1_14, p1_15, p1_16, p1_17, p1_18, p1_19, p1_20, p1_40, p1_50, p1_200, p1_1000] at k0 k1 k2 k3 k4 k5 k6 ⊢; omega), by omega, rfl, hI.1, hU, hV, by simp [eF14, eF13, eF12, eF11, eF10, eF9, va_up]⟩, hZ9.symm.trans hR0⟩, by rw [ht]; exact hP, hD⟩, hS.F ht⟩) hS.2.2 dX9_make_122
                · replace c8 : n = 40 := (nI_eq (a := n) (b := 40) (by omega) (by omega)).mp c8
                  replace hZ9 := ite_t hZ9 c8
                  refine lv_bipush (v := (-6)) hx hb dX9_make_53 (by decide) ?_
                  exact W.iret (v := (-6)) hx hb hr (fun t ht hW => ⟨⟨(-6), (F, V), rfl, ⟨Or.inr ⟨Or.inr (by omega), (if_pos (by have k0 := c1; have k1 := c2; have k2 := c3; have k3 := c4; have k4 := c5; have k5 := c6; have k6 := c7; simp only [p1_le, p1_lt, p1_eq, p1_m6, p1_m1, p1_0, p1_1, p1_2, p1_3, p1_4, p1_5, p1_6, p1_7, p1_8, p1_9, p1_10, p1_11, p1_12, p1_13, p1_14, p1_15, p1_16, p1_17, p1_18, p1_19, p1_20, p1_40, p1_50, p1_200, p1_1000] at k0 k1 k2 k3 k4 k5 k6 ⊢; omega)).symm, rfl, rfl⟩, hZ9.symm.trans hR0⟩, by rw [ht]; exact hP, hD⟩, hS.F ht⟩) hS.2.2 dX9_make_55
              · replace hZ9 := ite_t hZ9 c7
                refine lv_iload_n hx hb dX9_make_34 rfl (lv_at hl 2 rfl) ?_
                refine lv_if_gt (tgt := 42) hx hb dX9_make_35 (by decide) (fun c16 => ?_) (fun c16 => ?_)
                · replace hZ9 := ite_t hZ9 c16
                  refine lv_iconst (v := (-1)) hx hb dX9_make_42 (by decide) ?_
                  exact W.iret (v := (-1)) hx hb hr (fun t ht hW => ⟨⟨(-1), (F, V), rfl, ⟨Or.inr ⟨Or.inl (by have k0 := c1; have k1 := c2; have k2 := c3; have k3 := c4; have k4 := c5; have k5 := c6; have k6 := c7; have k7 := c16; simp only [p1_le, p1_lt, p1_eq, p1_m6, p1_m1, p1_0, p1_1, p1_2, p1_3, p1_4, p1_5, p1_6, p1_7, p1_8, p1_9, p1_10, p1_11, p1_12, p1_13, p1_14, p1_15, p1_16, p1_17, p1_18, p1_19, p1_20, p1_40, p1_50, p1_200, p1_1000] at k0 k1 k2 k3 k4 k5 k6 k7 ⊢; omega), (if_neg (by have k0 := c1; have k1 := c2; have k2 := c3; have k3 := c4; have k4 := c5; have k5 := c6; have k6 := c7; have k7 := c16; simp only [p1_le, p1_lt, p1_eq, p1_m6, p1_m1, p1_0, p1_1, p1_2, p1_3, p1_4, p1_5, p1_6, p1_7, p1_8, p1_9, p1_10, p1_11, p1_12, p1_13, p1_14, p1_15, p1_16, p1_17, p1_18, p1_19, p1_20, p1_40, p1_50, p1_200, p1_1000] at k0 k1 k2 k3 k4 k5 k6 k7 ⊢; omega)).symm, rfl, rfl⟩, hZ9.symm.trans hR0⟩, by rw [ht]; exact hP, hD⟩, hS.F ht⟩) hS.2.2 dX9_make_43
                · replace hZ9 := ite_f hZ9 c16
                  refine lv_iload_n hx hb dX9_make_38 rfl (lv_at hl 3 rfl) ?_
                  refine lv_if_le (tgt := 44) hx hb dX9_make_39 (by decide) (fun c17 => ?_) (fun c17 => ?_)
                  · replace hZ9 := ite_t hZ9 c17
                    refine lv_aload_n hx hb dX9_make_44 rfl (lv_at hl 0 rfl) ?_
                    refine va_get (D := (dC, dI)) (ci := 10) (v := .int (V 21)) (C := RX9) (T := TX9) (N := 46) hx hb hts in_w_make_X9 hown hK hP 0 rfl rfl 21 (by decide) (hts (.fieldLink RX9 126 "ServiceTreeModel" "services" "I") (by decide +kernel)) (fun _ h9 => h9) rfl dX9_make_45 ?_
                    refine p1_topr (v := .int (nI n)) (congrArg Value.int hI.1.2.1) ?_
                    refine lv_bipush (v := 40) hx hb dX9_make_48 (by decide) ?_
                    refine lv_icmp_ne (tgt := 56) hx hb dX9_make_50 (by decide) (fun c18 => ?_) (fun c18 => ?_)
                    · replace c18 : ¬ (n = 40) := fun q9 => c18 ((nI_eq (a := n) (b := 40) (by omega) (by omega)).mpr q9)
                      replace hZ9 := ite_f hZ9 c18
                      refine lv_aload_n hx hb dX9_make_56 rfl (lv_at hl 0 rfl) ?_
                      refine va_get (D := (dC, dI)) (ci := 10) (v := .int (V 21)) (C := RX9) (T := TX9) (N := 46) hx hb hts in_w_make_X9 hown hK hP 0 rfl rfl 21 (by decide) (hts (.fieldLink RX9 126 "ServiceTreeModel" "services" "I") (by decide +kernel)) (fun _ h9 => h9) rfl dX9_make_57 ?_
                      refine p1_topr (v := .int (nI n)) (congrArg Value.int hI.1.2.1) ?_
                      refine lv_istore (lv' := [(4, .int (nI n)), (0, .ref h), (1, .int p0), (2, .int p1), (3, .int p2)]) hx hb dX9_make_60 hl (by decide) rfl (fun ls hl => ?_)
                      refine lv_aload_n hx hb dX9_make_62 rfl (lv_at hl 1 rfl) ?_
                      refine va_get (D := (dC, dI)) (ci := 10) (v := .ref (a 0)) (C := RX9) (T := TX9) (N := 46) hx hb hts in_w_make_X9 hown hK hP 0 rfl rfl 0 (by decide) (hts (.fieldLink RX9 9 "ServiceTreeModel" "kind" "[I") (by decide +kernel)) (fun _ h9 => h9) rfl dX9_make_63 ?_
                      refine lv_iload hx hb dX9_make_66 (lv_at hl 0 rfl) ?_
                      refine lv_iload_n hx hb dX9_make_68 rfl (lv_at hl 2 rfl) ?_
                      refine va_iast (n := 40) (f := F 0) hx hb hK hP hD hS 1 0 rfl rfl (vp_in_nI (n := n) (by omega) (by decide)) dX9_make_69 (fun H locs hP hD hS => ?_)
                      rw [mW_set_0] at hP hD
                      obtain ⟨F19, eF19⟩ : ∃ f9 : Nat → Nat → Int32, f9 = va_up F 0 (upd (F 0) (nI n).toNatClampNeg p0) := ⟨_, rfl⟩
                      rw [← eF19] at hP hD
                      replace hZ9 := bnd_s hZ9 eF19
                      replace hI : StM n (b) F V F19 V := ⟨by rw [eF19]; exact hI.1.setF (by decide), trivial⟩
                      replace hU : ∀ j : Nat, j ∉ ([0, 1, 2, 4, 6, 16] : List Nat) → F19 j = F j := by rw [eF19]; exact mw_up (by decide) hU
                      refine lv_aload_n hx hb dX9_make_70 rfl (lv_at hl 1 rfl) ?_
                      refine va_get (D := (dC, dI)) (ci := 10) (v := .ref (a 1)) (C := RX9) (T := TX9) (N := 46) hx hb hts in_w_make_X9 hown hK hP 0 rfl rfl 1 (by decide) (hts (.fieldLink RX9 13 "ServiceTreeModel" "start" "[I") (by decide +kernel)) (fun _ h9 => h9) rfl dX9_make_71 ?_
                      refine lv_iload hx hb dX9_make_74 (lv_at hl 0 rfl) ?_
                      refine lv_iload_n hx hb dX9_make_76 rfl (lv_at hl 3 rfl) ?_
                      refine va_iast (n := 40) (f := F19 1) hx hb hK hP hD hS 2 1 rfl rfl (vp_in_nI (n := n) (by omega) (by decide)) dX9_make_77 (fun H locs hP hD hS => ?_)
                      rw [mW_set_1] at hP hD
                      obtain ⟨F20, eF20⟩ : ∃ f9 : Nat → Nat → Int32, f9 = va_up F19 1 (upd (F19 1) (nI n).toNatClampNeg p1) := ⟨_, rfl⟩
                      rw [← eF20] at hP hD
                      replace hZ9 := bnd_s hZ9 eF20
                      replace hI : StM n (b) F V F20 V := ⟨by rw [eF20]; exact hI.1.setF (by decide), trivial⟩
                      replace hU : ∀ j : Nat, j ∉ ([0, 1, 2, 4, 6, 16] : List Nat) → F20 j = F j := by rw [eF20]; exact mw_up (by decide) hU
                      refine lv_aload_n hx hb dX9_make_78 rfl (lv_at hl 1 rfl) ?_
                      refine va_get (D := (dC, dI)) (ci := 10) (v := .ref (a 2)) (C := RX9) (T := TX9) (N := 46) hx hb hts in_w_make_X9 hown hK hP 0 rfl rfl 2 (by decide) (hts (.fieldLink RX9 16 "ServiceTreeModel" "stop" "[I") (by decide +kernel)) (fun _ h9 => h9) rfl dX9_make_79 ?_
                      refine lv_iload hx hb dX9_make_82 (lv_at hl 0 rfl) ?_
                      refine lv_iload_n hx hb dX9_make_84 rfl (lv_at hl 4 rfl) ?_
                      refine va_iast (n := 40) (f := F20 2) hx hb hK hP hD hS 3 2 rfl rfl (vp_in_nI (n := n) (by omega) (by decide)) dX9_make_85 (fun H locs hP hD hS => ?_)
                      rw [mW_set_2] at hP hD
                      obtain ⟨F21, eF21⟩ : ∃ f9 : Nat → Nat → Int32, f9 = va_up F20 2 (upd (F20 2) (nI n).toNatClampNeg p2) := ⟨_, rfl⟩
                      rw [← eF21] at hP hD
                      replace hZ9 := bnd_s hZ9 eF21
                      replace hI : StM n (b) F V F21 V := ⟨by rw [eF21]; exact hI.1.setF (by decide), trivial⟩
                      replace hU : ∀ j : Nat, j ∉ ([0, 1, 2, 4, 6, 16] : List Nat) → F21 j = F j := by rw [eF21]; exact mw_up (by decide) hU
                      refine lv_aload_n hx hb dX9_make_86 rfl (lv_at hl 1 rfl) ?_
                      refine va_get (D := (dC, dI)) (ci := 10) (v := .ref (a 4)) (C := RX9) (T := TX9) (N := 46) hx hb hts in_w_make_X9 hown hK hP 0 rfl rfl 4 (by decide) (hts (.fieldLink RX9 22 "ServiceTreeModel" "delay" "[I") (by decide +kernel)) (fun _ h9 => h9) rfl dX9_make_87 ?_
                      refine lv_iload hx hb dX9_make_90 (lv_at hl 0 rfl) ?_
                      refine lv_iconst (v := 1) hx hb dX9_make_92 (by decide) ?_
                      refine va_iast (n := 40) (f := F21 4) hx hb hK hP hD hS 5 4 rfl rfl (vp_in_nI (n := n) (by omega) (by decide)) dX9_make_93 (fun H locs hP hD hS => ?_)
                      rw [mW_set_4] at hP hD
                      obtain ⟨F22, eF22⟩ : ∃ f9 : Nat → Nat → Int32, f9 = va_up F21 4 (upd (F21 4) (nI n).toNatClampNeg 1) := ⟨_, rfl⟩
                      rw [← eF22] at hP hD
                      replace hZ9 := bnd_s hZ9 eF22
                      replace hI : StM n (b) F V F22 V := ⟨by rw [eF22]; exact hI.1.setF (by decide), trivial⟩
                      replace hU : ∀ j : Nat, j ∉ ([0, 1, 2, 4, 6, 16] : List Nat) → F22 j = F j := by rw [eF22]; exact mw_up (by decide) hU
                      refine lv_aload_n hx hb dX9_make_94 rfl (lv_at hl 1 rfl) ?_
                      refine va_get (D := (dC, dI)) (ci := 10) (v := .ref (a 6)) (C := RX9) (T := TX9) (N := 46) hx hb hts in_w_make_X9 hown hK hP 0 rfl rfl 6 (by decide) (hts (.fieldLink RX9 28 "ServiceTreeModel" "window" "[I") (by decide +kernel)) (fun _ h9 => h9) rfl dX9_make_95 ?_
                      refine lv_iload hx hb dX9_make_98 (lv_at hl 0 rfl) ?_
                      refine lv_iconst (v := 1) hx hb dX9_make_100 (by decide) ?_
                      refine va_iast (n := 40) (f := F22 6) hx hb hK hP hD hS 7 6 rfl rfl (vp_in_nI (n := n) (by omega) (by decide)) dX9_make_101 (fun H locs hP hD hS => ?_)
                      rw [mW_set_6] at hP hD
                      obtain ⟨F23, eF23⟩ : ∃ f9 : Nat → Nat → Int32, f9 = va_up F22 6 (upd (F22 6) (nI n).toNatClampNeg 1) := ⟨_, rfl⟩
                      rw [← eF23] at hP hD
                      replace hZ9 := bnd_s hZ9 eF23
                      replace hI : StM n (b) F V F23 V := ⟨by rw [eF23]; exact hI.1.setF (by decide), trivial⟩
                      replace hU : ∀ j : Nat, j ∉ ([0, 1, 2, 4, 6, 16] : List Nat) → F23 j = F j := by rw [eF23]; exact mw_up (by decide) hU
                      refine lv_aload_n hx hb dX9_make_102 rfl (lv_at hl 1 rfl) ?_
                      refine va_get (D := (dC, dI)) (ci := 10) (v := .ref (a 16)) (C := RX9) (T := TX9) (N := 46) hx hb hts in_w_make_X9 hown hK hP 0 rfl rfl 16 (by decide) (hts (.fieldLink RX9 59 "ServiceTreeModel" "readLast" "[I") (by decide +kernel)) (fun _ h9 => h9) rfl dX9_make_103 ?_
                      refine lv_iload hx hb dX9_make_106 (lv_at hl 0 rfl) ?_
                      refine lv_iconst (v := (-1)) hx hb dX9_make_108 (by decide) ?_
                      refine va_iast (n := 40) (f := F23 16) hx hb hK hP hD hS 17 16 rfl rfl (vp_in_nI (n := n) (by omega) (by decide)) dX9_make_109 (fun H locs hP hD hS => ?_)
                      rw [mW_set_16] at hP hD
                      obtain ⟨F24, eF24⟩ : ∃ f9 : Nat → Nat → Int32, f9 = va_up F23 16 (upd (F23 16) (nI n).toNatClampNeg (-1)) := ⟨_, rfl⟩
                      rw [← eF24] at hP hD
                      replace hZ9 := bnd_s hZ9 eF24
                      replace hI : StM n (b) F V F24 V := ⟨by rw [eF24]; exact hI.1.setF (by decide), trivial⟩
                      replace hU : ∀ j : Nat, j ∉ ([0, 1, 2, 4, 6, 16] : List Nat) → F24 j = F j := by rw [eF24]; exact mw_up (by decide) hU
                      refine lv_aload_n hx hb dX9_make_110 rfl (lv_at hl 1 rfl) ?_
                      refine lv_dup hx hb dX9_make_111 rfl ?_
                      refine va_get (D := (dC, dI)) (ci := 10) (v := .int (V 21)) (C := RX9) (T := TX9) (N := 46) hx hb hts in_w_make_X9 hown hK hP 0 rfl rfl 21 (by decide) (hts (.fieldLink RX9 126 "ServiceTreeModel" "services" "I") (by decide +kernel)) (fun _ h9 => h9) rfl dX9_make_112 ?_
                      refine p1_topr (v := .int (nI n)) (congrArg Value.int hI.1.2.1) ?_
                      refine lv_iconst (v := 1) hx hb dX9_make_115 (by decide) ?_
                      refine lv_iadd hx hb dX9_make_116 ?_
                      refine p1_topr (v := .int (nI (n + 1))) (congrArg Value.int (nI_add n 1)) ?_
                      refine va_put (D := (dC, dI)) (ci := 10) (fs := mF a V) (v := .int (nI (n + 1))) (ty := .int) (C := RX9) (T := TX9) (N := 46) hx hb hts in_w_make_X9 tyX9 tyX9_ok nmX9 hown hK hP hD hS 0 rfl rfl 21 (by decide) (hts (.fieldLink RX9 126 "ServiceTreeModel" "services" "I") (by decide +kernel)) (fun _ h9 => h9) rfl (by decide +kernel) rfl rfl (Nat.le_of_ble_eq_true rfl) dX9_make_117 (fun H locs hP hD hS => ?_)
                      rw [mW_put_21] at hP hD
                      obtain ⟨V25, eV25⟩ : ∃ f9 : Nat → Int32, f9 = va_up V 21 (nI (n + 1)) := ⟨_, rfl⟩
                      rw [← eV25] at hP hD
                      replace hZ9 := bnd_s hZ9 eV25
                      replace hI : StM (n + 1) (b) F V F24 V25 := ⟨by rw [eV25]; exact hI.1.put21 (by omega), trivial⟩
                      replace hV : ∀ j : Nat, j ∉ ([21] : List Nat) → V25 j = V j := by rw [eV25]; exact mw_up (by decide) hV
                      refine lv_iload hx hb dX9_make_120 (lv_at hl 0 rfl) ?_
                      exact W.iret (v := (nI n)) hx hb hr (fun t ht hW => ⟨⟨(nI n), (F24, V25), rfl, ⟨Or.inl ⟨(by have k0 := c1; have k1 := c2; have k2 := c3; have k3 := c4; have k4 := c5; have k5 := c6; have k6 := c7; have k7 := c16; have k8 := c17; simp only [p1_le, p1_lt, p1_eq, p1_m6, p1_m1, p1_0, p1_1, p1_2, p1_3, p1_4, p1_5, p1_6, p1_7, p1_8, p1_9, p1_10, p1_11, p1_12, p1_13, p1_14, p1_15, p1_16, p1_17, p1_18, p1_19, p1_20, p1_40, p1_50, p1_200, p1_1000] at k0 k1 k2 k3 k4 k5 k6 k7 k8 ⊢; omega), by omega, rfl, hI.1, hU, hV, by simp [eF24, eF23, eF22, eF21, eF20, eF19, va_up]⟩, hZ9.symm.trans hR0⟩, by rw [ht]; exact hP, hD⟩, hS.F ht⟩) hS.2.2 dX9_make_122
                    · replace c18 : n = 40 := (nI_eq (a := n) (b := 40) (by omega) (by omega)).mp c18
                      replace hZ9 := ite_t hZ9 c18
                      refine lv_bipush (v := (-6)) hx hb dX9_make_53 (by decide) ?_
                      exact W.iret (v := (-6)) hx hb hr (fun t ht hW => ⟨⟨(-6), (F, V), rfl, ⟨Or.inr ⟨Or.inr (by omega), (if_pos (by have k0 := c1; have k1 := c2; have k2 := c3; have k3 := c4; have k4 := c5; have k5 := c6; have k6 := c7; have k7 := c16; have k8 := c17; simp only [p1_le, p1_lt, p1_eq, p1_m6, p1_m1, p1_0, p1_1, p1_2, p1_3, p1_4, p1_5, p1_6, p1_7, p1_8, p1_9, p1_10, p1_11, p1_12, p1_13, p1_14, p1_15, p1_16, p1_17, p1_18, p1_19, p1_20, p1_40, p1_50, p1_200, p1_1000] at k0 k1 k2 k3 k4 k5 k6 k7 k8 ⊢; omega)).symm, rfl, rfl⟩, hZ9.symm.trans hR0⟩, by rw [ht]; exact hP, hD⟩, hS.F ht⟩) hS.2.2 dX9_make_55
                  · replace hZ9 := ite_f hZ9 c17
                    refine lv_iconst (v := (-1)) hx hb dX9_make_42 (by decide) ?_
                    exact W.iret (v := (-1)) hx hb hr (fun t ht hW => ⟨⟨(-1), (F, V), rfl, ⟨Or.inr ⟨Or.inl (by have k0 := c1; have k1 := c2; have k2 := c3; have k3 := c4; have k4 := c5; have k5 := c6; have k6 := c7; have k7 := c16; have k8 := c17; simp only [p1_le, p1_lt, p1_eq, p1_m6, p1_m1, p1_0, p1_1, p1_2, p1_3, p1_4, p1_5, p1_6, p1_7, p1_8, p1_9, p1_10, p1_11, p1_12, p1_13, p1_14, p1_15, p1_16, p1_17, p1_18, p1_19, p1_20, p1_40, p1_50, p1_200, p1_1000] at k0 k1 k2 k3 k4 k5 k6 k7 k8 ⊢; omega), (if_neg (by have k0 := c1; have k1 := c2; have k2 := c3; have k3 := c4; have k4 := c5; have k5 := c6; have k6 := c7; have k7 := c16; have k8 := c17; simp only [p1_le, p1_lt, p1_eq, p1_m6, p1_m1, p1_0, p1_1, p1_2, p1_3, p1_4, p1_5, p1_6, p1_7, p1_8, p1_9, p1_10, p1_11, p1_12, p1_13, p1_14, p1_15, p1_16, p1_17, p1_18, p1_19, p1_20, p1_40, p1_50, p1_200, p1_1000] at k0 k1 k2 k3 k4 k5 k6 k7 k8 ⊢; omega)).symm, rfl, rfl⟩, hZ9.symm.trans hR0⟩, by rw [ht]; exact hP, hD⟩, hS.F ht⟩) hS.2.2 dX9_make_43

end
