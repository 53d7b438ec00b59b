section
def f_w_endJobs_2 (n : Nat)  : Nat → Nat → (Nat → Nat → Int32) → (Nat → Int32) → (Nat → (Nat → Nat → Int32) → (Nat → Int32) → (Nat → Nat → Int32) × (Nat → Int32)) → (Nat → Nat → Int32) × (Nat → Int32)
  | 0, i1, F5, V6, K9_2 => K9_2 i1 F5 V6
  | fu2 + 1, i1, F5, V6, K9_2 => if n ≤ i1 then (K9_2 i1 F5 V6) else (bnd (F5 25 (nI i1).toNatClampNeg) (fun (x8 : Int32) => if x8 = (0 : Int32) then (f_w_endJobs_2 n  fu2 (i1 + 1) F5 V6 K9_2) else (bnd (F5 26 (nI i1).toNatClampNeg) (fun (x10 : Int32) => if x10 = (0 : Int32) then (f_w_endJobs_2 n  fu2 (i1 + 1) F5 V6 K9_2) else (if x8 = (1 : Int32) then (bnd (F5 7 (nI i1).toNatClampNeg) (fun (x17 : Int32) => if x17 = (1 : Int32) then (f_w_endJobs_2 n  fu2 (i1 + 1) F5 V6 K9_2) else (bnd (va_up F5 25 (upd (F5 25) (nI i1).toNatClampNeg 0)) (fun (F19 : Nat → Nat → Int32) => f_w_endJobs_2 n  fu2 (i1 + 1) F19 V6 K9_2)))) else (bnd (F5 7 (nI i1).toNatClampNeg) (fun (x14 : Int32) => if x14 = (0 : Int32) then (bnd (va_up F5 25 (upd (F5 25) (nI i1).toNatClampNeg 0)) (fun (F16 : Nat → Nat → Int32) => f_w_endJobs_2 n  fu2 (i1 + 1) F16 V6 K9_2)) else (f_w_endJobs_2 n  fu2 (i1 + 1) F5 V6 K9_2))))))))
def f_w_endJobs (n : Nat)  (F : Nat → Nat → Int32) (V : Nat → Int32) : (Nat → Nat → Int32) × (Nat → Int32) := f_w_endJobs_2 n  (n + 1) (0 : Nat) F V (fun (i1 : Nat) (F5 : Nat → Nat → Int32) (V6 : Nat → Int32) => (F5, V6))
def wq_w_endJobs : List Cond := ([.code yX9_endJobs cX9_endJobs 2 none, .fieldLink RX9 126 "ServiceTreeModel" "services" "I", .fieldLink RX9 71 "ServiceTreeModel" "job" "[I", .fieldLink RX9 74 "ServiceTreeModel" "hasBegun" "[Z", .fieldLink RX9 31 "ServiceTreeModel" "state" "[I"] : List Cond) ++ (wsX90)
theorem in_w_endJobs_X9 : ∀ w ∈ wsX90, w ∈ wq_w_endJobs := fun _ h => List.mem_append_right _ (h)
set_option maxRecDepth 20000 in
theorem wi_w_endJobs : ∀ w ∈ wq_w_endJobs, w ∈ lw_tbl := List.forall_mem_append.mpr ⟨(wix [1101, 873, 877, 878, 859] rfl), inKX9⟩
set_option maxRecDepth 20000 in
theorem wg_w_endJobs : GoodIn wq_w_endJobs wq_w_endJobs := goodIn_sub (fun _ h => h) (by decide +kernel)
def rm_w_endJobs : Room := { frames := 0, cells := 0, slots := 0, locals := 0 }
set_option maxHeartbeats 4000000 in
set_option maxRecDepth 100000 in
theorem c_w_endJobs (l : Launch) (dC : Nat → ClassId) (dI : Nat → Nat → Nat) (h : Nat) (a : Nat → Nat) (k : Nat → ClassId) (F : Nat → Nat → Int32) (V : Nat → Int32) (n b : Nat)  (sz : Nat) (hI0 : InvM n b F V) (hb0 : b + 0 < 2147483648)  : Met l yX9_endJobs wq_w_endJobs rm_w_endJobs (va_Pc [.ref h] (fun U => U.heap.size = sz ∧ va_P (dC, dI) vwCl (mW h a k F V) U.heap ∧ va_K (dC, dI) vwCl (mT k) U ∧ va_D (fun _ => True) (mW h a k F V))) (va_Qv (fun (u : (Nat → Nat → Int32) × (Nat → Int32)) => StM n (b + 0) F V u.1 u.2 ∧ (∀ j : Nat, j ∉ ([25] : List Nat) → u.1 j = F j) ∧ (∀ j : Nat, j ∉ ([] : List Nat) → u.2 j = V j) ∧ ((u.1, u.2) = f_w_endJobs n  F V)) (fun (u : (Nat → Nat → Int32) × (Nat → Int32)) (t : State) => va_P (dC, dI) vwCl (mW h a k u.1 u.2) t.heap ∧ va_D (va_A (mW h a k F V) sz) (mW h a k u.1 u.2)) (va_A (mW h a k F V) sz)) 0 0 (va_A (mW h a k F V) sz) := by
  have hn : n ≤ 40 := hI0.1
  have hI : StM n b F V F V := StM.rf hI0
  have hU : ∀ j : Nat, j ∉ ([25] : List Nat) → F j = F j := fun _ _ => rfl
  have hV : ∀ j : Nat, j ∉ ([] : List Nat) → V j = V j := fun _ _ => rfl
  refine Met.ofW (cc := cX9_endJobs) (maxL := 2) (ret := none) (by decide) rfl ?_
  intro p e s m args below meth c s₁ B hml hv
  obtain ⟨rfl, hsz, hP, hK, hD0⟩ := hv
  have hx := B.exec
  have hb := B.bytes
  have hr := B.returns
  have hts := atoms_spec (ws := wq_w_endJobs) B.pre
  have hown : s.vm.findClass RX9 = some m.cls := findClass_of_methodNamed B.named
  have hlocks := B.notSynchronized
  subst hsz
  have hD := hD0.self (sz := s.heap.size)
  generalize hAe : va_A (mW h a k F V) s.heap.size = A at hD ⊢
  have hA : ∀ q : Nat, s.heap.size ≤ q → A q := fun q h => by rw [← hAe]; exact Or.inr h
  have hS : va_S A s.heap s.heap [] := va_S.rf
  have hl := lv_entry ([.ref h]) (n := 2) (Nat.le_of_ble_eq_true rfl)
  rw [lg_entry_eq]
  generalize (lg_sl ([.ref h]) ++ List.replicate (2 - (lg_sl ([.ref h])).length) Slot.unset).toArray = ls at hl ⊢
  have hl : lv_has ls 2 [(0, .ref h)] := hl
  refine mw_Q (fun Q0 hQ => ?_)
  obtain ⟨RES, hR0⟩ : ∃ R9, R9 = f_w_endJobs n  F V := ⟨_, rfl⟩
  have hZ9 := hR0
  unfold f_w_endJobs at hZ9
  refine lv_iconst (v := 0) hx hb dX9_endJobs_0 (by decide) ?_
  refine lv_istore_n (lv' := [(1, .int 0), (0, .ref h)]) hx hb dX9_endJobs_1 rfl hl (by decide) rfl (fun ls hl => ?_)
  obtain ⟨K9_2, hK9_2, hZ9⟩ := lp_gen hZ9
  have lp4 : ∀ (fu2 i1 : Nat)  (F5 : Nat → Nat → Int32) (V6 : Nat → Int32) (H : Heap) (locs : List Loc) (ls : Array Slot), n < i1 + fu2 → i1 ≤ n → StM n (b) F V F5 V6 → (∀ j : Nat, j ∉ ([25] : List Nat) → F5 j = F j) → (∀ j : Nat, j ∉ ([] : List Nat) → V6 j = V j) → RES = f_w_endJobs_2 n  fu2 i1 F5 V6 K9_2 → va_P (dC, dI) vwCl (mW h a k F5 V6) H → va_D A (mW h a k F5 V6) → va_S A s.heap H locs → lv_has ls 2 [(1, .int (nI i1)), (0, .ref h)] → W p l e (headSpec wq_w_endJobs rm_w_endJobs).room s m ([.ref h] : List Value).toArray below meth c H locs 0 0 Q0 (F0 m 2 ls []) := by
    intro fu2
    induction fu2 with
    | zero =>
      intro i1  F5 V6 H locs ls hf hi
      exact absurd hf (by omega)
    | succ fu2 ih3 =>
      intro i1  F5 V6 H locs ls hfi1 hii1 hI hU hV hZ9 hP hD hS hl
      rw [f_w_endJobs_2] at hZ9
      refine lv_iload_n hx hb dX9_endJobs_2 rfl (lv_at hl 0 rfl) ?_
      refine lv_aload_n hx hb dX9_endJobs_3 rfl (lv_at hl 1 rfl) ?_
      refine va_get (D := (dC, dI)) (ci := 10) (v := .int (V6 21)) (C := RX9) (T := TX9) (N := 46) hx hb hts in_w_endJobs_X9 hown hK hP 0 rfl rfl 21 (by decide) (hts (.fieldLink RX9 126 "ServiceTreeModel" "services" "I") (by decide +kernel)) (fun _ h9 => h9) rfl dX9_endJobs_4 ?_
      refine p1_topr (v := .int (nI n)) (congrArg Value.int hI.1.2.1) ?_
      refine lv_icmp_ge (tgt := 73) hx hb dX9_endJobs_7 (by decide) (fun c7 => ?_) (fun c7 => ?_)
      · replace c7 : n ≤ i1 := (nI_leI (a := n) (b := i1) (by omega) (by omega)).mp c7
        replace hZ9 := ite_t hZ9 c7
        replace hZ9 := lp_app3 hK9_2 hZ9
        rw [hQ]
        exact W.vret hx hb hr (fun t ht hW => ⟨⟨(F5, V6), rfl, ⟨hI.mono (by omega), hU, hV, hZ9.symm.trans hR0⟩, by rw [ht]; exact hP, hD⟩, hS.F ht⟩) hS.2.2 dX9_endJobs_73
      · replace c7 : ¬ (n ≤ i1) := fun q9 => c7 ((nI_leI (a := n) (b := i1) (by omega) (by omega)).mpr q9)
        replace hZ9 := ite_f hZ9 c7
        refine lv_aload_n hx hb dX9_endJobs_10 rfl (lv_at hl 1 rfl) ?_
        refine va_get (D := (dC, dI)) (ci := 10) (v := .ref (a 25)) (C := RX9) (T := TX9) (N := 46) hx hb hts in_w_endJobs_X9 hown hK hP 0 rfl rfl 25 (by decide) (hts (.fieldLink RX9 71 "ServiceTreeModel" "job" "[I") (by decide +kernel)) (fun _ h9 => h9) rfl dX9_endJobs_11 ?_
        refine lv_iload_n hx hb dX9_endJobs_14 rfl (lv_at hl 0 rfl) ?_
        refine va_iald (n := 40) (f := F5 25) hx hb hK hP 21 20 rfl rfl (vp_in_nI (n := i1) (by omega) (by decide)) dX9_endJobs_15 ?_
        refine lv_topi (fun x8 ex8 => ?_)
        replace hZ9 := bnd_s hZ9 ex8
        refine lv_if_eq (tgt := 67) hx hb dX9_endJobs_16 (by decide) (fun c9 => ?_) (fun c9 => ?_)
        · replace hZ9 := ite_t hZ9 c9
          refine lv_iinc (v := nI (i1 + 1)) (lv' := [(1, .int (nI (i1 + 1))), (0, .ref h)]) hx hb dX9_endJobs_67 hl (k := 0) rfl (nI_add i1 1) (by decide) rfl (fun ls hl => ?_)
          refine lv_goto (tgt := 2) hx hb dX9_endJobs_70 (by decide) ?_
          exact ih3 (i1 + 1)  F5 V6 _ _ _ (by omega) (by omega) (hI.mono (by omega)) hU hV  hZ9 hP hD hS (lv_sub hl [0, 1] rfl)
        · replace hZ9 := ite_f hZ9 c9
          refine lv_aload_n hx hb dX9_endJobs_19 rfl (lv_at hl 1 rfl) ?_
          refine va_get (D := (dC, dI)) (ci := 10) (v := .ref (a 26)) (C := RX9) (T := TX9) (N := 46) hx hb hts in_w_endJobs_X9 hown hK hP 0 rfl rfl 26 (by decide) (hts (.fieldLink RX9 74 "ServiceTreeModel" "hasBegun" "[Z") (by decide +kernel)) (fun _ h9 => h9) rfl dX9_endJobs_20 ?_
          refine lv_iload_n hx hb dX9_endJobs_23 rfl (lv_at hl 0 rfl) ?_
          refine va_zald (n := 40) (f := F5 26) hx hb hK hP 22 21 rfl rfl (vp_in_nI (n := i1) (by omega) (by decide)) dX9_endJobs_24 ?_
          refine lv_topi (fun x10 ex10 => ?_)
          replace hZ9 := bnd_s hZ9 ex10
          refine lv_if_eq (tgt := 67) hx hb dX9_endJobs_25 (by decide) (fun c11 => ?_) (fun c11 => ?_)
          · replace hZ9 := ite_t hZ9 c11
            refine lv_iinc (v := nI (i1 + 1)) (lv' := [(1, .int (nI (i1 + 1))), (0, .ref h)]) hx hb dX9_endJobs_67 hl (k := 0) rfl (nI_add i1 1) (by decide) rfl (fun ls hl => ?_)
            refine lv_goto (tgt := 2) hx hb dX9_endJobs_70 (by decide) ?_
            exact ih3 (i1 + 1)  F5 V6 _ _ _ (by omega) (by omega) (hI.mono (by omega)) hU hV  hZ9 hP hD hS (lv_sub hl [0, 1] rfl)
          · replace hZ9 := ite_f hZ9 c11
            refine lv_aload_n hx hb dX9_endJobs_28 rfl (lv_at hl 1 rfl) ?_
            refine va_get (D := (dC, dI)) (ci := 10) (v := .ref (a 25)) (C := RX9) (T := TX9) (N := 46) hx hb hts in_w_endJobs_X9 hown hK hP 0 rfl rfl 25 (by decide) (hts (.fieldLink RX9 71 "ServiceTreeModel" "job" "[I") (by decide +kernel)) (fun _ h9 => h9) rfl dX9_endJobs_29 ?_
            refine lv_iload_n hx hb dX9_endJobs_32 rfl (lv_at hl 0 rfl) ?_
            refine va_iald (n := 40) (f := F5 25) hx hb hK hP 21 20 rfl rfl (vp_in_nI (n := i1) (by omega) (by decide)) dX9_endJobs_33 ?_
            refine p1_topr (v := .int x8) (congrArg Value.int ex8.symm) ?_
            refine lv_iconst (v := 1) hx hb dX9_endJobs_34 (by decide) ?_
            refine lv_icmp_ne (tgt := 51) hx hb dX9_endJobs_35 (by decide) (fun c13 => ?_) (fun c13 => ?_)
            · replace hZ9 := ite_f hZ9 c13
              refine lv_aload_n hx hb dX9_endJobs_51 rfl (lv_at hl 1 rfl) ?_
              refine va_get (D := (dC, dI)) (ci := 10) (v := .ref (a 7)) (C := RX9) (T := TX9) (N := 46) hx hb hts in_w_endJobs_X9 hown hK hP 0 rfl rfl 7 (by decide) (hts (.fieldLink RX9 31 "ServiceTreeModel" "state" "[I") (by decide +kernel)) (fun _ h9 => h9) rfl dX9_endJobs_52 ?_
              refine lv_iload_n hx hb dX9_endJobs_55 rfl (lv_at hl 0 rfl) ?_
              refine va_iald (n := 40) (f := F5 7) hx hb hK hP 8 7 rfl rfl (vp_in_nI (n := i1) (by omega) (by decide)) dX9_endJobs_56 ?_
              refine lv_topi (fun x14 ex14 => ?_)
              replace hZ9 := bnd_s hZ9 ex14
              refine lv_if_ne (tgt := 67) hx hb dX9_endJobs_57 (by decide) (fun c15 => ?_) (fun c15 => ?_)
              · replace hZ9 := ite_f hZ9 c15
                refine lv_iinc (v := nI (i1 + 1)) (lv' := [(1, .int (nI (i1 + 1))), (0, .ref h)]) hx hb dX9_endJobs_67 hl (k := 0) rfl (nI_add i1 1) (by decide) rfl (fun ls hl => ?_)
                refine lv_goto (tgt := 2) hx hb dX9_endJobs_70 (by decide) ?_
                exact ih3 (i1 + 1)  F5 V6 _ _ _ (by omega) (by omega) (hI.mono (by omega)) hU hV  hZ9 hP hD hS (lv_sub hl [0, 1] rfl)
              · replace hZ9 := ite_t hZ9 c15
                refine lv_aload_n hx hb dX9_endJobs_60 rfl (lv_at hl 1 rfl) ?_
                refine va_get (D := (dC, dI)) (ci := 10) (v := .ref (a 25)) (C := RX9) (T := TX9) (N := 46) hx hb hts in_w_endJobs_X9 hown hK hP 0 rfl rfl 25 (by decide) (hts (.fieldLink RX9 71 "ServiceTreeModel" "job" "[I") (by decide +kernel)) (fun _ h9 => h9) rfl dX9_endJobs_61 ?_
                refine lv_iload_n hx hb dX9_endJobs_64 rfl (lv_at hl 0 rfl) ?_
                refine lv_iconst (v := 0) hx hb dX9_endJobs_65 (by decide) ?_
                refine va_iast (n := 40) (f := F5 25) hx hb hK hP hD hS 21 20 rfl rfl (vp_in_nI (n := i1) (by omega) (by decide)) dX9_endJobs_66 (fun H locs hP hD hS => ?_)
                rw [mW_set_25] at hP hD
                obtain ⟨F16, eF16⟩ : ∃ f9 : Nat → Nat → Int32, f9 = va_up F5 25 (upd (F5 25) (nI i1).toNatClampNeg 0) := ⟨_, rfl⟩
                rw [← eF16] at hP hD
                replace hZ9 := bnd_s hZ9 eF16
                replace hI : StM n (b) F V F16 V6 := ⟨by rw [eF16]; exact hI.1.setF (by decide), trivial⟩
                replace hU : ∀ j : Nat, j ∉ ([25] : List Nat) → F16 j = F j := by rw [eF16]; exact mw_up (by decide) hU
                refine lv_iinc (v := nI (i1 + 1)) (lv' := [(1, .int (nI (i1 + 1))), (0, .ref h)]) hx hb dX9_endJobs_67 hl (k := 0) rfl (nI_add i1 1) (by decide) rfl (fun ls hl => ?_)
                refine lv_goto (tgt := 2) hx hb dX9_endJobs_70 (by decide) ?_
                exact ih3 (i1 + 1)  F16 V6 _ _ _ (by omega) (by omega) (hI.mono (by omega)) hU hV  hZ9 hP hD hS (lv_sub hl [0, 1] rfl)
            · replace hZ9 := ite_t hZ9 c13
              refine lv_aload_n hx hb dX9_endJobs_38 rfl (lv_at hl 1 rfl) ?_
              refine va_get (D := (dC, dI)) (ci := 10) (v := .ref (a 7)) (C := RX9) (T := TX9) (N := 46) hx hb hts in_w_endJobs_X9 hown hK hP 0 rfl rfl 7 (by decide) (hts (.fieldLink RX9 31 "ServiceTreeModel" "state" "[I") (by decide +kernel)) (fun _ h9 => h9) rfl dX9_endJobs_39 ?_
              refine lv_iload_n hx hb dX9_endJobs_42 rfl (lv_at hl 0 rfl) ?_
              refine va_iald (n := 40) (f := F5 7) hx hb hK hP 8 7 rfl rfl (vp_in_nI (n := i1) (by omega) (by decide)) dX9_endJobs_43 ?_
              refine lv_topi (fun x17 ex17 => ?_)
              replace hZ9 := bnd_s hZ9 ex17
              refine lv_iconst (v := 1) hx hb dX9_endJobs_44 (by decide) ?_
              refine lv_icmp_eq (tgt := 67) hx hb dX9_endJobs_45 (by decide) (fun c18 => ?_) (fun c18 => ?_)
              · replace hZ9 := ite_t hZ9 c18
                refine lv_iinc (v := nI (i1 + 1)) (lv' := [(1, .int (nI (i1 + 1))), (0, .ref h)]) hx hb dX9_endJobs_67 hl (k := 0) rfl (nI_add i1 1) (by decide) rfl (fun ls hl => ?_)
                refine lv_goto (tgt := 2) hx hb dX9_endJobs_70 (by decide) ?_
                exact ih3 (i1 + 1)  F5 V6 _ _ _ (by omega) (by omega) (hI.mono (by omega)) hU hV  hZ9 hP hD hS (lv_sub hl [0, 1] rfl)
              · replace hZ9 := ite_f hZ9 c18
                refine lv_goto (tgt := 60) hx hb dX9_endJobs_48 (by decide) ?_
                refine lv_aload_n hx hb dX9_endJobs_60 rfl (lv_at hl 1 rfl) ?_
                refine va_get (D := (dC, dI)) (ci := 10) (v := .ref (a 25)) (C := RX9) (T := TX9) (N := 46) hx hb hts in_w_endJobs_X9 hown hK hP 0 rfl rfl 25 (by decide) (hts (.fieldLink RX9 71 "ServiceTreeModel" "job" "[I") (by decide +kernel)) (fun _ h9 => h9) rfl dX9_endJobs_61 ?_
                refine lv_iload_n hx hb dX9_endJobs_64 rfl (lv_at hl 0 rfl) ?_
                refine lv_iconst (v := 0) hx hb dX9_endJobs_65 (by decide) ?_
                refine va_iast (n := 40) (f := F5 25) hx hb hK hP hD hS 21 20 rfl rfl (vp_in_nI (n := i1) (by omega) (by decide)) dX9_endJobs_66 (fun H locs hP hD hS => ?_)
                rw [mW_set_25] at hP hD
                obtain ⟨F19, eF19⟩ : ∃ f9 : Nat → Nat → Int32, f9 = va_up F5 25 (upd (F5 25) (nI i1).toNatClampNeg 0) := ⟨_, rfl⟩
                rw [← eF19] at hP hD
                replace hZ9 := bnd_s hZ9 eF19
                replace hI : StM n (b) F V F19 V6 := ⟨by rw [eF19]; exact hI.1.setF (by decide), trivial⟩
                replace hU : ∀ j : Nat, j ∉ ([25] : List Nat) → F19 j = F j := by rw [eF19]; exact mw_up (by decide) hU
                refine lv_iinc (v := nI (i1 + 1)) (lv' := [(1, .int (nI (i1 + 1))), (0, .ref h)]) hx hb dX9_endJobs_67 hl (k := 0) rfl (nI_add i1 1) (by decide) rfl (fun ls hl => ?_)
                refine lv_goto (tgt := 2) hx hb dX9_endJobs_70 (by decide) ?_
                exact ih3 (i1 + 1)  F19 V6 _ _ _ (by omega) (by omega) (hI.mono (by omega)) hU hV  hZ9 hP hD hS (lv_sub hl [0, 1] rfl)
  exact lp4 (n + 1) 0  F V _ _ _ (by omega) (by omega) (hI.mono (by omega)) hU hV  hZ9 hP hD hS hl
def f_w_beginOne (n : Nat) (sv : Nat) (F : Nat → Nat → Int32) (V : Nat → Int32) : (Nat → Nat → Int32) × (Nat → Int32) := bnd (va_up F 26 (upd (F 26) (nI sv).toNatClampNeg (vp_nar .boolean 1))) (fun (F1 : Nat → Nat → Int32) => bnd (F1 25 (nI sv).toNatClampNeg) (fun (x2 : Int32) => if x2 = (1 : Int32) then (bnd (f_w_hasNeeds n sv F1) (fun (r25 : Int32) => if r25 = (0 : Int32) then (bnd (va_up F1 25 (upd (F1 25) (nI sv).toNatClampNeg 0)) (fun (F37 : Nat → Nat → Int32) => (F37, V))) else (bnd (F1 1 (nI sv).toNatClampNeg) (fun (x29 : Int32) => if x29 = (0 : Int32) then (bn2 (f_w_to n sv 2 F1 V) (fun (F35 : Nat → Nat → Int32) (V36 : Nat → Int32) => (F35, V36))) else (bn2 (f_w_to n sv 1 F1 V) (fun (F32 : Nat → Nat → Int32) (V33 : Nat → Int32) => (F32, V33))))))) else (bnd (F1 7 (nI sv).toNatClampNeg) (fun (x4 : Int32) => bnd (f_w_rests n x4 ) (fun (r5 : Int32) => if r5 = (0 : Int32) then (if x4 = (3 : Int32) then ((F1, V)) else (bnd (F1 2 (nI sv).toNatClampNeg) (fun (x11 : Int32) => if x11 = (0 : Int32) then (bn2 (f_w_to n sv 0 F1 V) (fun (F14 : Nat → Nat → Int32) (V15 : Nat → Int32) => (F14, V15))) else (if x4 = (5 : Int32) then (bn2 (f_w_to n sv 0 F1 V) (fun (F22 : Nat → Nat → Int32) (V23 : Nat → Int32) => (F22, V23))) else (bn2 (f_w_to n sv 3 F1 V) (fun (F19 : Nat → Nat → Int32) (V20 : Nat → Int32) => (F19, V20))))))) else (bnd (va_up F1 25 (upd (F1 25) (nI sv).toNatClampNeg 0)) (fun (F24 : Nat → Nat → Int32) => (F24, V))))))))
def wq_w_beginOne : List Cond := ([.code yX9_beginOne cX9_beginOne 2 none, .fieldLink RX9 74 "ServiceTreeModel" "hasBegun" "[Z", .fieldLink RX9 71 "ServiceTreeModel" "job" "[I", .fieldLink RX9 31 "ServiceTreeModel" "state" "[I", .fieldLink RX9 16 "ServiceTreeModel" "stop" "[I", .fieldLink RX9 13 "ServiceTreeModel" "start" "[I", .methodLink RX9 147 yX9_rests, .static yX9_rests, .initialized RX9, .methodLink RX9 211 yX9_to, .instanceMethod yX9_to, .selects RX9 yX9_to yX9_to, .methodLink RX9 231 yX9_hasNeeds, .instanceMethod yX9_hasNeeds, .selects RX9 yX9_hasNeeds yX9_hasNeeds] : List Cond) ++ (wsX90 ++ (wq_w_rests ++ (wq_w_to ++ (wq_w_hasNeeds))))
theorem in_w_beginOne_X9 : ∀ w ∈ wsX90, w ∈ wq_w_beginOne := fun _ h => List.mem_append_right _ (List.mem_append_left _ (h))
set_option maxRecDepth 20000 in
theorem wi_w_beginOne : ∀ w ∈ wq_w_beginOne, w ∈ lw_tbl := List.forall_mem_append.mpr ⟨(wix [1109, 878, 877, 859, 854, 853, 1020, 1021, 69, 1090, 1092, 48, 1110, 1112, 53] rfl), List.forall_mem_append.mpr ⟨inKX9, List.forall_mem_append.mpr ⟨wi_w_rests, List.forall_mem_append.mpr ⟨wi_w_to, wi_w_hasNeeds⟩⟩⟩⟩
set_option maxRecDepth 20000 in
theorem wg_w_beginOne : GoodIn wq_w_beginOne wq_w_beginOne := goodIn_sub (fun _ h => h) (by decide +kernel)
set_option maxRecDepth 20000 in
theorem wc_w_beginOne_w_rests_147 : GoodIn wq_w_beginOne (va_wsS RX9 147 yX9_rests wq_w_rests) := goodIn_app (goodIn_of _ (by decide +kernel)) (fun w h => ⟨List.mem_append_right _ (List.mem_append_right _ (List.mem_append_left _ (h))), (wg_w_rests w h).2⟩)
set_option maxRecDepth 20000 in
theorem wc_w_beginOne_w_to_211 : GoodIn wq_w_beginOne (wsV RX9 211 RX9 yX9_to wq_w_to) := goodIn_app (goodIn_of _ (by decide +kernel)) (fun w h => ⟨List.mem_append_right _ (List.mem_append_right _ (List.mem_append_right _ (List.mem_append_left _ (h)))), (wg_w_to w h).2⟩)
set_option maxRecDepth 20000 in
theorem wc_w_beginOne_w_hasNeeds_231 : GoodIn wq_w_beginOne (wsV RX9 231 RX9 yX9_hasNeeds wq_w_hasNeeds) := goodIn_app (goodIn_of _ (by decide +kernel)) (fun w h => ⟨List.mem_append_right _ (List.mem_append_right _ (List.mem_append_right _ (List.mem_append_right _ (h)))), (wg_w_hasNeeds w h).2⟩)
def rm_w_beginOne : Room := { frames := 2, cells := 0, slots := 0, locals := 46 }
set_option maxHeartbeats 4000000 in
set_option maxRecDepth 100000 in
theorem c_w_beginOne (l : Launch) (dC : Nat → ClassId) (dI : Nat → Nat → Nat) (h : Nat) (a : Nat → Nat) (k : Nat → ClassId) (F : Nat → Nat → Int32) (V : Nat → Int32) (n b : Nat) (sv : Nat) (sz : Nat) (hI0 : InvM n b F V) (hb0 : b + 2 < 2147483648) (hp0 : sv < n) : Met l yX9_beginOne wq_w_beginOne rm_w_beginOne (va_Pc [.ref h, .int (nI sv)] (fun U => U.heap.size = sz ∧ va_P (dC, dI) vwCl (mW h a k F V) U.heap ∧ va_K (dC, dI) vwCl (mT k) U ∧ va_D (fun _ => True) (mW h a k F V))) (va_Qv (fun (u : (Nat → Nat → Int32) × (Nat → Int32)) => StM n (b + 2) F V u.1 u.2 ∧ (∀ j : Nat, j ∉ ([7, 8, 9, 11, 12, 25, 26, 42, 43, 44] : List Nat) → u.1 j = F j) ∧ (∀ j : Nat, j ∉ ([45] : List Nat) → u.2 j = V j) ∧ (((u.1, u.2) = f_w_beginOne n sv F V) ∧ (u.1 26 = upd (F 26) (nI sv).toNatClampNeg (vp_nar .boolean 1)))) (fun (u : (Nat → Nat → Int32) × (Nat → Int32)) (t : State) => va_P (dC, dI) vwCl (mW h a k u.1 u.2) t.heap ∧ va_D (va_A (mW h a k F V) sz) (mW h a k u.1 u.2)) (va_A (mW h a k F V) sz)) 0 0 (va_A (mW h a k F V) sz) := by
  have hn : n ≤ 40 := hI0.1
  have hI : StM n b F V F V := StM.rf hI0
  have hU : ∀ j : Nat, j ∉ ([7, 8, 9, 11, 12, 25, 26, 42, 43, 44] : List Nat) → F j = F j := fun _ _ => rfl
  have hV : ∀ j : Nat, j ∉ ([45] : List Nat) → V j = V j := fun _ _ => rfl
  refine Met.ofW (cc := cX9_beginOne) (maxL := 2) (ret := none) (by decide) rfl ?_
  intro p e s m args below meth c s₁ B hml hv
  obtain ⟨rfl, hsz, hP, hK, hD0⟩ := hv
  have hx := B.exec
  have hb := B.bytes
  have hr := B.returns
  have hts := atoms_spec (ws := wq_w_beginOne) B.pre
  have hown : s.vm.findClass RX9 = some m.cls := findClass_of_methodNamed B.named
  have hlocks := B.notSynchronized
  subst hsz
  have hD := hD0.self (sz := s.heap.size)
  generalize hAe : va_A (mW h a k F V) s.heap.size = A at hD ⊢
  have hA : ∀ q : Nat, s.heap.size ≤ q → A q := fun q h => by rw [← hAe]; exact Or.inr h
  have hS : va_S A s.heap s.heap [] := va_S.rf
  have hl := lv_entry ([.ref h, .int (nI sv)]) (n := 2) (Nat.le_of_ble_eq_true rfl)
  rw [lg_entry_eq]
  generalize (lg_sl ([.ref h, .int (nI sv)]) ++ List.replicate (2 - (lg_sl ([.ref h, .int (nI sv)])).length) Slot.unset).toArray = ls at hl ⊢
  have hl : lv_has ls 2 [(0, .ref h), (1, .int (nI sv))] := hl
  obtain ⟨RES, hR0⟩ : ∃ R9, R9 = f_w_beginOne n sv F V := ⟨_, rfl⟩
  have hZ9 := hR0
  unfold f_w_beginOne at hZ9
  have t26 : F 26 = F 26 := rfl
  refine lv_aload_n hx hb dX9_beginOne_0 rfl (lv_at hl 0 rfl) ?_
  refine va_get (D := (dC, dI)) (ci := 10) (v := .ref (a 26)) (C := RX9) (T := TX9) (N := 46) hx hb hts in_w_beginOne_X9 hown hK hP 0 rfl rfl 26 (by decide) (hts (.fieldLink RX9 74 "ServiceTreeModel" "hasBegun" "[Z") (by decide +kernel)) (fun _ h9 => h9) rfl dX9_beginOne_1 ?_
  refine lv_iload_n hx hb dX9_beginOne_4 rfl (lv_at hl 1 rfl) ?_
  refine lv_iconst (v := 1) hx hb dX9_beginOne_5 (by decide) ?_
  refine va_zast (n := 40) (f := F 26) hx hb hK hP hD hS 22 21 rfl rfl (vp_in_nI (n := sv) (by omega) (by decide)) dX9_beginOne_6 (fun H locs hP hD hS => ?_)
  rw [mW_set_26] at hP hD
  obtain ⟨F1, eF1⟩ : ∃ f9 : Nat → Nat → Int32, f9 = va_up F 26 (upd (F 26) (nI sv).toNatClampNeg (vp_nar .boolean 1)) := ⟨_, rfl⟩
  rw [← eF1] at hP hD
  replace hZ9 := bnd_s hZ9 eF1
  replace hI : StM n (b) F V F1 V := ⟨by rw [eF1]; exact hI.1.setF (by decide), trivial⟩
  replace hU : ∀ j : Nat, j ∉ ([7, 8, 9, 11, 12, 25, 26, 42, 43, 44] : List Nat) → F1 j = F j := by rw [eF1]; exact mw_up (by decide) hU
  replace t26 : F1 26 = upd (F 26) (nI sv).toNatClampNeg (vp_nar .boolean 1) := by rw [eF1, va_up_self, t26]
  refine lv_aload_n hx hb dX9_beginOne_7 rfl (lv_at hl 0 rfl) ?_
  refine va_get (D := (dC, dI)) (ci := 10) (v := .ref (a 25)) (C := RX9) (T := TX9) (N := 46) hx hb hts in_w_beginOne_X9 hown hK hP 0 rfl rfl 25 (by decide) (hts (.fieldLink RX9 71 "ServiceTreeModel" "job" "[I") (by decide +kernel)) (fun _ h9 => h9) rfl dX9_beginOne_8 ?_
  refine lv_iload_n hx hb dX9_beginOne_11 rfl (lv_at hl 1 rfl) ?_
  refine va_iald (n := 40) (f := F1 25) hx hb hK hP 21 20 rfl rfl (vp_in_nI (n := sv) (by omega) (by decide)) dX9_beginOne_12 ?_
  refine lv_topi (fun x2 ex2 => ?_)
  replace hZ9 := bnd_s hZ9 ex2
  refine lv_iconst (v := 1) hx hb dX9_beginOne_13 (by decide) ?_
  refine lv_icmp_ne (tgt := 57) hx hb dX9_beginOne_14 (by decide) (fun c3 => ?_) (fun c3 => ?_)
  · replace hZ9 := ite_f hZ9 c3
    refine lv_aload_n hx hb dX9_beginOne_57 rfl (lv_at hl 0 rfl) ?_
    refine va_get (D := (dC, dI)) (ci := 10) (v := .ref (a 7)) (C := RX9) (T := TX9) (N := 46) hx hb hts in_w_beginOne_X9 hown hK hP 0 rfl rfl 7 (by decide) (hts (.fieldLink RX9 31 "ServiceTreeModel" "state" "[I") (by decide +kernel)) (fun _ h9 => h9) rfl dX9_beginOne_58 ?_
    refine lv_iload_n hx hb dX9_beginOne_61 rfl (lv_at hl 1 rfl) ?_
    refine va_iald (n := 40) (f := F1 7) hx hb hK hP 8 7 rfl rfl (vp_in_nI (n := sv) (by omega) (by decide)) dX9_beginOne_62 ?_
    refine lv_topi (fun x4 ex4 => ?_)
    replace hZ9 := bnd_s hZ9 ex4
    have hFc := mw_free hD hS hA
    refine va_calli (va_runS (As := [.int x4]) (rest := []) ⟨hx, hb, hml, hown, hts⟩ (c_w_rests l dC dI h a k F1 V n (b) x4 H.size hI.1 (by omega) ) (va_cwS 1 hts wc_w_beginOne_w_rests_147 rfl rfl rfl (by decide +kernel) ⟨Nat.le_of_ble_eq_true rfl, Nat.le_of_ble_eq_true rfl⟩) ⟨fun a9 U g mk q => by obtain ⟨q0, q1, qP, qK, qD⟩ := q; exact ⟨q0, q1, qP, va_K.moved (u := U) (U := U.calling g mk a9) (Vm.Alike.refl U.vm) qK, qD⟩, fun U hU hW => ⟨rfl, by rw [hU], by rw [hU]; exact hP, va_K.moved hW.alike hK, hD.weaken (fun _ _ _ _ => trivial)⟩⟩ rfl rfl hl.1 rfl (lv_room (Nat.le_of_ble_eq_true rfl)) dX9_beginOne_63 ⟨Nat.le_of_ble_eq_true rfl, Nat.le_of_ble_eq_true rfl⟩) hS (fun q _ h => hFc q h) hFc (fun r5 u t H1 locs ht hvm hw hB hz1 hk1 hS => ?_)
    obtain ⟨F6, V7⟩ := u
    replace hP := hB.1
    rw [ht] at hP
    replace hD : va_D A (mW h a k F6 V7) := hB.2.weaken (fun _ q _ h9 => hFc q.1 h9)
    clear hB
    generalize H1 = H at hP hS ⊢
    replace hP : va_P (dC, dI) vwCl (mW h a k F6 V7) H := hP
    obtain ⟨hwF, hwV, hw⟩ : F6 = F1 ∧ V7 = V ∧ _ := hw
    rw [hwF, hwV] at hP hD
    replace hw : r5 = f_w_rests n x4  := hw
    replace hZ9 := bnd_s hZ9 hw
    refine lv_if_eq (tgt := 79) hx hb dX9_beginOne_66 (by decide) (fun c8 => ?_) (fun c8 => ?_)
    · replace hZ9 := ite_t hZ9 c8
      refine lv_aload_n hx hb dX9_beginOne_79 rfl (lv_at hl 0 rfl) ?_
      refine va_get (D := (dC, dI)) (ci := 10) (v := .ref (a 7)) (C := RX9) (T := TX9) (N := 46) hx hb hts in_w_beginOne_X9 hown hK hP 0 rfl rfl 7 (by decide) (hts (.fieldLink RX9 31 "ServiceTreeModel" "state" "[I") (by decide +kernel)) (fun _ h9 => h9) rfl dX9_beginOne_80 ?_
      refine lv_iload_n hx hb dX9_beginOne_83 rfl (lv_at hl 1 rfl) ?_
      refine va_iald (n := 40) (f := F1 7) hx hb hK hP 8 7 rfl rfl (vp_in_nI (n := sv) (by omega) (by decide)) dX9_beginOne_84 ?_
      refine p1_topr (v := .int x4) (congrArg Value.int ex4.symm) ?_
      refine lv_iconst (v := 3) hx hb dX9_beginOne_85 (by decide) ?_
      refine lv_icmp_eq (tgt := 118) hx hb dX9_beginOne_86 (by decide) (fun c10 => ?_) (fun c10 => ?_)
      · replace hZ9 := ite_t hZ9 c10
        exact W.vret hx hb hr (fun t ht hW => ⟨⟨(F1, V), rfl, ⟨hI.mono (by omega), hU, hV, ⟨hZ9.symm.trans hR0, t26⟩⟩, by rw [ht]; exact hP, hD⟩, hS.F ht⟩) hS.2.2 dX9_beginOne_118
      · replace hZ9 := ite_f hZ9 c10
        refine lv_aload_n hx hb dX9_beginOne_89 rfl (lv_at hl 0 rfl) ?_
        refine lv_iload_n hx hb dX9_beginOne_90 rfl (lv_at hl 1 rfl) ?_
        refine lv_aload_n hx hb dX9_beginOne_91 rfl (lv_at hl 0 rfl) ?_
        refine va_get (D := (dC, dI)) (ci := 10) (v := .ref (a 2)) (C := RX9) (T := TX9) (N := 46) hx hb hts in_w_beginOne_X9 hown hK hP 0 rfl rfl 2 (by decide) (hts (.fieldLink RX9 16 "ServiceTreeModel" "stop" "[I") (by decide +kernel)) (fun _ h9 => h9) rfl dX9_beginOne_92 ?_
        refine lv_iload_n hx hb dX9_beginOne_95 rfl (lv_at hl 1 rfl) ?_
        refine va_iald (n := 40) (f := F1 2) hx hb hK hP 3 2 rfl rfl (vp_in_nI (n := sv) (by omega) (by decide)) dX9_beginOne_96 ?_
        refine lv_topi (fun x11 ex11 => ?_)
        replace hZ9 := bnd_s hZ9 ex11
        refine lv_if_eq (tgt := 110) hx hb dX9_beginOne_97 (by decide) (fun c12 => ?_) (fun c12 => ?_)
        · replace hZ9 := ite_t hZ9 c12
          refine lv_iconst (v := 0) hx hb dX9_beginOne_110 (by decide) ?_
          refine lv_goto (tgt := 115) hx hb dX9_beginOne_111 (by decide) ?_
          have hFc := mw_free hD hS hA
          refine va_callv (va_runV (As := [.int (nI sv), .int 0]) (rest := []) ⟨hx, hb, hml, hown, hts⟩ (c_w_to l dC dI h a k F1 V n (b) sv 0 H.size hI.1 (by omega) (by omega)) (cwV 2 hts wc_w_beginOne_w_to_211 rfl rfl rfl (by decide +kernel) ⟨Nat.le_of_ble_eq_true rfl, Nat.le_of_ble_eq_true rfl⟩) ⟨fun a9 U g mk q => by obtain ⟨q0, q1, qP, qK, qD⟩ := q; exact ⟨q0, q1, qP, va_K.moved (u := U) (U := U.calling g mk a9) (Vm.Alike.refl U.vm) qK, qD⟩, va_recv hK hP (ci := 10) (q0 := 0) rfl rfl, fun U hU hW => ⟨rfl, by rw [hU], by rw [hU]; exact hP, va_K.moved hW.alike hK, hD.weaken (fun _ _ _ _ => trivial)⟩⟩ rfl rfl hl.1 rfl (lv_room (Nat.le_of_ble_eq_true rfl)) dX9_beginOne_115 ⟨Nat.le_of_ble_eq_true rfl, Nat.le_of_ble_eq_true rfl⟩) hS (fun q _ h => hFc q h) hFc (fun u t H1 locs ht hvm hw hB hz1 hk1 hS => ?_)
          obtain ⟨F14, V15⟩ := u
          replace hP := hB.1
          rw [ht] at hP
          replace hD : va_D A (mW h a k F14 V15) := hB.2.weaken (fun _ q _ h9 => hFc q.1 h9)
          clear hB
          generalize H1 = H at hP hS ⊢
          replace hP : va_P (dC, dI) vwCl (mW h a k F14 V15) H := hP
          obtain ⟨hwI, hwU, hwV, hw⟩ := hw
          replace hU : ∀ j : Nat, j ∉ ([7, 8, 9, 11, 12, 25, 26, 42, 43, 44] : List Nat) → F14 j = F j := mw_tr (by decide) hwU hU
          replace hV : ∀ j : Nat, j ∉ ([45] : List Nat) → V15 j = V j := mw_tr (by decide) hwV hV
          replace hI : StM n (b + 2) F V F14 V15 := hI.trans hwI
          replace t26 : F14 26 = upd (F 26) (nI sv).toNatClampNeg (vp_nar .boolean 1) := (hwU 26 (by decide)).trans t26
          obtain ⟨hw, hwe⟩ := hw
          replace hw : (F14, V15) = f_w_to n sv 0 F1 V := hw
          replace hZ9 := bn2_s hZ9 hw
          exact W.vret hx hb hr (fun t ht hW => ⟨⟨(F14, V15), rfl, ⟨hI.mono (by omega), hU, hV, ⟨hZ9.symm.trans hR0, t26⟩⟩, by rw [ht]; exact hP, hD⟩, hS.F ht⟩) hS.2.2 dX9_beginOne_118
        · replace hZ9 := ite_f hZ9 c12
          refine lv_aload_n hx hb dX9_beginOne_100 rfl (lv_at hl 0 rfl) ?_
          refine va_get (D := (dC, dI)) (ci := 10) (v := .ref (a 7)) (C := RX9) (T := TX9) (N := 46) hx hb hts in_w_beginOne_X9 hown hK hP 0 rfl rfl 7 (by decide) (hts (.fieldLink RX9 31 "ServiceTreeModel" "state" "[I") (by decide +kernel)) (fun _ h9 => h9) rfl dX9_beginOne_101 ?_
          refine lv_iload_n hx hb dX9_beginOne_104 rfl (lv_at hl 1 rfl) ?_
          refine va_iald (n := 40) (f := F1 7) hx hb hK hP 8 7 rfl rfl (vp_in_nI (n := sv) (by omega) (by decide)) dX9_beginOne_105 ?_
          refine p1_topr (v := .int x4) (congrArg Value.int ex4.symm) ?_
          refine lv_iconst (v := 5) hx hb dX9_beginOne_106 (by decide) ?_
          refine lv_icmp_ne (tgt := 114) hx hb dX9_beginOne_107 (by decide) (fun c17 => ?_) (fun c17 => ?_)
          · replace hZ9 := ite_f hZ9 c17
            refine lv_iconst (v := 3) hx hb dX9_beginOne_114 (by decide) ?_
            have hFc := mw_free hD hS hA
            refine va_callv (va_runV (As := [.int (nI sv), .int 3]) (rest := []) ⟨hx, hb, hml, hown, hts⟩ (c_w_to l dC dI h a k F1 V n (b) sv 3 H.size hI.1 (by omega) (by omega)) (cwV 2 hts wc_w_beginOne_w_to_211 rfl rfl rfl (by decide +kernel) ⟨Nat.le_of_ble_eq_true rfl, Nat.le_of_ble_eq_true rfl⟩) ⟨fun a9 U g mk q => by obtain ⟨q0, q1, qP, qK, qD⟩ := q; exact ⟨q0, q1, qP, va_K.moved (u := U) (U := U.calling g mk a9) (Vm.Alike.refl U.vm) qK, qD⟩, va_recv hK hP (ci := 10) (q0 := 0) rfl rfl, fun U hU hW => ⟨rfl, by rw [hU], by rw [hU]; exact hP, va_K.moved hW.alike hK, hD.weaken (fun _ _ _ _ => trivial)⟩⟩ rfl rfl hl.1 rfl (lv_room (Nat.le_of_ble_eq_true rfl)) dX9_beginOne_115 ⟨Nat.le_of_ble_eq_true rfl, Nat.le_of_ble_eq_true rfl⟩) hS (fun q _ h => hFc q h) hFc (fun u t H1 locs ht hvm hw hB hz1 hk1 hS => ?_)
            obtain ⟨F19, V20⟩ := u
            replace hP := hB.1
            rw [ht] at hP
            replace hD : va_D A (mW h a k F19 V20) := hB.2.weaken (fun _ q _ h9 => hFc q.1 h9)
            clear hB
            generalize H1 = H at hP hS ⊢
            replace hP : va_P (dC, dI) vwCl (mW h a k F19 V20) H := hP
            obtain ⟨hwI, hwU, hwV, hw⟩ := hw
            replace hU : ∀ j : Nat, j ∉ ([7, 8, 9, 11, 12, 25, 26, 42, 43, 44] : List Nat) → F19 j = F j := mw_tr (by decide) hwU hU
            replace hV : ∀ j : Nat, j ∉ ([45] : List Nat) → V20 j = V j := mw_tr (by decide) hwV hV
            replace hI : StM n (b + 2) F V F19 V20 := hI.trans hwI
            replace t26 : F19 26 = upd (F 26) (nI sv).toNatClampNeg (vp_nar .boolean 1) := (hwU 26 (by decide)).trans t26
            obtain ⟨hw, hwe⟩ := hw
            replace hw : (F19, V20) = f_w_to n sv 3 F1 V := hw
            replace hZ9 := bn2_s hZ9 hw
            exact W.vret hx hb hr (fun t ht hW => ⟨⟨(F19, V20), rfl, ⟨hI.mono (by omega), hU, hV, ⟨hZ9.symm.trans hR0, t26⟩⟩, by rw [ht]; exact hP, hD⟩, hS.F ht⟩) hS.2.2 dX9_beginOne_118
          · replace hZ9 := ite_t hZ9 c17
            refine lv_iconst (v := 0) hx hb dX9_beginOne_110 (by decide) ?_
            refine lv_goto (tgt := 115) hx hb dX9_beginOne_111 (by decide) ?_
            have hFc := mw_free hD hS hA
            refine va_callv (va_runV (As := [.int (nI sv), .int 0]) (rest := []) ⟨hx, hb, hml, hown, hts⟩ (c_w_to l dC dI h a k F1 V n (b) sv 0 H.size hI.1 (by omega) (by omega)) (cwV 2 hts wc_w_beginOne_w_to_211 rfl rfl rfl (by decide +kernel) ⟨Nat.le_of_ble_eq_true rfl, Nat.le_of_ble_eq_true rfl⟩) ⟨fun a9 U g mk q => by obtain ⟨q0, q1, qP, qK, qD⟩ := q; exact ⟨q0, q1, qP, va_K.moved (u := U) (U := U.calling g mk a9) (Vm.Alike.refl U.vm) qK, qD⟩, va_recv hK hP (ci := 10) (q0 := 0) rfl rfl, fun U hU hW => ⟨rfl, by rw [hU], by rw [hU]; exact hP, va_K.moved hW.alike hK, hD.weaken (fun _ _ _ _ => trivial)⟩⟩ rfl rfl hl.1 rfl (lv_room (Nat.le_of_ble_eq_true rfl)) dX9_beginOne_115 ⟨Nat.le_of_ble_eq_true rfl, Nat.le_of_ble_eq_true rfl⟩) hS (fun q _ h => hFc q h) hFc (fun u t H1 locs ht hvm hw hB hz1 hk1 hS => ?_)
            obtain ⟨F22, V23⟩ := u
            replace hP := hB.1
            rw [ht] at hP
            replace hD : va_D A (mW h a k F22 V23) := hB.2.weaken (fun _ q _ h9 => hFc q.1 h9)
            clear hB
            generalize H1 = H at hP hS ⊢
            replace hP : va_P (dC, dI) vwCl (mW h a k F22 V23) H := hP
            obtain ⟨hwI, hwU, hwV, hw⟩ := hw
            replace hU : ∀ j : Nat, j ∉ ([7, 8, 9, 11, 12, 25, 26, 42, 43, 44] : List Nat) → F22 j = F j := mw_tr (by decide) hwU hU
            replace hV : ∀ j : Nat, j ∉ ([45] : List Nat) → V23 j = V j := mw_tr (by decide) hwV hV
            replace hI : StM n (b + 2) F V F22 V23 := hI.trans hwI
            replace t26 : F22 26 = upd (F 26) (nI sv).toNatClampNeg (vp_nar .boolean 1) := (hwU 26 (by decide)).trans t26
            obtain ⟨hw, hwe⟩ := hw
            replace hw : (F22, V23) = f_w_to n sv 0 F1 V := hw
            replace hZ9 := bn2_s hZ9 hw
            exact W.vret hx hb hr (fun t ht hW => ⟨⟨(F22, V23), rfl, ⟨hI.mono (by omega), hU, hV, ⟨hZ9.symm.trans hR0, t26⟩⟩, by rw [ht]; exact hP, hD⟩, hS.F ht⟩) hS.2.2 dX9_beginOne_118
    · replace hZ9 := ite_f hZ9 c8
      refine lv_aload_n hx hb dX9_beginOne_69 rfl (lv_at hl 0 rfl) ?_
      refine va_get (D := (dC, dI)) (ci := 10) (v := .ref (a 25)) (C := RX9) (T := TX9) (N := 46) hx hb hts in_w_beginOne_X9 hown hK hP 0 rfl rfl 25 (by decide) (hts (.fieldLink RX9 71 "ServiceTreeModel" "job" "[I") (by decide +kernel)) (fun _ h9 => h9) rfl dX9_beginOne_70 ?_
      refine lv_iload_n hx hb dX9_beginOne_73 rfl (lv_at hl 1 rfl) ?_
      refine lv_iconst (v := 0) hx hb dX9_beginOne_74 (by decide) ?_
      refine va_iast (n := 40) (f := F1 25) hx hb hK hP hD hS 21 20 rfl rfl (vp_in_nI (n := sv) (by omega) (by decide)) dX9_beginOne_75 (fun H locs hP hD hS => ?_)
      rw [mW_set_25] at hP hD
      obtain ⟨F24, eF24⟩ : ∃ f9 : Nat → Nat → Int32, f9 = va_up F1 25 (upd (F1 25) (nI sv).toNatClampNeg 0) := ⟨_, rfl⟩
      rw [← eF24] at hP hD
      replace hZ9 := bnd_s hZ9 eF24
      replace hI : StM n (b) F V F24 V := ⟨by rw [eF24]; exact hI.1.setF (by decide), trivial⟩
      replace hU : ∀ j : Nat, j ∉ ([7, 8, 9, 11, 12, 25, 26, 42, 43, 44] : List Nat) → F24 j = F j := by rw [eF24]; exact mw_up (by decide) hU
      replace t26 : F24 26 = upd (F 26) (nI sv).toNatClampNeg (vp_nar .boolean 1) := by rw [eF24]; exact (va_up_ne _ _ (by decide)).trans t26
      refine lv_goto (tgt := 118) hx hb dX9_beginOne_76 (by decide) ?_
      exact W.vret hx hb hr (fun t ht hW => ⟨⟨(F24, V), rfl, ⟨hI.mono (by omega), hU, hV, ⟨hZ9.symm.trans hR0, t26⟩⟩, by rw [ht]; exact hP, hD⟩, hS.F ht⟩) hS.2.2 dX9_beginOne_118
  · replace hZ9 := ite_t hZ9 c3
    refine lv_aload_n hx hb dX9_beginOne_17 rfl (lv_at hl 0 rfl) ?_
    refine lv_iload_n hx hb dX9_beginOne_18 rfl (lv_at hl 1 rfl) ?_
    have hFc := mw_free hD hS hA
    refine va_calli (va_runV (As := [.int (nI sv)]) (rest := []) ⟨hx, hb, hml, hown, hts⟩ (c_w_hasNeeds l dC dI h a k F1 V n (b) sv H.size hI.1 (by omega) (by omega)) (cwV 1 hts wc_w_beginOne_w_hasNeeds_231 rfl rfl rfl (by decide +kernel) ⟨Nat.le_of_ble_eq_true rfl, Nat.le_of_ble_eq_true rfl⟩) ⟨fun a9 U g mk q => by obtain ⟨q0, q1, qP, qK, qD⟩ := q; exact ⟨q0, q1, qP, va_K.moved (u := U) (U := U.calling g mk a9) (Vm.Alike.refl U.vm) qK, qD⟩, va_recv hK hP (ci := 10) (q0 := 0) rfl rfl, fun U hU hW => ⟨rfl, by rw [hU], by rw [hU]; exact hP, va_K.moved hW.alike hK, hD.weaken (fun _ _ _ _ => trivial)⟩⟩ rfl rfl hl.1 rfl (lv_room (Nat.le_of_ble_eq_true rfl)) dX9_beginOne_19 ⟨Nat.le_of_ble_eq_true rfl, Nat.le_of_ble_eq_true rfl⟩) hS (fun q _ h => hFc q h) hFc (fun r25 u t H1 locs ht hvm hw hB hz1 hk1 hS => ?_)
    obtain ⟨F26, V27⟩ := u
    replace hP := hB.1
    rw [ht] at hP
    replace hD : va_D A (mW h a k F26 V27) := hB.2.weaken (fun _ q _ h9 => hFc q.1 h9)
    clear hB
    generalize H1 = H at hP hS ⊢
    replace hP : va_P (dC, dI) vwCl (mW h a k F26 V27) H := hP
    obtain ⟨hwF, hwV, hw⟩ : F26 = F1 ∧ V27 = V ∧ _ := hw
    rw [hwF, hwV] at hP hD
    obtain ⟨hw, hwe⟩ := hw
    replace hw : r25 = f_w_hasNeeds n sv F1 := hw
    replace hZ9 := bnd_s hZ9 hw
    have br25 := hwe
    refine lv_if_ne (tgt := 35) hx hb dX9_beginOne_22 (by decide) (fun c28 => ?_) (fun c28 => ?_)
    · replace hZ9 := ite_f hZ9 c28
      refine lv_aload_n hx hb dX9_beginOne_35 rfl (lv_at hl 0 rfl) ?_
      refine lv_iload_n hx hb dX9_beginOne_36 rfl (lv_at hl 1 rfl) ?_
      refine lv_aload_n hx hb dX9_beginOne_37 rfl (lv_at hl 0 rfl) ?_
      refine va_get (D := (dC, dI)) (ci := 10) (v := .ref (a 1)) (C := RX9) (T := TX9) (N := 46) hx hb hts in_w_beginOne_X9 hown hK hP 0 rfl rfl 1 (by decide) (hts (.fieldLink RX9 13 "ServiceTreeModel" "start" "[I") (by decide +kernel)) (fun _ h9 => h9) rfl dX9_beginOne_38 ?_
      refine lv_iload_n hx hb dX9_beginOne_41 rfl (lv_at hl 1 rfl) ?_
      refine va_iald (n := 40) (f := F1 1) hx hb hK hP 2 1 rfl rfl (vp_in_nI (n := sv) (by omega) (by decide)) dX9_beginOne_42 ?_
      refine lv_topi (fun x29 ex29 => ?_)
      replace hZ9 := bnd_s hZ9 ex29
      refine lv_if_ne (tgt := 50) hx hb dX9_beginOne_43 (by decide) (fun c30 => ?_) (fun c30 => ?_)
      · replace hZ9 := ite_f hZ9 c30
        refine lv_iconst (v := 1) hx hb dX9_beginOne_50 (by decide) ?_
        have hFc := mw_free hD hS hA
        refine va_callv (va_runV (As := [.int (nI sv), .int 1]) (rest := []) ⟨hx, hb, hml, hown, hts⟩ (c_w_to l dC dI h a k F1 V n (b) sv 1 H.size hI.1 (by omega) (by omega)) (cwV 2 hts wc_w_beginOne_w_to_211 rfl rfl rfl (by decide +kernel) ⟨Nat.le_of_ble_eq_true rfl, Nat.le_of_ble_eq_true rfl⟩) ⟨fun a9 U g mk q => by obtain ⟨q0, q1, qP, qK, qD⟩ := q; exact ⟨q0, q1, qP, va_K.moved (u := U) (U := U.calling g mk a9) (Vm.Alike.refl U.vm) qK, qD⟩, va_recv hK hP (ci := 10) (q0 := 0) rfl rfl, fun U hU hW => ⟨rfl, by rw [hU], by rw [hU]; exact hP, va_K.moved hW.alike hK, hD.weaken (fun _ _ _ _ => trivial)⟩⟩ rfl rfl hl.1 rfl (lv_room (Nat.le_of_ble_eq_true rfl)) dX9_beginOne_51 ⟨Nat.le_of_ble_eq_true rfl, Nat.le_of_ble_eq_true rfl⟩) hS (fun q _ h => hFc q h) hFc (fun u t H1 locs ht hvm hw hB hz1 hk1 hS => ?_)
        obtain ⟨F32, V33⟩ := u
        replace hP := hB.1
        rw [ht] at hP
        replace hD : va_D A (mW h a k F32 V33) := hB.2.weaken (fun _ q _ h9 => hFc q.1 h9)
        clear hB
        generalize H1 = H at hP hS ⊢
        replace hP : va_P (dC, dI) vwCl (mW h a k F32 V33) H := hP
        obtain ⟨hwI, hwU, hwV, hw⟩ := hw
        replace hU : ∀ j : Nat, j ∉ ([7, 8, 9, 11, 12, 25, 26, 42, 43, 44] : List Nat) → F32 j = F j := mw_tr (by decide) hwU hU
        replace hV : ∀ j : Nat, j ∉ ([45] : List Nat) → V33 j = V j := mw_tr (by decide) hwV hV
        replace hI : StM n (b + 2) F V F32 V33 := hI.trans hwI
        replace t26 : F32 26 = upd (F 26) (nI sv).toNatClampNeg (vp_nar .boolean 1) := (hwU 26 (by decide)).trans t26
        obtain ⟨hw, hwe⟩ := hw
        replace hw : (F32, V33) = f_w_to n sv 1 F1 V := hw
        replace hZ9 := bn2_s hZ9 hw
        refine lv_goto (tgt := 118) hx hb dX9_beginOne_54 (by decide) ?_
        exact W.vret hx hb hr (fun t ht hW => ⟨⟨(F32, V33), rfl, ⟨hI.mono (by omega), hU, hV, ⟨hZ9.symm.trans hR0, t26⟩⟩, by rw [ht]; exact hP, hD⟩, hS.F ht⟩) hS.2.2 dX9_beginOne_118
      · replace hZ9 := ite_t hZ9 c30
        refine lv_iconst (v := 2) hx hb dX9_beginOne_46 (by decide) ?_
        refine lv_goto (tgt := 51) hx hb dX9_beginOne_47 (by decide) ?_
        have hFc := mw_free hD hS hA
        refine va_callv (va_runV (As := [.int (nI sv), .int 2]) (rest := []) ⟨hx, hb, hml, hown, hts⟩ (c_w_to l dC dI h a k F1 V n (b) sv 2 H.size hI.1 (by omega) (by omega)) (cwV 2 hts wc_w_beginOne_w_to_211 rfl rfl rfl (by decide +kernel) ⟨Nat.le_of_ble_eq_true rfl, Nat.le_of_ble_eq_true rfl⟩) ⟨fun a9 U g mk q => by obtain ⟨q0, q1, qP, qK, qD⟩ := q; exact ⟨q0, q1, qP, va_K.moved (u := U) (U := U.calling g mk a9) (Vm.Alike.refl U.vm) qK, qD⟩, va_recv hK hP (ci := 10) (q0 := 0) rfl rfl, fun U hU hW => ⟨rfl, by rw [hU], by rw [hU]; exact hP, va_K.moved hW.alike hK, hD.weaken (fun _ _ _ _ => trivial)⟩⟩ rfl rfl hl.1 rfl (lv_room (Nat.le_of_ble_eq_true rfl)) dX9_beginOne_51 ⟨Nat.le_of_ble_eq_true rfl, Nat.le_of_ble_eq_true rfl⟩) hS (fun q _ h => hFc q h) hFc (fun u t H1 locs ht hvm hw hB hz1 hk1 hS => ?_)
        obtain ⟨F35, V36⟩ := u
        replace hP := hB.1
        rw [ht] at hP
        replace hD : va_D A (mW h a k F35 V36) := hB.2.weaken (fun _ q _ h9 => hFc q.1 h9)
        clear hB
        generalize H1 = H at hP hS ⊢
        replace hP : va_P (dC, dI) vwCl (mW h a k F35 V36) H := hP
        obtain ⟨hwI, hwU, hwV, hw⟩ := hw
        replace hU : ∀ j : Nat, j ∉ ([7, 8, 9, 11, 12, 25, 26, 42, 43, 44] : List Nat) → F35 j = F j := mw_tr (by decide) hwU hU
        replace hV : ∀ j : Nat, j ∉ ([45] : List Nat) → V36 j = V j := mw_tr (by decide) hwV hV
        replace hI : StM n (b + 2) F V F35 V36 := hI.trans hwI
        replace t26 : F35 26 = upd (F 26) (nI sv).toNatClampNeg (vp_nar .boolean 1) := (hwU 26 (by decide)).trans t26
        obtain ⟨hw, hwe⟩ := hw
        replace hw : (F35, V36) = f_w_to n sv 2 F1 V := hw
        replace hZ9 := bn2_s hZ9 hw
        refine lv_goto (tgt := 118) hx hb dX9_beginOne_54 (by decide) ?_
        exact W.vret hx hb hr (fun t ht hW => ⟨⟨(F35, V36), rfl, ⟨hI.mono (by omega), hU, hV, ⟨hZ9.symm.trans hR0, t26⟩⟩, by rw [ht]; exact hP, hD⟩, hS.F ht⟩) hS.2.2 dX9_beginOne_118
    · replace hZ9 := ite_t hZ9 c28
      refine lv_aload_n hx hb dX9_beginOne_25 rfl (lv_at hl 0 rfl) ?_
      refine va_get (D := (dC, dI)) (ci := 10) (v := .ref (a 25)) (C := RX9) (T := TX9) (N := 46) hx hb hts in_w_beginOne_X9 hown hK hP 0 rfl rfl 25 (by decide) (hts (.fieldLink RX9 71 "ServiceTreeModel" "job" "[I") (by decide +kernel)) (fun _ h9 => h9) rfl dX9_beginOne_26 ?_
      refine lv_iload_n hx hb dX9_beginOne_29 rfl (lv_at hl 1 rfl) ?_
      refine lv_iconst (v := 0) hx hb dX9_beginOne_30 (by decide) ?_
      refine va_iast (n := 40) (f := F1 25) hx hb hK hP hD hS 21 20 rfl rfl (vp_in_nI (n := sv) (by omega) (by decide)) dX9_beginOne_31 (fun H locs hP hD hS => ?_)
      rw [mW_set_25] at hP hD
      obtain ⟨F37, eF37⟩ : ∃ f9 : Nat → Nat → Int32, f9 = va_up F1 25 (upd (F1 25) (nI sv).toNatClampNeg 0) := ⟨_, rfl⟩
      rw [← eF37] at hP hD
      replace hZ9 := bnd_s hZ9 eF37
      replace hI : StM n (b) F V F37 V := ⟨by rw [eF37]; exact hI.1.setF (by decide), trivial⟩
      replace hU : ∀ j : Nat, j ∉ ([7, 8, 9, 11, 12, 25, 26, 42, 43, 44] : List Nat) → F37 j = F j := by rw [eF37]; exact mw_up (by decide) hU
      replace t26 : F37 26 = upd (F 26) (nI sv).toNatClampNeg (vp_nar .boolean 1) := by rw [eF37]; exact (va_up_ne _ _ (by decide)).trans t26
      refine lv_goto (tgt := 118) hx hb dX9_beginOne_32 (by decide) ?_
      exact W.vret hx hb hr (fun t ht hW => ⟨⟨(F37, V), rfl, ⟨hI.mono (by omega), hU, hV, ⟨hZ9.symm.trans hR0, t26⟩⟩, by rw [ht]; exact hP, hD⟩, hS.F ht⟩) hS.2.2 dX9_beginOne_118
def f_w_failsNow_102 (n : Nat) (sv : Nat) : Nat → Nat → (Nat → Nat → Int32) → (Nat → Int32) → (Nat → (Nat → Nat → Int32) → (Nat → Int32) → (Nat → Nat → Int32) × (Nat → Int32)) → (Nat → Nat → Int32) × (Nat → Int32)
  | 0, i32, F36, V37, K9_102 => K9_102 i32 F36 V37
  | fu33 + 1, i32, F36, V37, K9_102 => if 10 ≤ i32 then (K9_102 i32 F36 V37) else (bnd (F36 13 (nI ((10 * sv) + i32)).toNatClampNeg) (fun (x49 : Int32) => bnd (va_up F36 13 (upd (F36 13) (nI (((10 * sv) + i32) - 1)).toNatClampNeg x49)) (fun (F50 : Nat → Nat → Int32) => f_w_failsNow_102 n sv fu33 (i32 + 1) F50 V37 K9_102)))
def f_w_failsNow_14 (n : Nat) (sv : Nat) : Nat → Nat → Int32 → (Nat → Nat → Int32) → (Nat → Int32) → (Nat → Int32 → (Nat → Nat → Int32) → (Nat → Int32) → (Nat → Nat → Int32) × (Nat → Int32)) → (Nat → Nat → Int32) × (Nat → Int32)
  | 0, i4, y10, F8, V9, K9_14 => K9_14 i4 y10 F8 V9
  | fu5 + 1, i4, y10, F8, V9, K9_14 => bnd (F8 14 (nI sv).toNatClampNeg) (fun (x11 : Int32) => bnd (x11.toNatClampNeg) (fun (m12 : Nat) => if m12 ≤ i4 then (K9_14 i4 y10 F8 V9) else (bnd (V9 22) (fun (x54 : Int32) => bnd (F8 13 (nI ((10 * sv) + i4)).toNatClampNeg) (fun (x55 : Int32) => bnd (x54 - x55) (fun (x56 : Int32) => bnd (F8 6 (nI sv).toNatClampNeg) (fun (x57 : Int32) => if x57 ≤ x56 then (bnd (y10 + (0 : Int32)) (fun (x59 : Int32) => f_w_failsNow_14 n sv fu5 (i4 + 1) x59 F8 V9 K9_14)) else (bnd (y10 + (1 : Int32)) (fun (x60 : Int32) => f_w_failsNow_14 n sv fu5 (i4 + 1) x60 F8 V9 K9_14)))))))))
def f_w_failsNow (n : Nat) (sv : Nat) (F : Nat → Nat → Int32) (V : Nat → Int32) : (Nat → Nat → Int32) × (Nat → Int32) := bnd (F 10 (nI sv).toNatClampNeg) (fun (x1 : Int32) => bnd (x1 + (1 : Int32)) (fun (x2 : Int32) => bnd (va_up F 10 (upd (F 10) (nI sv).toNatClampNeg x2)) (fun (F3 : Nat → Nat → Int32) => f_w_failsNow_14 n sv (10 + 1) (0 : Nat) (0 : Int32) F3 V (fun (i4 : Nat) (y10 : Int32) (F8 : Nat → Nat → Int32) (V9 : Nat → Int32) => bnd (F8 5 (nI sv).toNatClampNeg) (fun (x14 : Int32) => if x14 = (0 : Int32) then (bn2 (f_w_to n sv 4 F8 V9) (fun (F17 : Nat → Nat → Int32) (V18 : Nat → Int32) => (F17, V18))) else (if y10 < x14 then (bnd (F8 14 (nI sv).toNatClampNeg) (fun (x21 : Int32) => bnd (x21.toNatClampNeg) (fun (m22 : Nat) => if m22 = 10 then (f_w_failsNow_102 n sv (10 + 1) (1 : Nat) F8 V9 (fun (i32 : Nat) (F36 : Nat → Nat → Int32) (V37 : Nat → Int32) => bnd (va_up F36 14 (upd (F36 14) (nI sv).toNatClampNeg (nI (m22 - 1)))) (fun (F40 : Nat → Nat → Int32) => bnd (F40 14 (nI sv).toNatClampNeg) (fun (x41 : Int32) => bnd (V37 22) (fun (x42 : Int32) => bnd (va_up F40 13 (upd (F40 13) (nI ((10 * sv) + (m22 - 1))).toNatClampNeg x42)) (fun (F43 : Nat → Nat → Int32) => bnd (va_up F43 14 (upd (F43 14) (nI sv).toNatClampNeg (nI ((m22 - 1) + 1)))) (fun (F45 : Nat → Nat → Int32) => bn2 (f_w_to n sv 5 F45 V37) (fun (F47 : Nat → Nat → Int32) (V48 : Nat → Int32) => (F47, V48))))))))) else (bnd (V9 22) (fun (x25 : Int32) => bnd (va_up F8 13 (upd (F8 13) (nI ((10 * sv) + m22)).toNatClampNeg x25)) (fun (F26 : Nat → Nat → Int32) => bnd (va_up F26 14 (upd (F26 14) (nI sv).toNatClampNeg (nI (m22 + 1)))) (fun (F28 : Nat → Nat → Int32) => bn2 (f_w_to n sv 5 F28 V9) (fun (F30 : Nat → Nat → Int32) (V31 : Nat → Int32) => (F30, V31))))))))) else (bn2 (f_w_to n sv 4 F8 V9) (fun (F52 : Nat → Nat → Int32) (V53 : Nat → Int32) => (F52, V53)))))))))
def wq_w_failsNow : List Cond := ([.code yX9_failsNow cX9_failsNow 4 none, .fieldLink RX9 40 "ServiceTreeModel" "fails" "[I", .fieldLink RX9 53 "ServiceTreeModel" "waitedMany" "[I", .fieldLink RX9 25 "ServiceTreeModel" "budget" "[I", .fieldLink RX9 50 "ServiceTreeModel" "waitedAt" "[I", .fieldLink RX9 129 "ServiceTreeModel" "tick" "I", .fieldLink RX9 28 "ServiceTreeModel" "window" "[I", .methodLink RX9 211 yX9_to, .instanceMethod yX9_to, .selects RX9 yX9_to yX9_to, .initialized RX9] : List Cond) ++ (wsX90 ++ (wq_w_to))
theorem in_w_failsNow_X9 : ∀ w ∈ wsX90, w ∈ wq_w_failsNow := fun _ h => List.mem_append_right _ (List.mem_append_left _ (h))
set_option maxRecDepth 20000 in
theorem wi_w_failsNow : ∀ w ∈ wq_w_failsNow, w ∈ lw_tbl := List.forall_mem_append.mpr ⟨(wix [1132, 862, 866, 857, 865, 874, 858, 1090, 1092, 48, 69] rfl), List.forall_mem_append.mpr ⟨inKX9, wi_w_to⟩⟩
set_option maxRecDepth 20000 in
theorem wg_w_failsNow : GoodIn wq_w_failsNow wq_w_failsNow := goodIn_sub (fun _ h => h) (by decide +kernel)
set_option maxRecDepth 20000 in
theorem wc_w_failsNow_w_to_211 : GoodIn wq_w_failsNow (wsV RX9 211 RX9 yX9_to wq_w_to) := goodIn_app (goodIn_of _ (by decide +kernel)) (fun w h => ⟨List.mem_append_right _ (List.mem_append_right _ (h)), (wg_w_to w h).2⟩)
def rm_w_failsNow : Room := { frames := 1, cells := 0, slots := 0, locals := 22 }
set_option maxHeartbeats 4000000 in
set_option maxRecDepth 100000 in
theorem c_w_failsNow (l : Launch) (dC : Nat → ClassId) (dI : Nat → Nat → Nat) (h : Nat) (a : Nat → Nat) (k : Nat → ClassId) (F : Nat → Nat → Int32) (V : Nat → Int32) (n b : Nat) (sv : Nat) (sz : Nat) (hI0 : InvM n b F V) (hb0 : b + 2 < 2147483648) (hp0 : sv < n) : Met l yX9_failsNow wq_w_failsNow rm_w_failsNow (va_Pc [.ref h, .int (nI sv)] (fun U => U.heap.size = sz ∧ va_P (dC, dI) vwCl (mW h a k F V) U.heap ∧ va_K (dC, dI) vwCl (mT k) U ∧ va_D (fun _ => True) (mW h a k F V))) (va_Qv (fun (u : (Nat → Nat → Int32) × (Nat → Int32)) => StM n (b + 2) F V u.1 u.2 ∧ (∀ j : Nat, j ∉ ([7, 8, 9, 10, 11, 12, 13, 14, 42, 43, 44] : List Nat) → u.1 j = F j) ∧ (∀ j : Nat, j ∉ ([45] : List Nat) → u.2 j = V j) ∧ ((u.1, u.2) = f_w_failsNow n sv F V)) (fun (u : (Nat → Nat → Int32) × (Nat → Int32)) (t : State) => va_P (dC, dI) vwCl (mW h a k u.1 u.2) t.heap ∧ va_D (va_A (mW h a k F V) sz) (mW h a k u.1 u.2)) (va_A (mW h a k F V) sz)) 0 0 (va_A (mW h a k F V) sz) := by
  have hn : n ≤ 40 := hI0.1
  have hI : StM n b F V F V := StM.rf hI0
  have hU : ∀ j : Nat, j ∉ ([7, 8, 9, 10, 11, 12, 13, 14, 42, 43, 44] : List Nat) → F j = F j := fun _ _ => rfl
  have hV : ∀ j : Nat, j ∉ ([45] : List Nat) → V j = V j := fun _ _ => rfl
  refine Met.ofW (cc := cX9_failsNow) (maxL := 4) (ret := none) (by decide) rfl ?_
  intro p e s m args below meth c s₁ B hml hv
  obtain ⟨rfl, hsz, hP, hK, hD0⟩ := hv
  have hx := B.exec
  have hb := B.bytes
  have hr := B.returns
  have hts := atoms_spec (ws := wq_w_failsNow) B.pre
  have hown : s.vm.findClass RX9 = some m.cls := findClass_of_methodNamed B.named
  have hlocks := B.notSynchronized
  subst hsz
  have hD := hD0.self (sz := s.heap.size)
  generalize hAe : va_A (mW h a k F V) s.heap.size = A at hD ⊢
  have hA : ∀ q : Nat, s.heap.size ≤ q → A q := fun q h => by rw [← hAe]; exact Or.inr h
  have hS : va_S A s.heap s.heap [] := va_S.rf
  have hl := lv_entry ([.ref h, .int (nI sv)]) (n := 4) (Nat.le_of_ble_eq_true rfl)
  rw [lg_entry_eq]
  generalize (lg_sl ([.ref h, .int (nI sv)]) ++ List.replicate (4 - (lg_sl ([.ref h, .int (nI sv)])).length) Slot.unset).toArray = ls at hl ⊢
  have hl : lv_has ls 4 [(0, .ref h), (1, .int (nI sv))] := hl
  refine mw_Q (fun Q0 hQ => ?_)
  obtain ⟨RES, hR0⟩ : ∃ R9, R9 = f_w_failsNow n sv F V := ⟨_, rfl⟩
  have hZ9 := hR0
  unfold f_w_failsNow at hZ9
  have t14 : F 14 = F 14 := rfl
  refine lv_aload_n hx hb dX9_failsNow_0 rfl (lv_at hl 0 rfl) ?_
  refine va_get (D := (dC, dI)) (ci := 10) (v := .ref (a 10)) (C := RX9) (T := TX9) (N := 46) hx hb hts in_w_failsNow_X9 hown hK hP 0 rfl rfl 10 (by decide) (hts (.fieldLink RX9 40 "ServiceTreeModel" "fails" "[I") (by decide +kernel)) (fun _ h9 => h9) rfl dX9_failsNow_1 ?_
  refine lv_iload_n hx hb dX9_failsNow_4 rfl (lv_at hl 1 rfl) ?_
  refine lv_dup2_11 hx hb dX9_failsNow_5 rfl rfl ?_
  refine va_iald (n := 40) (f := F 10) hx hb hK hP 11 10 rfl rfl (vp_in_nI (n := sv) (by omega) (by decide)) dX9_failsNow_6 ?_
  refine lv_topi (fun x1 ex1 => ?_)
  replace hZ9 := bnd_s hZ9 ex1
  refine lv_iconst (v := 1) hx hb dX9_failsNow_7 (by decide) ?_
  refine lv_iadd hx hb dX9_failsNow_8 ?_
  refine lv_topi (fun x2 ex2 => ?_)
  replace hZ9 := bnd_s hZ9 ex2
  refine va_iast (n := 40) (f := F 10) hx hb hK hP hD hS 11 10 rfl rfl (vp_in_nI (n := sv) (by omega) (by decide)) dX9_failsNow_9 (fun H locs hP hD hS => ?_)
  rw [mW_set_10] at hP hD
  obtain ⟨F3, eF3⟩ : ∃ f9 : Nat → Nat → Int32, f9 = va_up F 10 (upd (F 10) (nI sv).toNatClampNeg x2) := ⟨_, rfl⟩
  rw [← eF3] at hP hD
  replace hZ9 := bnd_s hZ9 eF3
  replace hI : StM n (b) F V F3 V := ⟨by rw [eF3]; exact hI.1.setF (by decide), trivial⟩
  replace hU : ∀ j : Nat, j ∉ ([7, 8, 9, 10, 11, 12, 13, 14, 42, 43, 44] : List Nat) → F3 j = F j := by rw [eF3]; exact mw_up (by decide) hU
  replace t14 : F3 14 = F 14 := by rw [eF3]; exact (va_up_ne _ _ (by decide)).trans t14
  refine lv_iconst (v := 0) hx hb dX9_failsNow_10 (by decide) ?_
  refine lv_istore_n (lv' := [(2, .int 0), (0, .ref h), (1, .int (nI sv))]) hx hb dX9_failsNow_11 rfl hl (by decide) rfl (fun ls hl => ?_)
  refine lv_iconst (v := 0) hx hb dX9_failsNow_12 (by decide) ?_
  refine lv_istore_n (lv' := [(3, .int 0), (2, .int 0), (0, .ref h), (1, .int (nI sv))]) hx hb dX9_failsNow_13 rfl hl (by decide) rfl (fun ls hl => ?_)
  obtain ⟨K9_14, hK9_14, hZ9⟩ := lp_gen hZ9
  have lp7 : ∀ (fu5 i4 : Nat) (y10 : Int32) (F8 : Nat → Nat → Int32) (V9 : Nat → Int32) (H : Heap) (locs : List Loc) (ls : Array Slot), 10 < i4 + fu5 → i4 ≤ 10 → StM n (b) F V F8 V9 → (∀ j : Nat, j ∉ ([7, 8, 9, 10, 11, 12, 13, 14, 42, 43, 44] : List Nat) → F8 j = F j) → (∀ j : Nat, j ∉ ([45] : List Nat) → V9 j = V j) → F8 14 = F 14 → RES = f_w_failsNow_14 n sv fu5 i4 y10 F8 V9 K9_14 → va_P (dC, dI) vwCl (mW h a k F8 V9) H → va_D A (mW h a k F8 V9) → va_S A s.heap H locs → lv_has ls 4 [(3, .int (nI i4)), (2, .int y10), (0, .ref h), (1, .int (nI sv))] → W p l e (headSpec wq_w_failsNow rm_w_failsNow).room s m ([.ref h, .int (nI sv)] : List Value).toArray below meth c H locs 0 0 Q0 (F0 m 14 ls []) := by
    intro fu5
    induction fu5 with
    | zero =>
      intro i4 y10 F8 V9 H locs ls hf hi
      exact absurd hf (by omega)
    | succ fu5 ih6 =>
      intro i4 y10 F8 V9 H locs ls hfi4 hii4 hI hU hV t14qi4 hZ9 hP hD hS hl
      rw [f_w_failsNow_14] at hZ9
      have t14 := t14qi4
      refine lv_iload_n hx hb dX9_failsNow_14 rfl (lv_at hl 0 rfl) ?_
      refine lv_aload_n hx hb dX9_failsNow_15 rfl (lv_at hl 2 rfl) ?_
      refine va_get (D := (dC, dI)) (ci := 10) (v := .ref (a 14)) (C := RX9) (T := TX9) (N := 46) hx hb hts in_w_failsNow_X9 hown hK hP 0 rfl rfl 14 (by decide) (hts (.fieldLink RX9 53 "ServiceTreeModel" "waitedMany" "[I") (by decide +kernel)) (fun _ h9 => h9) rfl dX9_failsNow_16 ?_
      refine lv_iload_n hx hb dX9_failsNow_19 rfl (lv_at hl 3 rfl) ?_
      refine va_iald (n := 40) (f := F8 14) hx hb hK hP 15 14 rfl rfl (vp_in_nI (n := sv) (by omega) (by decide)) dX9_failsNow_20 ?_
      refine lv_topi (fun x11 ex11 => ?_)
      replace hZ9 := bnd_s hZ9 ex11
      rw [t14] at ex11
      obtain ⟨m12, hm12, qm12⟩ := hI.1.2.2.2.2.2.1 (nI sv).toNatClampNeg
      rw [t14] at qm12
      obtain rfl : x11 = nI m12 := ex11.trans qm12
      replace hZ9 := bnd_s hZ9 (show m12 = (nI m12).toNatClampNeg by rw [nI_clamp (by omega)])
      refine lv_icmp_ge (tgt := 63) hx hb dX9_failsNow_21 (by decide) (fun c13 => ?_) (fun c13 => ?_)
      · replace c13 : m12 ≤ i4 := (nI_leI (a := m12) (b := i4) (by omega) (by omega)).mp c13
        replace hZ9 := ite_t hZ9 c13
        replace hZ9 := lp_app4 hK9_14 hZ9
        refine lv_aload_n hx hb dX9_failsNow_63 rfl (lv_at hl 2 rfl) ?_
        refine va_get (D := (dC, dI)) (ci := 10) (v := .ref (a 5)) (C := RX9) (T := TX9) (N := 46) hx hb hts in_w_failsNow_X9 hown hK hP 0 rfl rfl 5 (by decide) (hts (.fieldLink RX9 25 "ServiceTreeModel" "budget" "[I") (by decide +kernel)) (fun _ h9 => h9) rfl dX9_failsNow_64 ?_
        refine lv_iload_n hx hb dX9_failsNow_67 rfl (lv_at hl 3 rfl) ?_
        refine va_iald (n := 40) (f := F8 5) hx hb hK hP 6 5 rfl rfl (vp_in_nI (n := sv) (by omega) (by decide)) dX9_failsNow_68 ?_
        refine lv_topi (fun x14 ex14 => ?_)
        replace hZ9 := bnd_s hZ9 ex14
        refine lv_if_eq (tgt := 82) hx hb dX9_failsNow_69 (by decide) (fun c15 => ?_) (fun c15 => ?_)
        · replace hZ9 := ite_t hZ9 c15
          refine lv_aload_n hx hb dX9_failsNow_82 rfl (lv_at hl 2 rfl) ?_
          refine lv_iload_n hx hb dX9_failsNow_83 rfl (lv_at hl 3 rfl) ?_
          refine lv_iconst (v := 4) hx hb dX9_failsNow_84 (by decide) ?_
          have hFc := mw_free hD hS hA
          refine va_callv (va_runV (As := [.int (nI sv), .int 4]) (rest := []) ⟨hx, hb, hml, hown, hts⟩ (c_w_to l dC dI h a k F8 V9 n (b) sv 4 H.size hI.1 (by omega) (by omega)) (cwV 2 hts wc_w_failsNow_w_to_211 rfl rfl rfl (by decide +kernel) ⟨Nat.le_of_ble_eq_true rfl, Nat.le_of_ble_eq_true rfl⟩) ⟨fun a9 U g mk q => by obtain ⟨q0, q1, qP, qK, qD⟩ := q; exact ⟨q0, q1, qP, va_K.moved (u := U) (U := U.calling g mk a9) (Vm.Alike.refl U.vm) qK, qD⟩, va_recv hK hP (ci := 10) (q0 := 0) rfl rfl, fun U hU hW => ⟨rfl, by rw [hU], by rw [hU]; exact hP, va_K.moved hW.alike hK, hD.weaken (fun _ _ _ _ => trivial)⟩⟩ rfl rfl hl.1 rfl (lv_room (Nat.le_of_ble_eq_true rfl)) dX9_failsNow_85 ⟨Nat.le_of_ble_eq_true rfl, Nat.le_of_ble_eq_true rfl⟩) hS (fun q _ h => hFc q h) hFc (fun u t H1 locs ht hvm hw hB hz1 hk1 hS => ?_)
          obtain ⟨F17, V18⟩ := u
          replace hP := hB.1
          rw [ht] at hP
          replace hD : va_D A (mW h a k F17 V18) := hB.2.weaken (fun _ q _ h9 => hFc q.1 h9)
          clear hB
          generalize H1 = H at hP hS ⊢
          replace hP : va_P (dC, dI) vwCl (mW h a k F17 V18) H := hP
          obtain ⟨hwI, hwU, hwV, hw⟩ := hw
          replace hU : ∀ j : Nat, j ∉ ([7, 8, 9, 10, 11, 12, 13, 14, 42, 43, 44] : List Nat) → F17 j = F j := mw_tr (by decide) hwU hU
          replace hV : ∀ j : Nat, j ∉ ([45] : List Nat) → V18 j = V j := mw_tr (by decide) hwV hV
          replace hI : StM n (b + 2) F V F17 V18 := hI.trans hwI
          replace t14 : F17 14 = F 14 := (hwU 14 (by decide)).trans t14
          obtain ⟨hw, hwe⟩ := hw
          replace hw : (F17, V18) = f_w_to n sv 4 F8 V9 := hw
          replace hZ9 := bn2_s hZ9 hw
          rw [hQ]
          exact W.vret hx hb hr (fun t ht hW => ⟨⟨(F17, V18), rfl, ⟨hI.mono (by omega), hU, hV, hZ9.symm.trans hR0⟩, by rw [ht]; exact hP, hD⟩, hS.F ht⟩) hS.2.2 dX9_failsNow_88
        · replace hZ9 := ite_f hZ9 c15
          refine lv_iload_n hx hb dX9_failsNow_72 rfl (lv_at hl 1 rfl) ?_
          refine lv_aload_n hx hb dX9_failsNow_73 rfl (lv_at hl 2 rfl) ?_
          refine va_get (D := (dC, dI)) (ci := 10) (v := .ref (a 5)) (C := RX9) (T := TX9) (N := 46) hx hb hts in_w_failsNow_X9 hown hK hP 0 rfl rfl 5 (by decide) (hts (.fieldLink RX9 25 "ServiceTreeModel" "budget" "[I") (by decide +kernel)) (fun _ h9 => h9) rfl dX9_failsNow_74 ?_
          refine lv_iload_n hx hb dX9_failsNow_77 rfl (lv_at hl 3 rfl) ?_
          refine va_iald (n := 40) (f := F8 5) hx hb hK hP 6 5 rfl rfl (vp_in_nI (n := sv) (by omega) (by decide)) dX9_failsNow_78 ?_
          refine p1_topr (v := .int x14) (congrArg Value.int ex14.symm) ?_
          refine lv_icmp_lt (tgt := 89) hx hb dX9_failsNow_79 (by decide) (fun c20 => ?_) (fun c20 => ?_)
          · replace hZ9 := ite_t hZ9 c20
            refine lv_aload_n hx hb dX9_failsNow_89 rfl (lv_at hl 2 rfl) ?_
            refine va_get (D := (dC, dI)) (ci := 10) (v := .ref (a 14)) (C := RX9) (T := TX9) (N := 46) hx hb hts in_w_failsNow_X9 hown hK hP 0 rfl rfl 14 (by decide) (hts (.fieldLink RX9 53 "ServiceTreeModel" "waitedMany" "[I") (by decide +kernel)) (fun _ h9 => h9) rfl dX9_failsNow_90 ?_
            refine lv_iload_n hx hb dX9_failsNow_93 rfl (lv_at hl 3 rfl) ?_
            refine va_iald (n := 40) (f := F8 14) hx hb hK hP 15 14 rfl rfl (vp_in_nI (n := sv) (by omega) (by decide)) dX9_failsNow_94 ?_
            refine lv_topi (fun x21 ex21 => ?_)
            replace hZ9 := bnd_s hZ9 ex21
            rw [t14] at ex21
            obtain ⟨m22, hm22, qm22⟩ := hI.1.2.2.2.2.2.1 (nI sv).toNatClampNeg
            rw [t14] at qm22
            obtain rfl : x21 = nI m22 := ex21.trans qm22
            replace hZ9 := bnd_s hZ9 (show m22 = (nI m22).toNatClampNeg by rw [nI_clamp (by omega)])
            refine lv_bipush (v := 10) hx hb dX9_failsNow_95 (by decide) ?_
            refine lv_icmp_ne (tgt := 148) hx hb dX9_failsNow_97 (by decide) (fun c23 => ?_) (fun c23 => ?_)
            · replace c23 : ¬ (m22 = 10) := fun q9 => c23 ((nI_eq (a := m22) (b := 10) (by omega) (by omega)).mpr q9)
              replace hZ9 := ite_f hZ9 c23
              refine lv_aload_n hx hb dX9_failsNow_148 rfl (lv_at hl 2 rfl) ?_
              refine va_get (D := (dC, dI)) (ci := 10) (v := .ref (a 13)) (C := RX9) (T := TX9) (N := 46) hx hb hts in_w_failsNow_X9 hown hK hP 0 rfl rfl 13 (by decide) (hts (.fieldLink RX9 50 "ServiceTreeModel" "waitedAt" "[I") (by decide +kernel)) (fun _ h9 => h9) rfl dX9_failsNow_149 ?_
              refine lv_bipush (v := 10) hx hb dX9_failsNow_152 (by decide) ?_
              refine lv_iload_n hx hb dX9_failsNow_154 rfl (lv_at hl 3 rfl) ?_
              refine lv_imul hx hb dX9_failsNow_155 ?_
              refine p1_topr (v := .int (nI (10 * sv))) (congrArg Value.int (pk_mul 10 sv)) ?_
              refine lv_aload_n hx hb dX9_failsNow_156 rfl (lv_at hl 2 rfl) ?_
              refine va_get (D := (dC, dI)) (ci := 10) (v := .ref (a 14)) (C := RX9) (T := TX9) (N := 46) hx hb hts in_w_failsNow_X9 hown hK hP 0 rfl rfl 14 (by decide) (hts (.fieldLink RX9 53 "ServiceTreeModel" "waitedMany" "[I") (by decide +kernel)) (fun _ h9 => h9) rfl dX9_failsNow_157 ?_
              refine lv_iload_n hx hb dX9_failsNow_160 rfl (lv_at hl 3 rfl) ?_
              refine va_iald (n := 40) (f := F8 14) hx hb hK hP 15 14 rfl rfl (vp_in_nI (n := sv) (by omega) (by decide)) dX9_failsNow_161 ?_
              refine p1_topr (v := .int (nI m22)) (congrArg Value.int (by rw [t14]; exact qm22)) ?_
              refine lv_iadd hx hb dX9_failsNow_162 ?_
              refine p1_topr (v := .int (nI ((10 * sv) + m22))) (congrArg Value.int (nI_add (10 * sv) m22)) ?_
              refine lv_aload_n hx hb dX9_failsNow_163 rfl (lv_at hl 2 rfl) ?_
              refine va_get (D := (dC, dI)) (ci := 10) (v := .int (V9 22)) (C := RX9) (T := TX9) (N := 46) hx hb hts in_w_failsNow_X9 hown hK hP 0 rfl rfl 22 (by decide) (hts (.fieldLink RX9 129 "ServiceTreeModel" "tick" "I") (by decide +kernel)) (fun _ h9 => h9) rfl dX9_failsNow_164 ?_
              refine lv_topi (fun x25 ex25 => ?_)
              replace hZ9 := bnd_s hZ9 ex25
              refine va_iast (n := 400) (f := F8 13) hx hb hK hP hD hS 14 13 rfl rfl (vp_in_nI (n := (10 * sv) + m22) (by omega) (by decide)) dX9_failsNow_167 (fun H locs hP hD hS => ?_)
              rw [mW_set_13] at hP hD
              obtain ⟨F26, eF26⟩ : ∃ f9 : Nat → Nat → Int32, f9 = va_up F8 13 (upd (F8 13) (nI ((10 * sv) + m22)).toNatClampNeg x25) := ⟨_, rfl⟩
              rw [← eF26] at hP hD
              replace hZ9 := bnd_s hZ9 eF26
              replace hI : StM n (b) F V F26 V9 := ⟨by rw [eF26]; exact hI.1.setF (by decide), trivial⟩
              replace hU : ∀ j : Nat, j ∉ ([7, 8, 9, 10, 11, 12, 13, 14, 42, 43, 44] : List Nat) → F26 j = F j := by rw [eF26]; exact mw_up (by decide) hU
              replace t14 : F26 14 = F 14 := by rw [eF26]; exact (va_up_ne _ _ (by decide)).trans t14
              refine lv_aload_n hx hb dX9_failsNow_168 rfl (lv_at hl 2 rfl) ?_
              refine va_get (D := (dC, dI)) (ci := 10) (v := .ref (a 14)) (C := RX9) (T := TX9) (N := 46) hx hb hts in_w_failsNow_X9 hown hK hP 0 rfl rfl 14 (by decide) (hts (.fieldLink RX9 53 "ServiceTreeModel" "waitedMany" "[I") (by decide +kernel)) (fun _ h9 => h9) rfl dX9_failsNow_169 ?_
              refine lv_iload_n hx hb dX9_failsNow_172 rfl (lv_at hl 3 rfl) ?_
              refine lv_dup2_11 hx hb dX9_failsNow_173 rfl rfl ?_
              refine va_iald (n := 40) (f := F26 14) hx hb hK hP 15 14 rfl rfl (vp_in_nI (n := sv) (by omega) (by decide)) dX9_failsNow_174 ?_
              refine p1_topr (v := .int (nI m22)) (congrArg Value.int (by rw [t14]; exact qm22)) ?_
              refine lv_iconst (v := 1) hx hb dX9_failsNow_175 (by decide) ?_
              refine lv_iadd hx hb dX9_failsNow_176 ?_
              refine p1_topr (v := .int (nI (m22 + 1))) (congrArg Value.int (nI_add m22 1)) ?_
              refine va_iast (n := 40) (f := F26 14) hx hb hK hP hD hS 15 14 rfl rfl (vp_in_nI (n := sv) (by omega) (by decide)) dX9_failsNow_177 (fun H locs hP hD hS => ?_)
              rw [mW_set_14] at hP hD
              obtain ⟨F28, eF28⟩ : ∃ f9 : Nat → Nat → Int32, f9 = va_up F26 14 (upd (F26 14) (nI sv).toNatClampNeg (nI (m22 + 1))) := ⟨_, rfl⟩
              rw [← eF28] at hP hD
              replace hZ9 := bnd_s hZ9 eF28
              replace hI : StM n (b) F V F28 V9 := ⟨by rw [eF28]; exact hI.1.set14 (i := (nI sv).toNatClampNeg) (x := m22 + 1) (by omega), trivial⟩
              replace hU : ∀ j : Nat, j ∉ ([7, 8, 9, 10, 11, 12, 13, 14, 42, 43, 44] : List Nat) → F28 j = F j := by rw [eF28]; exact mw_up (by decide) hU
              replace t14 : F28 14 = upd (F 14) (nI sv).toNatClampNeg (nI (m22 + 1)) := by rw [eF28, va_up_self, t14]
              refine lv_aload_n hx hb dX9_failsNow_178 rfl (lv_at hl 2 rfl) ?_
              refine lv_iload_n hx hb dX9_failsNow_179 rfl (lv_at hl 3 rfl) ?_
              refine lv_iconst (v := 5) hx hb dX9_failsNow_180 (by decide) ?_
              have hFc := mw_free hD hS hA
              refine va_callv (va_runV (As := [.int (nI sv), .int 5]) (rest := []) ⟨hx, hb, hml, hown, hts⟩ (c_w_to l dC dI h a k F28 V9 n (b) sv 5 H.size hI.1 (by omega) (by omega)) (cwV 2 hts wc_w_failsNow_w_to_211 rfl rfl rfl (by decide +kernel) ⟨Nat.le_of_ble_eq_true rfl, Nat.le_of_ble_eq_true rfl⟩) ⟨fun a9 U g mk q => by obtain ⟨q0, q1, qP, qK, qD⟩ := q; exact ⟨q0, q1, qP, va_K.moved (u := U) (U := U.calling g mk a9) (Vm.Alike.refl U.vm) qK, qD⟩, va_recv hK hP (ci := 10) (q0 := 0) rfl rfl, fun U hU hW => ⟨rfl, by rw [hU], by rw [hU]; exact hP, va_K.moved hW.alike hK, hD.weaken (fun _ _ _ _ => trivial)⟩⟩ rfl rfl hl.1 rfl (lv_room (Nat.le_of_ble_eq_true rfl)) dX9_failsNow_181 ⟨Nat.le_of_ble_eq_true rfl, Nat.le_of_ble_eq_true rfl⟩) hS (fun q _ h => hFc q h) hFc (fun u t H1 locs ht hvm hw hB hz1 hk1 hS => ?_)
              obtain ⟨F30, V31⟩ := u
              replace hP := hB.1
              rw [ht] at hP
              replace hD : va_D A (mW h a k F30 V31) := hB.2.weaken (fun _ q _ h9 => hFc q.1 h9)
              clear hB
              generalize H1 = H at hP hS ⊢
              replace hP : va_P (dC, dI) vwCl (mW h a k F30 V31) H := hP
              obtain ⟨hwI, hwU, hwV, hw⟩ := hw
              replace hU : ∀ j : Nat, j ∉ ([7, 8, 9, 10, 11, 12, 13, 14, 42, 43, 44] : List Nat) → F30 j = F j := mw_tr (by decide) hwU hU
              replace hV : ∀ j : Nat, j ∉ ([45] : List Nat) → V31 j = V j := mw_tr (by decide) hwV hV
              replace hI : StM n (b + 2) F V F30 V31 := hI.trans hwI
              replace t14 : F30 14 = upd (F 14) (nI sv).toNatClampNeg (nI (m22 + 1)) := (hwU 14 (by decide)).trans t14
              obtain ⟨hw, hwe⟩ := hw
              replace hw : (F30, V31) = f_w_to n sv 5 F28 V9 := hw
              replace hZ9 := bn2_s hZ9 hw
              rw [hQ]
              exact W.vret hx hb hr (fun t ht hW => ⟨⟨(F30, V31), rfl, ⟨hI.mono (by omega), hU, hV, hZ9.symm.trans hR0⟩, by rw [ht]; exact hP, hD⟩, hS.F ht⟩) hS.2.2 dX9_failsNow_184
            · replace c23 : m22 = 10 := (nI_eq (a := m22) (b := 10) (by omega) (by omega)).mp c23
              replace hZ9 := ite_t hZ9 c23
              refine lv_iconst (v := 1) hx hb dX9_failsNow_100 (by decide) ?_
              refine lv_istore_n (lv' := [(3, .int 1), (2, .int y10), (0, .ref h), (1, .int (nI sv))]) hx hb dX9_failsNow_101 rfl hl (by decide) rfl (fun ls hl => ?_)
              obtain ⟨K9_102, hK9_102, hZ9⟩ := lp_gen hZ9
              have lp35 : ∀ (fu33 i32 : Nat)  (F36 : Nat → Nat → Int32) (V37 : Nat → Int32) (H : Heap) (locs : List Loc) (ls : Array Slot), 10 < i32 + fu33 → (1 ≤ i32 ∧ i32 ≤ 10) → StM n (b) F V F36 V37 → (∀ j : Nat, j ∉ ([7, 8, 9, 10, 11, 12, 13, 14, 42, 43, 44] : List Nat) → F36 j = F j) → (∀ j : Nat, j ∉ ([45] : List Nat) → V37 j = V j) → F36 14 = F 14 → RES = f_w_failsNow_102 n sv fu33 i32 F36 V37 K9_102 → va_P (dC, dI) vwCl (mW h a k F36 V37) H → va_D A (mW h a k F36 V37) → va_S A s.heap H locs → lv_has ls 4 [(3, .int (nI i32)), (2, .int y10), (0, .ref h), (1, .int (nI sv))] → W p l e (headSpec wq_w_failsNow rm_w_failsNow).room s m ([.ref h, .int (nI sv)] : List Value).toArray below meth c H locs 0 0 Q0 (F0 m 102 ls []) := by
                intro fu33
                induction fu33 with
                | zero =>
                  intro i32  F36 V37 H locs ls hf hi
                  exact absurd hf (by omega)
                | succ fu33 ih34 =>
                  intro i32  F36 V37 H locs ls hfi32 hii32 hI hU hV t14qi32 hZ9 hP hD hS hl
                  rw [f_w_failsNow_102] at hZ9
                  have t14 := t14qi32
                  refine lv_iload_n hx hb dX9_failsNow_102 rfl (lv_at hl 0 rfl) ?_
                  refine lv_bipush (v := 10) hx hb dX9_failsNow_103 (by decide) ?_
                  refine lv_icmp_ge (tgt := 138) hx hb dX9_failsNow_105 (by decide) (fun c38 => ?_) (fun c38 => ?_)
                  · replace c38 : 10 ≤ i32 := (nI_leI (a := 10) (b := i32) (by omega) (by omega)).mp c38
                    replace hZ9 := ite_t hZ9 c38
                    replace hZ9 := lp_app3 hK9_102 hZ9
                    refine lv_aload_n hx hb dX9_failsNow_138 rfl (lv_at hl 2 rfl) ?_
                    refine va_get (D := (dC, dI)) (ci := 10) (v := .ref (a 14)) (C := RX9) (T := TX9) (N := 46) hx hb hts in_w_failsNow_X9 hown hK hP 0 rfl rfl 14 (by decide) (hts (.fieldLink RX9 53 "ServiceTreeModel" "waitedMany" "[I") (by decide +kernel)) (fun _ h9 => h9) rfl dX9_failsNow_139 ?_
                    refine lv_iload_n hx hb dX9_failsNow_142 rfl (lv_at hl 3 rfl) ?_
                    refine lv_dup2_11 hx hb dX9_failsNow_143 rfl rfl ?_
                    refine va_iald (n := 40) (f := F36 14) hx hb hK hP 15 14 rfl rfl (vp_in_nI (n := sv) (by omega) (by decide)) dX9_failsNow_144 ?_
                    refine p1_topr (v := .int (nI m22)) (congrArg Value.int (by rw [t14]; exact qm22)) ?_
                    refine lv_iconst (v := 1) hx hb dX9_failsNow_145 (by decide) ?_
                    refine lv_isub hx hb dX9_failsNow_146 ?_
                    refine p1_topr (v := .int (nI (m22 - 1))) (congrArg Value.int (pk_sub (a := m22) (b := 1) (by omega))) ?_
                    refine va_iast (n := 40) (f := F36 14) hx hb hK hP hD hS 15 14 rfl rfl (vp_in_nI (n := sv) (by omega) (by decide)) dX9_failsNow_147 (fun H locs hP hD hS => ?_)
                    rw [mW_set_14] at hP hD
                    obtain ⟨F40, eF40⟩ : ∃ f9 : Nat → Nat → Int32, f9 = va_up F36 14 (upd (F36 14) (nI sv).toNatClampNeg (nI (m22 - 1))) := ⟨_, rfl⟩
                    rw [← eF40] at hP hD
                    replace hZ9 := bnd_s hZ9 eF40
                    replace hI : StM n (b) F V F40 V37 := ⟨by rw [eF40]; exact hI.1.set14 (i := (nI sv).toNatClampNeg) (x := m22 - 1) (by omega), trivial⟩
                    replace hU : ∀ j : Nat, j ∉ ([7, 8, 9, 10, 11, 12, 13, 14, 42, 43, 44] : List Nat) → F40 j = F j := by rw [eF40]; exact mw_up (by decide) hU
                    replace t14 : F40 14 = upd (F 14) (nI sv).toNatClampNeg (nI (m22 - 1)) := by rw [eF40, va_up_self, t14]
                    refine lv_aload_n hx hb dX9_failsNow_148 rfl (lv_at hl 2 rfl) ?_
                    refine va_get (D := (dC, dI)) (ci := 10) (v := .ref (a 13)) (C := RX9) (T := TX9) (N := 46) hx hb hts in_w_failsNow_X9 hown hK hP 0 rfl rfl 13 (by decide) (hts (.fieldLink RX9 50 "ServiceTreeModel" "waitedAt" "[I") (by decide +kernel)) (fun _ h9 => h9) rfl dX9_failsNow_149 ?_
                    refine lv_bipush (v := 10) hx hb dX9_failsNow_152 (by decide) ?_
                    refine lv_iload_n hx hb dX9_failsNow_154 rfl (lv_at hl 3 rfl) ?_
                    refine lv_imul hx hb dX9_failsNow_155 ?_
                    refine p1_topr (v := .int (nI (10 * sv))) (congrArg Value.int (pk_mul 10 sv)) ?_
                    refine lv_aload_n hx hb dX9_failsNow_156 rfl (lv_at hl 2 rfl) ?_
                    refine va_get (D := (dC, dI)) (ci := 10) (v := .ref (a 14)) (C := RX9) (T := TX9) (N := 46) hx hb hts in_w_failsNow_X9 hown hK hP 0 rfl rfl 14 (by decide) (hts (.fieldLink RX9 53 "ServiceTreeModel" "waitedMany" "[I") (by decide +kernel)) (fun _ h9 => h9) rfl dX9_failsNow_157 ?_
                    refine lv_iload_n hx hb dX9_failsNow_160 rfl (lv_at hl 3 rfl) ?_
                    refine va_iald (n := 40) (f := F40 14) hx hb hK hP 15 14 rfl rfl (vp_in_nI (n := sv) (by omega) (by decide)) dX9_failsNow_161 ?_
                    refine lv_topi (fun x41 ex41 => ?_)
                    replace hZ9 := bnd_s hZ9 ex41
                    rw [t14] at ex41
                    obtain rfl : x41 = nI (m22 - 1) := ex41.trans pk_us
                    refine lv_iadd hx hb dX9_failsNow_162 ?_
                    refine p1_topr (v := .int (nI ((10 * sv) + (m22 - 1)))) (congrArg Value.int (nI_add (10 * sv) (m22 - 1))) ?_
                    refine lv_aload_n hx hb dX9_failsNow_163 rfl (lv_at hl 2 rfl) ?_
                    refine va_get (D := (dC, dI)) (ci := 10) (v := .int (V37 22)) (C := RX9) (T := TX9) (N := 46) hx hb hts in_w_failsNow_X9 hown hK hP 0 rfl rfl 22 (by decide) (hts (.fieldLink RX9 129 "ServiceTreeModel" "tick" "I") (by decide +kernel)) (fun _ h9 => h9) rfl dX9_failsNow_164 ?_
                    refine lv_topi (fun x42 ex42 => ?_)
                    replace hZ9 := bnd_s hZ9 ex42
                    refine va_iast (n := 400) (f := F40 13) hx hb hK hP hD hS 14 13 rfl rfl (vp_in_nI (n := (10 * sv) + (m22 - 1)) (by omega) (by decide)) dX9_failsNow_167 (fun H locs hP hD hS => ?_)
                    rw [mW_set_13] at hP hD
                    obtain ⟨F43, eF43⟩ : ∃ f9 : Nat → Nat → Int32, f9 = va_up F40 13 (upd (F40 13) (nI ((10 * sv) + (m22 - 1))).toNatClampNeg x42) := ⟨_, rfl⟩
                    rw [← eF43] at hP hD
                    replace hZ9 := bnd_s hZ9 eF43
                    replace hI : StM n (b) F V F43 V37 := ⟨by rw [eF43]; exact hI.1.setF (by decide), trivial⟩
                    replace hU : ∀ j : Nat, j ∉ ([7, 8, 9, 10, 11, 12, 13, 14, 42, 43, 44] : List Nat) → F43 j = F j := by rw [eF43]; exact mw_up (by decide) hU
                    replace t14 : F43 14 = upd (F 14) (nI sv).toNatClampNeg (nI (m22 - 1)) := by rw [eF43]; exact (va_up_ne _ _ (by decide)).trans t14
                    refine lv_aload_n hx hb dX9_failsNow_168 rfl (lv_at hl 2 rfl) ?_
                    refine va_get (D := (dC, dI)) (ci := 10) (v := .ref (a 14)) (C := RX9) (T := TX9) (N := 46) hx hb hts in_w_failsNow_X9 hown hK hP 0 rfl rfl 14 (by decide) (hts (.fieldLink RX9 53 "ServiceTreeModel" "waitedMany" "[I") (by decide +kernel)) (fun _ h9 => h9) rfl dX9_failsNow_169 ?_
                    refine lv_iload_n hx hb dX9_failsNow_172 rfl (lv_at hl 3 rfl) ?_
                    refine lv_dup2_11 hx hb dX9_failsNow_173 rfl rfl ?_
                    refine va_iald (n := 40) (f := F43 14) hx hb hK hP 15 14 rfl rfl (vp_in_nI (n := sv) (by omega) (by decide)) dX9_failsNow_174 ?_
                    refine p1_topr (v := .int (nI (m22 - 1))) (congrArg Value.int (by rw [t14]; exact pk_us)) ?_
                    refine lv_iconst (v := 1) hx hb dX9_failsNow_175 (by decide) ?_
                    refine lv_iadd hx hb dX9_failsNow_176 ?_
                    refine p1_topr (v := .int (nI ((m22 - 1) + 1))) (congrArg Value.int (nI_add (m22 - 1) 1)) ?_
                    refine va_iast (n := 40) (f := F43 14) hx hb hK hP hD hS 15 14 rfl rfl (vp_in_nI (n := sv) (by omega) (by decide)) dX9_failsNow_177 (fun H locs hP hD hS => ?_)
                    rw [mW_set_14] at hP hD
                    obtain ⟨F45, eF45⟩ : ∃ f9 : Nat → Nat → Int32, f9 = va_up F43 14 (upd (F43 14) (nI sv).toNatClampNeg (nI ((m22 - 1) + 1))) := ⟨_, rfl⟩
                    rw [← eF45] at hP hD
                    replace hZ9 := bnd_s hZ9 eF45
                    replace hI : StM n (b) F V F45 V37 := ⟨by rw [eF45]; exact hI.1.set14 (i := (nI sv).toNatClampNeg) (x := (m22 - 1) + 1) (by omega), trivial⟩
                    replace hU : ∀ j : Nat, j ∉ ([7, 8, 9, 10, 11, 12, 13, 14, 42, 43, 44] : List Nat) → F45 j = F j := by rw [eF45]; exact mw_up (by decide) hU
                    replace t14 : F45 14 = upd (upd (F 14) (nI sv).toNatClampNeg (nI (m22 - 1))) (nI sv).toNatClampNeg (nI ((m22 - 1) + 1)) := by rw [eF45, va_up_self, t14]
                    refine lv_aload_n hx hb dX9_failsNow_178 rfl (lv_at hl 2 rfl) ?_
                    refine lv_iload_n hx hb dX9_failsNow_179 rfl (lv_at hl 3 rfl) ?_
                    refine lv_iconst (v := 5) hx hb dX9_failsNow_180 (by decide) ?_
                    have hFc := mw_free hD hS hA
                    refine va_callv (va_runV (As := [.int (nI sv), .int 5]) (rest := []) ⟨hx, hb, hml, hown, hts⟩ (c_w_to l dC dI h a k F45 V37 n (b) sv 5 H.size hI.1 (by omega) (by omega)) (cwV 2 hts wc_w_failsNow_w_to_211 rfl rfl rfl (by decide +kernel) ⟨Nat.le_of_ble_eq_true rfl, Nat.le_of_ble_eq_true rfl⟩) ⟨fun a9 U g mk q => by obtain ⟨q0, q1, qP, qK, qD⟩ := q; exact ⟨q0, q1, qP, va_K.moved (u := U) (U := U.calling g mk a9) (Vm.Alike.refl U.vm) qK, qD⟩, va_recv hK hP (ci := 10) (q0 := 0) rfl rfl, fun U hU hW => ⟨rfl, by rw [hU], by rw [hU]; exact hP, va_K.moved hW.alike hK, hD.weaken (fun _ _ _ _ => trivial)⟩⟩ rfl rfl hl.1 rfl (lv_room (Nat.le_of_ble_eq_true rfl)) dX9_failsNow_181 ⟨Nat.le_of_ble_eq_true rfl, Nat.le_of_ble_eq_true rfl⟩) hS (fun q _ h => hFc q h) hFc (fun u t H1 locs ht hvm hw hB hz1 hk1 hS => ?_)
                    obtain ⟨F47, V48⟩ := u
                    replace hP := hB.1
                    rw [ht] at hP
                    replace hD : va_D A (mW h a k F47 V48) := hB.2.weaken (fun _ q _ h9 => hFc q.1 h9)
                    clear hB
                    generalize H1 = H at hP hS ⊢
                    replace hP : va_P (dC, dI) vwCl (mW h a k F47 V48) H := hP
                    obtain ⟨hwI, hwU, hwV, hw⟩ := hw
                    replace hU : ∀ j : Nat, j ∉ ([7, 8, 9, 10, 11, 12, 13, 14, 42, 43, 44] : List Nat) → F47 j = F j := mw_tr (by decide) hwU hU
                    replace hV : ∀ j : Nat, j ∉ ([45] : List Nat) → V48 j = V j := mw_tr (by decide) hwV hV
                    replace hI : StM n (b + 2) F V F47 V48 := hI.trans hwI
                    replace t14 : F47 14 = upd (upd (F 14) (nI sv).toNatClampNeg (nI (m22 - 1))) (nI sv).toNatClampNeg (nI ((m22 - 1) + 1)) := (hwU 14 (by decide)).trans t14
                    obtain ⟨hw, hwe⟩ := hw
                    replace hw : (F47, V48) = f_w_to n sv 5 F45 V37 := hw
                    replace hZ9 := bn2_s hZ9 hw
                    rw [hQ]
                    exact W.vret hx hb hr (fun t ht hW => ⟨⟨(F47, V48), rfl, ⟨hI.mono (by omega), hU, hV, hZ9.symm.trans hR0⟩, by rw [ht]; exact hP, hD⟩, hS.F ht⟩) hS.2.2 dX9_failsNow_184
                  · replace c38 : ¬ (10 ≤ i32) := fun q9 => c38 ((nI_leI (a := 10) (b := i32) (by omega) (by omega)).mpr q9)
                    replace hZ9 := ite_f hZ9 c38
                    refine lv_aload_n hx hb dX9_failsNow_108 rfl (lv_at hl 2 rfl) ?_
                    refine va_get (D := (dC, dI)) (ci := 10) (v := .ref (a 13)) (C := RX9) (T := TX9) (N := 46) hx hb hts in_w_failsNow_X9 hown hK hP 0 rfl rfl 13 (by decide) (hts (.fieldLink RX9 50 "ServiceTreeModel" "waitedAt" "[I") (by decide +kernel)) (fun _ h9 => h9) rfl dX9_failsNow_109 ?_
                    refine lv_bipush (v := 10) hx hb dX9_failsNow_112 (by decide) ?_
                    refine lv_iload_n hx hb dX9_failsNow_114 rfl (lv_at hl 3 rfl) ?_
                    refine lv_imul hx hb dX9_failsNow_115 ?_
                    refine p1_topr (v := .int (nI (10 * sv))) (congrArg Value.int (pk_mul 10 sv)) ?_
                    refine lv_iload_n hx hb dX9_failsNow_116 rfl (lv_at hl 0 rfl) ?_
                    refine lv_iadd hx hb dX9_failsNow_117 ?_
                    refine p1_topr (v := .int (nI ((10 * sv) + i32))) (congrArg Value.int (nI_add (10 * sv) i32)) ?_
                    refine lv_iconst (v := 1) hx hb dX9_failsNow_118 (by decide) ?_
                    refine lv_isub hx hb dX9_failsNow_119 ?_
                    refine p1_topr (v := .int (nI (((10 * sv) + i32) - 1))) (congrArg Value.int (pk_sub (a := (10 * sv) + i32) (b := 1) (by omega))) ?_
                    refine lv_aload_n hx hb dX9_failsNow_120 rfl (lv_at hl 2 rfl) ?_
                    refine va_get (D := (dC, dI)) (ci := 10) (v := .ref (a 13)) (C := RX9) (T := TX9) (N := 46) hx hb hts in_w_failsNow_X9 hown hK hP 0 rfl rfl 13 (by decide) (hts (.fieldLink RX9 50 "ServiceTreeModel" "waitedAt" "[I") (by decide +kernel)) (fun _ h9 => h9) rfl dX9_failsNow_121 ?_
                    refine lv_bipush (v := 10) hx hb dX9_failsNow_124 (by decide) ?_
                    refine lv_iload_n hx hb dX9_failsNow_126 rfl (lv_at hl 3 rfl) ?_
                    refine lv_imul hx hb dX9_failsNow_127 ?_
                    refine p1_topr (v := .int (nI (10 * sv))) (congrArg Value.int (pk_mul 10 sv)) ?_
                    refine lv_iload_n hx hb dX9_failsNow_128 rfl (lv_at hl 0 rfl) ?_
                    refine lv_iadd hx hb dX9_failsNow_129 ?_
                    refine p1_topr (v := .int (nI ((10 * sv) + i32))) (congrArg Value.int (nI_add (10 * sv) i32)) ?_
                    refine va_iald (n := 400) (f := F36 13) hx hb hK hP 14 13 rfl rfl (vp_in_nI (n := (10 * sv) + i32) (by omega) (by decide)) dX9_failsNow_130 ?_
                    refine lv_topi (fun x49 ex49 => ?_)
                    replace hZ9 := bnd_s hZ9 ex49
                    refine va_iast (n := 400) (f := F36 13) hx hb hK hP hD hS 14 13 rfl rfl (vp_in_nI (n := ((10 * sv) + i32) - 1) (by omega) (by decide)) dX9_failsNow_131 (fun H locs hP hD hS => ?_)
                    rw [mW_set_13] at hP hD
                    obtain ⟨F50, eF50⟩ : ∃ f9 : Nat → Nat → Int32, f9 = va_up F36 13 (upd (F36 13) (nI (((10 * sv) + i32) - 1)).toNatClampNeg x49) := ⟨_, rfl⟩
                    rw [← eF50] at hP hD
                    replace hZ9 := bnd_s hZ9 eF50
                    replace hI : StM n (b) F V F50 V37 := ⟨by rw [eF50]; exact hI.1.setF (by decide), trivial⟩
                    replace hU : ∀ j : Nat, j ∉ ([7, 8, 9, 10, 11, 12, 13, 14, 42, 43, 44] : List Nat) → F50 j = F j := by rw [eF50]; exact mw_up (by decide) hU
                    replace t14 : F50 14 = F 14 := by rw [eF50]; exact (va_up_ne _ _ (by decide)).trans t14
                    refine lv_iinc (v := nI (i32 + 1)) (lv' := [(3, .int (nI (i32 + 1))), (2, .int y10), (0, .ref h), (1, .int (nI sv))]) hx hb dX9_failsNow_132 hl (k := 0) rfl (nI_add i32 1) (by decide) rfl (fun ls hl => ?_)
                    refine lv_goto (tgt := 102) hx hb dX9_failsNow_135 (by decide) ?_
                    exact ih34 (i32 + 1)  F50 V37 _ _ _ (by omega) (by omega) (hI.mono (by omega)) hU hV t14 hZ9 hP hD hS (lv_sub hl [0, 1, 2, 3] rfl)
              exact lp35 (10 + 1) 1  F8 V9 _ _ _ (by omega) (by omega) (hI.mono (by omega)) hU hV t14 hZ9 hP hD hS hl
          · replace hZ9 := ite_f hZ9 c20
            refine lv_aload_n hx hb dX9_failsNow_82 rfl (lv_at hl 2 rfl) ?_
            refine lv_iload_n hx hb dX9_failsNow_83 rfl (lv_at hl 3 rfl) ?_
            refine lv_iconst (v := 4) hx hb dX9_failsNow_84 (by decide) ?_
            have hFc := mw_free hD hS hA
            refine va_callv (va_runV (As := [.int (nI sv), .int 4]) (rest := []) ⟨hx, hb, hml, hown, hts⟩ (c_w_to l dC dI h a k F8 V9 n (b) sv 4 H.size hI.1 (by omega) (by omega)) (cwV 2 hts wc_w_failsNow_w_to_211 rfl rfl rfl (by decide +kernel) ⟨Nat.le_of_ble_eq_true rfl, Nat.le_of_ble_eq_true rfl⟩) ⟨fun a9 U g mk q => by obtain ⟨q0, q1, qP, qK, qD⟩ := q; exact ⟨q0, q1, qP, va_K.moved (u := U) (U := U.calling g mk a9) (Vm.Alike.refl U.vm) qK, qD⟩, va_recv hK hP (ci := 10) (q0 := 0) rfl rfl, fun U hU hW => ⟨rfl, by rw [hU], by rw [hU]; exact hP, va_K.moved hW.alike hK, hD.weaken (fun _ _ _ _ => trivial)⟩⟩ rfl rfl hl.1 rfl (lv_room (Nat.le_of_ble_eq_true rfl)) dX9_failsNow_85 ⟨Nat.le_of_ble_eq_true rfl, Nat.le_of_ble_eq_true rfl⟩) hS (fun q _ h => hFc q h) hFc (fun u t H1 locs ht hvm hw hB hz1 hk1 hS => ?_)
            obtain ⟨F52, V53⟩ := u
            replace hP := hB.1
            rw [ht] at hP
            replace hD : va_D A (mW h a k F52 V53) := hB.2.weaken (fun _ q _ h9 => hFc q.1 h9)
            clear hB
            generalize H1 = H at hP hS ⊢
            replace hP : va_P (dC, dI) vwCl (mW h a k F52 V53) H := hP
            obtain ⟨hwI, hwU, hwV, hw⟩ := hw
            replace hU : ∀ j : Nat, j ∉ ([7, 8, 9, 10, 11, 12, 13, 14, 42, 43, 44] : List Nat) → F52 j = F j := mw_tr (by decide) hwU hU
            replace hV : ∀ j : Nat, j ∉ ([45] : List Nat) → V53 j = V j := mw_tr (by decide) hwV hV
            replace hI : StM n (b + 2) F V F52 V53 := hI.trans hwI
            replace t14 : F52 14 = F 14 := (hwU 14 (by decide)).trans t14
            obtain ⟨hw, hwe⟩ := hw
            replace hw : (F52, V53) = f_w_to n sv 4 F8 V9 := hw
            replace hZ9 := bn2_s hZ9 hw
            rw [hQ]
            exact W.vret hx hb hr (fun t ht hW => ⟨⟨(F52, V53), rfl, ⟨hI.mono (by omega), hU, hV, hZ9.symm.trans hR0⟩, by rw [ht]; exact hP, hD⟩, hS.F ht⟩) hS.2.2 dX9_failsNow_88
      · replace c13 : ¬ (m12 ≤ i4) := fun q9 => c13 ((nI_leI (a := m12) (b := i4) (by omega) (by omega)).mpr q9)
        replace hZ9 := ite_f hZ9 c13
        refine lv_iload_n hx hb dX9_failsNow_24 rfl (lv_at hl 1 rfl) ?_
        refine lv_aload_n hx hb dX9_failsNow_25 rfl (lv_at hl 2 rfl) ?_
        refine va_get (D := (dC, dI)) (ci := 10) (v := .int (V9 22)) (C := RX9) (T := TX9) (N := 46) hx hb hts in_w_failsNow_X9 hown hK hP 0 rfl rfl 22 (by decide) (hts (.fieldLink RX9 129 "ServiceTreeModel" "tick" "I") (by decide +kernel)) (fun _ h9 => h9) rfl dX9_failsNow_26 ?_
        refine lv_topi (fun x54 ex54 => ?_)
        replace hZ9 := bnd_s hZ9 ex54
        refine lv_aload_n hx hb dX9_failsNow_29 rfl (lv_at hl 2 rfl) ?_
        refine va_get (D := (dC, dI)) (ci := 10) (v := .ref (a 13)) (C := RX9) (T := TX9) (N := 46) hx hb hts in_w_failsNow_X9 hown hK hP 0 rfl rfl 13 (by decide) (hts (.fieldLink RX9 50 "ServiceTreeModel" "waitedAt" "[I") (by decide +kernel)) (fun _ h9 => h9) rfl dX9_failsNow_30 ?_
        refine lv_bipush (v := 10) hx hb dX9_failsNow_33 (by decide) ?_
        refine lv_iload_n hx hb dX9_failsNow_35 rfl (lv_at hl 3 rfl) ?_
        refine lv_imul hx hb dX9_failsNow_36 ?_
        refine p1_topr (v := .int (nI (10 * sv))) (congrArg Value.int (pk_mul 10 sv)) ?_
        refine lv_iload_n hx hb dX9_failsNow_37 rfl (lv_at hl 0 rfl) ?_
        refine lv_iadd hx hb dX9_failsNow_38 ?_
        refine p1_topr (v := .int (nI ((10 * sv) + i4))) (congrArg Value.int (nI_add (10 * sv) i4)) ?_
        refine va_iald (n := 400) (f := F8 13) hx hb hK hP 14 13 rfl rfl (vp_in_nI (n := (10 * sv) + i4) (by omega) (by decide)) dX9_failsNow_39 ?_
        refine lv_topi (fun x55 ex55 => ?_)
        replace hZ9 := bnd_s hZ9 ex55
        refine lv_isub hx hb dX9_failsNow_40 ?_
        refine lv_topi (fun x56 ex56 => ?_)
        replace hZ9 := bnd_s hZ9 ex56
        refine lv_aload_n hx hb dX9_failsNow_41 rfl (lv_at hl 2 rfl) ?_
        refine va_get (D := (dC, dI)) (ci := 10) (v := .ref (a 6)) (C := RX9) (T := TX9) (N := 46) hx hb hts in_w_failsNow_X9 hown hK hP 0 rfl rfl 6 (by decide) (hts (.fieldLink RX9 28 "ServiceTreeModel" "window" "[I") (by decide +kernel)) (fun _ h9 => h9) rfl dX9_failsNow_42 ?_
        refine lv_iload_n hx hb dX9_failsNow_45 rfl (lv_at hl 3 rfl) ?_
        refine va_iald (n := 40) (f := F8 6) hx hb hK hP 7 6 rfl rfl (vp_in_nI (n := sv) (by omega) (by decide)) dX9_failsNow_46 ?_
        refine lv_topi (fun x57 ex57 => ?_)
        replace hZ9 := bnd_s hZ9 ex57
        refine lv_icmp_ge (tgt := 54) hx hb dX9_failsNow_47 (by decide) (fun c58 => ?_) (fun c58 => ?_)
        · replace hZ9 := ite_t hZ9 c58
          refine lv_iconst (v := 0) hx hb dX9_failsNow_54 (by decide) ?_
          refine lv_iadd hx hb dX9_failsNow_55 ?_
          refine lv_topi (fun x59 ex59 => ?_)
          replace hZ9 := bnd_s hZ9 ex59
          refine lv_istore_n (lv' := [(2, .int x59), (3, .int (nI i4)), (0, .ref h), (1, .int (nI sv))]) hx hb dX9_failsNow_56 rfl hl (by decide) rfl (fun ls hl => ?_)
          refine lv_iinc (v := nI (i4 + 1)) (lv' := [(3, .int (nI (i4 + 1))), (2, .int x59), (0, .ref h), (1, .int (nI sv))]) hx hb dX9_failsNow_57 hl (k := 1) rfl (nI_add i4 1) (by decide) rfl (fun ls hl => ?_)
          refine lv_goto (tgt := 14) hx hb dX9_failsNow_60 (by decide) ?_
          exact ih6 (i4 + 1) x59 F8 V9 _ _ _ (by omega) (by omega) (hI.mono (by omega)) hU hV t14 hZ9 hP hD hS (lv_sub hl [0, 1, 2, 3] rfl)
        · replace hZ9 := ite_f hZ9 c58
          refine lv_iconst (v := 1) hx hb dX9_failsNow_50 (by decide) ?_
          refine lv_goto (tgt := 55) hx hb dX9_failsNow_51 (by decide) ?_
          refine lv_iadd hx hb dX9_failsNow_55 ?_
          refine lv_topi (fun x60 ex60 => ?_)
          replace hZ9 := bnd_s hZ9 ex60
          refine lv_istore_n (lv' := [(2, .int x60), (3, .int (nI i4)), (0, .ref h), (1, .int (nI sv))]) hx hb dX9_failsNow_56 rfl hl (by decide) rfl (fun ls hl => ?_)
          refine lv_iinc (v := nI (i4 + 1)) (lv' := [(3, .int (nI (i4 + 1))), (2, .int x60), (0, .ref h), (1, .int (nI sv))]) hx hb dX9_failsNow_57 hl (k := 1) rfl (nI_add i4 1) (by decide) rfl (fun ls hl => ?_)
          refine lv_goto (tgt := 14) hx hb dX9_failsNow_60 (by decide) ?_
          exact ih6 (i4 + 1) x60 F8 V9 _ _ _ (by omega) (by omega) (hI.mono (by omega)) hU hV t14 hZ9 hP hD hS (lv_sub hl [0, 1, 2, 3] rfl)
  exact lp7 (10 + 1) 0 0 F3 V _ _ _ (by omega) (by omega) (hI.mono (by omega)) hU hV t14 hZ9 hP hD hS hl
def f_w_isFree_8 (n : Nat) (sv : Nat) (F : Nat → Nat → Int32) : Nat → Nat → Int32 → (Nat → Int32 → Int32) → Int32
  | 0, i4, y8, K9_8 => K9_8 i4 y8
  | fu5 + 1, i4, y8, K9_8 => if n ≤ i4 then (K9_8 i4 y8) else (if y8 = (0 : Int32) then (f_w_isFree_8 n sv F fu5 (i4 + 1) (0 : Int32) K9_8) else (bnd (f_w_has n 3 sv i4 F) (fun (r11 : Int32) => if r11 = (0 : Int32) then (f_w_isFree_8 n sv F fu5 (i4 + 1) (1 : Int32) K9_8) else (bnd (F 7 (nI i4).toNatClampNeg) (fun (x15 : Int32) => if x15 = (1 : Int32) then (f_w_isFree_8 n sv F fu5 (i4 + 1) (0 : Int32) K9_8) else (if x15 = (2 : Int32) then (f_w_isFree_8 n sv F fu5 (i4 + 1) (0 : Int32) K9_8) else (if x15 = (3 : Int32) then (f_w_isFree_8 n sv F fu5 (i4 + 1) (0 : Int32) K9_8) else (f_w_isFree_8 n sv F fu5 (i4 + 1) (1 : Int32) K9_8))))))))
def f_w_isFree (n : Nat) (sv : Nat) (F : Nat → Nat → Int32) : Int32 := bnd (f_w_hasNeeds n sv F) (fun (r1 : Int32) => f_w_isFree_8 n sv F (n + 1) (0 : Nat) r1 (fun (i4 : Nat) (y8 : Int32) => (y8)))
def wq_w_isFree : List Cond := ([.code yX9_isFree cX9_isFree 4 (some .boolean), .fieldLink RX9 126 "ServiceTreeModel" "services" "I", .fieldLink RX9 31 "ServiceTreeModel" "state" "[I", .methodLink RX9 231 yX9_hasNeeds, .instanceMethod yX9_hasNeeds, .selects RX9 yX9_hasNeeds yX9_hasNeeds, .initialized RX9, .methodLink RX9 150 yX9_has, .instanceMethod yX9_has, .selects RX9 yX9_has yX9_has] : List Cond) ++ (wsX90 ++ (wq_w_hasNeeds ++ (wq_w_has)))
theorem in_w_isFree_X9 : ∀ w ∈ wsX90, w ∈ wq_w_isFree := fun _ h => List.mem_append_right _ (List.mem_append_left _ (h))
set_option maxRecDepth 20000 in
theorem wi_w_isFree : ∀ w ∈ wq_w_isFree, w ∈ lw_tbl := List.forall_mem_append.mpr ⟨(wix [1136, 873, 859, 1110, 1112, 53, 69, 1023, 1025, 35] rfl), List.forall_mem_append.mpr ⟨inKX9, List.forall_mem_append.mpr ⟨wi_w_hasNeeds, wi_w_has⟩⟩⟩
set_option maxRecDepth 20000 in
theorem wg_w_isFree : GoodIn wq_w_isFree wq_w_isFree := goodIn_sub (fun _ h => h) (by decide +kernel)
set_option maxRecDepth 20000 in
theorem wc_w_isFree_w_hasNeeds_231 : GoodIn wq_w_isFree (wsV RX9 231 RX9 yX9_hasNeeds wq_w_hasNeeds) := goodIn_app (goodIn_of _ (by decide +kernel)) (fun w h => ⟨List.mem_append_right _ (List.mem_append_right _ (List.mem_append_left _ (h))), (wg_w_hasNeeds w h).2⟩)
set_option maxRecDepth 20000 in
theorem wc_w_isFree_w_has_150 : GoodIn wq_w_isFree (wsV RX9 150 RX9 yX9_has wq_w_has) := goodIn_app (goodIn_of _ (by decide +kernel)) (fun w h => ⟨List.mem_append_right _ (List.mem_append_right _ (List.mem_append_right _ (h))), (wg_w_has w h).2⟩)
def rm_w_isFree : Room := { frames := 2, cells := 0, slots := 0, locals := 46 }
set_option maxHeartbeats 4000000 in
set_option maxRecDepth 100000 in
theorem c_w_isFree (l : Launch) (dC : Nat → ClassId) (dI : Nat → Nat → Nat) (h : Nat) (a : Nat → Nat) (k : Nat → ClassId) (F : Nat → Nat → Int32) (V : Nat → Int32) (n b : Nat) (sv : Nat) (sz : Nat) (hI0 : InvM n b F V) (hb0 : b + 0 < 2147483648) (hp0 : sv < n) : Met l yX9_isFree wq_w_isFree rm_w_isFree (va_Pc [.ref h, .int (nI sv)] (fun U => U.heap.size = sz ∧ va_P (dC, dI) vwCl (mW h a k F V) U.heap ∧ va_K (dC, dI) vwCl (mT k) U ∧ va_D (fun _ => True) (mW h a k F V))) (va_Qi (fun (r : Int32) (u : (Nat → Nat → Int32) × (Nat → Int32)) => u.1 = F ∧ u.2 = V ∧ ((r = f_w_isFree n sv F) ∧ (r = 0 ∨ r = 1))) (fun (u : (Nat → Nat → Int32) × (Nat → Int32)) (t : State) => va_P (dC, dI) vwCl (mW h a k u.1 u.2) t.heap ∧ va_D (va_A (mW h a k F V) sz) (mW h a k u.1 u.2)) (va_A (mW h a k F V) sz)) 0 0 (va_A (mW h a k F V) sz) := by
  have hn : n ≤ 40 := hI0.1
  have hI : StM n b F V F V := StM.rf hI0
  have hU : ∀ j : Nat, j ∉ ([] : List Nat) → F j = F j := fun _ _ => rfl
  have hV : ∀ j : Nat, j ∉ ([] : List Nat) → V j = V j := fun _ _ => rfl
  refine Met.ofW (cc := cX9_isFree) (maxL := 4) (ret := (some .boolean)) (by decide) rfl ?_
  intro p e s m args below meth c s₁ B hml hv
  obtain ⟨rfl, hsz, hP, hK, hD0⟩ := hv
  have hx := B.exec
  have hb := B.bytes
  have hr := B.returns
  have hts := atoms_spec (ws := wq_w_isFree) B.pre
  have hown : s.vm.findClass RX9 = some m.cls := findClass_of_methodNamed B.named
  have hlocks := B.notSynchronized
  subst hsz
  have hD := hD0.self (sz := s.heap.size)
  generalize hAe : va_A (mW h a k F V) s.heap.size = A at hD ⊢
  have hA : ∀ q : Nat, s.heap.size ≤ q → A q := fun q h => by rw [← hAe]; exact Or.inr h
  have hS : va_S A s.heap s.heap [] := va_S.rf
  have hl := lv_entry ([.ref h, .int (nI sv)]) (n := 4) (Nat.le_of_ble_eq_true rfl)
  rw [lg_entry_eq]
  generalize (lg_sl ([.ref h, .int (nI sv)]) ++ List.replicate (4 - (lg_sl ([.ref h, .int (nI sv)])).length) Slot.unset).toArray = ls at hl ⊢
  have hl : lv_has ls 4 [(0, .ref h), (1, .int (nI sv))] := hl
  refine mw_Q (fun Q0 hQ => ?_)
  obtain ⟨RES, hR0⟩ : ∃ R9, R9 = f_w_isFree n sv F := ⟨_, rfl⟩
  have hZ9 := hR0
  unfold f_w_isFree at hZ9
  refine lv_aload_n hx hb dX9_isFree_0 rfl (lv_at hl 0 rfl) ?_
  refine lv_iload_n hx hb dX9_isFree_1 rfl (lv_at hl 1 rfl) ?_
  have hFc := mw_free hD hS hA
  refine va_calli (va_runV (As := [.int (nI sv)]) (rest := []) ⟨hx, hb, hml, hown, hts⟩ (c_w_hasNeeds l dC dI h a k F V n (b) sv s.heap.size hI.1 (by omega) (by omega)) (cwV 1 hts wc_w_isFree_w_hasNeeds_231 rfl rfl rfl (by decide +kernel) ⟨Nat.le_of_ble_eq_true rfl, Nat.le_of_ble_eq_true rfl⟩) ⟨fun a9 U g mk q => by obtain ⟨q0, q1, qP, qK, qD⟩ := q; exact ⟨q0, q1, qP, va_K.moved (u := U) (U := U.calling g mk a9) (Vm.Alike.refl U.vm) qK, qD⟩, va_recv hK hP (ci := 10) (q0 := 0) rfl rfl, fun U hU hW => ⟨rfl, by rw [hU], by rw [hU]; exact hP, va_K.moved hW.alike hK, hD.weaken (fun _ _ _ _ => trivial)⟩⟩ rfl rfl hl.1 rfl (lv_room (Nat.le_of_ble_eq_true rfl)) dX9_isFree_2 ⟨Nat.le_of_ble_eq_true rfl, Nat.le_of_ble_eq_true rfl⟩) hS (fun q _ h => hFc q h) hFc (fun r1 u t H1 locs ht hvm hw hB hz1 hk1 hS => ?_)
  obtain ⟨F2, V3⟩ := u
  replace hP := hB.1
  rw [ht] at hP
  replace hD : va_D A (mW h a k F2 V3) := hB.2.weaken (fun _ q _ h9 => hFc q.1 h9)
  clear hB
  generalize H1 = H at hP hS ⊢
  replace hP : va_P (dC, dI) vwCl (mW h a k F2 V3) H := hP
  obtain ⟨hwF, hwV, hw⟩ : F2 = F ∧ V3 = V ∧ _ := hw
  rw [hwF, hwV] at hP hD
  obtain ⟨hw, hwe⟩ := hw
  replace hw : r1 = f_w_hasNeeds n sv F := hw
  replace hZ9 := bnd_s hZ9 hw
  have br1 := hwe
  refine lv_istore_n (lv' := [(2, .int r1), (0, .ref h), (1, .int (nI sv))]) hx hb dX9_isFree_5 rfl hl (by decide) rfl (fun ls hl => ?_)
  refine lv_iconst (v := 0) hx hb dX9_isFree_6 (by decide) ?_
  refine lv_istore_n (lv' := [(3, .int 0), (2, .int r1), (0, .ref h), (1, .int (nI sv))]) hx hb dX9_isFree_7 rfl hl (by decide) rfl (fun ls hl => ?_)
  obtain ⟨K9_8, hK9_8, hZ9⟩ := lp_gen hZ9
  have lp7 : ∀ (fu5 i4 : Nat) (y8 : Int32) (H : Heap) (locs : List Loc) (ls : Array Slot), n < i4 + fu5 → i4 ≤ n → (y8 = 0 ∨ y8 = 1) → RES = f_w_isFree_8 n sv F fu5 i4 y8 K9_8 → va_P (dC, dI) vwCl (mW h a k F V) H → va_D A (mW h a k F V) → va_S A s.heap H locs → lv_has ls 4 [(3, .int (nI i4)), (2, .int y8), (0, .ref h), (1, .int (nI sv))] → W p l e (headSpec wq_w_isFree rm_w_isFree).room s m ([.ref h, .int (nI sv)] : List Value).toArray below meth c H locs 0 0 Q0 (F0 m 8 ls []) := by
    intro fu5
    induction fu5 with
    | zero =>
      intro i4 y8 H locs ls hf hi
      exact absurd hf (by omega)
    | succ fu5 ih6 =>
      intro i4 y8 H locs ls hfi4 hii4 hb2_i4 hZ9 hP hD hS hl
      rw [f_w_isFree_8] at hZ9
      refine lv_iload_n hx hb dX9_isFree_8 rfl (lv_at hl 0 rfl) ?_
      refine lv_aload_n hx hb dX9_isFree_9 rfl (lv_at hl 2 rfl) ?_
      refine va_get (D := (dC, dI)) (ci := 10) (v := .int (V 21)) (C := RX9) (T := TX9) (N := 46) hx hb hts in_w_isFree_X9 hown hK hP 0 rfl rfl 21 (by decide) (hts (.fieldLink RX9 126 "ServiceTreeModel" "services" "I") (by decide +kernel)) (fun _ h9 => h9) rfl dX9_isFree_10 ?_
      refine p1_topr (v := .int (nI n)) (congrArg Value.int hI.1.2.1) ?_
      refine lv_icmp_ge (tgt := 72) hx hb dX9_isFree_13 (by decide) (fun c9 => ?_) (fun c9 => ?_)
      · replace c9 : n ≤ i4 := (nI_leI (a := n) (b := i4) (by omega) (by omega)).mp c9
        replace hZ9 := ite_t hZ9 c9
        replace hZ9 := lp_app2 hK9_8 hZ9
        refine lv_iload_n hx hb dX9_isFree_72 rfl (lv_at hl 1 rfl) ?_
        rw [hQ]
        exact W.zret (v := y8) hx hb hr (mw_nb hb2_i4) (fun t ht hW => ⟨⟨y8, (F, V), rfl, ⟨rfl, rfl, ⟨hZ9.symm.trans hR0, hb2_i4⟩⟩, by rw [ht]; exact hP, hD⟩, hS.F ht⟩) hS.2.2 dX9_isFree_73
      · replace c9 : ¬ (n ≤ i4) := fun q9 => c9 ((nI_leI (a := n) (b := i4) (by omega) (by omega)).mpr q9)
        replace hZ9 := ite_f hZ9 c9
        refine lv_iload_n hx hb dX9_isFree_16 rfl (lv_at hl 1 rfl) ?_
        refine lv_if_eq (tgt := 64) hx hb dX9_isFree_17 (by decide) (fun c10 => ?_) (fun c10 => ?_)
        · replace hZ9 := ite_t hZ9 c10
          refine lv_iconst (v := 0) hx hb dX9_isFree_64 (by decide) ?_
          refine lv_istore_n (lv' := [(2, .int 0), (3, .int (nI i4)), (0, .ref h), (1, .int (nI sv))]) hx hb dX9_isFree_65 rfl hl (by decide) rfl (fun ls hl => ?_)
          refine lv_iinc (v := nI (i4 + 1)) (lv' := [(3, .int (nI (i4 + 1))), (2, .int 0), (0, .ref h), (1, .int (nI sv))]) hx hb dX9_isFree_66 hl (k := 1) rfl (nI_add i4 1) (by decide) rfl (fun ls hl => ?_)
          refine lv_goto (tgt := 8) hx hb dX9_isFree_69 (by decide) ?_
          exact ih6 (i4 + 1) 0 _ _ _ (by omega) (by omega) (Or.inl rfl) hZ9 hP hD hS (lv_sub hl [0, 1, 2, 3] rfl)
        · replace hZ9 := ite_f hZ9 c10
          refine lv_aload_n hx hb dX9_isFree_20 rfl (lv_at hl 2 rfl) ?_
          refine lv_iconst (v := 3) hx hb dX9_isFree_21 (by decide) ?_
          refine lv_iload_n hx hb dX9_isFree_22 rfl (lv_at hl 3 rfl) ?_
          refine lv_iload_n hx hb dX9_isFree_23 rfl (lv_at hl 0 rfl) ?_
          have hFc := mw_free hD hS hA
          refine va_calli (va_runV (As := [.int 3, .int (nI sv), .int (nI i4)]) (rest := []) ⟨hx, hb, hml, hown, hts⟩ (c_w_has l dC dI h a k F V n (b) 3 sv i4 H.size hI.1 (by omega) (by omega) (by omega) (by omega)) (cwV 3 hts wc_w_isFree_w_has_150 rfl rfl rfl (by decide +kernel) ⟨Nat.le_of_ble_eq_true rfl, Nat.le_of_ble_eq_true rfl⟩) ⟨fun a9 U g mk q => by obtain ⟨q0, q1, qP, qK, qD⟩ := q; exact ⟨q0, q1, qP, va_K.moved (u := U) (U := U.calling g mk a9) (Vm.Alike.refl U.vm) qK, qD⟩, va_recv hK hP (ci := 10) (q0 := 0) rfl rfl, fun U hU hW => ⟨rfl, by rw [hU], by rw [hU]; exact hP, va_K.moved hW.alike hK, hD.weaken (fun _ _ _ _ => trivial)⟩⟩ rfl rfl hl.1 rfl (lv_room (Nat.le_of_ble_eq_true rfl)) dX9_isFree_24 ⟨Nat.le_of_ble_eq_true rfl, Nat.le_of_ble_eq_true rfl⟩) hS (fun q _ h => hFc q h) hFc (fun r11 u t H1 locs ht hvm hw hB hz1 hk1 hS => ?_)
          obtain ⟨F12, V13⟩ := u
          replace hP := hB.1
          rw [ht] at hP
          replace hD : va_D A (mW h a k F12 V13) := hB.2.weaken (fun _ q _ h9 => hFc q.1 h9)
          clear hB
          generalize H1 = H at hP hS ⊢
          replace hP : va_P (dC, dI) vwCl (mW h a k F12 V13) H := hP
          obtain ⟨hwF, hwV, hw⟩ : F12 = F ∧ V13 = V ∧ _ := hw
          rw [hwF, hwV] at hP hD
          obtain ⟨hw, hwe⟩ := hw
          replace hw : r11 = f_w_has n 3 sv i4 F := hw
          replace hZ9 := bnd_s hZ9 hw
          have br11 := hwe
          refine lv_if_eq (tgt := 60) hx hb dX9_isFree_27 (by decide) (fun c14 => ?_) (fun c14 => ?_)
          · replace hZ9 := ite_t hZ9 c14
            refine lv_iconst (v := 1) hx hb dX9_isFree_60 (by decide) ?_
            refine lv_goto (tgt := 65) hx hb dX9_isFree_61 (by decide) ?_
            refine lv_istore_n (lv' := [(2, .int 1), (3, .int (nI i4)), (0, .ref h), (1, .int (nI sv))]) hx hb dX9_isFree_65 rfl hl (by decide) rfl (fun ls hl => ?_)
            refine lv_iinc (v := nI (i4 + 1)) (lv' := [(3, .int (nI (i4 + 1))), (2, .int 1), (0, .ref h), (1, .int (nI sv))]) hx hb dX9_isFree_66 hl (k := 1) rfl (nI_add i4 1) (by decide) rfl (fun ls hl => ?_)
            refine lv_goto (tgt := 8) hx hb dX9_isFree_69 (by decide) ?_
            exact ih6 (i4 + 1) 1 _ _ _ (by omega) (by omega) (Or.inr rfl) hZ9 hP hD hS (lv_sub hl [0, 1, 2, 3] rfl)
          · replace hZ9 := ite_f hZ9 c14
            refine lv_aload_n hx hb dX9_isFree_30 rfl (lv_at hl 2 rfl) ?_
            refine va_get (D := (dC, dI)) (ci := 10) (v := .ref (a 7)) (C := RX9) (T := TX9) (N := 46) hx hb hts in_w_isFree_X9 hown hK hP 0 rfl rfl 7 (by decide) (hts (.fieldLink RX9 31 "ServiceTreeModel" "state" "[I") (by decide +kernel)) (fun _ h9 => h9) rfl dX9_isFree_31 ?_
            refine lv_iload_n hx hb dX9_isFree_34 rfl (lv_at hl 0 rfl) ?_
            refine va_iald (n := 40) (f := F 7) hx hb hK hP 8 7 rfl rfl (vp_in_nI (n := i4) (by omega) (by decide)) dX9_isFree_35 ?_
            refine lv_topi (fun x15 ex15 => ?_)
            replace hZ9 := bnd_s hZ9 ex15
            refine lv_iconst (v := 1) hx hb dX9_isFree_36 (by decide) ?_
            refine lv_icmp_eq (tgt := 64) hx hb dX9_isFree_37 (by decide) (fun c16 => ?_) (fun c16 => ?_)
            · replace hZ9 := ite_t hZ9 c16
              refine lv_iconst (v := 0) hx hb dX9_isFree_64 (by decide) ?_
              refine lv_istore_n (lv' := [(2, .int 0), (3, .int (nI i4)), (0, .ref h), (1, .int (nI sv))]) hx hb dX9_isFree_65 rfl hl (by decide) rfl (fun ls hl => ?_)
              refine lv_iinc (v := nI (i4 + 1)) (lv' := [(3, .int (nI (i4 + 1))), (2, .int 0), (0, .ref h), (1, .int (nI sv))]) hx hb dX9_isFree_66 hl (k := 1) rfl (nI_add i4 1) (by decide) rfl (fun ls hl => ?_)
              refine lv_goto (tgt := 8) hx hb dX9_isFree_69 (by decide) ?_
              exact ih6 (i4 + 1) 0 _ _ _ (by omega) (by omega) (Or.inl rfl) hZ9 hP hD hS (lv_sub hl [0, 1, 2, 3] rfl)
            · replace hZ9 := ite_f hZ9 c16
              refine lv_aload_n hx hb dX9_isFree_40 rfl (lv_at hl 2 rfl) ?_
              refine va_get (D := (dC, dI)) (ci := 10) (v := .ref (a 7)) (C := RX9) (T := TX9) (N := 46) hx hb hts in_w_isFree_X9 hown hK hP 0 rfl rfl 7 (by decide) (hts (.fieldLink RX9 31 "ServiceTreeModel" "state" "[I") (by decide +kernel)) (fun _ h9 => h9) rfl dX9_isFree_41 ?_
              refine lv_iload_n hx hb dX9_isFree_44 rfl (lv_at hl 0 rfl) ?_
              refine va_iald (n := 40) (f := F 7) hx hb hK hP 8 7 rfl rfl (vp_in_nI (n := i4) (by omega) (by decide)) dX9_isFree_45 ?_
              refine p1_topr (v := .int x15) (congrArg Value.int ex15.symm) ?_
              refine lv_iconst (v := 2) hx hb dX9_isFree_46 (by decide) ?_
              refine lv_icmp_eq (tgt := 64) hx hb dX9_isFree_47 (by decide) (fun c18 => ?_) (fun c18 => ?_)
              · replace hZ9 := ite_t hZ9 c18
                refine lv_iconst (v := 0) hx hb dX9_isFree_64 (by decide) ?_
                refine lv_istore_n (lv' := [(2, .int 0), (3, .int (nI i4)), (0, .ref h), (1, .int (nI sv))]) hx hb dX9_isFree_65 rfl hl (by decide) rfl (fun ls hl => ?_)
                refine lv_iinc (v := nI (i4 + 1)) (lv' := [(3, .int (nI (i4 + 1))), (2, .int 0), (0, .ref h), (1, .int (nI sv))]) hx hb dX9_isFree_66 hl (k := 1) rfl (nI_add i4 1) (by decide) rfl (fun ls hl => ?_)
                refine lv_goto (tgt := 8) hx hb dX9_isFree_69 (by decide) ?_
                exact ih6 (i4 + 1) 0 _ _ _ (by omega) (by omega) (Or.inl rfl) hZ9 hP hD hS (lv_sub hl [0, 1, 2, 3] rfl)
              · replace hZ9 := ite_f hZ9 c18
                refine lv_aload_n hx hb dX9_isFree_50 rfl (lv_at hl 2 rfl) ?_
                refine va_get (D := (dC, dI)) (ci := 10) (v := .ref (a 7)) (C := RX9) (T := TX9) (N := 46) hx hb hts in_w_isFree_X9 hown hK hP 0 rfl rfl 7 (by decide) (hts (.fieldLink RX9 31 "ServiceTreeModel" "state" "[I") (by decide +kernel)) (fun _ h9 => h9) rfl dX9_isFree_51 ?_
                refine lv_iload_n hx hb dX9_isFree_54 rfl (lv_at hl 0 rfl) ?_
                refine va_iald (n := 40) (f := F 7) hx hb hK hP 8 7 rfl rfl (vp_in_nI (n := i4) (by omega) (by decide)) dX9_isFree_55 ?_
                refine p1_topr (v := .int x15) (congrArg Value.int ex15.symm) ?_
                refine lv_iconst (v := 3) hx hb dX9_isFree_56 (by decide) ?_
                refine lv_icmp_eq (tgt := 64) hx hb dX9_isFree_57 (by decide) (fun c20 => ?_) (fun c20 => ?_)
                · replace hZ9 := ite_t hZ9 c20
                  refine lv_iconst (v := 0) hx hb dX9_isFree_64 (by decide) ?_
                  refine lv_istore_n (lv' := [(2, .int 0), (3, .int (nI i4)), (0, .ref h), (1, .int (nI sv))]) hx hb dX9_isFree_65 rfl hl (by decide) rfl (fun ls hl => ?_)
                  refine lv_iinc (v := nI (i4 + 1)) (lv' := [(3, .int (nI (i4 + 1))), (2, .int 0), (0, .ref h), (1, .int (nI sv))]) hx hb dX9_isFree_66 hl (k := 1) rfl (nI_add i4 1) (by decide) rfl (fun ls hl => ?_)
                  refine lv_goto (tgt := 8) hx hb dX9_isFree_69 (by decide) ?_
                  exact ih6 (i4 + 1) 0 _ _ _ (by omega) (by omega) (Or.inl rfl) hZ9 hP hD hS (lv_sub hl [0, 1, 2, 3] rfl)
                · replace hZ9 := ite_f hZ9 c20
                  refine lv_iconst (v := 1) hx hb dX9_isFree_60 (by decide) ?_
                  refine lv_goto (tgt := 65) hx hb dX9_isFree_61 (by decide) ?_
                  refine lv_istore_n (lv' := [(2, .int 1), (3, .int (nI i4)), (0, .ref h), (1, .int (nI sv))]) hx hb dX9_isFree_65 rfl hl (by decide) rfl (fun ls hl => ?_)
                  refine lv_iinc (v := nI (i4 + 1)) (lv' := [(3, .int (nI (i4 + 1))), (2, .int 1), (0, .ref h), (1, .int (nI sv))]) hx hb dX9_isFree_66 hl (k := 1) rfl (nI_add i4 1) (by decide) rfl (fun ls hl => ?_)
                  refine lv_goto (tgt := 8) hx hb dX9_isFree_69 (by decide) ?_
                  exact ih6 (i4 + 1) 1 _ _ _ (by omega) (by omega) (Or.inr rfl) hZ9 hP hD hS (lv_sub hl [0, 1, 2, 3] rfl)
  exact lp7 (n + 1) 0 r1 _ _ _ (by omega) (by omega) br1 hZ9 hP hD hS hl
def f_w_step (n : Nat) (sv : Nat) (F : Nat → Nat → Int32) (V : Nat → Int32) : (Nat → Nat → Int32) × (Nat → Int32) := jb (fun (F1 : Nat → Nat → Int32) (V2 : Nat → Int32) => jb (fun (F4 : Nat → Nat → Int32) (V5 : Nat → Int32) => bnd (F4 7 (nI sv).toNatClampNeg) (fun (x7 : Int32) => if x7 = (5 : Int32) then (bnd (V5 22) (fun (x9 : Int32) => bnd (F4 8 (nI sv).toNatClampNeg) (fun (x10 : Int32) => bnd (x9 - x10) (fun (x11 : Int32) => bnd (F4 4 (nI sv).toNatClampNeg) (fun (x12 : Int32) => if x11 < x12 then ((F4, V5)) else (bnd (F4 10 (nI sv).toNatClampNeg) (fun (x14 : Int32) => bnd (f_w_isFree n sv F4) (fun (r15 : Int32) => if r15 = (0 : Int32) then (bnd (x14 + (1 : Int32)) (fun (x19 : Int32) => bnd (va_up F4 10 (upd (F4 10) (nI sv).toNatClampNeg x19)) (fun (F20 : Nat → Nat → Int32) => bnd (f_w_isFree n sv F20) (fun (r21 : Int32) => if r21 = (0 : Int32) then (bn2 (f_w_to n sv 4 F20 V5) (fun (F34 : Nat → Nat → Int32) (V35 : Nat → Int32) => (F34, V35))) else (bnd (F20 1 (nI sv).toNatClampNeg) (fun (x25 : Int32) => if x25 = (0 : Int32) then (bn2 (f_w_to n sv 2 F20 V5) (fun (F31 : Nat → Nat → Int32) (V32 : Nat → Int32) => (F31, V32))) else (bn2 (f_w_to n sv 1 F20 V5) (fun (F28 : Nat → Nat → Int32) (V29 : Nat → Int32) => (F28, V29))))))))) else (bnd (x14 + (0 : Int32)) (fun (x36 : Int32) => bnd (va_up F4 10 (upd (F4 10) (nI sv).toNatClampNeg x36)) (fun (F37 : Nat → Nat → Int32) => bnd (f_w_isFree n sv F37) (fun (r38 : Int32) => if r38 = (0 : Int32) then (bn2 (f_w_to n sv 4 F37 V5) (fun (F51 : Nat → Nat → Int32) (V52 : Nat → Int32) => (F51, V52))) else (bnd (F37 1 (nI sv).toNatClampNeg) (fun (x42 : Int32) => if x42 = (0 : Int32) then (bn2 (f_w_to n sv 2 F37 V5) (fun (F48 : Nat → Nat → Int32) (V49 : Nat → Int32) => (F48, V49))) else (bn2 (f_w_to n sv 1 F37 V5) (fun (F45 : Nat → Nat → Int32) (V46 : Nat → Int32) => (F45, V46))))))))))))))))) else ((F4, V5)))) (fun (K9_145 : (Nat → Nat → Int32) → (Nat → Int32) → (Nat → Nat → Int32) × (Nat → Int32)) => bnd (F1 7 (nI sv).toNatClampNeg) (fun (x53 : Int32) => if x53 = (2 : Int32) then (bnd (F1 11 (nI sv).toNatClampNeg) (fun (x55 : Int32) => if x55 = (0 : Int32) then (bnd (F1 12 (nI sv).toNatClampNeg) (fun (x57 : Int32) => if x57 ≤ (0 : Int32) then (K9_145 F1 V2) else (bnd (V2 22) (fun (x59 : Int32) => bnd (F1 8 (nI sv).toNatClampNeg) (fun (x60 : Int32) => bnd (x59 - x60) (fun (x61 : Int32) => if x61 < x57 then (K9_145 F1 V2) else (bnd (F1 0 (nI sv).toNatClampNeg) (fun (x63 : Int32) => if x63 = (1 : Int32) then (bnd (va_up F1 11 (upd (F1 11) (nI sv).toNatClampNeg (vp_nar .boolean 1))) (fun (F68 : Nat → Nat → Int32) => K9_145 F68 V2)) else (bn2 (f_w_failsNow n sv F1 V2) (fun (F66 : Nat → Nat → Int32) (V67 : Nat → Int32) => K9_145 F66 V67)))))))))) else (K9_145 F1 V2))) else (K9_145 F1 V2)))) (fun (K9_75 : (Nat → Nat → Int32) → (Nat → Int32) → (Nat → Nat → Int32) × (Nat → Int32)) => bnd (F 7 (nI sv).toNatClampNeg) (fun (x69 : Int32) => if x69 = (1 : Int32) then (bnd (V 22) (fun (x81 : Int32) => bnd (F 8 (nI sv).toNatClampNeg) (fun (x82 : Int32) => bnd (x81 - x82) (fun (x83 : Int32) => bnd (F 1 (nI sv).toNatClampNeg) (fun (x84 : Int32) => if x83 < x84 then (if x69 = (3 : Int32) then (bnd (V 22) (fun (x88 : Int32) => bnd (x88 - x82) (fun (x90 : Int32) => bnd (F 2 (nI sv).toNatClampNeg) (fun (x91 : Int32) => if x90 < x91 then (K9_75 F V) else (bn2 (f_w_to n sv 0 F V) (fun (F94 : Nat → Nat → Int32) (V95 : Nat → Int32) => K9_75 F94 V95)))))) else (K9_75 F V)) else (bn2 (f_w_to n sv 2 F V) (fun (F97 : Nat → Nat → Int32) (V98 : Nat → Int32) => K9_75 F97 V98))))))) else (if x69 = (3 : Int32) then (bnd (V 22) (fun (x73 : Int32) => bnd (F 8 (nI sv).toNatClampNeg) (fun (x74 : Int32) => bnd (x73 - x74) (fun (x75 : Int32) => bnd (F 2 (nI sv).toNatClampNeg) (fun (x76 : Int32) => if x75 < x76 then (K9_75 F V) else (bn2 (f_w_to n sv 0 F V) (fun (F79 : Nat → Nat → Int32) (V80 : Nat → Int32) => K9_75 F79 V80))))))) else (K9_75 F V))))
def wq_w_step : List Cond := ([.code yX9_step cX9_step 3 none, .fieldLink RX9 31 "ServiceTreeModel" "state" "[I", .fieldLink RX9 129 "ServiceTreeModel" "tick" "I", .fieldLink RX9 34 "ServiceTreeModel" "since" "[I", .fieldLink RX9 22 "ServiceTreeModel" "delay" "[I", .fieldLink RX9 40 "ServiceTreeModel" "fails" "[I", .fieldLink RX9 13 "ServiceTreeModel" "start" "[I", .fieldLink RX9 43 "ServiceTreeModel" "hasEnded" "[Z", .fieldLink RX9 47 "ServiceTreeModel" "lives" "[I", .fieldLink RX9 9 "ServiceTreeModel" "kind" "[I", .fieldLink RX9 16 "ServiceTreeModel" "stop" "[I", .methodLink RX9 237 yX9_isFree, .instanceMethod yX9_isFree, .selects RX9 yX9_isFree yX9_isFree, .initialized RX9, .methodLink RX9 211 yX9_to, .instanceMethod yX9_to, .selects RX9 yX9_to yX9_to, .methodLink RX9 234 yX9_failsNow, .instanceMethod yX9_failsNow, .selects RX9 yX9_failsNow yX9_failsNow] : List Cond) ++ (wsX90 ++ (wq_w_isFree ++ (wq_w_to ++ (wq_w_failsNow))))
theorem in_w_step_X9 : ∀ w ∈ wsX90, w ∈ wq_w_step := fun _ h => List.mem_append_right _ (List.mem_append_left _ (h))
set_option maxRecDepth 20000 in
theorem wi_w_step : ∀ w ∈ wq_w_step, w ∈ lw_tbl := List.forall_mem_append.mpr ⟨(wix [1128, 859, 874, 860, 856, 862, 853, 863, 864, 852, 854, 1133, 1135, 57, 69, 1090, 1092, 48, 1129, 1131, 56] rfl), List.forall_mem_append.mpr ⟨inKX9, List.forall_mem_append.mpr ⟨wi_w_isFree, List.forall_mem_append.mpr ⟨wi_w_to, wi_w_failsNow⟩⟩⟩⟩
set_option maxRecDepth 20000 in
theorem wg_w_step : GoodIn wq_w_step wq_w_step := goodIn_sub (fun _ h => h) (by decide +kernel)
set_option maxRecDepth 20000 in
theorem wc_w_step_w_isFree_237 : GoodIn wq_w_step (wsV RX9 237 RX9 yX9_isFree wq_w_isFree) := goodIn_app (goodIn_of _ (by decide +kernel)) (fun w h => ⟨List.mem_append_right _ (List.mem_append_right _ (List.mem_append_left _ (h))), (wg_w_isFree w h).2⟩)
set_option maxRecDepth 20000 in
theorem wc_w_step_w_to_211 : GoodIn wq_w_step (wsV RX9 211 RX9 yX9_to wq_w_to) := goodIn_app (goodIn_of _ (by decide +kernel)) (fun w h => ⟨List.mem_append_right _ (List.mem_append_right _ (List.mem_append_right _ (List.mem_append_left _ (h)))), (wg_w_to w h).2⟩)
set_option maxRecDepth 20000 in
theorem wc_w_step_w_failsNow_234 : GoodIn wq_w_step (wsV RX9 234 RX9 yX9_failsNow wq_w_failsNow) := goodIn_app (goodIn_of _ (by decide +kernel)) (fun w h => ⟨List.mem_append_right _ (List.mem_append_right _ (List.mem_append_right _ (List.mem_append_right _ (h)))), (wg_w_failsNow w h).2⟩)
def rm_w_step : Room := { frames := 3, cells := 0, slots := 0, locals := 69 }
set_option maxHeartbeats 4000000 in
set_option maxRecDepth 100000 in
theorem c_w_step (l : Launch) (dC : Nat → ClassId) (dI : Nat → Nat → Nat) (h : Nat) (a : Nat → Nat) (k : Nat → ClassId) (F : Nat → Nat → Int32) (V : Nat → Int32) (n b : Nat) (sv : Nat) (sz : Nat) (hI0 : InvM n b F V) (hb0 : b + 6 < 2147483648) (hp0 : sv < n) : Met l yX9_step wq_w_step rm_w_step (va_Pc [.ref h, .int (nI sv)] (fun U => U.heap.size = sz ∧ va_P (dC, dI) vwCl (mW h a k F V) U.heap ∧ va_K (dC, dI) vwCl (mT k) U ∧ va_D (fun _ => True) (mW h a k F V))) (va_Qv (fun (u : (Nat → Nat → Int32) × (Nat → Int32)) => StM n (b + 6) F V u.1 u.2 ∧ (∀ j : Nat, j ∉ ([7, 8, 9, 10, 11, 12, 13, 14, 42, 43, 44] : List Nat) → u.1 j = F j) ∧ (∀ j : Nat, j ∉ ([45] : List Nat) → u.2 j = V j) ∧ ((u.1, u.2) = f_w_step n sv F V)) (fun (u : (Nat → Nat → Int32) × (Nat → Int32)) (t : State) => va_P (dC, dI) vwCl (mW h a k u.1 u.2) t.heap ∧ va_D (va_A (mW h a k F V) sz) (mW h a k u.1 u.2)) (va_A (mW h a k F V) sz)) 0 0 (va_A (mW h a k F V) sz) := by
  have hn : n ≤ 40 := hI0.1
  have hI : StM n b F V F V := StM.rf hI0
  have hU : ∀ j : Nat, j ∉ ([7, 8, 9, 10, 11, 12, 13, 14, 42, 43, 44] : List Nat) → F j = F j := fun _ _ => rfl
  have hV : ∀ j : Nat, j ∉ ([45] : List Nat) → V j = V j := fun _ _ => rfl
  refine Met.ofW (cc := cX9_step) (maxL := 3) (ret := none) (by decide) rfl ?_
  intro p e s m args below meth c s₁ B hml hv
  obtain ⟨rfl, hsz, hP, hK, hD0⟩ := hv
  have hx := B.exec
  have hb := B.bytes
  have hr := B.returns
  have hts := atoms_spec (ws := wq_w_step) B.pre
  have hown : s.vm.findClass RX9 = some m.cls := findClass_of_methodNamed B.named
  have hlocks := B.notSynchronized
  subst hsz
  have hD := hD0.self (sz := s.heap.size)
  generalize hAe : va_A (mW h a k F V) s.heap.size = A at hD ⊢
  have hA : ∀ q : Nat, s.heap.size ≤ q → A q := fun q h => by rw [← hAe]; exact Or.inr h
  have hS : va_S A s.heap s.heap [] := va_S.rf
  have hl := lv_entry ([.ref h, .int (nI sv)]) (n := 3) (Nat.le_of_ble_eq_true rfl)
  rw [lg_entry_eq]
  generalize (lg_sl ([.ref h, .int (nI sv)]) ++ List.replicate (3 - (lg_sl ([.ref h, .int (nI sv)])).length) Slot.unset).toArray = ls at hl ⊢
  have hl : lv_has ls 3 [(0, .ref h), (1, .int (nI sv))] := hl
  refine mw_Q (fun Q0 hQ => ?_)
  obtain ⟨RES, hR0⟩ : ∃ R9, R9 = f_w_step n sv F V := ⟨_, rfl⟩
  have hZ9 := hR0
  unfold f_w_step at hZ9
  obtain ⟨K9_75, hK9_75, hZ9⟩ := jb_gen hZ9
  have jn3 : ∀ (F1 : Nat → Nat → Int32) (V2 : Nat → Int32) (H : Heap) (locs : List Loc) (ls : Array Slot), RES = K9_75 F1 V2 → StM n (b + 2) F V F1 V2 → (∀ j : Nat, j ∉ ([7, 8, 9, 10, 11, 12, 13, 14, 42, 43, 44] : List Nat) → F1 j = F j) → (∀ j : Nat, j ∉ ([45] : List Nat) → V2 j = V j) → va_P (dC, dI) vwCl (mW h a k F1 V2) H → va_D A (mW h a k F1 V2) → va_S A s.heap H locs → lv_has ls 3 [(0, .ref h), (1, .int (nI sv))] → W p l e (headSpec wq_w_step rm_w_step).room s m ([.ref h, .int (nI sv)] : List Value).toArray below meth c H locs 0 0 Q0 (F0 m 75 ls []) := by
    intro F1 V2 H locs ls hZ9 hI hU hV hP hD hS hl
    replace hZ9 := lp_app2 hK9_75 hZ9
    obtain ⟨K9_145, hK9_145, hZ9⟩ := jb_gen hZ9
    have jn6 : ∀ (F4 : Nat → Nat → Int32) (V5 : Nat → Int32) (H : Heap) (locs : List Loc) (ls : Array Slot), RES = K9_145 F4 V5 → StM n (b + 4) F V F4 V5 → (∀ j : Nat, j ∉ ([7, 8, 9, 10, 11, 12, 13, 14, 42, 43, 44] : List Nat) → F4 j = F j) → (∀ j : Nat, j ∉ ([45] : List Nat) → V5 j = V j) → va_P (dC, dI) vwCl (mW h a k F4 V5) H → va_D A (mW h a k F4 V5) → va_S A s.heap H locs → lv_has ls 3 [(0, .ref h), (1, .int (nI sv))] → W p l e (headSpec wq_w_step rm_w_step).room s m ([.ref h, .int (nI sv)] : List Value).toArray below meth c H locs 0 0 Q0 (F0 m 145 ls []) := by
      intro F4 V5 H locs ls hZ9 hI hU hV hP hD hS hl
      replace hZ9 := lp_app2 hK9_145 hZ9
      refine lv_aload_n hx hb dX9_step_145 rfl (lv_at hl 0 rfl) ?_
      refine va_get (D := (dC, dI)) (ci := 10) (v := .ref (a 7)) (C := RX9) (T := TX9) (N := 46) hx hb hts in_w_step_X9 hown hK hP 0 rfl rfl 7 (by decide) (hts (.fieldLink RX9 31 "ServiceTreeModel" "state" "[I") (by decide +kernel)) (fun _ h9 => h9) rfl dX9_step_146 ?_
      refine lv_iload_n hx hb dX9_step_149 rfl (lv_at hl 1 rfl) ?_
      refine va_iald (n := 40) (f := F4 7) hx hb hK hP 8 7 rfl rfl (vp_in_nI (n := sv) (by omega) (by decide)) dX9_step_150 ?_
      refine lv_topi (fun x7 ex7 => ?_)
      replace hZ9 := bnd_s hZ9 ex7
      refine lv_iconst (v := 5) hx hb dX9_step_151 (by decide) ?_
      refine lv_icmp_ne (tgt := 228) hx hb dX9_step_152 (by decide) (fun c8 => ?_) (fun c8 => ?_)
      · replace hZ9 := ite_f hZ9 c8
        rw [hQ]
        exact W.vret hx hb hr (fun t ht hW => ⟨⟨(F4, V5), rfl, ⟨hI.mono (by omega), hU, hV, hZ9.symm.trans hR0⟩, by rw [ht]; exact hP, hD⟩, hS.F ht⟩) hS.2.2 dX9_step_228
      · replace hZ9 := ite_t hZ9 c8
        refine lv_aload_n hx hb dX9_step_155 rfl (lv_at hl 0 rfl) ?_
        refine va_get (D := (dC, dI)) (ci := 10) (v := .int (V5 22)) (C := RX9) (T := TX9) (N := 46) hx hb hts in_w_step_X9 hown hK hP 0 rfl rfl 22 (by decide) (hts (.fieldLink RX9 129 "ServiceTreeModel" "tick" "I") (by decide +kernel)) (fun _ h9 => h9) rfl dX9_step_156 ?_
        refine lv_topi (fun x9 ex9 => ?_)
        replace hZ9 := bnd_s hZ9 ex9
        refine lv_aload_n hx hb dX9_step_159 rfl (lv_at hl 0 rfl) ?_
        refine va_get (D := (dC, dI)) (ci := 10) (v := .ref (a 8)) (C := RX9) (T := TX9) (N := 46) hx hb hts in_w_step_X9 hown hK hP 0 rfl rfl 8 (by decide) (hts (.fieldLink RX9 34 "ServiceTreeModel" "since" "[I") (by decide +kernel)) (fun _ h9 => h9) rfl dX9_step_160 ?_
        refine lv_iload_n hx hb dX9_step_163 rfl (lv_at hl 1 rfl) ?_
        refine va_iald (n := 40) (f := F4 8) hx hb hK hP 9 8 rfl rfl (vp_in_nI (n := sv) (by omega) (by decide)) dX9_step_164 ?_
        refine lv_topi (fun x10 ex10 => ?_)
        replace hZ9 := bnd_s hZ9 ex10
        refine lv_isub hx hb dX9_step_165 ?_
        refine lv_topi (fun x11 ex11 => ?_)
        replace hZ9 := bnd_s hZ9 ex11
        refine lv_aload_n hx hb dX9_step_166 rfl (lv_at hl 0 rfl) ?_
        refine va_get (D := (dC, dI)) (ci := 10) (v := .ref (a 4)) (C := RX9) (T := TX9) (N := 46) hx hb hts in_w_step_X9 hown hK hP 0 rfl rfl 4 (by decide) (hts (.fieldLink RX9 22 "ServiceTreeModel" "delay" "[I") (by decide +kernel)) (fun _ h9 => h9) rfl dX9_step_167 ?_
        refine lv_iload_n hx hb dX9_step_170 rfl (lv_at hl 1 rfl) ?_
        refine va_iald (n := 40) (f := F4 4) hx hb hK hP 5 4 rfl rfl (vp_in_nI (n := sv) (by omega) (by decide)) dX9_step_171 ?_
        refine lv_topi (fun x12 ex12 => ?_)
        replace hZ9 := bnd_s hZ9 ex12
        refine lv_icmp_lt (tgt := 228) hx hb dX9_step_172 (by decide) (fun c13 => ?_) (fun c13 => ?_)
        · replace hZ9 := ite_t hZ9 c13
          rw [hQ]
          exact W.vret hx hb hr (fun t ht hW => ⟨⟨(F4, V5), rfl, ⟨hI.mono (by omega), hU, hV, hZ9.symm.trans hR0⟩, by rw [ht]; exact hP, hD⟩, hS.F ht⟩) hS.2.2 dX9_step_228
        · replace hZ9 := ite_f hZ9 c13
          refine lv_aload_n hx hb dX9_step_175 rfl (lv_at hl 0 rfl) ?_
          refine va_get (D := (dC, dI)) (ci := 10) (v := .ref (a 10)) (C := RX9) (T := TX9) (N := 46) hx hb hts in_w_step_X9 hown hK hP 0 rfl rfl 10 (by decide) (hts (.fieldLink RX9 40 "ServiceTreeModel" "fails" "[I") (by decide +kernel)) (fun _ h9 => h9) rfl dX9_step_176 ?_
          refine lv_iload_n hx hb dX9_step_179 rfl (lv_at hl 1 rfl) ?_
          refine lv_dup2_11 hx hb dX9_step_180 rfl rfl ?_
          refine va_iald (n := 40) (f := F4 10) hx hb hK hP 11 10 rfl rfl (vp_in_nI (n := sv) (by omega) (by decide)) dX9_step_181 ?_
          refine lv_topi (fun x14 ex14 => ?_)
          replace hZ9 := bnd_s hZ9 ex14
          refine lv_aload_n hx hb dX9_step_182 rfl (lv_at hl 0 rfl) ?_
          refine lv_iload_n hx hb dX9_step_183 rfl (lv_at hl 1 rfl) ?_
          have hFc := mw_free hD hS hA
          refine va_calli (va_runV (As := [.int (nI sv)]) (rest := [.int x14, .int (nI sv), .ref (a 10)]) ⟨hx, hb, hml, hown, hts⟩ (c_w_isFree l dC dI h a k F4 V5 n (b + 4) sv H.size hI.1 (by omega) (by omega)) (cwV 1 hts wc_w_step_w_isFree_237 rfl rfl rfl (by decide +kernel) ⟨Nat.le_of_ble_eq_true rfl, Nat.le_of_ble_eq_true rfl⟩) ⟨fun a9 U g mk q => by obtain ⟨q0, q1, qP, qK, qD⟩ := q; exact ⟨q0, q1, qP, va_K.moved (u := U) (U := U.calling g mk a9) (Vm.Alike.refl U.vm) qK, qD⟩, va_recv hK hP (ci := 10) (q0 := 0) rfl rfl, fun U hU hW => ⟨rfl, by rw [hU], by rw [hU]; exact hP, va_K.moved hW.alike hK, hD.weaken (fun _ _ _ _ => trivial)⟩⟩ rfl rfl hl.1 rfl (lv_room (Nat.le_of_ble_eq_true rfl)) dX9_step_184 ⟨Nat.le_of_ble_eq_true rfl, Nat.le_of_ble_eq_true rfl⟩) hS (fun q _ h => hFc q h) hFc (fun r15 u t H1 locs ht hvm hw hB hz1 hk1 hS => ?_)
          obtain ⟨F16, V17⟩ := u
          replace hP := hB.1
          rw [ht] at hP
          replace hD : va_D A (mW h a k F16 V17) := hB.2.weaken (fun _ q _ h9 => hFc q.1 h9)
          clear hB
          generalize H1 = H at hP hS ⊢
          replace hP : va_P (dC, dI) vwCl (mW h a k F16 V17) H := hP
          obtain ⟨hwF, hwV, hw⟩ : F16 = F4 ∧ V17 = V5 ∧ _ := hw
          rw [hwF, hwV] at hP hD
          obtain ⟨hw, hwe⟩ := hw
          replace hw : r15 = f_w_isFree n sv F4 := hw
          replace hZ9 := bnd_s hZ9 hw
          have br15 := hwe
          refine lv_if_eq (tgt := 194) hx hb dX9_step_187 (by decide) (fun c18 => ?_) (fun c18 => ?_)
          · replace hZ9 := ite_t hZ9 c18
            refine lv_iconst (v := 1) hx hb dX9_step_194 (by decide) ?_
            refine lv_iadd hx hb dX9_step_195 ?_
            refine lv_topi (fun x19 ex19 => ?_)
            replace hZ9 := bnd_s hZ9 ex19
            refine va_iast (n := 40) (f := F4 10) hx hb hK hP hD hS 11 10 rfl rfl (vp_in_nI (n := sv) (by omega) (by decide)) dX9_step_196 (fun H locs hP hD hS => ?_)
            rw [mW_set_10] at hP hD
            obtain ⟨F20, eF20⟩ : ∃ f9 : Nat → Nat → Int32, f9 = va_up F4 10 (upd (F4 10) (nI sv).toNatClampNeg x19) := ⟨_, rfl⟩
            rw [← eF20] at hP hD
            replace hZ9 := bnd_s hZ9 eF20
            replace hI : StM n (b + 4) F V F20 V5 := ⟨by rw [eF20]; exact hI.1.setF (by decide), trivial⟩
            replace hU : ∀ j : Nat, j ∉ ([7, 8, 9, 10, 11, 12, 13, 14, 42, 43, 44] : List Nat) → F20 j = F j := by rw [eF20]; exact mw_up (by decide) hU
            refine lv_aload_n hx hb dX9_step_197 rfl (lv_at hl 0 rfl) ?_
            refine lv_iload_n hx hb dX9_step_198 rfl (lv_at hl 1 rfl) ?_
            refine lv_aload_n hx hb dX9_step_199 rfl (lv_at hl 0 rfl) ?_
            refine lv_iload_n hx hb dX9_step_200 rfl (lv_at hl 1 rfl) ?_
            have hFc := mw_free hD hS hA
            refine va_calli (va_runV (As := [.int (nI sv)]) (rest := [.int (nI sv), .ref h]) ⟨hx, hb, hml, hown, hts⟩ (c_w_isFree l dC dI h a k F20 V5 n (b + 4) sv H.size hI.1 (by omega) (by omega)) (cwV 1 hts wc_w_step_w_isFree_237 rfl rfl rfl (by decide +kernel) ⟨Nat.le_of_ble_eq_true rfl, Nat.le_of_ble_eq_true rfl⟩) ⟨fun a9 U g mk q => by obtain ⟨q0, q1, qP, qK, qD⟩ := q; exact ⟨q0, q1, qP, va_K.moved (u := U) (U := U.calling g mk a9) (Vm.Alike.refl U.vm) qK, qD⟩, va_recv hK hP (ci := 10) (q0 := 0) rfl rfl, fun U hU hW => ⟨rfl, by rw [hU], by rw [hU]; exact hP, va_K.moved hW.alike hK, hD.weaken (fun _ _ _ _ => trivial)⟩⟩ rfl rfl hl.1 rfl (lv_room (Nat.le_of_ble_eq_true rfl)) dX9_step_201 ⟨Nat.le_of_ble_eq_true rfl, Nat.le_of_ble_eq_true rfl⟩) hS (fun q _ h => hFc q h) hFc (fun r21 u t H1 locs ht hvm hw hB hz1 hk1 hS => ?_)
            obtain ⟨F22, V23⟩ := u
            replace hP := hB.1
            rw [ht] at hP
            replace hD : va_D A (mW h a k F22 V23) := hB.2.weaken (fun _ q _ h9 => hFc q.1 h9)
            clear hB
            generalize H1 = H at hP hS ⊢
            replace hP : va_P (dC, dI) vwCl (mW h a k F22 V23) H := hP
            obtain ⟨hwF, hwV, hw⟩ : F22 = F20 ∧ V23 = V5 ∧ _ := hw
            rw [hwF, hwV] at hP hD
            obtain ⟨hw, hwe⟩ := hw
            replace hw : r21 = f_w_isFree n sv F20 := hw
            replace hZ9 := bnd_s hZ9 hw
            have br21 := hwe
            refine lv_if_ne (tgt := 211) hx hb dX9_step_204 (by decide) (fun c24 => ?_) (fun c24 => ?_)
            · replace hZ9 := ite_f hZ9 c24
              refine lv_aload_n hx hb dX9_step_211 rfl (lv_at hl 0 rfl) ?_
              refine va_get (D := (dC, dI)) (ci := 10) (v := .ref (a 1)) (C := RX9) (T := TX9) (N := 46) hx hb hts in_w_step_X9 hown hK hP 0 rfl rfl 1 (by decide) (hts (.fieldLink RX9 13 "ServiceTreeModel" "start" "[I") (by decide +kernel)) (fun _ h9 => h9) rfl dX9_step_212 ?_
              refine lv_iload_n hx hb dX9_step_215 rfl (lv_at hl 1 rfl) ?_
              refine va_iald (n := 40) (f := F20 1) hx hb hK hP 2 1 rfl rfl (vp_in_nI (n := sv) (by omega) (by decide)) dX9_step_216 ?_
              refine lv_topi (fun x25 ex25 => ?_)
              replace hZ9 := bnd_s hZ9 ex25
              refine lv_if_ne (tgt := 224) hx hb dX9_step_217 (by decide) (fun c26 => ?_) (fun c26 => ?_)
              · replace hZ9 := ite_f hZ9 c26
                refine lv_iconst (v := 1) hx hb dX9_step_224 (by decide) ?_
                have hFc := mw_free hD hS hA
                refine va_callv (va_runV (As := [.int (nI sv), .int 1]) (rest := []) ⟨hx, hb, hml, hown, hts⟩ (c_w_to l dC dI h a k F20 V5 n (b + 4) sv 1 H.size hI.1 (by omega) (by omega)) (cwV 2 hts wc_w_step_w_to_211 rfl rfl rfl (by decide +kernel) ⟨Nat.le_of_ble_eq_true rfl, Nat.le_of_ble_eq_true rfl⟩) ⟨fun a9 U g mk q => by obtain ⟨q0, q1, qP, qK, qD⟩ := q; exact ⟨q0, q1, qP, va_K.moved (u := U) (U := U.calling g mk a9) (Vm.Alike.refl U.vm) qK, qD⟩, va_recv hK hP (ci := 10) (q0 := 0) rfl rfl, fun U hU hW => ⟨rfl, by rw [hU], by rw [hU]; exact hP, va_K.moved hW.alike hK, hD.weaken (fun _ _ _ _ => trivial)⟩⟩ rfl rfl hl.1 rfl (lv_room (Nat.le_of_ble_eq_true rfl)) dX9_step_225 ⟨Nat.le_of_ble_eq_true rfl, Nat.le_of_ble_eq_true rfl⟩) hS (fun q _ h => hFc q h) hFc (fun u t H1 locs ht hvm hw hB hz1 hk1 hS => ?_)
                obtain ⟨F28, V29⟩ := u
                replace hP := hB.1
                rw [ht] at hP
                replace hD : va_D A (mW h a k F28 V29) := hB.2.weaken (fun _ q _ h9 => hFc q.1 h9)
                clear hB
                generalize H1 = H at hP hS ⊢
                replace hP : va_P (dC, dI) vwCl (mW h a k F28 V29) H := hP
                obtain ⟨hwI, hwU, hwV, hw⟩ := hw
                replace hU : ∀ j : Nat, j ∉ ([7, 8, 9, 10, 11, 12, 13, 14, 42, 43, 44] : List Nat) → F28 j = F j := mw_tr (by decide) hwU hU
                replace hV : ∀ j : Nat, j ∉ ([45] : List Nat) → V29 j = V j := mw_tr (by decide) hwV hV
                replace hI : StM n (b + 4 + 2) F V F28 V29 := hI.trans hwI
                obtain ⟨hw, hwe⟩ := hw
                replace hw : (F28, V29) = f_w_to n sv 1 F20 V5 := hw
                replace hZ9 := bn2_s hZ9 hw
                rw [hQ]
                exact W.vret hx hb hr (fun t ht hW => ⟨⟨(F28, V29), rfl, ⟨hI.mono (by omega), hU, hV, hZ9.symm.trans hR0⟩, by rw [ht]; exact hP, hD⟩, hS.F ht⟩) hS.2.2 dX9_step_228
              · replace hZ9 := ite_t hZ9 c26
                refine lv_iconst (v := 2) hx hb dX9_step_220 (by decide) ?_
                refine lv_goto (tgt := 225) hx hb dX9_step_221 (by decide) ?_
                have hFc := mw_free hD hS hA
                refine va_callv (va_runV (As := [.int (nI sv), .int 2]) (rest := []) ⟨hx, hb, hml, hown, hts⟩ (c_w_to l dC dI h a k F20 V5 n (b + 4) sv 2 H.size hI.1 (by omega) (by omega)) (cwV 2 hts wc_w_step_w_to_211 rfl rfl rfl (by decide +kernel) ⟨Nat.le_of_ble_eq_true rfl, Nat.le_of_ble_eq_true rfl⟩) ⟨fun a9 U g mk q => by obtain ⟨q0, q1, qP, qK, qD⟩ := q; exact ⟨q0, q1, qP, va_K.moved (u := U) (U := U.calling g mk a9) (Vm.Alike.refl U.vm) qK, qD⟩, va_recv hK hP (ci := 10) (q0 := 0) rfl rfl, fun U hU hW => ⟨rfl, by rw [hU], by rw [hU]; exact hP, va_K.moved hW.alike hK, hD.weaken (fun _ _ _ _ => trivial)⟩⟩ rfl rfl hl.1 rfl (lv_room (Nat.le_of_ble_eq_true rfl)) dX9_step_225 ⟨Nat.le_of_ble_eq_true rfl, Nat.le_of_ble_eq_true rfl⟩) hS (fun q _ h => hFc q h) hFc (fun u t H1 locs ht hvm hw hB hz1 hk1 hS => ?_)
                obtain ⟨F31, V32⟩ := u
                replace hP := hB.1
                rw [ht] at hP
                replace hD : va_D A (mW h a k F31 V32) := hB.2.weaken (fun _ q _ h9 => hFc q.1 h9)
                clear hB
                generalize H1 = H at hP hS ⊢
                replace hP : va_P (dC, dI) vwCl (mW h a k F31 V32) H := hP
                obtain ⟨hwI, hwU, hwV, hw⟩ := hw
                replace hU : ∀ j : Nat, j ∉ ([7, 8, 9, 10, 11, 12, 13, 14, 42, 43, 44] : List Nat) → F31 j = F j := mw_tr (by decide) hwU hU
                replace hV : ∀ j : Nat, j ∉ ([45] : List Nat) → V32 j = V j := mw_tr (by decide) hwV hV
                replace hI : StM n (b + 4 + 2) F V F31 V32 := hI.trans hwI
                obtain ⟨hw, hwe⟩ := hw
                replace hw : (F31, V32) = f_w_to n sv 2 F20 V5 := hw
                replace hZ9 := bn2_s hZ9 hw
                rw [hQ]
                exact W.vret hx hb hr (fun t ht hW => ⟨⟨(F31, V32), rfl, ⟨hI.mono (by omega), hU, hV, hZ9.symm.trans hR0⟩, by rw [ht]; exact hP, hD⟩, hS.F ht⟩) hS.2.2 dX9_step_228
            · replace hZ9 := ite_t hZ9 c24
              refine lv_iconst (v := 4) hx hb dX9_step_207 (by decide) ?_
              refine lv_goto (tgt := 225) hx hb dX9_step_208 (by decide) ?_
              have hFc := mw_free hD hS hA
              refine va_callv (va_runV (As := [.int (nI sv), .int 4]) (rest := []) ⟨hx, hb, hml, hown, hts⟩ (c_w_to l dC dI h a k F20 V5 n (b + 4) sv 4 H.size hI.1 (by omega) (by omega)) (cwV 2 hts wc_w_step_w_to_211 rfl rfl rfl (by decide +kernel) ⟨Nat.le_of_ble_eq_true rfl, Nat.le_of_ble_eq_true rfl⟩) ⟨fun a9 U g mk q => by obtain ⟨q0, q1, qP, qK, qD⟩ := q; exact ⟨q0, q1, qP, va_K.moved (u := U) (U := U.calling g mk a9) (Vm.Alike.refl U.vm) qK, qD⟩, va_recv hK hP (ci := 10) (q0 := 0) rfl rfl, fun U hU hW => ⟨rfl, by rw [hU], by rw [hU]; exact hP, va_K.moved hW.alike hK, hD.weaken (fun _ _ _ _ => trivial)⟩⟩ rfl rfl hl.1 rfl (lv_room (Nat.le_of_ble_eq_true rfl)) dX9_step_225 ⟨Nat.le_of_ble_eq_true rfl, Nat.le_of_ble_eq_true rfl⟩) hS (fun q _ h => hFc q h) hFc (fun u t H1 locs ht hvm hw hB hz1 hk1 hS => ?_)
              obtain ⟨F34, V35⟩ := u
              replace hP := hB.1
              rw [ht] at hP
              replace hD : va_D A (mW h a k F34 V35) := hB.2.weaken (fun _ q _ h9 => hFc q.1 h9)
              clear hB
              generalize H1 = H at hP hS ⊢
              replace hP : va_P (dC, dI) vwCl (mW h a k F34 V35) H := hP
              obtain ⟨hwI, hwU, hwV, hw⟩ := hw
              replace hU : ∀ j : Nat, j ∉ ([7, 8, 9, 10, 11, 12, 13, 14, 42, 43, 44] : List Nat) → F34 j = F j := mw_tr (by decide) hwU hU
              replace hV : ∀ j : Nat, j ∉ ([45] : List Nat) → V35 j = V j := mw_tr (by decide) hwV hV
              replace hI : StM n (b + 4 + 2) F V F34 V35 := hI.trans hwI
              obtain ⟨hw, hwe⟩ := hw
              replace hw : (F34, V35) = f_w_to n sv 4 F20 V5 := hw
              replace hZ9 := bn2_s hZ9 hw
              rw [hQ]
              exact W.vret hx hb hr (fun t ht hW => ⟨⟨(F34, V35), rfl, ⟨hI.mono (by omega), hU, hV, hZ9.symm.trans hR0⟩, by rw [ht]; exact hP, hD⟩, hS.F ht⟩) hS.2.2 dX9_step_228
          · replace hZ9 := ite_f hZ9 c18
            refine lv_iconst (v := 0) hx hb dX9_step_190 (by decide) ?_
            refine lv_goto (tgt := 195) hx hb dX9_step_191 (by decide) ?_
            refine lv_iadd hx hb dX9_step_195 ?_
            refine lv_topi (fun x36 ex36 => ?_)
            replace hZ9 := bnd_s hZ9 ex36
            refine va_iast (n := 40) (f := F4 10) hx hb hK hP hD hS 11 10 rfl rfl (vp_in_nI (n := sv) (by omega) (by decide)) dX9_step_196 (fun H locs hP hD hS => ?_)
            rw [mW_set_10] at hP hD
            obtain ⟨F37, eF37⟩ : ∃ f9 : Nat → Nat → Int32, f9 = va_up F4 10 (upd (F4 10) (nI sv).toNatClampNeg x36) := ⟨_, rfl⟩
            rw [← eF37] at hP hD
            replace hZ9 := bnd_s hZ9 eF37
            replace hI : StM n (b + 4) F V F37 V5 := ⟨by rw [eF37]; exact hI.1.setF (by decide), trivial⟩
            replace hU : ∀ j : Nat, j ∉ ([7, 8, 9, 10, 11, 12, 13, 14, 42, 43, 44] : List Nat) → F37 j = F j := by rw [eF37]; exact mw_up (by decide) hU
            refine lv_aload_n hx hb dX9_step_197 rfl (lv_at hl 0 rfl) ?_
            refine lv_iload_n hx hb dX9_step_198 rfl (lv_at hl 1 rfl) ?_
            refine lv_aload_n hx hb dX9_step_199 rfl (lv_at hl 0 rfl) ?_
            refine lv_iload_n hx hb dX9_step_200 rfl (lv_at hl 1 rfl) ?_
            have hFc := mw_free hD hS hA
            refine va_calli (va_runV (As := [.int (nI sv)]) (rest := [.int (nI sv), .ref h]) ⟨hx, hb, hml, hown, hts⟩ (c_w_isFree l dC dI h a k F37 V5 n (b + 4) sv H.size hI.1 (by omega) (by omega)) (cwV 1 hts wc_w_step_w_isFree_237 rfl rfl rfl (by decide +kernel) ⟨Nat.le_of_ble_eq_true rfl, Nat.le_of_ble_eq_true rfl⟩) ⟨fun a9 U g mk q => by obtain ⟨q0, q1, qP, qK, qD⟩ := q; exact ⟨q0, q1, qP, va_K.moved (u := U) (U := U.calling g mk a9) (Vm.Alike.refl U.vm) qK, qD⟩, va_recv hK hP (ci := 10) (q0 := 0) rfl rfl, fun U hU hW => ⟨rfl, by rw [hU], by rw [hU]; exact hP, va_K.moved hW.alike hK, hD.weaken (fun _ _ _ _ => trivial)⟩⟩ rfl rfl hl.1 rfl (lv_room (Nat.le_of_ble_eq_true rfl)) dX9_step_201 ⟨Nat.le_of_ble_eq_true rfl, Nat.le_of_ble_eq_true rfl⟩) hS (fun q _ h => hFc q h) hFc (fun r38 u t H1 locs ht hvm hw hB hz1 hk1 hS => ?_)
            obtain ⟨F39, V40⟩ := u
            replace hP := hB.1
            rw [ht] at hP
            replace hD : va_D A (mW h a k F39 V40) := hB.2.weaken (fun _ q _ h9 => hFc q.1 h9)
            clear hB
            generalize H1 = H at hP hS ⊢
            replace hP : va_P (dC, dI) vwCl (mW h a k F39 V40) H := hP
            obtain ⟨hwF, hwV, hw⟩ : F39 = F37 ∧ V40 = V5 ∧ _ := hw
            rw [hwF, hwV] at hP hD
            obtain ⟨hw, hwe⟩ := hw
            replace hw : r38 = f_w_isFree n sv F37 := hw
            replace hZ9 := bnd_s hZ9 hw
            have br38 := hwe
            refine lv_if_ne (tgt := 211) hx hb dX9_step_204 (by decide) (fun c41 => ?_) (fun c41 => ?_)
            · replace hZ9 := ite_f hZ9 c41
              refine lv_aload_n hx hb dX9_step_211 rfl (lv_at hl 0 rfl) ?_
              refine va_get (D := (dC, dI)) (ci := 10) (v := .ref (a 1)) (C := RX9) (T := TX9) (N := 46) hx hb hts in_w_step_X9 hown hK hP 0 rfl rfl 1 (by decide) (hts (.fieldLink RX9 13 "ServiceTreeModel" "start" "[I") (by decide +kernel)) (fun _ h9 => h9) rfl dX9_step_212 ?_
              refine lv_iload_n hx hb dX9_step_215 rfl (lv_at hl 1 rfl) ?_
              refine va_iald (n := 40) (f := F37 1) hx hb hK hP 2 1 rfl rfl (vp_in_nI (n := sv) (by omega) (by decide)) dX9_step_216 ?_
              refine lv_topi (fun x42 ex42 => ?_)
              replace hZ9 := bnd_s hZ9 ex42
              refine lv_if_ne (tgt := 224) hx hb dX9_step_217 (by decide) (fun c43 => ?_) (fun c43 => ?_)
              · replace hZ9 := ite_f hZ9 c43
                refine lv_iconst (v := 1) hx hb dX9_step_224 (by decide) ?_
                have hFc := mw_free hD hS hA
                refine va_callv (va_runV (As := [.int (nI sv), .int 1]) (rest := []) ⟨hx, hb, hml, hown, hts⟩ (c_w_to l dC dI h a k F37 V5 n (b + 4) sv 1 H.size hI.1 (by omega) (by omega)) (cwV 2 hts wc_w_step_w_to_211 rfl rfl rfl (by decide +kernel) ⟨Nat.le_of_ble_eq_true rfl, Nat.le_of_ble_eq_true rfl⟩) ⟨fun a9 U g mk q => by obtain ⟨q0, q1, qP, qK, qD⟩ := q; exact ⟨q0, q1, qP, va_K.moved (u := U) (U := U.calling g mk a9) (Vm.Alike.refl U.vm) qK, qD⟩, va_recv hK hP (ci := 10) (q0 := 0) rfl rfl, fun U hU hW => ⟨rfl, by rw [hU], by rw [hU]; exact hP, va_K.moved hW.alike hK, hD.weaken (fun _ _ _ _ => trivial)⟩⟩ rfl rfl hl.1 rfl (lv_room (Nat.le_of_ble_eq_true rfl)) dX9_step_225 ⟨Nat.le_of_ble_eq_true rfl, Nat.le_of_ble_eq_true rfl⟩) hS (fun q _ h => hFc q h) hFc (fun u t H1 locs ht hvm hw hB hz1 hk1 hS => ?_)
                obtain ⟨F45, V46⟩ := u
                replace hP := hB.1
                rw [ht] at hP
                replace hD : va_D A (mW h a k F45 V46) := hB.2.weaken (fun _ q _ h9 => hFc q.1 h9)
                clear hB
                generalize H1 = H at hP hS ⊢
                replace hP : va_P (dC, dI) vwCl (mW h a k F45 V46) H := hP
                obtain ⟨hwI, hwU, hwV, hw⟩ := hw
                replace hU : ∀ j : Nat, j ∉ ([7, 8, 9, 10, 11, 12, 13, 14, 42, 43, 44] : List Nat) → F45 j = F j := mw_tr (by decide) hwU hU
                replace hV : ∀ j : Nat, j ∉ ([45] : List Nat) → V46 j = V j := mw_tr (by decide) hwV hV
                replace hI : StM n (b + 4 + 2) F V F45 V46 := hI.trans hwI
                obtain ⟨hw, hwe⟩ := hw
                replace hw : (F45, V46) = f_w_to n sv 1 F37 V5 := hw
                replace hZ9 := bn2_s hZ9 hw
                rw [hQ]
                exact W.vret hx hb hr (fun t ht hW => ⟨⟨(F45, V46), rfl, ⟨hI.mono (by omega), hU, hV, hZ9.symm.trans hR0⟩, by rw [ht]; exact hP, hD⟩, hS.F ht⟩) hS.2.2 dX9_step_228
              · replace hZ9 := ite_t hZ9 c43
                refine lv_iconst (v := 2) hx hb dX9_step_220 (by decide) ?_
                refine lv_goto (tgt := 225) hx hb dX9_step_221 (by decide) ?_
                have hFc := mw_free hD hS hA
                refine va_callv (va_runV (As := [.int (nI sv), .int 2]) (rest := []) ⟨hx, hb, hml, hown, hts⟩ (c_w_to l dC dI h a k F37 V5 n (b + 4) sv 2 H.size hI.1 (by omega) (by omega)) (cwV 2 hts wc_w_step_w_to_211 rfl rfl rfl (by decide +kernel) ⟨Nat.le_of_ble_eq_true rfl, Nat.le_of_ble_eq_true rfl⟩) ⟨fun a9 U g mk q => by obtain ⟨q0, q1, qP, qK, qD⟩ := q; exact ⟨q0, q1, qP, va_K.moved (u := U) (U := U.calling g mk a9) (Vm.Alike.refl U.vm) qK, qD⟩, va_recv hK hP (ci := 10) (q0 := 0) rfl rfl, fun U hU hW => ⟨rfl, by rw [hU], by rw [hU]; exact hP, va_K.moved hW.alike hK, hD.weaken (fun _ _ _ _ => trivial)⟩⟩ rfl rfl hl.1 rfl (lv_room (Nat.le_of_ble_eq_true rfl)) dX9_step_225 ⟨Nat.le_of_ble_eq_true rfl, Nat.le_of_ble_eq_true rfl⟩) hS (fun q _ h => hFc q h) hFc (fun u t H1 locs ht hvm hw hB hz1 hk1 hS => ?_)
                obtain ⟨F48, V49⟩ := u
                replace hP := hB.1
                rw [ht] at hP
                replace hD : va_D A (mW h a k F48 V49) := hB.2.weaken (fun _ q _ h9 => hFc q.1 h9)
                clear hB
                generalize H1 = H at hP hS ⊢
                replace hP : va_P (dC, dI) vwCl (mW h a k F48 V49) H := hP
                obtain ⟨hwI, hwU, hwV, hw⟩ := hw
                replace hU : ∀ j : Nat, j ∉ ([7, 8, 9, 10, 11, 12, 13, 14, 42, 43, 44] : List Nat) → F48 j = F j := mw_tr (by decide) hwU hU
                replace hV : ∀ j : Nat, j ∉ ([45] : List Nat) → V49 j = V j := mw_tr (by decide) hwV hV
                replace hI : StM n (b + 4 + 2) F V F48 V49 := hI.trans hwI
                obtain ⟨hw, hwe⟩ := hw
                replace hw : (F48, V49) = f_w_to n sv 2 F37 V5 := hw
                replace hZ9 := bn2_s hZ9 hw
                rw [hQ]
                exact W.vret hx hb hr (fun t ht hW => ⟨⟨(F48, V49), rfl, ⟨hI.mono (by omega), hU, hV, hZ9.symm.trans hR0⟩, by rw [ht]; exact hP, hD⟩, hS.F ht⟩) hS.2.2 dX9_step_228
            · replace hZ9 := ite_t hZ9 c41
              refine lv_iconst (v := 4) hx hb dX9_step_207 (by decide) ?_
              refine lv_goto (tgt := 225) hx hb dX9_step_208 (by decide) ?_
              have hFc := mw_free hD hS hA
              refine va_callv (va_runV (As := [.int (nI sv), .int 4]) (rest := []) ⟨hx, hb, hml, hown, hts⟩ (c_w_to l dC dI h a k F37 V5 n (b + 4) sv 4 H.size hI.1 (by omega) (by omega)) (cwV 2 hts wc_w_step_w_to_211 rfl rfl rfl (by decide +kernel) ⟨Nat.le_of_ble_eq_true rfl, Nat.le_of_ble_eq_true rfl⟩) ⟨fun a9 U g mk q => by obtain ⟨q0, q1, qP, qK, qD⟩ := q; exact ⟨q0, q1, qP, va_K.moved (u := U) (U := U.calling g mk a9) (Vm.Alike.refl U.vm) qK, qD⟩, va_recv hK hP (ci := 10) (q0 := 0) rfl rfl, fun U hU hW => ⟨rfl, by rw [hU], by rw [hU]; exact hP, va_K.moved hW.alike hK, hD.weaken (fun _ _ _ _ => trivial)⟩⟩ rfl rfl hl.1 rfl (lv_room (Nat.le_of_ble_eq_true rfl)) dX9_step_225 ⟨Nat.le_of_ble_eq_true rfl, Nat.le_of_ble_eq_true rfl⟩) hS (fun q _ h => hFc q h) hFc (fun u t H1 locs ht hvm hw hB hz1 hk1 hS => ?_)
              obtain ⟨F51, V52⟩ := u
              replace hP := hB.1
              rw [ht] at hP
              replace hD : va_D A (mW h a k F51 V52) := hB.2.weaken (fun _ q _ h9 => hFc q.1 h9)
              clear hB
              generalize H1 = H at hP hS ⊢
              replace hP : va_P (dC, dI) vwCl (mW h a k F51 V52) H := hP
              obtain ⟨hwI, hwU, hwV, hw⟩ := hw
              replace hU : ∀ j : Nat, j ∉ ([7, 8, 9, 10, 11, 12, 13, 14, 42, 43, 44] : List Nat) → F51 j = F j := mw_tr (by decide) hwU hU
              replace hV : ∀ j : Nat, j ∉ ([45] : List Nat) → V52 j = V j := mw_tr (by decide) hwV hV
              replace hI : StM n (b + 4 + 2) F V F51 V52 := hI.trans hwI
              obtain ⟨hw, hwe⟩ := hw
              replace hw : (F51, V52) = f_w_to n sv 4 F37 V5 := hw
              replace hZ9 := bn2_s hZ9 hw
              rw [hQ]
              exact W.vret hx hb hr (fun t ht hW => ⟨⟨(F51, V52), rfl, ⟨hI.mono (by omega), hU, hV, hZ9.symm.trans hR0⟩, by rw [ht]; exact hP, hD⟩, hS.F ht⟩) hS.2.2 dX9_step_228
    refine lv_aload_n hx hb dX9_step_75 rfl (lv_at hl 0 rfl) ?_
    refine va_get (D := (dC, dI)) (ci := 10) (v := .ref (a 7)) (C := RX9) (T := TX9) (N := 46) hx hb hts in_w_step_X9 hown hK hP 0 rfl rfl 7 (by decide) (hts (.fieldLink RX9 31 "ServiceTreeModel" "state" "[I") (by decide +kernel)) (fun _ h9 => h9) rfl dX9_step_76 ?_
    refine lv_iload_n hx hb dX9_step_79 rfl (lv_at hl 1 rfl) ?_
    refine va_iald (n := 40) (f := F1 7) hx hb hK hP 8 7 rfl rfl (vp_in_nI (n := sv) (by omega) (by decide)) dX9_step_80 ?_
    refine lv_topi (fun x53 ex53 => ?_)
    replace hZ9 := bnd_s hZ9 ex53
    refine lv_iconst (v := 2) hx hb dX9_step_81 (by decide) ?_
    refine lv_icmp_ne (tgt := 145) hx hb dX9_step_82 (by decide) (fun c54 => ?_) (fun c54 => ?_)
    · replace hZ9 := ite_f hZ9 c54
      exact jn6 F1 V2 _ _ _ hZ9 (hI.mono (by omega)) hU hV hP hD hS (lv_sub hl [0, 1] rfl)
    · replace hZ9 := ite_t hZ9 c54
      refine lv_aload_n hx hb dX9_step_85 rfl (lv_at hl 0 rfl) ?_
      refine va_get (D := (dC, dI)) (ci := 10) (v := .ref (a 11)) (C := RX9) (T := TX9) (N := 46) hx hb hts in_w_step_X9 hown hK hP 0 rfl rfl 11 (by decide) (hts (.fieldLink RX9 43 "ServiceTreeModel" "hasEnded" "[Z") (by decide +kernel)) (fun _ h9 => h9) rfl dX9_step_86 ?_
      refine lv_iload_n hx hb dX9_step_89 rfl (lv_at hl 1 rfl) ?_
      refine va_zald (n := 40) (f := F1 11) hx hb hK hP 12 11 rfl rfl (vp_in_nI (n := sv) (by omega) (by decide)) dX9_step_90 ?_
      refine lv_topi (fun x55 ex55 => ?_)
      replace hZ9 := bnd_s hZ9 ex55
      refine lv_if_ne (tgt := 145) hx hb dX9_step_91 (by decide) (fun c56 => ?_) (fun c56 => ?_)
      · replace hZ9 := ite_f hZ9 c56
        exact jn6 F1 V2 _ _ _ hZ9 (hI.mono (by omega)) hU hV hP hD hS (lv_sub hl [0, 1] rfl)
      · replace hZ9 := ite_t hZ9 c56
        refine lv_aload_n hx hb dX9_step_94 rfl (lv_at hl 0 rfl) ?_
        refine va_get (D := (dC, dI)) (ci := 10) (v := .ref (a 12)) (C := RX9) (T := TX9) (N := 46) hx hb hts in_w_step_X9 hown hK hP 0 rfl rfl 12 (by decide) (hts (.fieldLink RX9 47 "ServiceTreeModel" "lives" "[I") (by decide +kernel)) (fun _ h9 => h9) rfl dX9_step_95 ?_
        refine lv_iload_n hx hb dX9_step_98 rfl (lv_at hl 1 rfl) ?_
        refine va_iald (n := 40) (f := F1 12) hx hb hK hP 13 12 rfl rfl (vp_in_nI (n := sv) (by omega) (by decide)) dX9_step_99 ?_
        refine lv_topi (fun x57 ex57 => ?_)
        replace hZ9 := bnd_s hZ9 ex57
        refine lv_istore_n (lv' := [(2, .int x57), (0, .ref h), (1, .int (nI sv))]) hx hb dX9_step_100 rfl hl (by decide) rfl (fun ls hl => ?_)
        refine lv_iload_n hx hb dX9_step_101 rfl (lv_at hl 0 rfl) ?_
        refine lv_if_le (tgt := 145) hx hb dX9_step_102 (by decide) (fun c58 => ?_) (fun c58 => ?_)
        · replace hZ9 := ite_t hZ9 c58
          exact jn6 F1 V2 _ _ _ hZ9 (hI.mono (by omega)) hU hV hP hD hS (lv_sub hl [1, 2] rfl)
        · replace hZ9 := ite_f hZ9 c58
          refine lv_aload_n hx hb dX9_step_105 rfl (lv_at hl 1 rfl) ?_
          refine va_get (D := (dC, dI)) (ci := 10) (v := .int (V2 22)) (C := RX9) (T := TX9) (N := 46) hx hb hts in_w_step_X9 hown hK hP 0 rfl rfl 22 (by decide) (hts (.fieldLink RX9 129 "ServiceTreeModel" "tick" "I") (by decide +kernel)) (fun _ h9 => h9) rfl dX9_step_106 ?_
          refine lv_topi (fun x59 ex59 => ?_)
          replace hZ9 := bnd_s hZ9 ex59
          refine lv_aload_n hx hb dX9_step_109 rfl (lv_at hl 1 rfl) ?_
          refine va_get (D := (dC, dI)) (ci := 10) (v := .ref (a 8)) (C := RX9) (T := TX9) (N := 46) hx hb hts in_w_step_X9 hown hK hP 0 rfl rfl 8 (by decide) (hts (.fieldLink RX9 34 "ServiceTreeModel" "since" "[I") (by decide +kernel)) (fun _ h9 => h9) rfl dX9_step_110 ?_
          refine lv_iload_n hx hb dX9_step_113 rfl (lv_at hl 2 rfl) ?_
          refine va_iald (n := 40) (f := F1 8) hx hb hK hP 9 8 rfl rfl (vp_in_nI (n := sv) (by omega) (by decide)) dX9_step_114 ?_
          refine lv_topi (fun x60 ex60 => ?_)
          replace hZ9 := bnd_s hZ9 ex60
          refine lv_isub hx hb dX9_step_115 ?_
          refine lv_topi (fun x61 ex61 => ?_)
          replace hZ9 := bnd_s hZ9 ex61
          refine lv_iload_n hx hb dX9_step_116 rfl (lv_at hl 0 rfl) ?_
          refine lv_icmp_lt (tgt := 145) hx hb dX9_step_117 (by decide) (fun c62 => ?_) (fun c62 => ?_)
          · replace hZ9 := ite_t hZ9 c62
            exact jn6 F1 V2 _ _ _ hZ9 (hI.mono (by omega)) hU hV hP hD hS (lv_sub hl [1, 2] rfl)
          · replace hZ9 := ite_f hZ9 c62
            refine lv_aload_n hx hb dX9_step_120 rfl (lv_at hl 1 rfl) ?_
            refine va_get (D := (dC, dI)) (ci := 10) (v := .ref (a 0)) (C := RX9) (T := TX9) (N := 46) hx hb hts in_w_step_X9 hown hK hP 0 rfl rfl 0 (by decide) (hts (.fieldLink RX9 9 "ServiceTreeModel" "kind" "[I") (by decide +kernel)) (fun _ h9 => h9) rfl dX9_step_121 ?_
            refine lv_iload_n hx hb dX9_step_124 rfl (lv_at hl 2 rfl) ?_
            refine va_iald (n := 40) (f := F1 0) hx hb hK hP 1 0 rfl rfl (vp_in_nI (n := sv) (by omega) (by decide)) dX9_step_125 ?_
            refine lv_topi (fun x63 ex63 => ?_)
            replace hZ9 := bnd_s hZ9 ex63
            refine lv_iconst (v := 1) hx hb dX9_step_126 (by decide) ?_
            refine lv_icmp_ne (tgt := 140) hx hb dX9_step_127 (by decide) (fun c64 => ?_) (fun c64 => ?_)
            · replace hZ9 := ite_f hZ9 c64
              refine lv_aload_n hx hb dX9_step_140 rfl (lv_at hl 1 rfl) ?_
              refine lv_iload_n hx hb dX9_step_141 rfl (lv_at hl 2 rfl) ?_
              have hFc := mw_free hD hS hA
              refine va_callv (va_runV (As := [.int (nI sv)]) (rest := []) ⟨hx, hb, hml, hown, hts⟩ (c_w_failsNow l dC dI h a k F1 V2 n (b + 2) sv H.size hI.1 (by omega) (by omega)) (cwV 1 hts wc_w_step_w_failsNow_234 rfl rfl rfl (by decide +kernel) ⟨Nat.le_of_ble_eq_true rfl, Nat.le_of_ble_eq_true rfl⟩) ⟨fun a9 U g mk q => by obtain ⟨q0, q1, qP, qK, qD⟩ := q; exact ⟨q0, q1, qP, va_K.moved (u := U) (U := U.calling g mk a9) (Vm.Alike.refl U.vm) qK, qD⟩, va_recv hK hP (ci := 10) (q0 := 0) rfl rfl, fun U hU hW => ⟨rfl, by rw [hU], by rw [hU]; exact hP, va_K.moved hW.alike hK, hD.weaken (fun _ _ _ _ => trivial)⟩⟩ rfl rfl hl.1 rfl (lv_room (Nat.le_of_ble_eq_true rfl)) dX9_step_142 ⟨Nat.le_of_ble_eq_true rfl, Nat.le_of_ble_eq_true rfl⟩) hS (fun q _ h => hFc q h) hFc (fun u t H1 locs ht hvm hw hB hz1 hk1 hS => ?_)
              obtain ⟨F66, V67⟩ := u
              replace hP := hB.1
              rw [ht] at hP
              replace hD : va_D A (mW h a k F66 V67) := hB.2.weaken (fun _ q _ h9 => hFc q.1 h9)
              clear hB
              generalize H1 = H at hP hS ⊢
              replace hP : va_P (dC, dI) vwCl (mW h a k F66 V67) H := hP
              obtain ⟨hwI, hwU, hwV, hw⟩ := hw
              replace hU : ∀ j : Nat, j ∉ ([7, 8, 9, 10, 11, 12, 13, 14, 42, 43, 44] : List Nat) → F66 j = F j := mw_tr (by decide) hwU hU
              replace hV : ∀ j : Nat, j ∉ ([45] : List Nat) → V67 j = V j := mw_tr (by decide) hwV hV
              replace hI : StM n (b + 2 + 2) F V F66 V67 := hI.trans hwI
              replace hw : (F66, V67) = f_w_failsNow n sv F1 V2 := hw
              replace hZ9 := bn2_s hZ9 hw
              exact jn6 F66 V67 _ _ _ hZ9 (hI.mono (by omega)) hU hV hP hD hS (lv_sub hl [1, 2] rfl)
            · replace hZ9 := ite_t hZ9 c64
              refine lv_aload_n hx hb dX9_step_130 rfl (lv_at hl 1 rfl) ?_
              refine va_get (D := (dC, dI)) (ci := 10) (v := .ref (a 11)) (C := RX9) (T := TX9) (N := 46) hx hb hts in_w_step_X9 hown hK hP 0 rfl rfl 11 (by decide) (hts (.fieldLink RX9 43 "ServiceTreeModel" "hasEnded" "[Z") (by decide +kernel)) (fun _ h9 => h9) rfl dX9_step_131 ?_
              refine lv_iload_n hx hb dX9_step_134 rfl (lv_at hl 2 rfl) ?_
              refine lv_iconst (v := 1) hx hb dX9_step_135 (by decide) ?_
              refine va_zast (n := 40) (f := F1 11) hx hb hK hP hD hS 12 11 rfl rfl (vp_in_nI (n := sv) (by omega) (by decide)) dX9_step_136 (fun H locs hP hD hS => ?_)
              rw [mW_set_11] at hP hD
              obtain ⟨F68, eF68⟩ : ∃ f9 : Nat → Nat → Int32, f9 = va_up F1 11 (upd (F1 11) (nI sv).toNatClampNeg (vp_nar .boolean 1)) := ⟨_, rfl⟩
              rw [← eF68] at hP hD
              replace hZ9 := bnd_s hZ9 eF68
              replace hI : StM n (b + 2) F V F68 V2 := ⟨by rw [eF68]; exact hI.1.setF (by decide), trivial⟩
              replace hU : ∀ j : Nat, j ∉ ([7, 8, 9, 10, 11, 12, 13, 14, 42, 43, 44] : List Nat) → F68 j = F j := by rw [eF68]; exact mw_up (by decide) hU
              refine lv_goto (tgt := 145) hx hb dX9_step_137 (by decide) ?_
              exact jn6 F68 V2 _ _ _ hZ9 (hI.mono (by omega)) hU hV hP hD hS (lv_sub hl [1, 2] rfl)
  refine lv_aload_n hx hb dX9_step_0 rfl (lv_at hl 0 rfl) ?_
  refine va_get (D := (dC, dI)) (ci := 10) (v := .ref (a 7)) (C := RX9) (T := TX9) (N := 46) hx hb hts in_w_step_X9 hown hK hP 0 rfl rfl 7 (by decide) (hts (.fieldLink RX9 31 "ServiceTreeModel" "state" "[I") (by decide +kernel)) (fun _ h9 => h9) rfl dX9_step_1 ?_
  refine lv_iload_n hx hb dX9_step_4 rfl (lv_at hl 1 rfl) ?_
  refine va_iald (n := 40) (f := F 7) hx hb hK hP 8 7 rfl rfl (vp_in_nI (n := sv) (by omega) (by decide)) dX9_step_5 ?_
  refine lv_topi (fun x69 ex69 => ?_)
  replace hZ9 := bnd_s hZ9 ex69
  refine lv_iconst (v := 1) hx hb dX9_step_6 (by decide) ?_
  refine lv_icmp_ne (tgt := 39) hx hb dX9_step_7 (by decide) (fun c70 => ?_) (fun c70 => ?_)
  · replace hZ9 := ite_f hZ9 c70
    refine lv_aload_n hx hb dX9_step_39 rfl (lv_at hl 0 rfl) ?_
    refine va_get (D := (dC, dI)) (ci := 10) (v := .ref (a 7)) (C := RX9) (T := TX9) (N := 46) hx hb hts in_w_step_X9 hown hK hP 0 rfl rfl 7 (by decide) (hts (.fieldLink RX9 31 "ServiceTreeModel" "state" "[I") (by decide +kernel)) (fun _ h9 => h9) rfl dX9_step_40 ?_
    refine lv_iload_n hx hb dX9_step_43 rfl (lv_at hl 1 rfl) ?_
    refine va_iald (n := 40) (f := F 7) hx hb hK hP 8 7 rfl rfl (vp_in_nI (n := sv) (by omega) (by decide)) dX9_step_44 ?_
    refine p1_topr (v := .int x69) (congrArg Value.int ex69.symm) ?_
    refine lv_iconst (v := 3) hx hb dX9_step_45 (by decide) ?_
    refine lv_icmp_ne (tgt := 75) hx hb dX9_step_46 (by decide) (fun c72 => ?_) (fun c72 => ?_)
    · replace hZ9 := ite_f hZ9 c72
      exact jn3 F V _ _ _ hZ9 (hI.mono (by omega)) hU hV hP hD hS (lv_sub hl [0, 1] rfl)
    · replace hZ9 := ite_t hZ9 c72
      refine lv_aload_n hx hb dX9_step_49 rfl (lv_at hl 0 rfl) ?_
      refine va_get (D := (dC, dI)) (ci := 10) (v := .int (V 22)) (C := RX9) (T := TX9) (N := 46) hx hb hts in_w_step_X9 hown hK hP 0 rfl rfl 22 (by decide) (hts (.fieldLink RX9 129 "ServiceTreeModel" "tick" "I") (by decide +kernel)) (fun _ h9 => h9) rfl dX9_step_50 ?_
      refine lv_topi (fun x73 ex73 => ?_)
      replace hZ9 := bnd_s hZ9 ex73
      refine lv_aload_n hx hb dX9_step_53 rfl (lv_at hl 0 rfl) ?_
      refine va_get (D := (dC, dI)) (ci := 10) (v := .ref (a 8)) (C := RX9) (T := TX9) (N := 46) hx hb hts in_w_step_X9 hown hK hP 0 rfl rfl 8 (by decide) (hts (.fieldLink RX9 34 "ServiceTreeModel" "since" "[I") (by decide +kernel)) (fun _ h9 => h9) rfl dX9_step_54 ?_
      refine lv_iload_n hx hb dX9_step_57 rfl (lv_at hl 1 rfl) ?_
      refine va_iald (n := 40) (f := F 8) hx hb hK hP 9 8 rfl rfl (vp_in_nI (n := sv) (by omega) (by decide)) dX9_step_58 ?_
      refine lv_topi (fun x74 ex74 => ?_)
      replace hZ9 := bnd_s hZ9 ex74
      refine lv_isub hx hb dX9_step_59 ?_
      refine lv_topi (fun x75 ex75 => ?_)
      replace hZ9 := bnd_s hZ9 ex75
      refine lv_aload_n hx hb dX9_step_60 rfl (lv_at hl 0 rfl) ?_
      refine va_get (D := (dC, dI)) (ci := 10) (v := .ref (a 2)) (C := RX9) (T := TX9) (N := 46) hx hb hts in_w_step_X9 hown hK hP 0 rfl rfl 2 (by decide) (hts (.fieldLink RX9 16 "ServiceTreeModel" "stop" "[I") (by decide +kernel)) (fun _ h9 => h9) rfl dX9_step_61 ?_
      refine lv_iload_n hx hb dX9_step_64 rfl (lv_at hl 1 rfl) ?_
      refine va_iald (n := 40) (f := F 2) hx hb hK hP 3 2 rfl rfl (vp_in_nI (n := sv) (by omega) (by decide)) dX9_step_65 ?_
      refine lv_topi (fun x76 ex76 => ?_)
      replace hZ9 := bnd_s hZ9 ex76
      refine lv_icmp_lt (tgt := 75) hx hb dX9_step_66 (by decide) (fun c77 => ?_) (fun c77 => ?_)
      · replace hZ9 := ite_t hZ9 c77
        exact jn3 F V _ _ _ hZ9 (hI.mono (by omega)) hU hV hP hD hS (lv_sub hl [0, 1] rfl)
      · replace hZ9 := ite_f hZ9 c77
        refine lv_aload_n hx hb dX9_step_69 rfl (lv_at hl 0 rfl) ?_
        refine lv_iload_n hx hb dX9_step_70 rfl (lv_at hl 1 rfl) ?_
        refine lv_iconst (v := 0) hx hb dX9_step_71 (by decide) ?_
        have hFc := mw_free hD hS hA
        refine va_callv (va_runV (As := [.int (nI sv), .int 0]) (rest := []) ⟨hx, hb, hml, hown, hts⟩ (c_w_to l dC dI h a k F V n (b) sv 0 s.heap.size hI.1 (by omega) (by omega)) (cwV 2 hts wc_w_step_w_to_211 rfl rfl rfl (by decide +kernel) ⟨Nat.le_of_ble_eq_true rfl, Nat.le_of_ble_eq_true rfl⟩) ⟨fun a9 U g mk q => by obtain ⟨q0, q1, qP, qK, qD⟩ := q; exact ⟨q0, q1, qP, va_K.moved (u := U) (U := U.calling g mk a9) (Vm.Alike.refl U.vm) qK, qD⟩, va_recv hK hP (ci := 10) (q0 := 0) rfl rfl, fun U hU hW => ⟨rfl, by rw [hU], by rw [hU]; exact hP, va_K.moved hW.alike hK, hD.weaken (fun _ _ _ _ => trivial)⟩⟩ rfl rfl hl.1 rfl (lv_room (Nat.le_of_ble_eq_true rfl)) dX9_step_72 ⟨Nat.le_of_ble_eq_true rfl, Nat.le_of_ble_eq_true rfl⟩) hS (fun q _ h => hFc q h) hFc (fun u t H1 locs ht hvm hw hB hz1 hk1 hS => ?_)
        obtain ⟨F79, V80⟩ := u
        replace hP := hB.1
        rw [ht] at hP
        replace hD : va_D A (mW h a k F79 V80) := hB.2.weaken (fun _ q _ h9 => hFc q.1 h9)
        clear hB
        generalize H1 = H at hP hS ⊢
        replace hP : va_P (dC, dI) vwCl (mW h a k F79 V80) H := hP
        obtain ⟨hwI, hwU, hwV, hw⟩ := hw
        replace hU : ∀ j : Nat, j ∉ ([7, 8, 9, 10, 11, 12, 13, 14, 42, 43, 44] : List Nat) → F79 j = F j := mw_tr (by decide) hwU hU
        replace hV : ∀ j : Nat, j ∉ ([45] : List Nat) → V80 j = V j := mw_tr (by decide) hwV hV
        replace hI : StM n (b + 2) F V F79 V80 := hI.trans hwI
        obtain ⟨hw, hwe⟩ := hw
        replace hw : (F79, V80) = f_w_to n sv 0 F V := hw
        replace hZ9 := bn2_s hZ9 hw
        exact jn3 F79 V80 _ _ _ hZ9 (hI.mono (by omega)) hU hV hP hD hS (lv_sub hl [0, 1] rfl)
  · replace hZ9 := ite_t hZ9 c70
    refine lv_aload_n hx hb dX9_step_10 rfl (lv_at hl 0 rfl) ?_
    refine va_get (D := (dC, dI)) (ci := 10) (v := .int (V 22)) (C := RX9) (T := TX9) (N := 46) hx hb hts in_w_step_X9 hown hK hP 0 rfl rfl 22 (by decide) (hts (.fieldLink RX9 129 "ServiceTreeModel" "tick" "I") (by decide +kernel)) (fun _ h9 => h9) rfl dX9_step_11 ?_
    refine lv_topi (fun x81 ex81 => ?_)
    replace hZ9 := bnd_s hZ9 ex81
    refine lv_aload_n hx hb dX9_step_14 rfl (lv_at hl 0 rfl) ?_
    refine va_get (D := (dC, dI)) (ci := 10) (v := .ref (a 8)) (C := RX9) (T := TX9) (N := 46) hx hb hts in_w_step_X9 hown hK hP 0 rfl rfl 8 (by decide) (hts (.fieldLink RX9 34 "ServiceTreeModel" "since" "[I") (by decide +kernel)) (fun _ h9 => h9) rfl dX9_step_15 ?_
    refine lv_iload_n hx hb dX9_step_18 rfl (lv_at hl 1 rfl) ?_
    refine va_iald (n := 40) (f := F 8) hx hb hK hP 9 8 rfl rfl (vp_in_nI (n := sv) (by omega) (by decide)) dX9_step_19 ?_
    refine lv_topi (fun x82 ex82 => ?_)
    replace hZ9 := bnd_s hZ9 ex82
    refine lv_isub hx hb dX9_step_20 ?_
    refine lv_topi (fun x83 ex83 => ?_)
    replace hZ9 := bnd_s hZ9 ex83
    refine lv_aload_n hx hb dX9_step_21 rfl (lv_at hl 0 rfl) ?_
    refine va_get (D := (dC, dI)) (ci := 10) (v := .ref (a 1)) (C := RX9) (T := TX9) (N := 46) hx hb hts in_w_step_X9 hown hK hP 0 rfl rfl 1 (by decide) (hts (.fieldLink RX9 13 "ServiceTreeModel" "start" "[I") (by decide +kernel)) (fun _ h9 => h9) rfl dX9_step_22 ?_
    refine lv_iload_n hx hb dX9_step_25 rfl (lv_at hl 1 rfl) ?_
    refine va_iald (n := 40) (f := F 1) hx hb hK hP 2 1 rfl rfl (vp_in_nI (n := sv) (by omega) (by decide)) dX9_step_26 ?_
    refine lv_topi (fun x84 ex84 => ?_)
    replace hZ9 := bnd_s hZ9 ex84
    refine lv_icmp_lt (tgt := 39) hx hb dX9_step_27 (by decide) (fun c85 => ?_) (fun c85 => ?_)
    · replace hZ9 := ite_t hZ9 c85
      refine lv_aload_n hx hb dX9_step_39 rfl (lv_at hl 0 rfl) ?_
      refine va_get (D := (dC, dI)) (ci := 10) (v := .ref (a 7)) (C := RX9) (T := TX9) (N := 46) hx hb hts in_w_step_X9 hown hK hP 0 rfl rfl 7 (by decide) (hts (.fieldLink RX9 31 "ServiceTreeModel" "state" "[I") (by decide +kernel)) (fun _ h9 => h9) rfl dX9_step_40 ?_
      refine lv_iload_n hx hb dX9_step_43 rfl (lv_at hl 1 rfl) ?_
      refine va_iald (n := 40) (f := F 7) hx hb hK hP 8 7 rfl rfl (vp_in_nI (n := sv) (by omega) (by decide)) dX9_step_44 ?_
      refine p1_topr (v := .int x69) (congrArg Value.int ex69.symm) ?_
      refine lv_iconst (v := 3) hx hb dX9_step_45 (by decide) ?_
      refine lv_icmp_ne (tgt := 75) hx hb dX9_step_46 (by decide) (fun c87 => ?_) (fun c87 => ?_)
      · replace hZ9 := ite_f hZ9 c87
        exact jn3 F V _ _ _ hZ9 (hI.mono (by omega)) hU hV hP hD hS (lv_sub hl [0, 1] rfl)
      · replace hZ9 := ite_t hZ9 c87
        refine lv_aload_n hx hb dX9_step_49 rfl (lv_at hl 0 rfl) ?_
        refine va_get (D := (dC, dI)) (ci := 10) (v := .int (V 22)) (C := RX9) (T := TX9) (N := 46) hx hb hts in_w_step_X9 hown hK hP 0 rfl rfl 22 (by decide) (hts (.fieldLink RX9 129 "ServiceTreeModel" "tick" "I") (by decide +kernel)) (fun _ h9 => h9) rfl dX9_step_50 ?_
        refine lv_topi (fun x88 ex88 => ?_)
        replace hZ9 := bnd_s hZ9 ex88
        refine lv_aload_n hx hb dX9_step_53 rfl (lv_at hl 0 rfl) ?_
        refine va_get (D := (dC, dI)) (ci := 10) (v := .ref (a 8)) (C := RX9) (T := TX9) (N := 46) hx hb hts in_w_step_X9 hown hK hP 0 rfl rfl 8 (by decide) (hts (.fieldLink RX9 34 "ServiceTreeModel" "since" "[I") (by decide +kernel)) (fun _ h9 => h9) rfl dX9_step_54 ?_
        refine lv_iload_n hx hb dX9_step_57 rfl (lv_at hl 1 rfl) ?_
        refine va_iald (n := 40) (f := F 8) hx hb hK hP 9 8 rfl rfl (vp_in_nI (n := sv) (by omega) (by decide)) dX9_step_58 ?_
        refine p1_topr (v := .int x82) (congrArg Value.int ex82.symm) ?_
        refine lv_isub hx hb dX9_step_59 ?_
        refine lv_topi (fun x90 ex90 => ?_)
        replace hZ9 := bnd_s hZ9 ex90
        refine lv_aload_n hx hb dX9_step_60 rfl (lv_at hl 0 rfl) ?_
        refine va_get (D := (dC, dI)) (ci := 10) (v := .ref (a 2)) (C := RX9) (T := TX9) (N := 46) hx hb hts in_w_step_X9 hown hK hP 0 rfl rfl 2 (by decide) (hts (.fieldLink RX9 16 "ServiceTreeModel" "stop" "[I") (by decide +kernel)) (fun _ h9 => h9) rfl dX9_step_61 ?_
        refine lv_iload_n hx hb dX9_step_64 rfl (lv_at hl 1 rfl) ?_
        refine va_iald (n := 40) (f := F 2) hx hb hK hP 3 2 rfl rfl (vp_in_nI (n := sv) (by omega) (by decide)) dX9_step_65 ?_
        refine lv_topi (fun x91 ex91 => ?_)
        replace hZ9 := bnd_s hZ9 ex91
        refine lv_icmp_lt (tgt := 75) hx hb dX9_step_66 (by decide) (fun c92 => ?_) (fun c92 => ?_)
        · replace hZ9 := ite_t hZ9 c92
          exact jn3 F V _ _ _ hZ9 (hI.mono (by omega)) hU hV hP hD hS (lv_sub hl [0, 1] rfl)
        · replace hZ9 := ite_f hZ9 c92
          refine lv_aload_n hx hb dX9_step_69 rfl (lv_at hl 0 rfl) ?_
          refine lv_iload_n hx hb dX9_step_70 rfl (lv_at hl 1 rfl) ?_
          refine lv_iconst (v := 0) hx hb dX9_step_71 (by decide) ?_
          have hFc := mw_free hD hS hA
          refine va_callv (va_runV (As := [.int (nI sv), .int 0]) (rest := []) ⟨hx, hb, hml, hown, hts⟩ (c_w_to l dC dI h a k F V n (b) sv 0 s.heap.size hI.1 (by omega) (by omega)) (cwV 2 hts wc_w_step_w_to_211 rfl rfl rfl (by decide +kernel) ⟨Nat.le_of_ble_eq_true rfl, Nat.le_of_ble_eq_true rfl⟩) ⟨fun a9 U g mk q => by obtain ⟨q0, q1, qP, qK, qD⟩ := q; exact ⟨q0, q1, qP, va_K.moved (u := U) (U := U.calling g mk a9) (Vm.Alike.refl U.vm) qK, qD⟩, va_recv hK hP (ci := 10) (q0 := 0) rfl rfl, fun U hU hW => ⟨rfl, by rw [hU], by rw [hU]; exact hP, va_K.moved hW.alike hK, hD.weaken (fun _ _ _ _ => trivial)⟩⟩ rfl rfl hl.1 rfl (lv_room (Nat.le_of_ble_eq_true rfl)) dX9_step_72 ⟨Nat.le_of_ble_eq_true rfl, Nat.le_of_ble_eq_true rfl⟩) hS (fun q _ h => hFc q h) hFc (fun u t H1 locs ht hvm hw hB hz1 hk1 hS => ?_)
          obtain ⟨F94, V95⟩ := u
          replace hP := hB.1
          rw [ht] at hP
          replace hD : va_D A (mW h a k F94 V95) := hB.2.weaken (fun _ q _ h9 => hFc q.1 h9)
          clear hB
          generalize H1 = H at hP hS ⊢
          replace hP : va_P (dC, dI) vwCl (mW h a k F94 V95) H := hP
          obtain ⟨hwI, hwU, hwV, hw⟩ := hw
          replace hU : ∀ j : Nat, j ∉ ([7, 8, 9, 10, 11, 12, 13, 14, 42, 43, 44] : List Nat) → F94 j = F j := mw_tr (by decide) hwU hU
          replace hV : ∀ j : Nat, j ∉ ([45] : List Nat) → V95 j = V j := mw_tr (by decide) hwV hV
          replace hI : StM n (b + 2) F V F94 V95 := hI.trans hwI
          obtain ⟨hw, hwe⟩ := hw
          replace hw : (F94, V95) = f_w_to n sv 0 F V := hw
          replace hZ9 := bn2_s hZ9 hw
          exact jn3 F94 V95 _ _ _ hZ9 (hI.mono (by omega)) hU hV hP hD hS (lv_sub hl [0, 1] rfl)
    · replace hZ9 := ite_f hZ9 c85
      refine lv_aload_n hx hb dX9_step_30 rfl (lv_at hl 0 rfl) ?_
      refine lv_iload_n hx hb dX9_step_31 rfl (lv_at hl 1 rfl) ?_
      refine lv_iconst (v := 2) hx hb dX9_step_32 (by decide) ?_
      have hFc := mw_free hD hS hA
      refine va_callv (va_runV (As := [.int (nI sv), .int 2]) (rest := []) ⟨hx, hb, hml, hown, hts⟩ (c_w_to l dC dI h a k F V n (b) sv 2 s.heap.size hI.1 (by omega) (by omega)) (cwV 2 hts wc_w_step_w_to_211 rfl rfl rfl (by decide +kernel) ⟨Nat.le_of_ble_eq_true rfl, Nat.le_of_ble_eq_true rfl⟩) ⟨fun a9 U g mk q => by obtain ⟨q0, q1, qP, qK, qD⟩ := q; exact ⟨q0, q1, qP, va_K.moved (u := U) (U := U.calling g mk a9) (Vm.Alike.refl U.vm) qK, qD⟩, va_recv hK hP (ci := 10) (q0 := 0) rfl rfl, fun U hU hW => ⟨rfl, by rw [hU], by rw [hU]; exact hP, va_K.moved hW.alike hK, hD.weaken (fun _ _ _ _ => trivial)⟩⟩ rfl rfl hl.1 rfl (lv_room (Nat.le_of_ble_eq_true rfl)) dX9_step_33 ⟨Nat.le_of_ble_eq_true rfl, Nat.le_of_ble_eq_true rfl⟩) hS (fun q _ h => hFc q h) hFc (fun u t H1 locs ht hvm hw hB hz1 hk1 hS => ?_)
      obtain ⟨F97, V98⟩ := u
      replace hP := hB.1
      rw [ht] at hP
      replace hD : va_D A (mW h a k F97 V98) := hB.2.weaken (fun _ q _ h9 => hFc q.1 h9)
      clear hB
      generalize H1 = H at hP hS ⊢
      replace hP : va_P (dC, dI) vwCl (mW h a k F97 V98) H := hP
      obtain ⟨hwI, hwU, hwV, hw⟩ := hw
      replace hU : ∀ j : Nat, j ∉ ([7, 8, 9, 10, 11, 12, 13, 14, 42, 43, 44] : List Nat) → F97 j = F j := mw_tr (by decide) hwU hU
      replace hV : ∀ j : Nat, j ∉ ([45] : List Nat) → V98 j = V j := mw_tr (by decide) hwV hV
      replace hI : StM n (b + 2) F V F97 V98 := hI.trans hwI
      obtain ⟨hw, hwe⟩ := hw
      replace hw : (F97, V98) = f_w_to n sv 2 F V := hw
      replace hZ9 := bn2_s hZ9 hw
      refine lv_goto (tgt := 75) hx hb dX9_step_36 (by decide) ?_
      exact jn3 F97 V98 _ _ _ hZ9 (hI.mono (by omega)) hU hV hP hD hS (lv_sub hl [0, 1] rfl)

end
section
def f_w_addNeeds_member_21 (n : Nat) (i9 : Nat) : Nat → Nat → Int32 → (Nat → Nat → Int32) → (Nat → Int32) → (Nat → Int32 → (Nat → Nat → Int32) → (Nat → Int32) → (Nat → Nat → Int32) × (Nat → Int32)) → (Nat → Nat → Int32) × (Nat → Int32)
  | 0, i17, y23, F21, V22, K9_21 => K9_21 i17 y23 F21 V22
  | fu18 + 1, i17, y23, F21, V22, K9_21 => if n ≤ i17 then (K9_21 i17 y23 F21 V22) else (bnd (F21 27 (nI i9).toNatClampNeg) (fun (x25 : Int32) => if x25 = (0 : Int32) then (f_w_addNeeds_member_21 n i9 fu18 (i17 + 1) y23 F21 V22 K9_21) else (bnd (F21 27 (nI i17).toNatClampNeg) (fun (x27 : Int32) => if x27 = (0 : Int32) then (bnd (f_w_has n 0 i9 i17 F21) (fun (r29 : Int32) => if r29 = (0 : Int32) then (f_w_addNeeds_member_21 n i9 fu18 (i17 + 1) y23 F21 V22 K9_21) else (bnd (va_up F21 27 (upd (F21 27) (nI i17).toNatClampNeg (vp_nar .boolean 1))) (fun (F33 : Nat → Nat → Int32) => f_w_addNeeds_member_21 n i9 fu18 (i17 + 1) (1 : Int32) F33 V22 K9_21)))) else (f_w_addNeeds_member_21 n i9 fu18 (i17 + 1) y23 F21 V22 K9_21)))))
def f_w_addNeeds_member_10 (n : Nat)  : Nat → Nat → Int32 → (Nat → Nat → Int32) → (Nat → Int32) → (Nat → Int32 → (Nat → Nat → Int32) → (Nat → Int32) → (Nat → Nat → Int32) × (Nat → Int32)) → (Nat → Nat → Int32) × (Nat → Int32)
  | 0, i9, y15, F13, V14, K9_10 => K9_10 i9 y15 F13 V14
  | fu10 + 1, i9, y15, F13, V14, K9_10 => if n ≤ i9 then (K9_10 i9 y15 F13 V14) else (f_w_addNeeds_member_21 n i9 (n + 1) (0 : Nat) y15 F13 V14 (fun (i17 : Nat) (y23 : Int32) (F21 : Nat → Nat → Int32) (V22 : Nat → Int32) => f_w_addNeeds_member_10 n  fu10 (i9 + 1) y23 F21 V22 K9_10))
def f_w_addNeeds_member_2 (n : Nat)  : Nat → Nat → Int32 → (Nat → Nat → Int32) → (Nat → Int32) → (Nat → Int32 → (Nat → Nat → Int32) → (Nat → Int32) → (Nat → Nat → Int32) × (Nat → Int32)) → (Nat → Nat → Int32) × (Nat → Int32)
  | 0, i1, y7, F5, V6, K9_2 => K9_2 i1 y7 F5 V6
  | fu2 + 1, i1, y7, F5, V6, K9_2 => if y7 = (0 : Int32) then (K9_2 i1 y7 F5 V6) else (f_w_addNeeds_member_10 n  (n + 1) (0 : Nat) (0 : Int32) F5 V6 (fun (i9 : Nat) (y15 : Int32) (F13 : Nat → Nat → Int32) (V14 : Nat → Int32) => f_w_addNeeds_member_2 n  fu2 (i1 + 1) y15 F13 V14 K9_2))
def f_w_addNeeds_member (n : Nat)  (F : Nat → Nat → Int32) (V : Nat → Int32) : (Nat → Nat → Int32) × (Nat → Int32) := f_w_addNeeds_member_2 n  (41 + 1) (0 : Nat) (1 : Int32) F V (fun (i1 : Nat) (y7 : Int32) (F5 : Nat → Nat → Int32) (V6 : Nat → Int32) => (F5, V6))
def wq_w_addNeeds_member : List Cond := ([.code yX9_addNeeds cX9_addNeeds 5 none, .fieldLink RX9 126 "ServiceTreeModel" "services" "I", .methodLink RX9 150 yX9_has, .instanceMethod yX9_has, .selects RX9 yX9_has yX9_has, .initialized RX9] : List Cond) ++ (wsX90 ++ (wq_w_has))
theorem in_w_addNeeds_member_X9 : ∀ w ∈ wsX90, w ∈ wq_w_addNeeds_member := fun _ h => List.mem_append_right _ (List.mem_append_left _ (h))
set_option maxRecDepth 20000 in
theorem wi_w_addNeeds_member : ∀ w ∈ wq_w_addNeeds_member, w ∈ lw_tbl := List.forall_mem_append.mpr ⟨(wix [1062, 873, 1023, 1025, 35, 69] rfl), List.forall_mem_append.mpr ⟨inKX9, wi_w_has⟩⟩
set_option maxRecDepth 20000 in
theorem wg_w_addNeeds_member : GoodIn wq_w_addNeeds_member wq_w_addNeeds_member := goodIn_sub (fun _ h => h) (by decide +kernel)
set_option maxRecDepth 20000 in
theorem wc_w_addNeeds_member_w_has_150 : GoodIn wq_w_addNeeds_member (wsV RX9 150 RX9 yX9_has wq_w_has) := goodIn_app (goodIn_of _ (by decide +kernel)) (fun w h => ⟨List.mem_append_right _ (List.mem_append_right _ (h)), (wg_w_has w h).2⟩)
def rm_w_addNeeds_member : Room := { frames := 1, cells := 0, slots := 0, locals := 23 }
set_option maxHeartbeats 4000000 in
set_option maxRecDepth 100000 in
theorem c_w_addNeeds_member (l : Launch) (dC : Nat → ClassId) (dI : Nat → Nat → Nat) (h : Nat) (a : Nat → Nat) (k : Nat → ClassId) (F : Nat → Nat → Int32) (V : Nat → Int32) (n b : Nat)  (sz : Nat) (hI0 : InvM n b F V) (hb0 : b + 0 < 2147483648)  : Met l yX9_addNeeds wq_w_addNeeds_member rm_w_addNeeds_member (va_Pc [.ref h, .ref (a 27)] (fun U => U.heap.size = sz ∧ va_P (dC, dI) vwCl (mW h a k F V) U.heap ∧ va_K (dC, dI) vwCl (mT k) U ∧ va_D (fun _ => True) (mW h a k F V))) (va_Qv (fun (u : (Nat → Nat → Int32) × (Nat → Int32)) => StM n (b + 0) F V u.1 u.2 ∧ (∀ j : Nat, j ∉ ([27] : List Nat) → u.1 j = F j) ∧ (∀ j : Nat, j ∉ ([] : List Nat) → u.2 j = V j) ∧ ((u.1, u.2) = f_w_addNeeds_member n  F V)) (fun (u : (Nat → Nat → Int32) × (Nat → Int32)) (t : State) => va_P (dC, dI) vwCl (mW h a k u.1 u.2) t.heap ∧ va_D (va_A (mW h a k F V) sz) (mW h a k u.1 u.2)) (va_A (mW h a k F V) sz)) 0 0 (va_A (mW h a k F V) sz) := by
  have hn : n ≤ 40 := hI0.1
  have hI : StM n b F V F V := StM.rf hI0
  have hU : ∀ j : Nat, j ∉ ([27] : List Nat) → F j = F j := fun _ _ => rfl
  have hV : ∀ j : Nat, j ∉ ([] : List Nat) → V j = V j := fun _ _ => rfl
  refine Met.ofW (cc := cX9_addNeeds) (maxL := 5) (ret := none) (by decide) rfl ?_
  intro p e s m args below meth c s₁ B hml hv
  obtain ⟨rfl, hsz, hP, hK, hD0⟩ := hv
  have hx := B.exec
  have hb := B.bytes
  have hr := B.returns
  have hts := atoms_spec (ws := wq_w_addNeeds_member) B.pre
  have hown : s.vm.findClass RX9 = some m.cls := findClass_of_methodNamed B.named
  have hlocks := B.notSynchronized
  subst hsz
  have hD := hD0.self (sz := s.heap.size)
  generalize hAe : va_A (mW h a k F V) s.heap.size = A at hD ⊢
  have hA : ∀ q : Nat, s.heap.size ≤ q → A q := fun q h => by rw [← hAe]; exact Or.inr h
  have hS : va_S A s.heap s.heap [] := va_S.rf
  have hl := lv_entry ([.ref h, .ref (a 27)]) (n := 5) (Nat.le_of_ble_eq_true rfl)
  rw [lg_entry_eq]
  generalize (lg_sl ([.ref h, .ref (a 27)]) ++ List.replicate (5 - (lg_sl ([.ref h, .ref (a 27)])).length) Slot.unset).toArray = ls at hl ⊢
  have hl : lv_has ls 5 [(0, .ref h), (1, .ref (a 27))] := hl
  refine mw_Q (fun Q0 hQ => ?_)
  obtain ⟨RES, hR0⟩ : ∃ R9, R9 = f_w_addNeeds_member n  F V := ⟨_, rfl⟩
  have hZ9 := hR0
  unfold f_w_addNeeds_member at hZ9
  refine lv_iconst (v := 1) hx hb dX9_addNeeds_0 (by decide) ?_
  refine lv_istore_n (lv' := [(2, .int 1), (0, .ref h), (1, .ref (a 27))]) hx hb dX9_addNeeds_1 rfl hl (by decide) rfl (fun ls hl => ?_)
  obtain ⟨K9_2, hK9_2, hZ9⟩ := lp_gen hZ9
  have lp4 : ∀ (fu2 i1 : Nat) (y7 : Int32) (F5 : Nat → Nat → Int32) (V6 : Nat → Int32) (H : Heap) (locs : List Loc) (ls : Array Slot), 41 < i1 + fu2 → i1 ≤ 41 → StM n (b) F V F5 V6 → (∀ j : Nat, j ∉ ([27] : List Nat) → F5 j = F j) → (∀ j : Nat, j ∉ ([] : List Nat) → V6 j = V j) → (¬ y7 = 0 → i1 + zc (F5 27) 40 ≤ 40) → RES = f_w_addNeeds_member_2 n  fu2 i1 y7 F5 V6 K9_2 → va_P (dC, dI) vwCl (mW h a k F5 V6) H → va_D A (mW h a k F5 V6) → va_S A s.heap H locs → lv_has ls 5 [(2, .int y7), (0, .ref h), (1, .ref (a 27))] → W p l e (headSpec wq_w_addNeeds_member rm_w_addNeeds_member).room s m ([.ref h, .ref (a 27)] : List Value).toArray below meth c H locs 0 0 Q0 (F0 m 2 ls []) := by
    intro fu2
    induction fu2 with
    | zero =>
      intro i1 y7 F5 V6 H locs ls hf hi
      exact absurd hf (by omega)
    | succ fu2 ih3 =>
      intro i1 y7 F5 V6 H locs ls hfi1 hii1 hI hU hV hEi1 hZ9 hP hD hS hl
      rw [f_w_addNeeds_member_2] at hZ9
      refine lv_iload_n hx hb dX9_addNeeds_2 rfl (lv_at hl 0 rfl) ?_
      refine lv_if_eq (tgt := 76) hx hb dX9_addNeeds_3 (by decide) (fun c8 => ?_) (fun c8 => ?_)
      · replace hZ9 := ite_t hZ9 c8
        replace hZ9 := lp_app4 hK9_2 hZ9
        rw [hQ]
        exact W.vret hx hb hr (fun t ht hW => ⟨⟨(F5, V6), rfl, ⟨hI.mono (by omega), hU, hV, hZ9.symm.trans hR0⟩, by rw [ht]; exact hP, hD⟩, hS.F ht⟩) hS.2.2 dX9_addNeeds_76
      · replace hZ9 := ite_f hZ9 c8
        have hz0 := hEi1 c8
        refine lv_iconst (v := 0) hx hb dX9_addNeeds_6 (by decide) ?_
        refine lv_istore_n (lv' := [(2, .int 0), (0, .ref h), (1, .ref (a 27))]) hx hb dX9_addNeeds_7 rfl hl (by decide) rfl (fun ls hl => ?_)
        refine lv_iconst (v := 0) hx hb dX9_addNeeds_8 (by decide) ?_
        refine lv_istore_n (lv' := [(3, .int 0), (2, .int 0), (0, .ref h), (1, .ref (a 27))]) hx hb dX9_addNeeds_9 rfl hl (by decide) rfl (fun ls hl => ?_)
        obtain ⟨K9_10, hK9_10, hZ9⟩ := lp_gen hZ9
        have lp12 : ∀ (fu10 i9 : Nat) (y15 : Int32) (F13 : Nat → Nat → Int32) (V14 : Nat → Int32) (H : Heap) (locs : List Loc) (ls : Array Slot), n < i9 + fu10 → i9 ≤ n → StM n (b) F V F13 V14 → (∀ j : Nat, j ∉ ([27] : List Nat) → F13 j = F j) → (∀ j : Nat, j ∉ ([] : List Nat) → V14 j = V j) → zc (F13 27) 40 ≤ zc (F5 27) 40 → (¬ y15 = 0 → zc (F13 27) 40 < zc (F5 27) 40) → RES = f_w_addNeeds_member_10 n  fu10 i9 y15 F13 V14 K9_10 → va_P (dC, dI) vwCl (mW h a k F13 V14) H → va_D A (mW h a k F13 V14) → va_S A s.heap H locs → lv_has ls 5 [(3, .int (nI i9)), (2, .int y15), (0, .ref h), (1, .ref (a 27))] → W p l e (headSpec wq_w_addNeeds_member rm_w_addNeeds_member).room s m ([.ref h, .ref (a 27)] : List Value).toArray below meth c H locs 0 0 Q0 (F0 m 10 ls []) := by
          intro fu10
          induction fu10 with
          | zero =>
            intro i9 y15 F13 V14 H locs ls hf hi
            exact absurd hf (by omega)
          | succ fu10 ih11 =>
            intro i9 y15 F13 V14 H locs ls hfi9 hii9 hI hU hV hzi9 hgi9 hZ9 hP hD hS hl
            rw [f_w_addNeeds_member_10] at hZ9
            refine lv_iload_n hx hb dX9_addNeeds_10 rfl (lv_at hl 0 rfl) ?_
            refine lv_aload_n hx hb dX9_addNeeds_11 rfl (lv_at hl 2 rfl) ?_
            refine va_get (D := (dC, dI)) (ci := 10) (v := .int (V14 21)) (C := RX9) (T := TX9) (N := 46) hx hb hts in_w_addNeeds_member_X9 hown hK hP 0 rfl rfl 21 (by decide) (hts (.fieldLink RX9 126 "ServiceTreeModel" "services" "I") (by decide +kernel)) (fun _ h9 => h9) rfl dX9_addNeeds_12 ?_
            refine p1_topr (v := .int (nI n)) (congrArg Value.int hI.1.2.1) ?_
            refine lv_icmp_ge (tgt := 73) hx hb dX9_addNeeds_15 (by decide) (fun c16 => ?_) (fun c16 => ?_)
            · replace c16 : n ≤ i9 := (nI_leI (a := n) (b := i9) (by omega) (by omega)).mp c16
              replace hZ9 := ite_t hZ9 c16
              replace hZ9 := lp_app4 hK9_10 hZ9
              refine lv_goto (tgt := 2) hx hb dX9_addNeeds_73 (by decide) ?_
              exact ih3 (i1 + 1) y15 F13 V14 _ _ _ (by omega) (by omega) (hI.mono (by omega)) hU hV (fun q9 => (show i1 + 1 + zc (F13 27) 40 ≤ 40 by have h9 : zc (F13 27) 40 < zc (F5 27) 40 := (show ¬ y15 = 0 → zc (F13 27) 40 < zc (F5 27) 40 by assumption) q9; omega)) hZ9 hP hD hS (lv_sub hl [1, 2, 3] rfl)
            · replace c16 : ¬ (n ≤ i9) := fun q9 => c16 ((nI_leI (a := n) (b := i9) (by omega) (by omega)).mpr q9)
              replace hZ9 := ite_f hZ9 c16
              refine lv_iconst (v := 0) hx hb dX9_addNeeds_18 (by decide) ?_
              refine lv_istore (lv' := [(4, .int 0), (3, .int (nI i9)), (2, .int y15), (0, .ref h), (1, .ref (a 27))]) hx hb dX9_addNeeds_19 hl (by decide) rfl (fun ls hl => ?_)
              obtain ⟨K9_21, hK9_21, hZ9⟩ := lp_gen hZ9
              have lp20 : ∀ (fu18 i17 : Nat) (y23 : Int32) (F21 : Nat → Nat → Int32) (V22 : Nat → Int32) (H : Heap) (locs : List Loc) (ls : Array Slot), n < i17 + fu18 → i17 ≤ n → StM n (b) F V F21 V22 → (∀ j : Nat, j ∉ ([27] : List Nat) → F21 j = F j) → (∀ j : Nat, j ∉ ([] : List Nat) → V22 j = V j) → zc (F21 27) 40 ≤ zc (F5 27) 40 → (¬ y23 = 0 → zc (F21 27) 40 < zc (F5 27) 40) → RES = f_w_addNeeds_member_21 n i9 fu18 i17 y23 F21 V22 K9_21 → va_P (dC, dI) vwCl (mW h a k F21 V22) H → va_D A (mW h a k F21 V22) → va_S A s.heap H locs → lv_has ls 5 [(4, .int (nI i17)), (3, .int (nI i9)), (2, .int y23), (0, .ref h), (1, .ref (a 27))] → W p l e (headSpec wq_w_addNeeds_member rm_w_addNeeds_member).room s m ([.ref h, .ref (a 27)] : List Value).toArray below meth c H locs 0 0 Q0 (F0 m 21 ls []) := by
                intro fu18
                induction fu18 with
                | zero =>
                  intro i17 y23 F21 V22 H locs ls hf hi
                  exact absurd hf (by omega)
                | succ fu18 ih19 =>
                  intro i17 y23 F21 V22 H locs ls hfi17 hii17 hI hU hV hzi17 hgi17 hZ9 hP hD hS hl
                  rw [f_w_addNeeds_member_21] at hZ9
                  refine lv_iload hx hb dX9_addNeeds_21 (lv_at hl 0 rfl) ?_
                  refine lv_aload_n hx hb dX9_addNeeds_23 rfl (lv_at hl 3 rfl) ?_
                  refine va_get (D := (dC, dI)) (ci := 10) (v := .int (V22 21)) (C := RX9) (T := TX9) (N := 46) hx hb hts in_w_addNeeds_member_X9 hown hK hP 0 rfl rfl 21 (by decide) (hts (.fieldLink RX9 126 "ServiceTreeModel" "services" "I") (by decide +kernel)) (fun _ h9 => h9) rfl dX9_addNeeds_24 ?_
                  refine p1_topr (v := .int (nI n)) (congrArg Value.int hI.1.2.1) ?_
                  refine lv_icmp_ge (tgt := 67) hx hb dX9_addNeeds_27 (by decide) (fun c24 => ?_) (fun c24 => ?_)
                  · replace c24 : n ≤ i17 := (nI_leI (a := n) (b := i17) (by omega) (by omega)).mp c24
                    replace hZ9 := ite_t hZ9 c24
                    replace hZ9 := lp_app4 hK9_21 hZ9
                    refine lv_iinc (v := nI (i9 + 1)) (lv' := [(3, .int (nI (i9 + 1))), (4, .int (nI i17)), (2, .int y23), (0, .ref h), (1, .ref (a 27))]) hx hb dX9_addNeeds_67 hl (k := 1) rfl (nI_add i9 1) (by decide) rfl (fun ls hl => ?_)
                    refine lv_goto (tgt := 10) hx hb dX9_addNeeds_70 (by decide) ?_
                    exact ih11 (i9 + 1) y23 F21 V22 _ _ _ (by omega) (by omega) (hI.mono (by omega)) hU hV (show zc (F21 27) 40 ≤ zc (F5 27) 40 by first | assumption | exact Nat.le_refl _) (show ¬ y23 = 0 → zc (F21 27) 40 < zc (F5 27) 40 by assumption) hZ9 hP hD hS (lv_sub hl [0, 2, 3, 4] rfl)
                  · replace c24 : ¬ (n ≤ i17) := fun q9 => c24 ((nI_leI (a := n) (b := i17) (by omega) (by omega)).mpr q9)
                    replace hZ9 := ite_f hZ9 c24
                    refine lv_aload_n hx hb dX9_addNeeds_30 rfl (lv_at hl 4 rfl) ?_
                    refine lv_iload_n hx hb dX9_addNeeds_31 rfl (lv_at hl 1 rfl) ?_
                    refine va_zald (n := 40) (f := F21 27) hx hb hK hP 23 22 rfl rfl (vp_in_nI (n := i9) (by omega) (by decide)) dX9_addNeeds_32 ?_
                    refine lv_topi (fun x25 ex25 => ?_)
                    replace hZ9 := bnd_s hZ9 ex25
                    refine lv_if_eq (tgt := 61) hx hb dX9_addNeeds_33 (by decide) (fun c26 => ?_) (fun c26 => ?_)
                    · replace hZ9 := ite_t hZ9 c26
                      refine lv_iinc (v := nI (i17 + 1)) (lv' := [(4, .int (nI (i17 + 1))), (3, .int (nI i9)), (2, .int y23), (0, .ref h), (1, .ref (a 27))]) hx hb dX9_addNeeds_61 hl (k := 0) rfl (nI_add i17 1) (by decide) rfl (fun ls hl => ?_)
                      refine lv_goto (tgt := 21) hx hb dX9_addNeeds_64 (by decide) ?_
                      exact ih19 (i17 + 1) y23 F21 V22 _ _ _ (by omega) (by omega) (hI.mono (by omega)) hU hV (show zc (F21 27) 40 ≤ zc (F5 27) 40 by first | assumption | exact Nat.le_refl _) (show ¬ y23 = 0 → zc (F21 27) 40 < zc (F5 27) 40 by assumption) hZ9 hP hD hS (lv_sub hl [0, 1, 2, 3, 4] rfl)
                    · replace hZ9 := ite_f hZ9 c26
                      refine lv_aload_n hx hb dX9_addNeeds_36 rfl (lv_at hl 4 rfl) ?_
                      refine lv_iload hx hb dX9_addNeeds_37 (lv_at hl 0 rfl) ?_
                      refine va_zald (n := 40) (f := F21 27) hx hb hK hP 23 22 rfl rfl (vp_in_nI (n := i17) (by omega) (by decide)) dX9_addNeeds_39 ?_
                      refine lv_topi (fun x27 ex27 => ?_)
                      replace hZ9 := bnd_s hZ9 ex27
                      refine lv_if_ne (tgt := 61) hx hb dX9_addNeeds_40 (by decide) (fun c28 => ?_) (fun c28 => ?_)
                      · replace hZ9 := ite_f hZ9 c28
                        refine lv_iinc (v := nI (i17 + 1)) (lv' := [(4, .int (nI (i17 + 1))), (3, .int (nI i9)), (2, .int y23), (0, .ref h), (1, .ref (a 27))]) hx hb dX9_addNeeds_61 hl (k := 0) rfl (nI_add i17 1) (by decide) rfl (fun ls hl => ?_)
                        refine lv_goto (tgt := 21) hx hb dX9_addNeeds_64 (by decide) ?_
                        exact ih19 (i17 + 1) y23 F21 V22 _ _ _ (by omega) (by omega) (hI.mono (by omega)) hU hV (show zc (F21 27) 40 ≤ zc (F5 27) 40 by first | assumption | exact Nat.le_refl _) (show ¬ y23 = 0 → zc (F21 27) 40 < zc (F5 27) 40 by assumption) hZ9 hP hD hS (lv_sub hl [0, 1, 2, 3, 4] rfl)
                      · replace hZ9 := ite_t hZ9 c28
                        refine lv_aload_n hx hb dX9_addNeeds_43 rfl (lv_at hl 3 rfl) ?_
                        refine lv_iconst (v := 0) hx hb dX9_addNeeds_44 (by decide) ?_
                        refine lv_iload_n hx hb dX9_addNeeds_45 rfl (lv_at hl 1 rfl) ?_
                        refine lv_iload hx hb dX9_addNeeds_46 (lv_at hl 0 rfl) ?_
                        have hFc := mw_free hD hS hA
                        refine va_calli (va_runV (As := [.int 0, .int (nI i9), .int (nI i17)]) (rest := []) ⟨hx, hb, hml, hown, hts⟩ (c_w_has l dC dI h a k F21 V22 n (b) 0 i9 i17 H.size hI.1 (by omega) (by omega) (by omega) (by omega)) (cwV 3 hts wc_w_addNeeds_member_w_has_150 rfl rfl rfl (by decide +kernel) ⟨Nat.le_of_ble_eq_true rfl, Nat.le_of_ble_eq_true rfl⟩) ⟨fun a9 U g mk q => by obtain ⟨q0, q1, qP, qK, qD⟩ := q; exact ⟨q0, q1, qP, va_K.moved (u := U) (U := U.calling g mk a9) (Vm.Alike.refl U.vm) qK, qD⟩, va_recv hK hP (ci := 10) (q0 := 0) rfl rfl, fun U hU hW => ⟨rfl, by rw [hU], by rw [hU]; exact hP, va_K.moved hW.alike hK, hD.weaken (fun _ _ _ _ => trivial)⟩⟩ rfl rfl hl.1 rfl (lv_room (Nat.le_of_ble_eq_true rfl)) dX9_addNeeds_48 ⟨Nat.le_of_ble_eq_true rfl, Nat.le_of_ble_eq_true rfl⟩) hS (fun q _ h => hFc q h) hFc (fun r29 u t H1 locs ht hvm hw hB hz1 hk1 hS => ?_)
                        obtain ⟨F30, V31⟩ := u
                        replace hP := hB.1
                        rw [ht] at hP
                        replace hD : va_D A (mW h a k F30 V31) := hB.2.weaken (fun _ q _ h9 => hFc q.1 h9)
                        clear hB
                        generalize H1 = H at hP hS ⊢
                        replace hP : va_P (dC, dI) vwCl (mW h a k F30 V31) H := hP
                        obtain ⟨hwF, hwV, hw⟩ : F30 = F21 ∧ V31 = V22 ∧ _ := hw
                        rw [hwF, hwV] at hP hD
                        obtain ⟨hw, hwe⟩ := hw
                        replace hw : r29 = f_w_has n 0 i9 i17 F21 := hw
                        replace hZ9 := bnd_s hZ9 hw
                        have br29 := hwe
                        refine lv_if_eq (tgt := 61) hx hb dX9_addNeeds_51 (by decide) (fun c32 => ?_) (fun c32 => ?_)
                        · replace hZ9 := ite_t hZ9 c32
                          refine lv_iinc (v := nI (i17 + 1)) (lv' := [(4, .int (nI (i17 + 1))), (3, .int (nI i9)), (2, .int y23), (0, .ref h), (1, .ref (a 27))]) hx hb dX9_addNeeds_61 hl (k := 0) rfl (nI_add i17 1) (by decide) rfl (fun ls hl => ?_)
                          refine lv_goto (tgt := 21) hx hb dX9_addNeeds_64 (by decide) ?_
                          exact ih19 (i17 + 1) y23 F21 V22 _ _ _ (by omega) (by omega) (hI.mono (by omega)) hU hV (show zc (F21 27) 40 ≤ zc (F5 27) 40 by first | assumption | exact Nat.le_refl _) (show ¬ y23 = 0 → zc (F21 27) 40 < zc (F5 27) 40 by assumption) hZ9 hP hD hS (lv_sub hl [0, 1, 2, 3, 4] rfl)
                        · replace hZ9 := ite_f hZ9 c32
                          refine lv_aload_n hx hb dX9_addNeeds_54 rfl (lv_at hl 4 rfl) ?_
                          refine lv_iload hx hb dX9_addNeeds_55 (lv_at hl 0 rfl) ?_
                          refine lv_iconst (v := 1) hx hb dX9_addNeeds_57 (by decide) ?_
                          refine va_zast (n := 40) (f := F21 27) hx hb hK hP hD hS 23 22 rfl rfl (vp_in_nI (n := i17) (by omega) (by decide)) dX9_addNeeds_58 (fun H locs hP hD hS => ?_)
                          rw [mW_set_27] at hP hD
                          obtain ⟨F33, eF33⟩ : ∃ f9 : Nat → Nat → Int32, f9 = va_up F21 27 (upd (F21 27) (nI i17).toNatClampNeg (vp_nar .boolean 1)) := ⟨_, rfl⟩
                          rw [← eF33] at hP hD
                          replace hZ9 := bnd_s hZ9 eF33
                          replace hI : StM n (b) F V F33 V22 := ⟨by rw [eF33]; exact hI.1.setF (by decide), trivial⟩
                          replace hU : ∀ j : Nat, j ∉ ([27] : List Nat) → F33 j = F j := by rw [eF33]; exact mw_up (by decide) hU
                          have hlt : zc (F33 27) 40 < zc (F21 27) 40 := by rw [eF33, va_up_self]; exact zc_lt (ex27.symm.trans c28) (by decide) 40 (by rw [nI_clamp (by omega)]; omega)
                          refine lv_iconst (v := 1) hx hb dX9_addNeeds_59 (by decide) ?_
                          refine lv_istore_n (lv' := [(2, .int 1), (4, .int (nI i17)), (3, .int (nI i9)), (0, .ref h), (1, .ref (a 27))]) hx hb dX9_addNeeds_60 rfl hl (by decide) rfl (fun ls hl => ?_)
                          refine lv_iinc (v := nI (i17 + 1)) (lv' := [(4, .int (nI (i17 + 1))), (2, .int 1), (3, .int (nI i9)), (0, .ref h), (1, .ref (a 27))]) hx hb dX9_addNeeds_61 hl (k := 1) rfl (nI_add i17 1) (by decide) rfl (fun ls hl => ?_)
                          refine lv_goto (tgt := 21) hx hb dX9_addNeeds_64 (by decide) ?_
                          exact ih19 (i17 + 1) 1 F33 V22 _ _ _ (by omega) (by omega) (hI.mono (by omega)) hU hV (by omega) (fun _ => (show zc (F33 27) 40 < zc (F5 27) 40 by omega)) hZ9 hP hD hS (lv_sub hl [0, 2, 1, 3, 4] rfl)
              exact lp20 (n + 1) 0 y15 F13 V14 _ _ _ (by omega) (by omega) (hI.mono (by omega)) hU hV (show zc (F13 27) 40 ≤ zc (F5 27) 40 by first | assumption | exact Nat.le_refl _) (show ¬ y15 = 0 → zc (F13 27) 40 < zc (F5 27) 40 by assumption) hZ9 hP hD hS hl
        exact lp12 (n + 1) 0 0 F5 V6 _ _ _ (by omega) (by omega) (hI.mono (by omega)) hU hV (show zc (F5 27) 40 ≤ zc (F5 27) 40 by first | assumption | exact Nat.le_refl _) (fun q9 => absurd rfl q9) hZ9 hP hD hS hl
  exact lp4 (41 + 1) 0 1 F V _ _ _ (by omega) (by omega) (hI.mono (by omega)) hU hV (fun _ => (show 0 + zc (F 27) 40 ≤ 40 by have := zc_le (F 27) 40; omega)) hZ9 hP hD hS hl
def f_w_addNeeds_more_21 (n : Nat) (i9 : Nat) : Nat → Nat → Int32 → (Nat → Nat → Int32) → (Nat → Int32) → (Nat → Int32 → (Nat → Nat → Int32) → (Nat → Int32) → (Nat → Nat → Int32) × (Nat → Int32)) → (Nat → Nat → Int32) × (Nat → Int32)
  | 0, i17, y23, F21, V22, K9_21 => K9_21 i17 y23 F21 V22
  | fu18 + 1, i17, y23, F21, V22, K9_21 => if n ≤ i17 then (K9_21 i17 y23 F21 V22) else (bnd (F21 28 (nI i9).toNatClampNeg) (fun (x25 : Int32) => if x25 = (0 : Int32) then (f_w_addNeeds_more_21 n i9 fu18 (i17 + 1) y23 F21 V22 K9_21) else (bnd (F21 28 (nI i17).toNatClampNeg) (fun (x27 : Int32) => if x27 = (0 : Int32) then (bnd (f_w_has n 0 i9 i17 F21) (fun (r29 : Int32) => if r29 = (0 : Int32) then (f_w_addNeeds_more_21 n i9 fu18 (i17 + 1) y23 F21 V22 K9_21) else (bnd (va_up F21 28 (upd (F21 28) (nI i17).toNatClampNeg (vp_nar .boolean 1))) (fun (F33 : Nat → Nat → Int32) => f_w_addNeeds_more_21 n i9 fu18 (i17 + 1) (1 : Int32) F33 V22 K9_21)))) else (f_w_addNeeds_more_21 n i9 fu18 (i17 + 1) y23 F21 V22 K9_21)))))
def f_w_addNeeds_more_10 (n : Nat)  : Nat → Nat → Int32 → (Nat → Nat → Int32) → (Nat → Int32) → (Nat → Int32 → (Nat → Nat → Int32) → (Nat → Int32) → (Nat → Nat → Int32) × (Nat → Int32)) → (Nat → Nat → Int32) × (Nat → Int32)
  | 0, i9, y15, F13, V14, K9_10 => K9_10 i9 y15 F13 V14
  | fu10 + 1, i9, y15, F13, V14, K9_10 => if n ≤ i9 then (K9_10 i9 y15 F13 V14) else (f_w_addNeeds_more_21 n i9 (n + 1) (0 : Nat) y15 F13 V14 (fun (i17 : Nat) (y23 : Int32) (F21 : Nat → Nat → Int32) (V22 : Nat → Int32) => f_w_addNeeds_more_10 n  fu10 (i9 + 1) y23 F21 V22 K9_10))
def f_w_addNeeds_more_2 (n : Nat)  : Nat → Nat → Int32 → (Nat → Nat → Int32) → (Nat → Int32) → (Nat → Int32 → (Nat → Nat → Int32) → (Nat → Int32) → (Nat → Nat → Int32) × (Nat → Int32)) → (Nat → Nat → Int32) × (Nat → Int32)
  | 0, i1, y7, F5, V6, K9_2 => K9_2 i1 y7 F5 V6
  | fu2 + 1, i1, y7, F5, V6, K9_2 => if y7 = (0 : Int32) then (K9_2 i1 y7 F5 V6) else (f_w_addNeeds_more_10 n  (n + 1) (0 : Nat) (0 : Int32) F5 V6 (fun (i9 : Nat) (y15 : Int32) (F13 : Nat → Nat → Int32) (V14 : Nat → Int32) => f_w_addNeeds_more_2 n  fu2 (i1 + 1) y15 F13 V14 K9_2))
def f_w_addNeeds_more (n : Nat)  (F : Nat → Nat → Int32) (V : Nat → Int32) : (Nat → Nat → Int32) × (Nat → Int32) := f_w_addNeeds_more_2 n  (41 + 1) (0 : Nat) (1 : Int32) F V (fun (i1 : Nat) (y7 : Int32) (F5 : Nat → Nat → Int32) (V6 : Nat → Int32) => (F5, V6))
def wq_w_addNeeds_more : List Cond := ([.code yX9_addNeeds cX9_addNeeds 5 none, .fieldLink RX9 126 "ServiceTreeModel" "services" "I", .methodLink RX9 150 yX9_has, .instanceMethod yX9_has, .selects RX9 yX9_has yX9_has, .initialized RX9] : List Cond) ++ (wsX90 ++ (wq_w_has))
theorem in_w_addNeeds_more_X9 : ∀ w ∈ wsX90, w ∈ wq_w_addNeeds_more := fun _ h => List.mem_append_right _ (List.mem_append_left _ (h))
set_option maxRecDepth 20000 in
theorem wi_w_addNeeds_more : ∀ w ∈ wq_w_addNeeds_more, w ∈ lw_tbl := List.forall_mem_append.mpr ⟨(wix [1062, 873, 1023, 1025, 35, 69] rfl), List.forall_mem_append.mpr ⟨inKX9, wi_w_has⟩⟩
set_option maxRecDepth 20000 in
theorem wg_w_addNeeds_more : GoodIn wq_w_addNeeds_more wq_w_addNeeds_more := goodIn_sub (fun _ h => h) (by decide +kernel)
set_option maxRecDepth 20000 in
theorem wc_w_addNeeds_more_w_has_150 : GoodIn wq_w_addNeeds_more (wsV RX9 150 RX9 yX9_has wq_w_has) := goodIn_app (goodIn_of _ (by decide +kernel)) (fun w h => ⟨List.mem_append_right _ (List.mem_append_right _ (h)), (wg_w_has w h).2⟩)
def rm_w_addNeeds_more : Room := { frames := 1, cells := 0, slots := 0, locals := 23 }
set_option maxHeartbeats 4000000 in
set_option maxRecDepth 100000 in
theorem c_w_addNeeds_more (l : Launch) (dC : Nat → ClassId) (dI : Nat → Nat → Nat) (h : Nat) (a : Nat → Nat) (k : Nat → ClassId) (F : Nat → Nat → Int32) (V : Nat → Int32) (n b : Nat)  (sz : Nat) (hI0 : InvM n b F V) (hb0 : b + 0 < 2147483648)  : Met l yX9_addNeeds wq_w_addNeeds_more rm_w_addNeeds_more (va_Pc [.ref h, .ref (a 28)] (fun U => U.heap.size = sz ∧ va_P (dC, dI) vwCl (mW h a k F V) U.heap ∧ va_K (dC, dI) vwCl (mT k) U ∧ va_D (fun _ => True) (mW h a k F V))) (va_Qv (fun (u : (Nat → Nat → Int32) × (Nat → Int32)) => StM n (b + 0) F V u.1 u.2 ∧ (∀ j : Nat, j ∉ ([28] : List Nat) → u.1 j = F j) ∧ (∀ j : Nat, j ∉ ([] : List Nat) → u.2 j = V j) ∧ ((u.1, u.2) = f_w_addNeeds_more n  F V)) (fun (u : (Nat → Nat → Int32) × (Nat → Int32)) (t : State) => va_P (dC, dI) vwCl (mW h a k u.1 u.2) t.heap ∧ va_D (va_A (mW h a k F V) sz) (mW h a k u.1 u.2)) (va_A (mW h a k F V) sz)) 0 0 (va_A (mW h a k F V) sz) := by
  have hn : n ≤ 40 := hI0.1
  have hI : StM n b F V F V := StM.rf hI0
  have hU : ∀ j : Nat, j ∉ ([28] : List Nat) → F j = F j := fun _ _ => rfl
  have hV : ∀ j : Nat, j ∉ ([] : List Nat) → V j = V j := fun _ _ => rfl
  refine Met.ofW (cc := cX9_addNeeds) (maxL := 5) (ret := none) (by decide) rfl ?_
  intro p e s m args below meth c s₁ B hml hv
  obtain ⟨rfl, hsz, hP, hK, hD0⟩ := hv
  have hx := B.exec
  have hb := B.bytes
  have hr := B.returns
  have hts := atoms_spec (ws := wq_w_addNeeds_more) B.pre
  have hown : s.vm.findClass RX9 = some m.cls := findClass_of_methodNamed B.named
  have hlocks := B.notSynchronized
  subst hsz
  have hD := hD0.self (sz := s.heap.size)
  generalize hAe : va_A (mW h a k F V) s.heap.size = A at hD ⊢
  have hA : ∀ q : Nat, s.heap.size ≤ q → A q := fun q h => by rw [← hAe]; exact Or.inr h
  have hS : va_S A s.heap s.heap [] := va_S.rf
  have hl := lv_entry ([.ref h, .ref (a 28)]) (n := 5) (Nat.le_of_ble_eq_true rfl)
  rw [lg_entry_eq]
  generalize (lg_sl ([.ref h, .ref (a 28)]) ++ List.replicate (5 - (lg_sl ([.ref h, .ref (a 28)])).length) Slot.unset).toArray = ls at hl ⊢
  have hl : lv_has ls 5 [(0, .ref h), (1, .ref (a 28))] := hl
  refine mw_Q (fun Q0 hQ => ?_)
  obtain ⟨RES, hR0⟩ : ∃ R9, R9 = f_w_addNeeds_more n  F V := ⟨_, rfl⟩
  have hZ9 := hR0
  unfold f_w_addNeeds_more at hZ9
  refine lv_iconst (v := 1) hx hb dX9_addNeeds_0 (by decide) ?_
  refine lv_istore_n (lv' := [(2, .int 1), (0, .ref h), (1, .ref (a 28))]) hx hb dX9_addNeeds_1 rfl hl (by decide) rfl (fun ls hl => ?_)
  obtain ⟨K9_2, hK9_2, hZ9⟩ := lp_gen hZ9
  have lp4 : ∀ (fu2 i1 : Nat) (y7 : Int32) (F5 : Nat → Nat → Int32) (V6 : Nat → Int32) (H : Heap) (locs : List Loc) (ls : Array Slot), 41 < i1 + fu2 → i1 ≤ 41 → StM n (b) F V F5 V6 → (∀ j : Nat, j ∉ ([28] : List Nat) → F5 j = F j) → (∀ j : Nat, j ∉ ([] : List Nat) → V6 j = V j) → (¬ y7 = 0 → i1 + zc (F5 28) 40 ≤ 40) → RES = f_w_addNeeds_more_2 n  fu2 i1 y7 F5 V6 K9_2 → va_P (dC, dI) vwCl (mW h a k F5 V6) H → va_D A (mW h a k F5 V6) → va_S A s.heap H locs → lv_has ls 5 [(2, .int y7), (0, .ref h), (1, .ref (a 28))] → W p l e (headSpec wq_w_addNeeds_more rm_w_addNeeds_more).room s m ([.ref h, .ref (a 28)] : List Value).toArray below meth c H locs 0 0 Q0 (F0 m 2 ls []) := by
    intro fu2
    induction fu2 with
    | zero =>
      intro i1 y7 F5 V6 H locs ls hf hi
      exact absurd hf (by omega)
    | succ fu2 ih3 =>
      intro i1 y7 F5 V6 H locs ls hfi1 hii1 hI hU hV hEi1 hZ9 hP hD hS hl
      rw [f_w_addNeeds_more_2] at hZ9
      refine lv_iload_n hx hb dX9_addNeeds_2 rfl (lv_at hl 0 rfl) ?_
      refine lv_if_eq (tgt := 76) hx hb dX9_addNeeds_3 (by decide) (fun c8 => ?_) (fun c8 => ?_)
      · replace hZ9 := ite_t hZ9 c8
        replace hZ9 := lp_app4 hK9_2 hZ9
        rw [hQ]
        exact W.vret hx hb hr (fun t ht hW => ⟨⟨(F5, V6), rfl, ⟨hI.mono (by omega), hU, hV, hZ9.symm.trans hR0⟩, by rw [ht]; exact hP, hD⟩, hS.F ht⟩) hS.2.2 dX9_addNeeds_76
      · replace hZ9 := ite_f hZ9 c8
        have hz0 := hEi1 c8
        refine lv_iconst (v := 0) hx hb dX9_addNeeds_6 (by decide) ?_
        refine lv_istore_n (lv' := [(2, .int 0), (0, .ref h), (1, .ref (a 28))]) hx hb dX9_addNeeds_7 rfl hl (by decide) rfl (fun ls hl => ?_)
        refine lv_iconst (v := 0) hx hb dX9_addNeeds_8 (by decide) ?_
        refine lv_istore_n (lv' := [(3, .int 0), (2, .int 0), (0, .ref h), (1, .ref (a 28))]) hx hb dX9_addNeeds_9 rfl hl (by decide) rfl (fun ls hl => ?_)
        obtain ⟨K9_10, hK9_10, hZ9⟩ := lp_gen hZ9
        have lp12 : ∀ (fu10 i9 : Nat) (y15 : Int32) (F13 : Nat → Nat → Int32) (V14 : Nat → Int32) (H : Heap) (locs : List Loc) (ls : Array Slot), n < i9 + fu10 → i9 ≤ n → StM n (b) F V F13 V14 → (∀ j : Nat, j ∉ ([28] : List Nat) → F13 j = F j) → (∀ j : Nat, j ∉ ([] : List Nat) → V14 j = V j) → zc (F13 28) 40 ≤ zc (F5 28) 40 → (¬ y15 = 0 → zc (F13 28) 40 < zc (F5 28) 40) → RES = f_w_addNeeds_more_10 n  fu10 i9 y15 F13 V14 K9_10 → va_P (dC, dI) vwCl (mW h a k F13 V14) H → va_D A (mW h a k F13 V14) → va_S A s.heap H locs → lv_has ls 5 [(3, .int (nI i9)), (2, .int y15), (0, .ref h), (1, .ref (a 28))] → W p l e (headSpec wq_w_addNeeds_more rm_w_addNeeds_more).room s m ([.ref h, .ref (a 28)] : List Value).toArray below meth c H locs 0 0 Q0 (F0 m 10 ls []) := by
          intro fu10
          induction fu10 with
          | zero =>
            intro i9 y15 F13 V14 H locs ls hf hi
            exact absurd hf (by omega)
          | succ fu10 ih11 =>
            intro i9 y15 F13 V14 H locs ls hfi9 hii9 hI hU hV hzi9 hgi9 hZ9 hP hD hS hl
            rw [f_w_addNeeds_more_10] at hZ9
            refine lv_iload_n hx hb dX9_addNeeds_10 rfl (lv_at hl 0 rfl) ?_
            refine lv_aload_n hx hb dX9_addNeeds_11 rfl (lv_at hl 2 rfl) ?_
            refine va_get (D := (dC, dI)) (ci := 10) (v := .int (V14 21)) (C := RX9) (T := TX9) (N := 46) hx hb hts in_w_addNeeds_more_X9 hown hK hP 0 rfl rfl 21 (by decide) (hts (.fieldLink RX9 126 "ServiceTreeModel" "services" "I") (by decide +kernel)) (fun _ h9 => h9) rfl dX9_addNeeds_12 ?_
            refine p1_topr (v := .int (nI n)) (congrArg Value.int hI.1.2.1) ?_
            refine lv_icmp_ge (tgt := 73) hx hb dX9_addNeeds_15 (by decide) (fun c16 => ?_) (fun c16 => ?_)
            · replace c16 : n ≤ i9 := (nI_leI (a := n) (b := i9) (by omega) (by omega)).mp c16
              replace hZ9 := ite_t hZ9 c16
              replace hZ9 := lp_app4 hK9_10 hZ9
              refine lv_goto (tgt := 2) hx hb dX9_addNeeds_73 (by decide) ?_
              exact ih3 (i1 + 1) y15 F13 V14 _ _ _ (by omega) (by omega) (hI.mono (by omega)) hU hV (fun q9 => (show i1 + 1 + zc (F13 28) 40 ≤ 40 by have h9 : zc (F13 28) 40 < zc (F5 28) 40 := (show ¬ y15 = 0 → zc (F13 28) 40 < zc (F5 28) 40 by assumption) q9; omega)) hZ9 hP hD hS (lv_sub hl [1, 2, 3] rfl)
            · replace c16 : ¬ (n ≤ i9) := fun q9 => c16 ((nI_leI (a := n) (b := i9) (by omega) (by omega)).mpr q9)
              replace hZ9 := ite_f hZ9 c16
              refine lv_iconst (v := 0) hx hb dX9_addNeeds_18 (by decide) ?_
              refine lv_istore (lv' := [(4, .int 0), (3, .int (nI i9)), (2, .int y15), (0, .ref h), (1, .ref (a 28))]) hx hb dX9_addNeeds_19 hl (by decide) rfl (fun ls hl => ?_)
              obtain ⟨K9_21, hK9_21, hZ9⟩ := lp_gen hZ9
              have lp20 : ∀ (fu18 i17 : Nat) (y23 : Int32) (F21 : Nat → Nat → Int32) (V22 : Nat → Int32) (H : Heap) (locs : List Loc) (ls : Array Slot), n < i17 + fu18 → i17 ≤ n → StM n (b) F V F21 V22 → (∀ j : Nat, j ∉ ([28] : List Nat) → F21 j = F j) → (∀ j : Nat, j ∉ ([] : List Nat) → V22 j = V j) → zc (F21 28) 40 ≤ zc (F5 28) 40 → (¬ y23 = 0 → zc (F21 28) 40 < zc (F5 28) 40) → RES = f_w_addNeeds_more_21 n i9 fu18 i17 y23 F21 V22 K9_21 → va_P (dC, dI) vwCl (mW h a k F21 V22) H → va_D A (mW h a k F21 V22) → va_S A s.heap H locs → lv_has ls 5 [(4, .int (nI i17)), (3, .int (nI i9)), (2, .int y23), (0, .ref h), (1, .ref (a 28))] → W p l e (headSpec wq_w_addNeeds_more rm_w_addNeeds_more).room s m ([.ref h, .ref (a 28)] : List Value).toArray below meth c H locs 0 0 Q0 (F0 m 21 ls []) := by
                intro fu18
                induction fu18 with
                | zero =>
                  intro i17 y23 F21 V22 H locs ls hf hi
                  exact absurd hf (by omega)
                | succ fu18 ih19 =>
                  intro i17 y23 F21 V22 H locs ls hfi17 hii17 hI hU hV hzi17 hgi17 hZ9 hP hD hS hl
                  rw [f_w_addNeeds_more_21] at hZ9
                  refine lv_iload hx hb dX9_addNeeds_21 (lv_at hl 0 rfl) ?_
                  refine lv_aload_n hx hb dX9_addNeeds_23 rfl (lv_at hl 3 rfl) ?_
                  refine va_get (D := (dC, dI)) (ci := 10) (v := .int (V22 21)) (C := RX9) (T := TX9) (N := 46) hx hb hts in_w_addNeeds_more_X9 hown hK hP 0 rfl rfl 21 (by decide) (hts (.fieldLink RX9 126 "ServiceTreeModel" "services" "I") (by decide +kernel)) (fun _ h9 => h9) rfl dX9_addNeeds_24 ?_
                  refine p1_topr (v := .int (nI n)) (congrArg Value.int hI.1.2.1) ?_
                  refine lv_icmp_ge (tgt := 67) hx hb dX9_addNeeds_27 (by decide) (fun c24 => ?_) (fun c24 => ?_)
                  · replace c24 : n ≤ i17 := (nI_leI (a := n) (b := i17) (by omega) (by omega)).mp c24
                    replace hZ9 := ite_t hZ9 c24
                    replace hZ9 := lp_app4 hK9_21 hZ9
                    refine lv_iinc (v := nI (i9 + 1)) (lv' := [(3, .int (nI (i9 + 1))), (4, .int (nI i17)), (2, .int y23), (0, .ref h), (1, .ref (a 28))]) hx hb dX9_addNeeds_67 hl (k := 1) rfl (nI_add i9 1) (by decide) rfl (fun ls hl => ?_)
                    refine lv_goto (tgt := 10) hx hb dX9_addNeeds_70 (by decide) ?_
                    exact ih11 (i9 + 1) y23 F21 V22 _ _ _ (by omega) (by omega) (hI.mono (by omega)) hU hV (show zc (F21 28) 40 ≤ zc (F5 28) 40 by first | assumption | exact Nat.le_refl _) (show ¬ y23 = 0 → zc (F21 28) 40 < zc (F5 28) 40 by assumption) hZ9 hP hD hS (lv_sub hl [0, 2, 3, 4] rfl)
                  · replace c24 : ¬ (n ≤ i17) := fun q9 => c24 ((nI_leI (a := n) (b := i17) (by omega) (by omega)).mpr q9)
                    replace hZ9 := ite_f hZ9 c24
                    refine lv_aload_n hx hb dX9_addNeeds_30 rfl (lv_at hl 4 rfl) ?_
                    refine lv_iload_n hx hb dX9_addNeeds_31 rfl (lv_at hl 1 rfl) ?_
                    refine va_zald (n := 40) (f := F21 28) hx hb hK hP 24 23 rfl rfl (vp_in_nI (n := i9) (by omega) (by decide)) dX9_addNeeds_32 ?_
                    refine lv_topi (fun x25 ex25 => ?_)
                    replace hZ9 := bnd_s hZ9 ex25
                    refine lv_if_eq (tgt := 61) hx hb dX9_addNeeds_33 (by decide) (fun c26 => ?_) (fun c26 => ?_)
                    · replace hZ9 := ite_t hZ9 c26
                      refine lv_iinc (v := nI (i17 + 1)) (lv' := [(4, .int (nI (i17 + 1))), (3, .int (nI i9)), (2, .int y23), (0, .ref h), (1, .ref (a 28))]) hx hb dX9_addNeeds_61 hl (k := 0) rfl (nI_add i17 1) (by decide) rfl (fun ls hl => ?_)
                      refine lv_goto (tgt := 21) hx hb dX9_addNeeds_64 (by decide) ?_
                      exact ih19 (i17 + 1) y23 F21 V22 _ _ _ (by omega) (by omega) (hI.mono (by omega)) hU hV (show zc (F21 28) 40 ≤ zc (F5 28) 40 by first | assumption | exact Nat.le_refl _) (show ¬ y23 = 0 → zc (F21 28) 40 < zc (F5 28) 40 by assumption) hZ9 hP hD hS (lv_sub hl [0, 1, 2, 3, 4] rfl)
                    · replace hZ9 := ite_f hZ9 c26
                      refine lv_aload_n hx hb dX9_addNeeds_36 rfl (lv_at hl 4 rfl) ?_
                      refine lv_iload hx hb dX9_addNeeds_37 (lv_at hl 0 rfl) ?_
                      refine va_zald (n := 40) (f := F21 28) hx hb hK hP 24 23 rfl rfl (vp_in_nI (n := i17) (by omega) (by decide)) dX9_addNeeds_39 ?_
                      refine lv_topi (fun x27 ex27 => ?_)
                      replace hZ9 := bnd_s hZ9 ex27
                      refine lv_if_ne (tgt := 61) hx hb dX9_addNeeds_40 (by decide) (fun c28 => ?_) (fun c28 => ?_)
                      · replace hZ9 := ite_f hZ9 c28
                        refine lv_iinc (v := nI (i17 + 1)) (lv' := [(4, .int (nI (i17 + 1))), (3, .int (nI i9)), (2, .int y23), (0, .ref h), (1, .ref (a 28))]) hx hb dX9_addNeeds_61 hl (k := 0) rfl (nI_add i17 1) (by decide) rfl (fun ls hl => ?_)
                        refine lv_goto (tgt := 21) hx hb dX9_addNeeds_64 (by decide) ?_
                        exact ih19 (i17 + 1) y23 F21 V22 _ _ _ (by omega) (by omega) (hI.mono (by omega)) hU hV (show zc (F21 28) 40 ≤ zc (F5 28) 40 by first | assumption | exact Nat.le_refl _) (show ¬ y23 = 0 → zc (F21 28) 40 < zc (F5 28) 40 by assumption) hZ9 hP hD hS (lv_sub hl [0, 1, 2, 3, 4] rfl)
                      · replace hZ9 := ite_t hZ9 c28
                        refine lv_aload_n hx hb dX9_addNeeds_43 rfl (lv_at hl 3 rfl) ?_
                        refine lv_iconst (v := 0) hx hb dX9_addNeeds_44 (by decide) ?_
                        refine lv_iload_n hx hb dX9_addNeeds_45 rfl (lv_at hl 1 rfl) ?_
                        refine lv_iload hx hb dX9_addNeeds_46 (lv_at hl 0 rfl) ?_
                        have hFc := mw_free hD hS hA
                        refine va_calli (va_runV (As := [.int 0, .int (nI i9), .int (nI i17)]) (rest := []) ⟨hx, hb, hml, hown, hts⟩ (c_w_has l dC dI h a k F21 V22 n (b) 0 i9 i17 H.size hI.1 (by omega) (by omega) (by omega) (by omega)) (cwV 3 hts wc_w_addNeeds_more_w_has_150 rfl rfl rfl (by decide +kernel) ⟨Nat.le_of_ble_eq_true rfl, Nat.le_of_ble_eq_true rfl⟩) ⟨fun a9 U g mk q => by obtain ⟨q0, q1, qP, qK, qD⟩ := q; exact ⟨q0, q1, qP, va_K.moved (u := U) (U := U.calling g mk a9) (Vm.Alike.refl U.vm) qK, qD⟩, va_recv hK hP (ci := 10) (q0 := 0) rfl rfl, fun U hU hW => ⟨rfl, by rw [hU], by rw [hU]; exact hP, va_K.moved hW.alike hK, hD.weaken (fun _ _ _ _ => trivial)⟩⟩ rfl rfl hl.1 rfl (lv_room (Nat.le_of_ble_eq_true rfl)) dX9_addNeeds_48 ⟨Nat.le_of_ble_eq_true rfl, Nat.le_of_ble_eq_true rfl⟩) hS (fun q _ h => hFc q h) hFc (fun r29 u t H1 locs ht hvm hw hB hz1 hk1 hS => ?_)
                        obtain ⟨F30, V31⟩ := u
                        replace hP := hB.1
                        rw [ht] at hP
                        replace hD : va_D A (mW h a k F30 V31) := hB.2.weaken (fun _ q _ h9 => hFc q.1 h9)
                        clear hB
                        generalize H1 = H at hP hS ⊢
                        replace hP : va_P (dC, dI) vwCl (mW h a k F30 V31) H := hP
                        obtain ⟨hwF, hwV, hw⟩ : F30 = F21 ∧ V31 = V22 ∧ _ := hw
                        rw [hwF, hwV] at hP hD
                        obtain ⟨hw, hwe⟩ := hw
                        replace hw : r29 = f_w_has n 0 i9 i17 F21 := hw
                        replace hZ9 := bnd_s hZ9 hw
                        have br29 := hwe
                        refine lv_if_eq (tgt := 61) hx hb dX9_addNeeds_51 (by decide) (fun c32 => ?_) (fun c32 => ?_)
                        · replace hZ9 := ite_t hZ9 c32
                          refine lv_iinc (v := nI (i17 + 1)) (lv' := [(4, .int (nI (i17 + 1))), (3, .int (nI i9)), (2, .int y23), (0, .ref h), (1, .ref (a 28))]) hx hb dX9_addNeeds_61 hl (k := 0) rfl (nI_add i17 1) (by decide) rfl (fun ls hl => ?_)
                          refine lv_goto (tgt := 21) hx hb dX9_addNeeds_64 (by decide) ?_
                          exact ih19 (i17 + 1) y23 F21 V22 _ _ _ (by omega) (by omega) (hI.mono (by omega)) hU hV (show zc (F21 28) 40 ≤ zc (F5 28) 40 by first | assumption | exact Nat.le_refl _) (show ¬ y23 = 0 → zc (F21 28) 40 < zc (F5 28) 40 by assumption) hZ9 hP hD hS (lv_sub hl [0, 1, 2, 3, 4] rfl)
                        · replace hZ9 := ite_f hZ9 c32
                          refine lv_aload_n hx hb dX9_addNeeds_54 rfl (lv_at hl 4 rfl) ?_
                          refine lv_iload hx hb dX9_addNeeds_55 (lv_at hl 0 rfl) ?_
                          refine lv_iconst (v := 1) hx hb dX9_addNeeds_57 (by decide) ?_
                          refine va_zast (n := 40) (f := F21 28) hx hb hK hP hD hS 24 23 rfl rfl (vp_in_nI (n := i17) (by omega) (by decide)) dX9_addNeeds_58 (fun H locs hP hD hS => ?_)
                          rw [mW_set_28] at hP hD
                          obtain ⟨F33, eF33⟩ : ∃ f9 : Nat → Nat → Int32, f9 = va_up F21 28 (upd (F21 28) (nI i17).toNatClampNeg (vp_nar .boolean 1)) := ⟨_, rfl⟩
                          rw [← eF33] at hP hD
                          replace hZ9 := bnd_s hZ9 eF33
                          replace hI : StM n (b) F V F33 V22 := ⟨by rw [eF33]; exact hI.1.setF (by decide), trivial⟩
                          replace hU : ∀ j : Nat, j ∉ ([28] : List Nat) → F33 j = F j := by rw [eF33]; exact mw_up (by decide) hU
                          have hlt : zc (F33 28) 40 < zc (F21 28) 40 := by rw [eF33, va_up_self]; exact zc_lt (ex27.symm.trans c28) (by decide) 40 (by rw [nI_clamp (by omega)]; omega)
                          refine lv_iconst (v := 1) hx hb dX9_addNeeds_59 (by decide) ?_
                          refine lv_istore_n (lv' := [(2, .int 1), (4, .int (nI i17)), (3, .int (nI i9)), (0, .ref h), (1, .ref (a 28))]) hx hb dX9_addNeeds_60 rfl hl (by decide) rfl (fun ls hl => ?_)
                          refine lv_iinc (v := nI (i17 + 1)) (lv' := [(4, .int (nI (i17 + 1))), (2, .int 1), (3, .int (nI i9)), (0, .ref h), (1, .ref (a 28))]) hx hb dX9_addNeeds_61 hl (k := 1) rfl (nI_add i17 1) (by decide) rfl (fun ls hl => ?_)
                          refine lv_goto (tgt := 21) hx hb dX9_addNeeds_64 (by decide) ?_
                          exact ih19 (i17 + 1) 1 F33 V22 _ _ _ (by omega) (by omega) (hI.mono (by omega)) hU hV (by omega) (fun _ => (show zc (F33 28) 40 < zc (F5 28) 40 by omega)) hZ9 hP hD hS (lv_sub hl [0, 2, 1, 3, 4] rfl)
              exact lp20 (n + 1) 0 y15 F13 V14 _ _ _ (by omega) (by omega) (hI.mono (by omega)) hU hV (show zc (F13 28) 40 ≤ zc (F5 28) 40 by first | assumption | exact Nat.le_refl _) (show ¬ y15 = 0 → zc (F13 28) 40 < zc (F5 28) 40 by assumption) hZ9 hP hD hS hl
        exact lp12 (n + 1) 0 0 F5 V6 _ _ _ (by omega) (by omega) (hI.mono (by omega)) hU hV (show zc (F5 28) 40 ≤ zc (F5 28) 40 by first | assumption | exact Nat.le_refl _) (fun q9 => absurd rfl q9) hZ9 hP hD hS hl
  exact lp4 (41 + 1) 0 1 F V _ _ _ (by omega) (by omega) (hI.mono (by omega)) hU hV (fun _ => (show 0 + zc (F 28) 40 ≤ 40 by have := zc_le (F 28) 40; omega)) hZ9 hP hD hS hl
def f_w_addNeeding_21 (n : Nat) (p0 : Int32) (i9 : Nat) : Nat → Nat → Int32 → (Nat → Nat → Int32) → (Nat → Int32) → (Nat → Int32 → (Nat → Nat → Int32) → (Nat → Int32) → (Nat → Nat → Int32) × (Nat → Int32)) → (Nat → Nat → Int32) × (Nat → Int32)
  | 0, i17, y23, F21, V22, K9_21 => K9_21 i17 y23 F21 V22
  | fu18 + 1, i17, y23, F21, V22, K9_21 => if n ≤ i17 then (K9_21 i17 y23 F21 V22) else (bnd (F21 30 (nI i9).toNatClampNeg) (fun (x25 : Int32) => if x25 = (2 : Int32) then (f_w_addNeeding_21 n p0 i9 fu18 (i17 + 1) y23 F21 V22 K9_21) else (bnd (f_w_isUpOrWaiting n i9 F21) (fun (r27 : Int32) => if r27 = (0 : Int32) then (f_w_addNeeding_21 n p0 i9 fu18 (i17 + 1) y23 F21 V22 K9_21) else (bnd (f_w_has n 0 i9 i17 F21) (fun (r31 : Int32) => if r31 = (0 : Int32) then (f_w_addNeeding_21 n p0 i9 fu18 (i17 + 1) y23 F21 V22 K9_21) else (bnd (F21 30 (nI i17).toNatClampNeg) (fun (x35 : Int32) => if x35 = (2 : Int32) then (bnd (va_up F21 30 (upd (F21 30) (nI i9).toNatClampNeg 2)) (fun (F37 : Nat → Nat → Int32) => f_w_addNeeding_21 n p0 i9 fu18 (i17 + 1) (1 : Int32) F37 V22 K9_21)) else (if (nI i17) = p0 then (bnd (va_up F21 30 (upd (F21 30) (nI i9).toNatClampNeg 2)) (fun (F39 : Nat → Nat → Int32) => f_w_addNeeding_21 n p0 i9 fu18 (i17 + 1) (1 : Int32) F39 V22 K9_21)) else (f_w_addNeeding_21 n p0 i9 fu18 (i17 + 1) y23 F21 V22 K9_21))))))))))
def f_w_addNeeding_10 (n : Nat) (p0 : Int32) : Nat → Nat → Int32 → (Nat → Nat → Int32) → (Nat → Int32) → (Nat → Int32 → (Nat → Nat → Int32) → (Nat → Int32) → (Nat → Nat → Int32) × (Nat → Int32)) → (Nat → Nat → Int32) × (Nat → Int32)
  | 0, i9, y15, F13, V14, K9_10 => K9_10 i9 y15 F13 V14
  | fu10 + 1, i9, y15, F13, V14, K9_10 => if n ≤ i9 then (K9_10 i9 y15 F13 V14) else (f_w_addNeeding_21 n p0 i9 (n + 1) (0 : Nat) y15 F13 V14 (fun (i17 : Nat) (y23 : Int32) (F21 : Nat → Nat → Int32) (V22 : Nat → Int32) => f_w_addNeeding_10 n p0 fu10 (i9 + 1) y23 F21 V22 K9_10))
def f_w_addNeeding_2 (n : Nat) (p0 : Int32) : Nat → Nat → Int32 → (Nat → Nat → Int32) → (Nat → Int32) → (Nat → Int32 → (Nat → Nat → Int32) → (Nat → Int32) → (Nat → Nat → Int32) × (Nat → Int32)) → (Nat → Nat → Int32) × (Nat → Int32)
  | 0, i1, y7, F5, V6, K9_2 => K9_2 i1 y7 F5 V6
  | fu2 + 1, i1, y7, F5, V6, K9_2 => if y7 = (0 : Int32) then (K9_2 i1 y7 F5 V6) else (f_w_addNeeding_10 n p0 (n + 1) (0 : Nat) (0 : Int32) F5 V6 (fun (i9 : Nat) (y15 : Int32) (F13 : Nat → Nat → Int32) (V14 : Nat → Int32) => f_w_addNeeding_2 n p0 fu2 (i1 + 1) y15 F13 V14 K9_2))
def f_w_addNeeding (n : Nat) (p0 : Int32) (F : Nat → Nat → Int32) (V : Nat → Int32) : (Nat → Nat → Int32) × (Nat → Int32) := f_w_addNeeding_2 n p0 (41 + 1) (0 : Nat) (1 : Int32) F V (fun (i1 : Nat) (y7 : Int32) (F5 : Nat → Nat → Int32) (V6 : Nat → Int32) => (F5, V6))
def wq_w_addNeeding : List Cond := ([.code yX9_addNeeding cX9_addNeeding 5 none, .fieldLink RX9 126 "ServiceTreeModel" "services" "I", .fieldLink RX9 86 "ServiceTreeModel" "newJob" "[I", .methodLink RX9 171 yX9_isUpOrWaiting, .instanceMethod yX9_isUpOrWaiting, .selects RX9 yX9_isUpOrWaiting yX9_isUpOrWaiting, .initialized RX9, .methodLink RX9 150 yX9_has, .instanceMethod yX9_has, .selects RX9 yX9_has yX9_has] : List Cond) ++ (wsX90 ++ (wq_w_isUpOrWaiting ++ (wq_w_has)))
theorem in_w_addNeeding_X9 : ∀ w ∈ wsX90, w ∈ wq_w_addNeeding := fun _ h => List.mem_append_right _ (List.mem_append_left _ (h))
set_option maxRecDepth 20000 in
theorem wi_w_addNeeding : ∀ w ∈ wq_w_addNeeding, w ∈ lw_tbl := List.forall_mem_append.mpr ⟨(wix [1054, 873, 882, 1047, 1049, 38, 69, 1023, 1025, 35] rfl), List.forall_mem_append.mpr ⟨inKX9, List.forall_mem_append.mpr ⟨wi_w_isUpOrWaiting, wi_w_has⟩⟩⟩
set_option maxRecDepth 20000 in
theorem wg_w_addNeeding : GoodIn wq_w_addNeeding wq_w_addNeeding := goodIn_sub (fun _ h => h) (by decide +kernel)
set_option maxRecDepth 20000 in
theorem wc_w_addNeeding_w_isUpOrWaiting_171 : GoodIn wq_w_addNeeding (wsV RX9 171 RX9 yX9_isUpOrWaiting wq_w_isUpOrWaiting) := goodIn_app (goodIn_of _ (by decide +kernel)) (fun w h => ⟨List.mem_append_right _ (List.mem_append_right _ (List.mem_append_left _ (h))), (wg_w_isUpOrWaiting w h).2⟩)
set_option maxRecDepth 20000 in
theorem wc_w_addNeeding_w_has_150 : GoodIn wq_w_addNeeding (wsV RX9 150 RX9 yX9_has wq_w_has) := goodIn_app (goodIn_of _ (by decide +kernel)) (fun w h => ⟨List.mem_append_right _ (List.mem_append_right _ (List.mem_append_right _ (h))), (wg_w_has w h).2⟩)
def rm_w_addNeeding : Room := { frames := 1, cells := 0, slots := 0, locals := 23 }
set_option maxHeartbeats 4000000 in
set_option maxRecDepth 100000 in
theorem c_w_addNeeding (l : Launch) (dC : Nat → ClassId) (dI : Nat → Nat → Nat) (h : Nat) (a : Nat → Nat) (k : Nat → ClassId) (F : Nat → Nat → Int32) (V : Nat → Int32) (n b : Nat) (p0 : Int32) (sz : Nat) (hI0 : InvM n b F V) (hb0 : b + 0 < 2147483648)  : Met l yX9_addNeeding wq_w_addNeeding rm_w_addNeeding (va_Pc [.ref h, .int p0] (fun U => U.heap.size = sz ∧ va_P (dC, dI) vwCl (mW h a k F V) U.heap ∧ va_K (dC, dI) vwCl (mT k) U ∧ va_D (fun _ => True) (mW h a k F V))) (va_Qv (fun (u : (Nat → Nat → Int32) × (Nat → Int32)) => StM n (b + 0) F V u.1 u.2 ∧ (∀ j : Nat, j ∉ ([30] : List Nat) → u.1 j = F j) ∧ (∀ j : Nat, j ∉ ([] : List Nat) → u.2 j = V j) ∧ ((u.1, u.2) = f_w_addNeeding n p0 F V)) (fun (u : (Nat → Nat → Int32) × (Nat → Int32)) (t : State) => va_P (dC, dI) vwCl (mW h a k u.1 u.2) t.heap ∧ va_D (va_A (mW h a k F V) sz) (mW h a k u.1 u.2)) (va_A (mW h a k F V) sz)) 0 0 (va_A (mW h a k F V) sz) := by
  have hn : n ≤ 40 := hI0.1
  have hI : StM n b F V F V := StM.rf hI0
  have hU : ∀ j : Nat, j ∉ ([30] : List Nat) → F j = F j := fun _ _ => rfl
  have hV : ∀ j : Nat, j ∉ ([] : List Nat) → V j = V j := fun _ _ => rfl
  refine Met.ofW (cc := cX9_addNeeding) (maxL := 5) (ret := none) (by decide) rfl ?_
  intro p e s m args below meth c s₁ B hml hv
  obtain ⟨rfl, hsz, hP, hK, hD0⟩ := hv
  have hx := B.exec
  have hb := B.bytes
  have hr := B.returns
  have hts := atoms_spec (ws := wq_w_addNeeding) B.pre
  have hown : s.vm.findClass RX9 = some m.cls := findClass_of_methodNamed B.named
  have hlocks := B.notSynchronized
  subst hsz
  have hD := hD0.self (sz := s.heap.size)
  generalize hAe : va_A (mW h a k F V) s.heap.size = A at hD ⊢
  have hA : ∀ q : Nat, s.heap.size ≤ q → A q := fun q h => by rw [← hAe]; exact Or.inr h
  have hS : va_S A s.heap s.heap [] := va_S.rf
  have hl := lv_entry ([.ref h, .int p0]) (n := 5) (Nat.le_of_ble_eq_true rfl)
  rw [lg_entry_eq]
  generalize (lg_sl ([.ref h, .int p0]) ++ List.replicate (5 - (lg_sl ([.ref h, .int p0])).length) Slot.unset).toArray = ls at hl ⊢
  have hl : lv_has ls 5 [(0, .ref h), (1, .int p0)] := hl
  refine mw_Q (fun Q0 hQ => ?_)
  obtain ⟨RES, hR0⟩ : ∃ R9, R9 = f_w_addNeeding n p0 F V := ⟨_, rfl⟩
  have hZ9 := hR0
  unfold f_w_addNeeding at hZ9
  refine lv_iconst (v := 1) hx hb dX9_addNeeding_0 (by decide) ?_
  refine lv_istore_n (lv' := [(2, .int 1), (0, .ref h), (1, .int p0)]) hx hb dX9_addNeeding_1 rfl hl (by decide) rfl (fun ls hl => ?_)
  obtain ⟨K9_2, hK9_2, hZ9⟩ := lp_gen hZ9
  have lp4 : ∀ (fu2 i1 : Nat) (y7 : Int32) (F5 : Nat → Nat → Int32) (V6 : Nat → Int32) (H : Heap) (locs : List Loc) (ls : Array Slot), 41 < i1 + fu2 → i1 ≤ 41 → StM n (b) F V F5 V6 → (∀ j : Nat, j ∉ ([30] : List Nat) → F5 j = F j) → (∀ j : Nat, j ∉ ([] : List Nat) → V6 j = V j) → (¬ y7 = 0 → i1 + zc (nz 2 (F5 30)) 40 ≤ 40) → RES = f_w_addNeeding_2 n p0 fu2 i1 y7 F5 V6 K9_2 → va_P (dC, dI) vwCl (mW h a k F5 V6) H → va_D A (mW h a k F5 V6) → va_S A s.heap H locs → lv_has ls 5 [(2, .int y7), (0, .ref h), (1, .int p0)] → W p l e (headSpec wq_w_addNeeding rm_w_addNeeding).room s m ([.ref h, .int p0] : List Value).toArray below meth c H locs 0 0 Q0 (F0 m 2 ls []) := by
    intro fu2
    induction fu2 with
    | zero =>
      intro i1 y7 F5 V6 H locs ls hf hi
      exact absurd hf (by omega)
    | succ fu2 ih3 =>
      intro i1 y7 F5 V6 H locs ls hfi1 hii1 hI hU hV hEi1 hZ9 hP hD hS hl
      rw [f_w_addNeeding_2] at hZ9
      refine lv_iload_n hx hb dX9_addNeeding_2 rfl (lv_at hl 0 rfl) ?_
      refine lv_if_eq (tgt := 100) hx hb dX9_addNeeding_3 (by decide) (fun c8 => ?_) (fun c8 => ?_)
      · replace hZ9 := ite_t hZ9 c8
        replace hZ9 := lp_app4 hK9_2 hZ9
        rw [hQ]
        exact W.vret hx hb hr (fun t ht hW => ⟨⟨(F5, V6), rfl, ⟨hI.mono (by omega), hU, hV, hZ9.symm.trans hR0⟩, by rw [ht]; exact hP, hD⟩, hS.F ht⟩) hS.2.2 dX9_addNeeding_100
      · replace hZ9 := ite_f hZ9 c8
        have hz0 := hEi1 c8
        refine lv_iconst (v := 0) hx hb dX9_addNeeding_6 (by decide) ?_
        refine lv_istore_n (lv' := [(2, .int 0), (0, .ref h), (1, .int p0)]) hx hb dX9_addNeeding_7 rfl hl (by decide) rfl (fun ls hl => ?_)
        refine lv_iconst (v := 0) hx hb dX9_addNeeding_8 (by decide) ?_
        refine lv_istore_n (lv' := [(3, .int 0), (2, .int 0), (0, .ref h), (1, .int p0)]) hx hb dX9_addNeeding_9 rfl hl (by decide) rfl (fun ls hl => ?_)
        obtain ⟨K9_10, hK9_10, hZ9⟩ := lp_gen hZ9
        have lp12 : ∀ (fu10 i9 : Nat) (y15 : Int32) (F13 : Nat → Nat → Int32) (V14 : Nat → Int32) (H : Heap) (locs : List Loc) (ls : Array Slot), n < i9 + fu10 → i9 ≤ n → StM n (b) F V F13 V14 → (∀ j : Nat, j ∉ ([30] : List Nat) → F13 j = F j) → (∀ j : Nat, j ∉ ([] : List Nat) → V14 j = V j) → zc (nz 2 (F13 30)) 40 ≤ zc (nz 2 (F5 30)) 40 → (¬ y15 = 0 → zc (nz 2 (F13 30)) 40 < zc (nz 2 (F5 30)) 40) → RES = f_w_addNeeding_10 n p0 fu10 i9 y15 F13 V14 K9_10 → va_P (dC, dI) vwCl (mW h a k F13 V14) H → va_D A (mW h a k F13 V14) → va_S A s.heap H locs → lv_has ls 5 [(3, .int (nI i9)), (2, .int y15), (0, .ref h), (1, .int p0)] → W p l e (headSpec wq_w_addNeeding rm_w_addNeeding).room s m ([.ref h, .int p0] : List Value).toArray below meth c H locs 0 0 Q0 (F0 m 10 ls []) := by
          intro fu10
          induction fu10 with
          | zero =>
            intro i9 y15 F13 V14 H locs ls hf hi
            exact absurd hf (by omega)
          | succ fu10 ih11 =>
            intro i9 y15 F13 V14 H locs ls hfi9 hii9 hI hU hV hzi9 hgi9 hZ9 hP hD hS hl
            rw [f_w_addNeeding_10] at hZ9
            refine lv_iload_n hx hb dX9_addNeeding_10 rfl (lv_at hl 0 rfl) ?_
            refine lv_aload_n hx hb dX9_addNeeding_11 rfl (lv_at hl 2 rfl) ?_
            refine va_get (D := (dC, dI)) (ci := 10) (v := .int (V14 21)) (C := RX9) (T := TX9) (N := 46) hx hb hts in_w_addNeeding_X9 hown hK hP 0 rfl rfl 21 (by decide) (hts (.fieldLink RX9 126 "ServiceTreeModel" "services" "I") (by decide +kernel)) (fun _ h9 => h9) rfl dX9_addNeeding_12 ?_
            refine p1_topr (v := .int (nI n)) (congrArg Value.int hI.1.2.1) ?_
            refine lv_icmp_ge (tgt := 97) hx hb dX9_addNeeding_15 (by decide) (fun c16 => ?_) (fun c16 => ?_)
            · replace c16 : n ≤ i9 := (nI_leI (a := n) (b := i9) (by omega) (by omega)).mp c16
              replace hZ9 := ite_t hZ9 c16
              replace hZ9 := lp_app4 hK9_10 hZ9
              refine lv_goto (tgt := 2) hx hb dX9_addNeeding_97 (by decide) ?_
              exact ih3 (i1 + 1) y15 F13 V14 _ _ _ (by omega) (by omega) (hI.mono (by omega)) hU hV (fun q9 => (show i1 + 1 + zc (nz 2 (F13 30)) 40 ≤ 40 by have h9 : zc (nz 2 (F13 30)) 40 < zc (nz 2 (F5 30)) 40 := (show ¬ y15 = 0 → zc (nz 2 (F13 30)) 40 < zc (nz 2 (F5 30)) 40 by assumption) q9; omega)) hZ9 hP hD hS (lv_sub hl [1, 2, 3] rfl)
            · replace c16 : ¬ (n ≤ i9) := fun q9 => c16 ((nI_leI (a := n) (b := i9) (by omega) (by omega)).mpr q9)
              replace hZ9 := ite_f hZ9 c16
              refine lv_iconst (v := 0) hx hb dX9_addNeeding_18 (by decide) ?_
              refine lv_istore (lv' := [(4, .int 0), (3, .int (nI i9)), (2, .int y15), (0, .ref h), (1, .int p0)]) hx hb dX9_addNeeding_19 hl (by decide) rfl (fun ls hl => ?_)
              obtain ⟨K9_21, hK9_21, hZ9⟩ := lp_gen hZ9
              have lp20 : ∀ (fu18 i17 : Nat) (y23 : Int32) (F21 : Nat → Nat → Int32) (V22 : Nat → Int32) (H : Heap) (locs : List Loc) (ls : Array Slot), n < i17 + fu18 → i17 ≤ n → StM n (b) F V F21 V22 → (∀ j : Nat, j ∉ ([30] : List Nat) → F21 j = F j) → (∀ j : Nat, j ∉ ([] : List Nat) → V22 j = V j) → zc (nz 2 (F21 30)) 40 ≤ zc (nz 2 (F5 30)) 40 → (¬ y23 = 0 → zc (nz 2 (F21 30)) 40 < zc (nz 2 (F5 30)) 40) → RES = f_w_addNeeding_21 n p0 i9 fu18 i17 y23 F21 V22 K9_21 → va_P (dC, dI) vwCl (mW h a k F21 V22) H → va_D A (mW h a k F21 V22) → va_S A s.heap H locs → lv_has ls 5 [(4, .int (nI i17)), (3, .int (nI i9)), (2, .int y23), (0, .ref h), (1, .int p0)] → W p l e (headSpec wq_w_addNeeding rm_w_addNeeding).room s m ([.ref h, .int p0] : List Value).toArray below meth c H locs 0 0 Q0 (F0 m 21 ls []) := by
                intro fu18
                induction fu18 with
                | zero =>
                  intro i17 y23 F21 V22 H locs ls hf hi
                  exact absurd hf (by omega)
                | succ fu18 ih19 =>
                  intro i17 y23 F21 V22 H locs ls hfi17 hii17 hI hU hV hzi17 hgi17 hZ9 hP hD hS hl
                  rw [f_w_addNeeding_21] at hZ9
                  refine lv_iload hx hb dX9_addNeeding_21 (lv_at hl 0 rfl) ?_
                  refine lv_aload_n hx hb dX9_addNeeding_23 rfl (lv_at hl 3 rfl) ?_
                  refine va_get (D := (dC, dI)) (ci := 10) (v := .int (V22 21)) (C := RX9) (T := TX9) (N := 46) hx hb hts in_w_addNeeding_X9 hown hK hP 0 rfl rfl 21 (by decide) (hts (.fieldLink RX9 126 "ServiceTreeModel" "services" "I") (by decide +kernel)) (fun _ h9 => h9) rfl dX9_addNeeding_24 ?_
                  refine p1_topr (v := .int (nI n)) (congrArg Value.int hI.1.2.1) ?_
                  refine lv_icmp_ge (tgt := 91) hx hb dX9_addNeeding_27 (by decide) (fun c24 => ?_) (fun c24 => ?_)
                  · replace c24 : n ≤ i17 := (nI_leI (a := n) (b := i17) (by omega) (by omega)).mp c24
                    replace hZ9 := ite_t hZ9 c24
                    replace hZ9 := lp_app4 hK9_21 hZ9
                    refine lv_iinc (v := nI (i9 + 1)) (lv' := [(3, .int (nI (i9 + 1))), (4, .int (nI i17)), (2, .int y23), (0, .ref h), (1, .int p0)]) hx hb dX9_addNeeding_91 hl (k := 1) rfl (nI_add i9 1) (by decide) rfl (fun ls hl => ?_)
                    refine lv_goto (tgt := 10) hx hb dX9_addNeeding_94 (by decide) ?_
                    exact ih11 (i9 + 1) y23 F21 V22 _ _ _ (by omega) (by omega) (hI.mono (by omega)) hU hV (show zc (nz 2 (F21 30)) 40 ≤ zc (nz 2 (F5 30)) 40 by first | assumption | exact Nat.le_refl _) (show ¬ y23 = 0 → zc (nz 2 (F21 30)) 40 < zc (nz 2 (F5 30)) 40 by assumption) hZ9 hP hD hS (lv_sub hl [0, 2, 3, 4] rfl)
                  · replace c24 : ¬ (n ≤ i17) := fun q9 => c24 ((nI_leI (a := n) (b := i17) (by omega) (by omega)).mpr q9)
                    replace hZ9 := ite_f hZ9 c24
                    refine lv_aload_n hx hb dX9_addNeeding_30 rfl (lv_at hl 3 rfl) ?_
                    refine va_get (D := (dC, dI)) (ci := 10) (v := .ref (a 30)) (C := RX9) (T := TX9) (N := 46) hx hb hts in_w_addNeeding_X9 hown hK hP 0 rfl rfl 30 (by decide) (hts (.fieldLink RX9 86 "ServiceTreeModel" "newJob" "[I") (by decide +kernel)) (fun _ h9 => h9) rfl dX9_addNeeding_31 ?_
                    refine lv_iload_n hx hb dX9_addNeeding_34 rfl (lv_at hl 1 rfl) ?_
                    refine va_iald (n := 40) (f := F21 30) hx hb hK hP 26 25 rfl rfl (vp_in_nI (n := i9) (by omega) (by decide)) dX9_addNeeding_35 ?_
                    refine lv_topi (fun x25 ex25 => ?_)
                    replace hZ9 := bnd_s hZ9 ex25
                    refine lv_iconst (v := 2) hx hb dX9_addNeeding_36 (by decide) ?_
                    refine lv_icmp_eq (tgt := 85) hx hb dX9_addNeeding_37 (by decide) (fun c26 => ?_) (fun c26 => ?_)
                    · replace hZ9 := ite_t hZ9 c26
                      refine lv_iinc (v := nI (i17 + 1)) (lv' := [(4, .int (nI (i17 + 1))), (3, .int (nI i9)), (2, .int y23), (0, .ref h), (1, .int p0)]) hx hb dX9_addNeeding_85 hl (k := 0) rfl (nI_add i17 1) (by decide) rfl (fun ls hl => ?_)
                      refine lv_goto (tgt := 21) hx hb dX9_addNeeding_88 (by decide) ?_
                      exact ih19 (i17 + 1) y23 F21 V22 _ _ _ (by omega) (by omega) (hI.mono (by omega)) hU hV (show zc (nz 2 (F21 30)) 40 ≤ zc (nz 2 (F5 30)) 40 by first | assumption | exact Nat.le_refl _) (show ¬ y23 = 0 → zc (nz 2 (F21 30)) 40 < zc (nz 2 (F5 30)) 40 by assumption) hZ9 hP hD hS (lv_sub hl [0, 1, 2, 3, 4] rfl)
                    · replace hZ9 := ite_f hZ9 c26
                      refine lv_aload_n hx hb dX9_addNeeding_40 rfl (lv_at hl 3 rfl) ?_
                      refine lv_iload_n hx hb dX9_addNeeding_41 rfl (lv_at hl 1 rfl) ?_
                      have hFc := mw_free hD hS hA
                      refine va_calli (va_runV (As := [.int (nI i9)]) (rest := []) ⟨hx, hb, hml, hown, hts⟩ (c_w_isUpOrWaiting l dC dI h a k F21 V22 n (b) i9 H.size hI.1 (by omega) (by omega)) (cwV 1 hts wc_w_addNeeding_w_isUpOrWaiting_171 rfl rfl rfl (by decide +kernel) ⟨Nat.le_of_ble_eq_true rfl, Nat.le_of_ble_eq_true rfl⟩) ⟨fun a9 U g mk q => by obtain ⟨q0, q1, qP, qK, qD⟩ := q; exact ⟨q0, q1, qP, va_K.moved (u := U) (U := U.calling g mk a9) (Vm.Alike.refl U.vm) qK, qD⟩, va_recv hK hP (ci := 10) (q0 := 0) rfl rfl, fun U hU hW => ⟨rfl, by rw [hU], by rw [hU]; exact hP, va_K.moved hW.alike hK, hD.weaken (fun _ _ _ _ => trivial)⟩⟩ rfl rfl hl.1 rfl (lv_room (Nat.le_of_ble_eq_true rfl)) dX9_addNeeding_42 ⟨Nat.le_of_ble_eq_true rfl, Nat.le_of_ble_eq_true rfl⟩) hS (fun q _ h => hFc q h) hFc (fun r27 u t H1 locs ht hvm hw hB hz1 hk1 hS => ?_)
                      obtain ⟨F28, V29⟩ := u
                      replace hP := hB.1
                      rw [ht] at hP
                      replace hD : va_D A (mW h a k F28 V29) := hB.2.weaken (fun _ q _ h9 => hFc q.1 h9)
                      clear hB
                      generalize H1 = H at hP hS ⊢
                      replace hP : va_P (dC, dI) vwCl (mW h a k F28 V29) H := hP
                      obtain ⟨hwF, hwV, hw⟩ : F28 = F21 ∧ V29 = V22 ∧ _ := hw
                      rw [hwF, hwV] at hP hD
                      replace hw : r27 = f_w_isUpOrWaiting n i9 F21 := hw
                      replace hZ9 := bnd_s hZ9 hw
                      refine lv_if_eq (tgt := 85) hx hb dX9_addNeeding_45 (by decide) (fun c30 => ?_) (fun c30 => ?_)
                      · replace hZ9 := ite_t hZ9 c30
                        refine lv_iinc (v := nI (i17 + 1)) (lv' := [(4, .int (nI (i17 + 1))), (3, .int (nI i9)), (2, .int y23), (0, .ref h), (1, .int p0)]) hx hb dX9_addNeeding_85 hl (k := 0) rfl (nI_add i17 1) (by decide) rfl (fun ls hl => ?_)
                        refine lv_goto (tgt := 21) hx hb dX9_addNeeding_88 (by decide) ?_
                        exact ih19 (i17 + 1) y23 F21 V22 _ _ _ (by omega) (by omega) (hI.mono (by omega)) hU hV (show zc (nz 2 (F21 30)) 40 ≤ zc (nz 2 (F5 30)) 40 by first | assumption | exact Nat.le_refl _) (show ¬ y23 = 0 → zc (nz 2 (F21 30)) 40 < zc (nz 2 (F5 30)) 40 by assumption) hZ9 hP hD hS (lv_sub hl [0, 1, 2, 3, 4] rfl)
                      · replace hZ9 := ite_f hZ9 c30
                        refine lv_aload_n hx hb dX9_addNeeding_48 rfl (lv_at hl 3 rfl) ?_
                        refine lv_iconst (v := 0) hx hb dX9_addNeeding_49 (by decide) ?_
                        refine lv_iload_n hx hb dX9_addNeeding_50 rfl (lv_at hl 1 rfl) ?_
                        refine lv_iload hx hb dX9_addNeeding_51 (lv_at hl 0 rfl) ?_
                        have hFc := mw_free hD hS hA
                        refine va_calli (va_runV (As := [.int 0, .int (nI i9), .int (nI i17)]) (rest := []) ⟨hx, hb, hml, hown, hts⟩ (c_w_has l dC dI h a k F21 V22 n (b) 0 i9 i17 H.size hI.1 (by omega) (by omega) (by omega) (by omega)) (cwV 3 hts wc_w_addNeeding_w_has_150 rfl rfl rfl (by decide +kernel) ⟨Nat.le_of_ble_eq_true rfl, Nat.le_of_ble_eq_true rfl⟩) ⟨fun a9 U g mk q => by obtain ⟨q0, q1, qP, qK, qD⟩ := q; exact ⟨q0, q1, qP, va_K.moved (u := U) (U := U.calling g mk a9) (Vm.Alike.refl U.vm) qK, qD⟩, va_recv hK hP (ci := 10) (q0 := 0) rfl rfl, fun U hU hW => ⟨rfl, by rw [hU], by rw [hU]; exact hP, va_K.moved hW.alike hK, hD.weaken (fun _ _ _ _ => trivial)⟩⟩ rfl rfl hl.1 rfl (lv_room (Nat.le_of_ble_eq_true rfl)) dX9_addNeeding_53 ⟨Nat.le_of_ble_eq_true rfl, Nat.le_of_ble_eq_true rfl⟩) hS (fun q _ h => hFc q h) hFc (fun r31 u t H1 locs ht hvm hw hB hz1 hk1 hS => ?_)
                        obtain ⟨F32, V33⟩ := u
                        replace hP := hB.1
                        rw [ht] at hP
                        replace hD : va_D A (mW h a k F32 V33) := hB.2.weaken (fun _ q _ h9 => hFc q.1 h9)
                        clear hB
                        generalize H1 = H at hP hS ⊢
                        replace hP : va_P (dC, dI) vwCl (mW h a k F32 V33) H := hP
                        obtain ⟨hwF, hwV, hw⟩ : F32 = F21 ∧ V33 = V22 ∧ _ := hw
                        rw [hwF, hwV] at hP hD
                        obtain ⟨hw, hwe⟩ := hw
                        replace hw : r31 = f_w_has n 0 i9 i17 F21 := hw
                        replace hZ9 := bnd_s hZ9 hw
                        have br31 := hwe
                        refine lv_if_eq (tgt := 85) hx hb dX9_addNeeding_56 (by decide) (fun c34 => ?_) (fun c34 => ?_)
                        · replace hZ9 := ite_t hZ9 c34
                          refine lv_iinc (v := nI (i17 + 1)) (lv' := [(4, .int (nI (i17 + 1))), (3, .int (nI i9)), (2, .int y23), (0, .ref h), (1, .int p0)]) hx hb dX9_addNeeding_85 hl (k := 0) rfl (nI_add i17 1) (by decide) rfl (fun ls hl => ?_)
                          refine lv_goto (tgt := 21) hx hb dX9_addNeeding_88 (by decide) ?_
                          exact ih19 (i17 + 1) y23 F21 V22 _ _ _ (by omega) (by omega) (hI.mono (by omega)) hU hV (show zc (nz 2 (F21 30)) 40 ≤ zc (nz 2 (F5 30)) 40 by first | assumption | exact Nat.le_refl _) (show ¬ y23 = 0 → zc (nz 2 (F21 30)) 40 < zc (nz 2 (F5 30)) 40 by assumption) hZ9 hP hD hS (lv_sub hl [0, 1, 2, 3, 4] rfl)
                        · replace hZ9 := ite_f hZ9 c34
                          refine lv_aload_n hx hb dX9_addNeeding_59 rfl (lv_at hl 3 rfl) ?_
                          refine va_get (D := (dC, dI)) (ci := 10) (v := .ref (a 30)) (C := RX9) (T := TX9) (N := 46) hx hb hts in_w_addNeeding_X9 hown hK hP 0 rfl rfl 30 (by decide) (hts (.fieldLink RX9 86 "ServiceTreeModel" "newJob" "[I") (by decide +kernel)) (fun _ h9 => h9) rfl dX9_addNeeding_60 ?_
                          refine lv_iload hx hb dX9_addNeeding_63 (lv_at hl 0 rfl) ?_
                          refine va_iald (n := 40) (f := F21 30) hx hb hK hP 26 25 rfl rfl (vp_in_nI (n := i17) (by omega) (by decide)) dX9_addNeeding_65 ?_
                          refine lv_topi (fun x35 ex35 => ?_)
                          replace hZ9 := bnd_s hZ9 ex35
                          refine lv_iconst (v := 2) hx hb dX9_addNeeding_66 (by decide) ?_
                          refine lv_icmp_eq (tgt := 76) hx hb dX9_addNeeding_67 (by decide) (fun c36 => ?_) (fun c36 => ?_)
                          · replace hZ9 := ite_t hZ9 c36
                            refine lv_aload_n hx hb dX9_addNeeding_76 rfl (lv_at hl 3 rfl) ?_
                            refine va_get (D := (dC, dI)) (ci := 10) (v := .ref (a 30)) (C := RX9) (T := TX9) (N := 46) hx hb hts in_w_addNeeding_X9 hown hK hP 0 rfl rfl 30 (by decide) (hts (.fieldLink RX9 86 "ServiceTreeModel" "newJob" "[I") (by decide +kernel)) (fun _ h9 => h9) rfl dX9_addNeeding_77 ?_
                            refine lv_iload_n hx hb dX9_addNeeding_80 rfl (lv_at hl 1 rfl) ?_
                            refine lv_iconst (v := 2) hx hb dX9_addNeeding_81 (by decide) ?_
                            refine va_iast (n := 40) (f := F21 30) hx hb hK hP hD hS 26 25 rfl rfl (vp_in_nI (n := i9) (by omega) (by decide)) dX9_addNeeding_82 (fun H locs hP hD hS => ?_)
                            rw [mW_set_30] at hP hD
                            obtain ⟨F37, eF37⟩ : ∃ f9 : Nat → Nat → Int32, f9 = va_up F21 30 (upd (F21 30) (nI i9).toNatClampNeg 2) := ⟨_, rfl⟩
                            rw [← eF37] at hP hD
                            replace hZ9 := bnd_s hZ9 eF37
                            replace hI : StM n (b) F V F37 V22 := ⟨by rw [eF37]; exact hI.1.setF (by decide), trivial⟩
                            replace hU : ∀ j : Nat, j ∉ ([30] : List Nat) → F37 j = F j := by rw [eF37]; exact mw_up (by decide) hU
                            have hlt : zc (nz 2 (F37 30)) 40 < zc (nz 2 (F21 30)) 40 := by rw [eF37, va_up_self]; exact nz_lt (fun q9 => c26 (ex25.trans q9)) (by rw [nI_clamp (by omega)]; omega)
                            refine lv_iconst (v := 1) hx hb dX9_addNeeding_83 (by decide) ?_
                            refine lv_istore_n (lv' := [(2, .int 1), (4, .int (nI i17)), (3, .int (nI i9)), (0, .ref h), (1, .int p0)]) hx hb dX9_addNeeding_84 rfl hl (by decide) rfl (fun ls hl => ?_)
                            refine lv_iinc (v := nI (i17 + 1)) (lv' := [(4, .int (nI (i17 + 1))), (2, .int 1), (3, .int (nI i9)), (0, .ref h), (1, .int p0)]) hx hb dX9_addNeeding_85 hl (k := 1) rfl (nI_add i17 1) (by decide) rfl (fun ls hl => ?_)
                            refine lv_goto (tgt := 21) hx hb dX9_addNeeding_88 (by decide) ?_
                            exact ih19 (i17 + 1) 1 F37 V22 _ _ _ (by omega) (by omega) (hI.mono (by omega)) hU hV (by omega) (fun _ => (show zc (nz 2 (F37 30)) 40 < zc (nz 2 (F5 30)) 40 by omega)) hZ9 hP hD hS (lv_sub hl [0, 2, 1, 3, 4] rfl)
                          · replace hZ9 := ite_f hZ9 c36
                            refine lv_iload hx hb dX9_addNeeding_70 (lv_at hl 0 rfl) ?_
                            refine lv_iload_n hx hb dX9_addNeeding_72 rfl (lv_at hl 4 rfl) ?_
                            refine lv_icmp_ne (tgt := 85) hx hb dX9_addNeeding_73 (by decide) (fun c38 => ?_) (fun c38 => ?_)
                            · replace hZ9 := ite_f hZ9 c38
                              refine lv_iinc (v := nI (i17 + 1)) (lv' := [(4, .int (nI (i17 + 1))), (3, .int (nI i9)), (2, .int y23), (0, .ref h), (1, .int p0)]) hx hb dX9_addNeeding_85 hl (k := 0) rfl (nI_add i17 1) (by decide) rfl (fun ls hl => ?_)
                              refine lv_goto (tgt := 21) hx hb dX9_addNeeding_88 (by decide) ?_
                              exact ih19 (i17 + 1) y23 F21 V22 _ _ _ (by omega) (by omega) (hI.mono (by omega)) hU hV (show zc (nz 2 (F21 30)) 40 ≤ zc (nz 2 (F5 30)) 40 by first | assumption | exact Nat.le_refl _) (show ¬ y23 = 0 → zc (nz 2 (F21 30)) 40 < zc (nz 2 (F5 30)) 40 by assumption) hZ9 hP hD hS (lv_sub hl [0, 1, 2, 3, 4] rfl)
                            · replace hZ9 := ite_t hZ9 c38
                              refine lv_aload_n hx hb dX9_addNeeding_76 rfl (lv_at hl 3 rfl) ?_
                              refine va_get (D := (dC, dI)) (ci := 10) (v := .ref (a 30)) (C := RX9) (T := TX9) (N := 46) hx hb hts in_w_addNeeding_X9 hown hK hP 0 rfl rfl 30 (by decide) (hts (.fieldLink RX9 86 "ServiceTreeModel" "newJob" "[I") (by decide +kernel)) (fun _ h9 => h9) rfl dX9_addNeeding_77 ?_
                              refine lv_iload_n hx hb dX9_addNeeding_80 rfl (lv_at hl 1 rfl) ?_
                              refine lv_iconst (v := 2) hx hb dX9_addNeeding_81 (by decide) ?_
                              refine va_iast (n := 40) (f := F21 30) hx hb hK hP hD hS 26 25 rfl rfl (vp_in_nI (n := i9) (by omega) (by decide)) dX9_addNeeding_82 (fun H locs hP hD hS => ?_)
                              rw [mW_set_30] at hP hD
                              obtain ⟨F39, eF39⟩ : ∃ f9 : Nat → Nat → Int32, f9 = va_up F21 30 (upd (F21 30) (nI i9).toNatClampNeg 2) := ⟨_, rfl⟩
                              rw [← eF39] at hP hD
                              replace hZ9 := bnd_s hZ9 eF39
                              replace hI : StM n (b) F V F39 V22 := ⟨by rw [eF39]; exact hI.1.setF (by decide), trivial⟩
                              replace hU : ∀ j : Nat, j ∉ ([30] : List Nat) → F39 j = F j := by rw [eF39]; exact mw_up (by decide) hU
                              have hlt : zc (nz 2 (F39 30)) 40 < zc (nz 2 (F21 30)) 40 := by rw [eF39, va_up_self]; exact nz_lt (fun q9 => c26 (ex25.trans q9)) (by rw [nI_clamp (by omega)]; omega)
                              refine lv_iconst (v := 1) hx hb dX9_addNeeding_83 (by decide) ?_
                              refine lv_istore_n (lv' := [(2, .int 1), (4, .int (nI i17)), (3, .int (nI i9)), (0, .ref h), (1, .int p0)]) hx hb dX9_addNeeding_84 rfl hl (by decide) rfl (fun ls hl => ?_)
                              refine lv_iinc (v := nI (i17 + 1)) (lv' := [(4, .int (nI (i17 + 1))), (2, .int 1), (3, .int (nI i9)), (0, .ref h), (1, .int p0)]) hx hb dX9_addNeeding_85 hl (k := 1) rfl (nI_add i17 1) (by decide) rfl (fun ls hl => ?_)
                              refine lv_goto (tgt := 21) hx hb dX9_addNeeding_88 (by decide) ?_
                              exact ih19 (i17 + 1) 1 F39 V22 _ _ _ (by omega) (by omega) (hI.mono (by omega)) hU hV (by omega) (fun _ => (show zc (nz 2 (F39 30)) 40 < zc (nz 2 (F5 30)) 40 by omega)) hZ9 hP hD hS (lv_sub hl [0, 2, 1, 3, 4] rfl)
              exact lp20 (n + 1) 0 y15 F13 V14 _ _ _ (by omega) (by omega) (hI.mono (by omega)) hU hV (show zc (nz 2 (F13 30)) 40 ≤ zc (nz 2 (F5 30)) 40 by first | assumption | exact Nat.le_refl _) (show ¬ y15 = 0 → zc (nz 2 (F13 30)) 40 < zc (nz 2 (F5 30)) 40 by assumption) hZ9 hP hD hS hl
        exact lp12 (n + 1) 0 0 F5 V6 _ _ _ (by omega) (by omega) (hI.mono (by omega)) hU hV (show zc (nz 2 (F5 30)) 40 ≤ zc (nz 2 (F5 30)) 40 by first | assumption | exact Nat.le_refl _) (fun q9 => absurd rfl q9) hZ9 hP hD hS hl
  exact lp4 (41 + 1) 0 1 F V _ _ _ (by omega) (by omega) (hI.mono (by omega)) hU hV (fun _ => (show 0 + zc (nz 2 (F 30)) 40 ≤ 40 by have := zc_le (nz 2 (F 30)) 40; omega)) hZ9 hP hD hS hl
def f_w_begin_12 (n : Nat) (F10 : Nat → Nat → Int32) : Nat → Nat → (Nat → (Nat → Nat → Int32) × (Nat → Int32)) → (Nat → Nat → Int32) × (Nat → Int32)
  | 0, i12, K9_12 => K9_12 i12
  | fu13 + 1, i12, K9_12 => if n ≤ i12 then (K9_12 i12) else (bnd (F10 25 (nI i12).toNatClampNeg) (fun (x21 : Int32) => if x21 = (0 : Int32) then (f_w_begin_12 n F10 fu13 (i12 + 1) K9_12) else (bnd (F10 26 (nI i12).toNatClampNeg) (fun (x23 : Int32) => if x23 = (0 : Int32) then (bnd (f_w_waitsForAny n i12 F10) (fun (r25 : Int32) => if r25 = (0 : Int32) then (K9_12 i12) else (f_w_begin_12 n F10 fu13 (i12 + 1) K9_12))) else (f_w_begin_12 n F10 fu13 (i12 + 1) K9_12)))))
def f_w_begin_2 (n : Nat)  : Nat → Nat → Int32 → (Nat → Nat → Int32) → (Nat → Int32) → (Nat → Int32 → (Nat → Nat → Int32) → (Nat → Int32) → (Nat → Nat → Int32) × (Nat → Int32)) → (Nat → Nat → Int32) × (Nat → Int32)
  | 0, i1, y7, F5, V6, K9_2 => K9_2 i1 y7 F5 V6
  | fu2 + 1, i1, y7, F5, V6, K9_2 => if y7 = (0 : Int32) then (K9_2 i1 y7 F5 V6) else (bn2 (f_w_endJobs n  F5 V6) (fun (F10 : Nat → Nat → Int32) (V11 : Nat → Int32) => f_w_begin_12 n F10 (n + 1) (0 : Nat) (fun (i12 : Nat) => if n ≤ i12 then (f_w_begin_2 n  fu2 (i1 + 1) (0 : Int32) F10 V11 K9_2) else (bn2 (f_w_beginOne n i12 F10 V11) (fun (F19 : Nat → Nat → Int32) (V20 : Nat → Int32) => f_w_begin_2 n  fu2 (i1 + 1) (1 : Int32) F19 V20 K9_2)))))
def f_w_begin (n : Nat)  (F : Nat → Nat → Int32) (V : Nat → Int32) : (Nat → Nat → Int32) × (Nat → Int32) := f_w_begin_2 n  (41 + 1) (0 : Nat) (1 : Int32) F V (fun (i1 : Nat) (y7 : Int32) (F5 : Nat → Nat → Int32) (V6 : Nat → Int32) => (F5, V6))
def wq_w_begin : List Cond := ([.code yX9_begin cX9_begin 3 none, .fieldLink RX9 126 "ServiceTreeModel" "services" "I", .fieldLink RX9 71 "ServiceTreeModel" "job" "[I", .fieldLink RX9 74 "ServiceTreeModel" "hasBegun" "[Z", .methodLink RX9 222 yX9_endJobs, .instanceMethod yX9_endJobs, .selects RX9 yX9_endJobs yX9_endJobs, .initialized RX9, .methodLink RX9 228 yX9_beginOne, .instanceMethod yX9_beginOne, .selects RX9 yX9_beginOne yX9_beginOne, .methodLink RX9 225 yX9_waitsForAny, .instanceMethod yX9_waitsForAny, .selects RX9 yX9_waitsForAny yX9_waitsForAny] : List Cond) ++ (wsX90 ++ (wq_w_endJobs ++ (wq_w_beginOne ++ (wq_w_waitsForAny))))
theorem in_w_begin_X9 : ∀ w ∈ wsX90, w ∈ wq_w_begin := fun _ h => List.mem_append_right _ (List.mem_append_left _ (h))
set_option maxRecDepth 20000 in
theorem wi_w_begin : ∀ w ∈ wq_w_begin, w ∈ lw_tbl := List.forall_mem_append.mpr ⟨(wix [1097, 873, 877, 878, 1098, 1100, 50, 69, 1106, 1108, 52, 1102, 1104, 51] rfl), List.forall_mem_append.mpr ⟨inKX9, List.forall_mem_append.mpr ⟨wi_w_endJobs, List.forall_mem_append.mpr ⟨wi_w_beginOne, wi_w_waitsForAny⟩⟩⟩⟩
set_option maxRecDepth 20000 in
theorem wg_w_begin : GoodIn wq_w_begin wq_w_begin := goodIn_sub (fun _ h => h) (by decide +kernel)
set_option maxRecDepth 20000 in
theorem wc_w_begin_w_endJobs_222 : GoodIn wq_w_begin (wsV RX9 222 RX9 yX9_endJobs wq_w_endJobs) := goodIn_app (goodIn_of _ (by decide +kernel)) (fun w h => ⟨List.mem_append_right _ (List.mem_append_right _ (List.mem_append_left _ (h))), (wg_w_endJobs w h).2⟩)
set_option maxRecDepth 20000 in
theorem wc_w_begin_w_beginOne_228 : GoodIn wq_w_begin (wsV RX9 228 RX9 yX9_beginOne wq_w_beginOne) := goodIn_app (goodIn_of _ (by decide +kernel)) (fun w h => ⟨List.mem_append_right _ (List.mem_append_right _ (List.mem_append_right _ (List.mem_append_left _ (h)))), (wg_w_beginOne w h).2⟩)
set_option maxRecDepth 20000 in
theorem wc_w_begin_w_waitsForAny_225 : GoodIn wq_w_begin (wsV RX9 225 RX9 yX9_waitsForAny wq_w_waitsForAny) := goodIn_app (goodIn_of _ (by decide +kernel)) (fun w h => ⟨List.mem_append_right _ (List.mem_append_right _ (List.mem_append_right _ (List.mem_append_right _ (h)))), (wg_w_waitsForAny w h).2⟩)
def rm_w_begin : Room := { frames := 3, cells := 0, slots := 0, locals := 69 }
set_option maxHeartbeats 4000000 in
set_option maxRecDepth 100000 in
theorem c_w_begin (l : Launch) (dC : Nat → ClassId) (dI : Nat → Nat → Nat) (h : Nat) (a : Nat → Nat) (k : Nat → ClassId) (F : Nat → Nat → Int32) (V : Nat → Int32) (n b : Nat)  (sz : Nat) (hI0 : InvM n b F V) (hb0 : b + 82 < 2147483648)  : Met l yX9_begin wq_w_begin rm_w_begin (va_Pc [.ref h] (fun U => U.heap.size = sz ∧ va_P (dC, dI) vwCl (mW h a k F V) U.heap ∧ va_K (dC, dI) vwCl (mT k) U ∧ va_D (fun _ => True) (mW h a k F V))) (va_Qv (fun (u : (Nat → Nat → Int32) × (Nat → Int32)) => StM n (b + 82) F V u.1 u.2 ∧ (∀ j : Nat, j ∉ ([7, 8, 9, 11, 12, 25, 26, 42, 43, 44] : List Nat) → u.1 j = F j) ∧ (∀ j : Nat, j ∉ ([45] : List Nat) → u.2 j = V j) ∧ ((u.1, u.2) = f_w_begin n  F V)) (fun (u : (Nat → Nat → Int32) × (Nat → Int32)) (t : State) => va_P (dC, dI) vwCl (mW h a k u.1 u.2) t.heap ∧ va_D (va_A (mW h a k F V) sz) (mW h a k u.1 u.2)) (va_A (mW h a k F V) sz)) 0 0 (va_A (mW h a k F V) sz) := by
  have hn : n ≤ 40 := hI0.1
  have hI : StM n b F V F V := StM.rf hI0
  have hU : ∀ j : Nat, j ∉ ([7, 8, 9, 11, 12, 25, 26, 42, 43, 44] : List Nat) → F j = F j := fun _ _ => rfl
  have hV : ∀ j : Nat, j ∉ ([45] : List Nat) → V j = V j := fun _ _ => rfl
  refine Met.ofW (cc := cX9_begin) (maxL := 3) (ret := none) (by decide) rfl ?_
  intro p e s m args below meth c s₁ B hml hv
  obtain ⟨rfl, hsz, hP, hK, hD0⟩ := hv
  have hx := B.exec
  have hb := B.bytes
  have hr := B.returns
  have hts := atoms_spec (ws := wq_w_begin) B.pre
  have hown : s.vm.findClass RX9 = some m.cls := findClass_of_methodNamed B.named
  have hlocks := B.notSynchronized
  subst hsz
  have hD := hD0.self (sz := s.heap.size)
  generalize hAe : va_A (mW h a k F V) s.heap.size = A at hD ⊢
  have hA : ∀ q : Nat, s.heap.size ≤ q → A q := fun q h => by rw [← hAe]; exact Or.inr h
  have hS : va_S A s.heap s.heap [] := va_S.rf
  have hl := lv_entry ([.ref h]) (n := 3) (Nat.le_of_ble_eq_true rfl)
  rw [lg_entry_eq]
  generalize (lg_sl ([.ref h]) ++ List.replicate (3 - (lg_sl ([.ref h])).length) Slot.unset).toArray = ls at hl ⊢
  have hl : lv_has ls 3 [(0, .ref h)] := hl
  refine mw_Q (fun Q0 hQ => ?_)
  obtain ⟨RES, hR0⟩ : ∃ R9, R9 = f_w_begin n  F V := ⟨_, rfl⟩
  have hZ9 := hR0
  unfold f_w_begin at hZ9
  refine lv_iconst (v := 1) hx hb dX9_begin_0 (by decide) ?_
  refine lv_istore_n (lv' := [(1, .int 1), (0, .ref h)]) hx hb dX9_begin_1 rfl hl (by decide) rfl (fun ls hl => ?_)
  obtain ⟨K9_2, hK9_2, hZ9⟩ := lp_gen hZ9
  have lp4 : ∀ (fu2 i1 : Nat) (y7 : Int32) (F5 : Nat → Nat → Int32) (V6 : Nat → Int32) (H : Heap) (locs : List Loc) (ls : Array Slot), 41 < i1 + fu2 → i1 ≤ 41 → StM n (b + 2 * i1) F V F5 V6 → (∀ j : Nat, j ∉ ([7, 8, 9, 11, 12, 25, 26, 42, 43, 44] : List Nat) → F5 j = F j) → (∀ j : Nat, j ∉ ([45] : List Nat) → V6 j = V j) → (¬ y7 = 0 → i1 + zc (F5 26) 40 ≤ 40) → RES = f_w_begin_2 n  fu2 i1 y7 F5 V6 K9_2 → va_P (dC, dI) vwCl (mW h a k F5 V6) H → va_D A (mW h a k F5 V6) → va_S A s.heap H locs → lv_has ls 3 [(1, .int y7), (0, .ref h)] → W p l e (headSpec wq_w_begin rm_w_begin).room s m ([.ref h] : List Value).toArray below meth c H locs 0 0 Q0 (F0 m 2 ls []) := by
    intro fu2
    induction fu2 with
    | zero =>
      intro i1 y7 F5 V6 H locs ls hf hi
      exact absurd hf (by omega)
    | succ fu2 ih3 =>
      intro i1 y7 F5 V6 H locs ls hfi1 hii1 hI hU hV hEi1 hZ9 hP hD hS hl
      rw [f_w_begin_2] at hZ9
      have t26 : F5 26 = F5 26 := rfl
      refine lv_iload_n hx hb dX9_begin_2 rfl (lv_at hl 0 rfl) ?_
      refine lv_if_eq (tgt := 78) hx hb dX9_begin_3 (by decide) (fun c8 => ?_) (fun c8 => ?_)
      · replace hZ9 := ite_t hZ9 c8
        replace hZ9 := lp_app4 hK9_2 hZ9
        rw [hQ]
        exact W.vret hx hb hr (fun t ht hW => ⟨⟨(F5, V6), rfl, ⟨hI.mono (by omega), hU, hV, hZ9.symm.trans hR0⟩, by rw [ht]; exact hP, hD⟩, hS.F ht⟩) hS.2.2 dX9_begin_78
      · replace hZ9 := ite_f hZ9 c8
        have hz0 := hEi1 c8
        refine lv_aload_n hx hb dX9_begin_6 rfl (lv_at hl 1 rfl) ?_
        have hFc := mw_free hD hS hA
        refine va_callv (va_runV (As := []) (rest := []) ⟨hx, hb, hml, hown, hts⟩ (c_w_endJobs l dC dI h a k F5 V6 n (b + 2 * i1)  H.size hI.1 (by omega) ) (cwV 0 hts wc_w_begin_w_endJobs_222 rfl rfl rfl (by decide +kernel) ⟨Nat.le_of_ble_eq_true rfl, Nat.le_of_ble_eq_true rfl⟩) ⟨fun a9 U g mk q => by obtain ⟨q0, q1, qP, qK, qD⟩ := q; exact ⟨q0, q1, qP, va_K.moved (u := U) (U := U.calling g mk a9) (Vm.Alike.refl U.vm) qK, qD⟩, va_recv hK hP (ci := 10) (q0 := 0) rfl rfl, fun U hU hW => ⟨rfl, by rw [hU], by rw [hU]; exact hP, va_K.moved hW.alike hK, hD.weaken (fun _ _ _ _ => trivial)⟩⟩ rfl rfl hl.1 rfl (lv_room (Nat.le_of_ble_eq_true rfl)) dX9_begin_7 ⟨Nat.le_of_ble_eq_true rfl, Nat.le_of_ble_eq_true rfl⟩) hS (fun q _ h => hFc q h) hFc (fun u t H1 locs ht hvm hw hB hz1 hk1 hS => ?_)
        obtain ⟨F10, V11⟩ := u
        replace hP := hB.1
        rw [ht] at hP
        replace hD : va_D A (mW h a k F10 V11) := hB.2.weaken (fun _ q _ h9 => hFc q.1 h9)
        clear hB
        generalize H1 = H at hP hS ⊢
        replace hP : va_P (dC, dI) vwCl (mW h a k F10 V11) H := hP
        obtain ⟨hwI, hwU, hwV, hw⟩ := hw
        replace hU : ∀ j : Nat, j ∉ ([7, 8, 9, 11, 12, 25, 26, 42, 43, 44] : List Nat) → F10 j = F j := mw_tr (by decide) hwU hU
        replace hV : ∀ j : Nat, j ∉ ([45] : List Nat) → V11 j = V j := mw_tr (by decide) hwV hV
        replace hI : StM n (b + 2 * i1 + 0) F V F10 V11 := hI.trans hwI
        replace t26 : F10 26 = F5 26 := (hwU 26 (by decide)).trans t26
        replace hI : StM n (b + 2 * i1) F V F10 V11 := hI
        replace hw : (F10, V11) = f_w_endJobs n  F5 V6 := hw
        replace hZ9 := bn2_s hZ9 hw
        refine lv_iconst (v := 0) hx hb dX9_begin_10 (by decide) ?_
        refine lv_istore_n (lv' := [(2, .int 0), (1, .int y7), (0, .ref h)]) hx hb dX9_begin_11 rfl hl (by decide) rfl (fun ls hl => ?_)
        obtain ⟨K9_12, hK9_12, hZ9⟩ := lp_gen hZ9
        have lp15 : ∀ (fu13 i12 : Nat)  (H : Heap) (locs : List Loc) (ls : Array Slot), n < i12 + fu13 → i12 ≤ n → RES = f_w_begin_12 n F10 fu13 i12 K9_12 → va_P (dC, dI) vwCl (mW h a k F10 V11) H → va_D A (mW h a k F10 V11) → va_S A s.heap H locs → lv_has ls 3 [(2, .int (nI i12)), (1, .int y7), (0, .ref h)] → W p l e (headSpec wq_w_begin rm_w_begin).room s m ([.ref h] : List Value).toArray below meth c H locs 0 0 Q0 (F0 m 12 ls []) := by
          intro fu13
          induction fu13 with
          | zero =>
            intro i12  H locs ls hf hi
            exact absurd hf (by omega)
          | succ fu13 ih14 =>
            intro i12  H locs ls hfi12 hii12 hZ9 hP hD hS hl
            rw [f_w_begin_12] at hZ9
            refine lv_iload_n hx hb dX9_begin_12 rfl (lv_at hl 0 rfl) ?_
            refine lv_aload_n hx hb dX9_begin_13 rfl (lv_at hl 2 rfl) ?_
            refine va_get (D := (dC, dI)) (ci := 10) (v := .int (V11 21)) (C := RX9) (T := TX9) (N := 46) hx hb hts in_w_begin_X9 hown hK hP 0 rfl rfl 21 (by decide) (hts (.fieldLink RX9 126 "ServiceTreeModel" "services" "I") (by decide +kernel)) (fun _ h9 => h9) rfl dX9_begin_14 ?_
            refine p1_topr (v := .int (nI n)) (congrArg Value.int hI.1.2.1) ?_
            refine lv_icmp_ge (tgt := 52) hx hb dX9_begin_17 (by decide) (fun c16 => ?_) (fun c16 => ?_)
            · replace c16 : n ≤ i12 := (nI_leI (a := n) (b := i12) (by omega) (by omega)).mp c16
              replace hZ9 := ite_t hZ9 c16
              replace hZ9 := lp_app1 hK9_12 hZ9
              refine lv_iload_n hx hb dX9_begin_52 rfl (lv_at hl 0 rfl) ?_
              refine lv_aload_n hx hb dX9_begin_53 rfl (lv_at hl 2 rfl) ?_
              refine va_get (D := (dC, dI)) (ci := 10) (v := .int (V11 21)) (C := RX9) (T := TX9) (N := 46) hx hb hts in_w_begin_X9 hown hK hP 0 rfl rfl 21 (by decide) (hts (.fieldLink RX9 126 "ServiceTreeModel" "services" "I") (by decide +kernel)) (fun _ h9 => h9) rfl dX9_begin_54 ?_
              refine p1_topr (v := .int (nI n)) (congrArg Value.int hI.1.2.1) ?_
              refine lv_icmp_ge (tgt := 64) hx hb dX9_begin_57 (by decide) (fun c17 => ?_) (fun c17 => ?_)
              · replace c17 : n ≤ i12 := (nI_leI (a := n) (b := i12) (by omega) (by omega)).mp c17
                replace hZ9 := ite_t hZ9 c17
                refine lv_iconst (v := 0) hx hb dX9_begin_64 (by decide) ?_
                refine lv_istore_n (lv' := [(1, .int 0), (2, .int (nI i12)), (0, .ref h)]) hx hb dX9_begin_65 rfl hl (by decide) rfl (fun ls hl => ?_)
                refine lv_iload_n hx hb dX9_begin_66 rfl (lv_at hl 0 rfl) ?_
                refine lv_if_eq (tgt := 75) hx hb dX9_begin_67 (by decide) (fun _ => ?_) (fun c9 => absurd (by decide) c9)
                refine lv_goto (tgt := 2) hx hb dX9_begin_75 (by decide) ?_
                exact ih3 (i1 + 1) 0 F10 V11 _ _ _ (by omega) (by omega) (hI.mono (by omega)) hU hV (fun q9 => absurd rfl q9) hZ9 hP hD hS (lv_sub hl [0, 2] rfl)
              · replace c17 : ¬ (n ≤ i12) := fun q9 => c17 ((nI_leI (a := n) (b := i12) (by omega) (by omega)).mpr q9)
                replace hZ9 := ite_f hZ9 c17
                refine lv_iconst (v := 1) hx hb dX9_begin_60 (by decide) ?_
                refine lv_goto (tgt := 65) hx hb dX9_begin_61 (by decide) ?_
                refine lv_istore_n (lv' := [(1, .int 1), (2, .int (nI i12)), (0, .ref h)]) hx hb dX9_begin_65 rfl hl (by decide) rfl (fun ls hl => ?_)
                refine lv_iload_n hx hb dX9_begin_66 rfl (lv_at hl 0 rfl) ?_
                refine lv_if_eq (tgt := 75) hx hb dX9_begin_67 (by decide) (fun c9 => absurd c9 (by decide)) (fun _ => ?_)
                refine lv_aload_n hx hb dX9_begin_70 rfl (lv_at hl 2 rfl) ?_
                refine lv_iload_n hx hb dX9_begin_71 rfl (lv_at hl 1 rfl) ?_
                have hFc := mw_free hD hS hA
                refine va_callv (va_runV (As := [.int (nI i12)]) (rest := []) ⟨hx, hb, hml, hown, hts⟩ (c_w_beginOne l dC dI h a k F10 V11 n (b + 2 * i1) i12 H.size hI.1 (by omega) (by omega)) (cwV 1 hts wc_w_begin_w_beginOne_228 rfl rfl rfl (by decide +kernel) ⟨Nat.le_of_ble_eq_true rfl, Nat.le_of_ble_eq_true rfl⟩) ⟨fun a9 U g mk q => by obtain ⟨q0, q1, qP, qK, qD⟩ := q; exact ⟨q0, q1, qP, va_K.moved (u := U) (U := U.calling g mk a9) (Vm.Alike.refl U.vm) qK, qD⟩, va_recv hK hP (ci := 10) (q0 := 0) rfl rfl, fun U hU hW => ⟨rfl, by rw [hU], by rw [hU]; exact hP, va_K.moved hW.alike hK, hD.weaken (fun _ _ _ _ => trivial)⟩⟩ rfl rfl hl.1 rfl (lv_room (Nat.le_of_ble_eq_true rfl)) dX9_begin_72 ⟨Nat.le_of_ble_eq_true rfl, Nat.le_of_ble_eq_true rfl⟩) hS (fun q _ h => hFc q h) hFc (fun u t H1 locs ht hvm hw hB hz1 hk1 hS => ?_)
                obtain ⟨F19, V20⟩ := u
                replace hP := hB.1
                rw [ht] at hP
                replace hD : va_D A (mW h a k F19 V20) := hB.2.weaken (fun _ q _ h9 => hFc q.1 h9)
                clear hB
                generalize H1 = H at hP hS ⊢
                replace hP : va_P (dC, dI) vwCl (mW h a k F19 V20) H := hP
                obtain ⟨hwI, hwU, hwV, hw⟩ := hw
                replace hU : ∀ j : Nat, j ∉ ([7, 8, 9, 11, 12, 25, 26, 42, 43, 44] : List Nat) → F19 j = F j := mw_tr (by decide) hwU hU
                replace hV : ∀ j : Nat, j ∉ ([45] : List Nat) → V20 j = V j := mw_tr (by decide) hwV hV
                replace hI : StM n (b + 2 * i1 + 2) F V F19 V20 := hI.trans hwI
                obtain ⟨hw, hwe⟩ := hw
                replace hw : (F19, V20) = f_w_beginOne n i12 F10 V11 := hw
                replace hZ9 := bn2_s hZ9 hw
                have hlt : zc (F19 26) 40 < zc (F5 26) 40 := False.elim (by omega)
                refine lv_goto (tgt := 2) hx hb dX9_begin_75 (by decide) ?_
                exact ih3 (i1 + 1) 1 F19 V20 _ _ _ (by omega) (by omega) (hI.mono (by omega)) hU hV (fun _ => (show i1 + 1 + zc (F19 26) 40 ≤ 40 by omega)) hZ9 hP hD hS (lv_sub hl [0, 2] rfl)
            · replace c16 : ¬ (n ≤ i12) := fun q9 => c16 ((nI_leI (a := n) (b := i12) (by omega) (by omega)).mpr q9)
              replace hZ9 := ite_f hZ9 c16
              refine lv_aload_n hx hb dX9_begin_20 rfl (lv_at hl 2 rfl) ?_
              refine va_get (D := (dC, dI)) (ci := 10) (v := .ref (a 25)) (C := RX9) (T := TX9) (N := 46) hx hb hts in_w_begin_X9 hown hK hP 0 rfl rfl 25 (by decide) (hts (.fieldLink RX9 71 "ServiceTreeModel" "job" "[I") (by decide +kernel)) (fun _ h9 => h9) rfl dX9_begin_21 ?_
              refine lv_iload_n hx hb dX9_begin_24 rfl (lv_at hl 0 rfl) ?_
              refine va_iald (n := 40) (f := F10 25) hx hb hK hP 21 20 rfl rfl (vp_in_nI (n := i12) (by omega) (by decide)) dX9_begin_25 ?_
              refine lv_topi (fun x21 ex21 => ?_)
              replace hZ9 := bnd_s hZ9 ex21
              refine lv_if_eq (tgt := 46) hx hb dX9_begin_26 (by decide) (fun c22 => ?_) (fun c22 => ?_)
              · replace hZ9 := ite_t hZ9 c22
                refine lv_iinc (v := nI (i12 + 1)) (lv' := [(2, .int (nI (i12 + 1))), (1, .int y7), (0, .ref h)]) hx hb dX9_begin_46 hl (k := 0) rfl (nI_add i12 1) (by decide) rfl (fun ls hl => ?_)
                refine lv_goto (tgt := 12) hx hb dX9_begin_49 (by decide) ?_
                exact ih14 (i12 + 1)  _ _ _ (by omega) (by omega)  hZ9 hP hD hS (lv_sub hl [0, 1, 2] rfl)
              · replace hZ9 := ite_f hZ9 c22
                refine lv_aload_n hx hb dX9_begin_29 rfl (lv_at hl 2 rfl) ?_
                refine va_get (D := (dC, dI)) (ci := 10) (v := .ref (a 26)) (C := RX9) (T := TX9) (N := 46) hx hb hts in_w_begin_X9 hown hK hP 0 rfl rfl 26 (by decide) (hts (.fieldLink RX9 74 "ServiceTreeModel" "hasBegun" "[Z") (by decide +kernel)) (fun _ h9 => h9) rfl dX9_begin_30 ?_
                refine lv_iload_n hx hb dX9_begin_33 rfl (lv_at hl 0 rfl) ?_
                refine va_zald (n := 40) (f := F10 26) hx hb hK hP 22 21 rfl rfl (vp_in_nI (n := i12) (by omega) (by decide)) dX9_begin_34 ?_
                refine lv_topi (fun x23 ex23 => ?_)
                replace hZ9 := bnd_s hZ9 ex23
                rw [t26] at ex23
                refine lv_if_ne (tgt := 46) hx hb dX9_begin_35 (by decide) (fun c24 => ?_) (fun c24 => ?_)
                · replace hZ9 := ite_f hZ9 c24
                  refine lv_iinc (v := nI (i12 + 1)) (lv' := [(2, .int (nI (i12 + 1))), (1, .int y7), (0, .ref h)]) hx hb dX9_begin_46 hl (k := 0) rfl (nI_add i12 1) (by decide) rfl (fun ls hl => ?_)
                  refine lv_goto (tgt := 12) hx hb dX9_begin_49 (by decide) ?_
                  exact ih14 (i12 + 1)  _ _ _ (by omega) (by omega)  hZ9 hP hD hS (lv_sub hl [0, 1, 2] rfl)
                · replace hZ9 := ite_t hZ9 c24
                  refine lv_aload_n hx hb dX9_begin_38 rfl (lv_at hl 2 rfl) ?_
                  refine lv_iload_n hx hb dX9_begin_39 rfl (lv_at hl 0 rfl) ?_
                  have hFc := mw_free hD hS hA
                  refine va_calli (va_runV (As := [.int (nI i12)]) (rest := []) ⟨hx, hb, hml, hown, hts⟩ (c_w_waitsForAny l dC dI h a k F10 V11 n (b + 2 * i1) i12 H.size hI.1 (by omega) (by omega)) (cwV 1 hts wc_w_begin_w_waitsForAny_225 rfl rfl rfl (by decide +kernel) ⟨Nat.le_of_ble_eq_true rfl, Nat.le_of_ble_eq_true rfl⟩) ⟨fun a9 U g mk q => by obtain ⟨q0, q1, qP, qK, qD⟩ := q; exact ⟨q0, q1, qP, va_K.moved (u := U) (U := U.calling g mk a9) (Vm.Alike.refl U.vm) qK, qD⟩, va_recv hK hP (ci := 10) (q0 := 0) rfl rfl, fun U hU hW => ⟨rfl, by rw [hU], by rw [hU]; exact hP, va_K.moved hW.alike hK, hD.weaken (fun _ _ _ _ => trivial)⟩⟩ rfl rfl hl.1 rfl (lv_room (Nat.le_of_ble_eq_true rfl)) dX9_begin_40 ⟨Nat.le_of_ble_eq_true rfl, Nat.le_of_ble_eq_true rfl⟩) hS (fun q _ h => hFc q h) hFc (fun r25 u t H1 locs ht hvm hw hB hz1 hk1 hS => ?_)
                  obtain ⟨F26, V27⟩ := u
                  replace hP := hB.1
                  rw [ht] at hP
                  replace hD : va_D A (mW h a k F26 V27) := hB.2.weaken (fun _ q _ h9 => hFc q.1 h9)
                  clear hB
                  generalize H1 = H at hP hS ⊢
                  replace hP : va_P (dC, dI) vwCl (mW h a k F26 V27) H := hP
                  obtain ⟨hwF, hwV, hw⟩ : F26 = F10 ∧ V27 = V11 ∧ _ := hw
                  rw [hwF, hwV] at hP hD
                  obtain ⟨hw, hwe⟩ := hw
                  replace hw : r25 = f_w_waitsForAny n i12 F10 := hw
                  replace hZ9 := bnd_s hZ9 hw
                  have br25 := hwe
                  refine lv_if_eq (tgt := 52) hx hb dX9_begin_43 (by decide) (fun c28 => ?_) (fun c28 => ?_)
                  · replace hZ9 := ite_t hZ9 c28
                    replace hZ9 := lp_app1 hK9_12 hZ9
                    refine lv_iload_n hx hb dX9_begin_52 rfl (lv_at hl 0 rfl) ?_
                    refine lv_aload_n hx hb dX9_begin_53 rfl (lv_at hl 2 rfl) ?_
                    refine va_get (D := (dC, dI)) (ci := 10) (v := .int (V11 21)) (C := RX9) (T := TX9) (N := 46) hx hb hts in_w_begin_X9 hown hK hP 0 rfl rfl 21 (by decide) (hts (.fieldLink RX9 126 "ServiceTreeModel" "services" "I") (by decide +kernel)) (fun _ h9 => h9) rfl dX9_begin_54 ?_
                    refine p1_topr (v := .int (nI n)) (congrArg Value.int hI.1.2.1) ?_
                    refine lv_icmp_ge (tgt := 64) hx hb dX9_begin_57 (by decide) (fun c29 => ?_) (fun c29 => ?_)
                    · replace c29 : n ≤ i12 := (nI_leI (a := n) (b := i12) (by omega) (by omega)).mp c29
                      replace hZ9 := ite_t hZ9 c29
                      refine lv_iconst (v := 0) hx hb dX9_begin_64 (by decide) ?_
                      refine lv_istore_n (lv' := [(1, .int 0), (2, .int (nI i12)), (0, .ref h)]) hx hb dX9_begin_65 rfl hl (by decide) rfl (fun ls hl => ?_)
                      refine lv_iload_n hx hb dX9_begin_66 rfl (lv_at hl 0 rfl) ?_
                      refine lv_if_eq (tgt := 75) hx hb dX9_begin_67 (by decide) (fun _ => ?_) (fun c9 => absurd (by decide) c9)
                      refine lv_goto (tgt := 2) hx hb dX9_begin_75 (by decide) ?_
                      exact ih3 (i1 + 1) 0 F10 V11 _ _ _ (by omega) (by omega) (hI.mono (by omega)) hU hV (fun q9 => absurd rfl q9) hZ9 hP hD hS (lv_sub hl [0, 2] rfl)
                    · replace c29 : ¬ (n ≤ i12) := fun q9 => c29 ((nI_leI (a := n) (b := i12) (by omega) (by omega)).mpr q9)
                      replace hZ9 := ite_f hZ9 c29
                      refine lv_iconst (v := 1) hx hb dX9_begin_60 (by decide) ?_
                      refine lv_goto (tgt := 65) hx hb dX9_begin_61 (by decide) ?_
                      refine lv_istore_n (lv' := [(1, .int 1), (2, .int (nI i12)), (0, .ref h)]) hx hb dX9_begin_65 rfl hl (by decide) rfl (fun ls hl => ?_)
                      refine lv_iload_n hx hb dX9_begin_66 rfl (lv_at hl 0 rfl) ?_
                      refine lv_if_eq (tgt := 75) hx hb dX9_begin_67 (by decide) (fun c9 => absurd c9 (by decide)) (fun _ => ?_)
                      refine lv_aload_n hx hb dX9_begin_70 rfl (lv_at hl 2 rfl) ?_
                      refine lv_iload_n hx hb dX9_begin_71 rfl (lv_at hl 1 rfl) ?_
                      have hFc := mw_free hD hS hA
                      refine va_callv (va_runV (As := [.int (nI i12)]) (rest := []) ⟨hx, hb, hml, hown, hts⟩ (c_w_beginOne l dC dI h a k F10 V11 n (b + 2 * i1) i12 H.size hI.1 (by omega) (by omega)) (cwV 1 hts wc_w_begin_w_beginOne_228 rfl rfl rfl (by decide +kernel) ⟨Nat.le_of_ble_eq_true rfl, Nat.le_of_ble_eq_true rfl⟩) ⟨fun a9 U g mk q => by obtain ⟨q0, q1, qP, qK, qD⟩ := q; exact ⟨q0, q1, qP, va_K.moved (u := U) (U := U.calling g mk a9) (Vm.Alike.refl U.vm) qK, qD⟩, va_recv hK hP (ci := 10) (q0 := 0) rfl rfl, fun U hU hW => ⟨rfl, by rw [hU], by rw [hU]; exact hP, va_K.moved hW.alike hK, hD.weaken (fun _ _ _ _ => trivial)⟩⟩ rfl rfl hl.1 rfl (lv_room (Nat.le_of_ble_eq_true rfl)) dX9_begin_72 ⟨Nat.le_of_ble_eq_true rfl, Nat.le_of_ble_eq_true rfl⟩) hS (fun q _ h => hFc q h) hFc (fun u t H1 locs ht hvm hw hB hz1 hk1 hS => ?_)
                      obtain ⟨F31, V32⟩ := u
                      replace hP := hB.1
                      rw [ht] at hP
                      replace hD : va_D A (mW h a k F31 V32) := hB.2.weaken (fun _ q _ h9 => hFc q.1 h9)
                      clear hB
                      generalize H1 = H at hP hS ⊢
                      replace hP : va_P (dC, dI) vwCl (mW h a k F31 V32) H := hP
                      obtain ⟨hwI, hwU, hwV, hw⟩ := hw
                      replace hU : ∀ j : Nat, j ∉ ([7, 8, 9, 11, 12, 25, 26, 42, 43, 44] : List Nat) → F31 j = F j := mw_tr (by decide) hwU hU
                      replace hV : ∀ j : Nat, j ∉ ([45] : List Nat) → V32 j = V j := mw_tr (by decide) hwV hV
                      replace hI : StM n (b + 2 * i1 + 2) F V F31 V32 := hI.trans hwI
                      obtain ⟨hw, hwe⟩ := hw
                      replace hw : (F31, V32) = f_w_beginOne n i12 F10 V11 := hw
                      replace hZ9 := bn2_s hZ9 hw
                      have hlt : zc (F31 26) 40 < zc (F5 26) 40 := by rw [show F31 26 = _ from hwe, t26]; exact zc_lt (ex23.symm.trans c24) (by decide) 40 (by rw [nI_clamp (by omega)]; omega)
                      refine lv_goto (tgt := 2) hx hb dX9_begin_75 (by decide) ?_
                      exact ih3 (i1 + 1) 1 F31 V32 _ _ _ (by omega) (by omega) (hI.mono (by omega)) hU hV (fun _ => (show i1 + 1 + zc (F31 26) 40 ≤ 40 by omega)) hZ9 hP hD hS (lv_sub hl [0, 2] rfl)
                  · replace hZ9 := ite_f hZ9 c28
                    refine lv_iinc (v := nI (i12 + 1)) (lv' := [(2, .int (nI (i12 + 1))), (1, .int y7), (0, .ref h)]) hx hb dX9_begin_46 hl (k := 0) rfl (nI_add i12 1) (by decide) rfl (fun ls hl => ?_)
                    refine lv_goto (tgt := 12) hx hb dX9_begin_49 (by decide) ?_
                    exact ih14 (i12 + 1)  _ _ _ (by omega) (by omega)  hZ9 hP hD hS (lv_sub hl [0, 1, 2] rfl)
        exact lp15 (n + 1) 0  _ _ _ (by omega) (by omega)  hZ9 hP hD hS hl
  exact lp4 (41 + 1) 0 1 F V _ _ _ (by omega) (by omega) (hI.mono (by omega)) hU hV (fun _ => (show 0 + zc (F 26) 40 ≤ 40 by have := zc_le (F 26) 40; omega)) hZ9 hP hD hS hl

end
section
def f_w_members_2 (n : Nat) (xv : Nat) : Nat → Nat → (Nat → Nat → Int32) → (Nat → Int32) → (Nat → (Nat → Nat → Int32) → (Nat → Int32) → (Nat → Nat → Int32) × (Nat → Int32)) → (Nat → Nat → Int32) × (Nat → Int32)
  | 0, i1, F5, V6, K9_2 => K9_2 i1 F5 V6
  | fu2 + 1, i1, F5, V6, K9_2 => if n ≤ i1 then (K9_2 i1 F5 V6) else (if i1 = xv then (bnd (va_up F5 27 (upd (F5 27) (nI i1).toNatClampNeg (vp_nar .boolean 1))) (fun (F14 : Nat → Nat → Int32) => bnd (va_up F14 29 (upd (F14 29) (nI i1).toNatClampNeg (vp_nar .boolean 0))) (fun (F15 : Nat → Nat → Int32) => f_w_members_2 n xv fu2 (i1 + 1) F15 V6 K9_2))) else (bnd (va_up F5 27 (upd (F5 27) (nI i1).toNatClampNeg (vp_nar .boolean 0))) (fun (F12 : Nat → Nat → Int32) => bnd (va_up F12 29 (upd (F12 29) (nI i1).toNatClampNeg (vp_nar .boolean 0))) (fun (F13 : Nat → Nat → Int32) => f_w_members_2 n xv fu2 (i1 + 1) F13 V6 K9_2))))
def f_w_members (n : Nat) (xv : Nat) (F : Nat → Nat → Int32) (V : Nat → Int32) : (Nat → Nat → Int32) × (Nat → Int32) := f_w_members_2 n xv (n + 1) (0 : Nat) F V (fun (i1 : Nat) (F5 : Nat → Nat → Int32) (V6 : Nat → Int32) => bn2 (f_w_addNeeds_member n  F5 V6) (fun (F9 : Nat → Nat → Int32) (V10 : Nat → Int32) => (F9, V10)))
def wq_w_members : List Cond := ([.code yX9_members cX9_members 3 none, .fieldLink RX9 126 "ServiceTreeModel" "services" "I", .fieldLink RX9 77 "ServiceTreeModel" "member" "[Z", .fieldLink RX9 83 "ServiceTreeModel" "looked" "[Z", .methodLink RX9 174 yX9_addNeeds, .instanceMethod yX9_addNeeds, .selects RX9 yX9_addNeeds yX9_addNeeds, .initialized RX9] : List Cond) ++ (wsX90 ++ (wq_w_addNeeds_member))
theorem in_w_members_X9 : ∀ w ∈ wsX90, w ∈ wq_w_members := fun _ h => List.mem_append_right _ (List.mem_append_left _ (h))
set_option maxRecDepth 20000 in
theorem wi_w_members : ∀ w ∈ wq_w_members, w ∈ lw_tbl := List.forall_mem_append.mpr ⟨(wix [1058, 873, 879, 881, 1059, 1061, 41, 69] rfl), List.forall_mem_append.mpr ⟨inKX9, wi_w_addNeeds_member⟩⟩
set_option maxRecDepth 20000 in
theorem wg_w_members : GoodIn wq_w_members wq_w_members := goodIn_sub (fun _ h => h) (by decide +kernel)
set_option maxRecDepth 20000 in
theorem wc_w_members_w_addNeeds_member_174 : GoodIn wq_w_members (wsV RX9 174 RX9 yX9_addNeeds wq_w_addNeeds_member) := goodIn_app (goodIn_of _ (by decide +kernel)) (fun w h => ⟨List.mem_append_right _ (List.mem_append_right _ (h)), (wg_w_addNeeds_member w h).2⟩)
def rm_w_members : Room := { frames := 2, cells := 0, slots := 0, locals := 47 }
set_option maxHeartbeats 4000000 in
set_option maxRecDepth 100000 in
theorem c_w_members (l : Launch) (dC : Nat → ClassId) (dI : Nat → Nat → Nat) (h : Nat) (a : Nat → Nat) (k : Nat → ClassId) (F : Nat → Nat → Int32) (V : Nat → Int32) (n b : Nat) (xv : Nat) (sz : Nat) (hI0 : InvM n b F V) (hb0 : b + 0 < 2147483648) (hp0 : xv < n) : Met l yX9_members wq_w_members rm_w_members (va_Pc [.ref h, .int (nI xv)] (fun U => U.heap.size = sz ∧ va_P (dC, dI) vwCl (mW h a k F V) U.heap ∧ va_K (dC, dI) vwCl (mT k) U ∧ va_D (fun _ => True) (mW h a k F V))) (va_Qv (fun (u : (Nat → Nat → Int32) × (Nat → Int32)) => StM n (b + 0) F V u.1 u.2 ∧ (∀ j : Nat, j ∉ ([27, 29] : List Nat) → u.1 j = F j) ∧ (∀ j : Nat, j ∉ ([] : List Nat) → u.2 j = V j) ∧ ((u.1, u.2) = f_w_members n xv F V)) (fun (u : (Nat → Nat → Int32) × (Nat → Int32)) (t : State) => va_P (dC, dI) vwCl (mW h a k u.1 u.2) t.heap ∧ va_D (va_A (mW h a k F V) sz) (mW h a k u.1 u.2)) (va_A (mW h a k F V) sz)) 0 0 (va_A (mW h a k F V) sz) := by
  have hn : n ≤ 40 := hI0.1
  have hI : StM n b F V F V := StM.rf hI0
  have hU : ∀ j : Nat, j ∉ ([27, 29] : List Nat) → F j = F j := fun _ _ => rfl
  have hV : ∀ j : Nat, j ∉ ([] : List Nat) → V j = V j := fun _ _ => rfl
  refine Met.ofW (cc := cX9_members) (maxL := 3) (ret := none) (by decide) rfl ?_
  intro p e s m args below meth c s₁ B hml hv
  obtain ⟨rfl, hsz, hP, hK, hD0⟩ := hv
  have hx := B.exec
  have hb := B.bytes
  have hr := B.returns
  have hts := atoms_spec (ws := wq_w_members) B.pre
  have hown : s.vm.findClass RX9 = some m.cls := findClass_of_methodNamed B.named
  have hlocks := B.notSynchronized
  subst hsz
  have hD := hD0.self (sz := s.heap.size)
  generalize hAe : va_A (mW h a k F V) s.heap.size = A at hD ⊢
  have hA : ∀ q : Nat, s.heap.size ≤ q → A q := fun q h => by rw [← hAe]; exact Or.inr h
  have hS : va_S A s.heap s.heap [] := va_S.rf
  have hl := lv_entry ([.ref h, .int (nI xv)]) (n := 3) (Nat.le_of_ble_eq_true rfl)
  rw [lg_entry_eq]
  generalize (lg_sl ([.ref h, .int (nI xv)]) ++ List.replicate (3 - (lg_sl ([.ref h, .int (nI xv)])).length) Slot.unset).toArray = ls at hl ⊢
  have hl : lv_has ls 3 [(0, .ref h), (1, .int (nI xv))] := hl
  refine mw_Q (fun Q0 hQ => ?_)
  obtain ⟨RES, hR0⟩ : ∃ R9, R9 = f_w_members n xv F V := ⟨_, rfl⟩
  have hZ9 := hR0
  unfold f_w_members at hZ9
  refine lv_iconst (v := 0) hx hb dX9_members_0 (by decide) ?_
  refine lv_istore_n (lv' := [(2, .int 0), (0, .ref h), (1, .int (nI xv))]) hx hb dX9_members_1 rfl hl (by decide) rfl (fun ls hl => ?_)
  obtain ⟨K9_2, hK9_2, hZ9⟩ := lp_gen hZ9
  have lp4 : ∀ (fu2 i1 : Nat)  (F5 : Nat → Nat → Int32) (V6 : Nat → Int32) (H : Heap) (locs : List Loc) (ls : Array Slot), n < i1 + fu2 → i1 ≤ n → StM n (b) F V F5 V6 → (∀ j : Nat, j ∉ ([27, 29] : List Nat) → F5 j = F j) → (∀ j : Nat, j ∉ ([] : List Nat) → V6 j = V j) → RES = f_w_members_2 n xv fu2 i1 F5 V6 K9_2 → va_P (dC, dI) vwCl (mW h a k F5 V6) H → va_D A (mW h a k F5 V6) → va_S A s.heap H locs → lv_has ls 3 [(2, .int (nI i1)), (0, .ref h), (1, .int (nI xv))] → W p l e (headSpec wq_w_members rm_w_members).room s m ([.ref h, .int (nI xv)] : List Value).toArray below meth c H locs 0 0 Q0 (F0 m 2 ls []) := by
    intro fu2
    induction fu2 with
    | zero =>
      intro i1  F5 V6 H locs ls hf hi
      exact absurd hf (by omega)
    | succ fu2 ih3 =>
      intro i1  F5 V6 H locs ls hfi1 hii1 hI hU hV hZ9 hP hD hS hl
      rw [f_w_members_2] at hZ9
      refine lv_iload_n hx hb dX9_members_2 rfl (lv_at hl 0 rfl) ?_
      refine lv_aload_n hx hb dX9_members_3 rfl (lv_at hl 1 rfl) ?_
      refine va_get (D := (dC, dI)) (ci := 10) (v := .int (V6 21)) (C := RX9) (T := TX9) (N := 46) hx hb hts in_w_members_X9 hown hK hP 0 rfl rfl 21 (by decide) (hts (.fieldLink RX9 126 "ServiceTreeModel" "services" "I") (by decide +kernel)) (fun _ h9 => h9) rfl dX9_members_4 ?_
      refine p1_topr (v := .int (nI n)) (congrArg Value.int hI.1.2.1) ?_
      refine lv_icmp_ge (tgt := 39) hx hb dX9_members_7 (by decide) (fun c7 => ?_) (fun c7 => ?_)
      · replace c7 : n ≤ i1 := (nI_leI (a := n) (b := i1) (by omega) (by omega)).mp c7
        replace hZ9 := ite_t hZ9 c7
        replace hZ9 := lp_app3 hK9_2 hZ9
        refine lv_aload_n hx hb dX9_members_39 rfl (lv_at hl 1 rfl) ?_
        refine lv_aload_n hx hb dX9_members_40 rfl (lv_at hl 1 rfl) ?_
        refine va_get (D := (dC, dI)) (ci := 10) (v := .ref (a 27)) (C := RX9) (T := TX9) (N := 46) hx hb hts in_w_members_X9 hown hK hP 0 rfl rfl 27 (by decide) (hts (.fieldLink RX9 77 "ServiceTreeModel" "member" "[Z") (by decide +kernel)) (fun _ h9 => h9) rfl dX9_members_41 ?_
        have hFc := mw_free hD hS hA
        refine va_callv (va_runV (As := [.ref (a 27)]) (rest := []) ⟨hx, hb, hml, hown, hts⟩ (c_w_addNeeds_member l dC dI h a k F5 V6 n (b)  H.size hI.1 (by omega) ) (cwV 1 hts wc_w_members_w_addNeeds_member_174 rfl rfl rfl (by decide +kernel) ⟨Nat.le_of_ble_eq_true rfl, Nat.le_of_ble_eq_true rfl⟩) ⟨fun a9 U g mk q => by obtain ⟨q0, q1, qP, qK, qD⟩ := q; exact ⟨q0, q1, qP, va_K.moved (u := U) (U := U.calling g mk a9) (Vm.Alike.refl U.vm) qK, qD⟩, va_recv hK hP (ci := 10) (q0 := 0) rfl rfl, fun U hU hW => ⟨rfl, by rw [hU], by rw [hU]; exact hP, va_K.moved hW.alike hK, hD.weaken (fun _ _ _ _ => trivial)⟩⟩ rfl rfl hl.1 rfl (lv_room (Nat.le_of_ble_eq_true rfl)) dX9_members_44 ⟨Nat.le_of_ble_eq_true rfl, Nat.le_of_ble_eq_true rfl⟩) hS (fun q _ h => hFc q h) hFc (fun u t H1 locs ht hvm hw hB hz1 hk1 hS => ?_)
        obtain ⟨F9, V10⟩ := u
        replace hP := hB.1
        rw [ht] at hP
        replace hD : va_D A (mW h a k F9 V10) := hB.2.weaken (fun _ q _ h9 => hFc q.1 h9)
        clear hB
        generalize H1 = H at hP hS ⊢
        replace hP : va_P (dC, dI) vwCl (mW h a k F9 V10) H := hP
        obtain ⟨hwI, hwU, hwV, hw⟩ := hw
        replace hU : ∀ j : Nat, j ∉ ([27, 29] : List Nat) → F9 j = F j := mw_tr (by decide) hwU hU
        replace hV : ∀ j : Nat, j ∉ ([] : List Nat) → V10 j = V j := mw_tr (by decide) hwV hV
        replace hI : StM n (b + 0) F V F9 V10 := hI.trans hwI
        replace hI : StM n (b) F V F9 V10 := hI
        replace hw : (F9, V10) = f_w_addNeeds_member n  F5 V6 := hw
        replace hZ9 := bn2_s hZ9 hw
        rw [hQ]
        exact W.vret hx hb hr (fun t ht hW => ⟨⟨(F9, V10), rfl, ⟨hI.mono (by omega), hU, hV, hZ9.symm.trans hR0⟩, by rw [ht]; exact hP, hD⟩, hS.F ht⟩) hS.2.2 dX9_members_47
      · replace c7 : ¬ (n ≤ i1) := fun q9 => c7 ((nI_leI (a := n) (b := i1) (by omega) (by omega)).mpr q9)
        replace hZ9 := ite_f hZ9 c7
        refine lv_aload_n hx hb dX9_members_10 rfl (lv_at hl 1 rfl) ?_
        refine va_get (D := (dC, dI)) (ci := 10) (v := .ref (a 27)) (C := RX9) (T := TX9) (N := 46) hx hb hts in_w_members_X9 hown hK hP 0 rfl rfl 27 (by decide) (hts (.fieldLink RX9 77 "ServiceTreeModel" "member" "[Z") (by decide +kernel)) (fun _ h9 => h9) rfl dX9_members_11 ?_
        refine lv_iload_n hx hb dX9_members_14 rfl (lv_at hl 0 rfl) ?_
        refine lv_iload_n hx hb dX9_members_15 rfl (lv_at hl 0 rfl) ?_
        refine lv_iload_n hx hb dX9_members_16 rfl (lv_at hl 2 rfl) ?_
        refine lv_icmp_ne (tgt := 24) hx hb dX9_members_17 (by decide) (fun c11 => ?_) (fun c11 => ?_)
        · replace c11 : ¬ (i1 = xv) := fun q9 => c11 ((nI_eq (a := i1) (b := xv) (by omega) (by omega)).mpr q9)
          replace hZ9 := ite_f hZ9 c11
          refine lv_iconst (v := 0) hx hb dX9_members_24 (by decide) ?_
          refine va_zast (n := 40) (f := F5 27) hx hb hK hP hD hS 23 22 rfl rfl (vp_in_nI (n := i1) (by omega) (by decide)) dX9_members_25 (fun H locs hP hD hS => ?_)
          rw [mW_set_27] at hP hD
          obtain ⟨F12, eF12⟩ : ∃ f9 : Nat → Nat → Int32, f9 = va_up F5 27 (upd (F5 27) (nI i1).toNatClampNeg (vp_nar .boolean 0)) := ⟨_, rfl⟩
          rw [← eF12] at hP hD
          replace hZ9 := bnd_s hZ9 eF12
          replace hI : StM n (b) F V F12 V6 := ⟨by rw [eF12]; exact hI.1.setF (by decide), trivial⟩
          replace hU : ∀ j : Nat, j ∉ ([27, 29] : List Nat) → F12 j = F j := by rw [eF12]; exact mw_up (by decide) hU
          refine lv_aload_n hx hb dX9_members_26 rfl (lv_at hl 1 rfl) ?_
          refine va_get (D := (dC, dI)) (ci := 10) (v := .ref (a 29)) (C := RX9) (T := TX9) (N := 46) hx hb hts in_w_members_X9 hown hK hP 0 rfl rfl 29 (by decide) (hts (.fieldLink RX9 83 "ServiceTreeModel" "looked" "[Z") (by decide +kernel)) (fun _ h9 => h9) rfl dX9_members_27 ?_
          refine lv_iload_n hx hb dX9_members_30 rfl (lv_at hl 0 rfl) ?_
          refine lv_iconst (v := 0) hx hb dX9_members_31 (by decide) ?_
          refine va_zast (n := 40) (f := F12 29) hx hb hK hP hD hS 25 24 rfl rfl (vp_in_nI (n := i1) (by omega) (by decide)) dX9_members_32 (fun H locs hP hD hS => ?_)
          rw [mW_set_29] at hP hD
          obtain ⟨F13, eF13⟩ : ∃ f9 : Nat → Nat → Int32, f9 = va_up F12 29 (upd (F12 29) (nI i1).toNatClampNeg (vp_nar .boolean 0)) := ⟨_, rfl⟩
          rw [← eF13] at hP hD
          replace hZ9 := bnd_s hZ9 eF13
          replace hI : StM n (b) F V F13 V6 := ⟨by rw [eF13]; exact hI.1.setF (by decide), trivial⟩
          replace hU : ∀ j : Nat, j ∉ ([27, 29] : List Nat) → F13 j = F j := by rw [eF13]; exact mw_up (by decide) hU
          refine lv_iinc (v := nI (i1 + 1)) (lv' := [(2, .int (nI (i1 + 1))), (0, .ref h), (1, .int (nI xv))]) hx hb dX9_members_33 hl (k := 0) rfl (nI_add i1 1) (by decide) rfl (fun ls hl => ?_)
          refine lv_goto (tgt := 2) hx hb dX9_members_36 (by decide) ?_
          exact ih3 (i1 + 1)  F13 V6 _ _ _ (by omega) (by omega) (hI.mono (by omega)) hU hV  hZ9 hP hD hS (lv_sub hl [0, 1, 2] rfl)
        · replace c11 : i1 = xv := (nI_eq (a := i1) (b := xv) (by omega) (by omega)).mp c11
          replace hZ9 := ite_t hZ9 c11
          refine lv_iconst (v := 1) hx hb dX9_members_20 (by decide) ?_
          refine lv_goto (tgt := 25) hx hb dX9_members_21 (by decide) ?_
          refine va_zast (n := 40) (f := F5 27) hx hb hK hP hD hS 23 22 rfl rfl (vp_in_nI (n := i1) (by omega) (by decide)) dX9_members_25 (fun H locs hP hD hS => ?_)
          rw [mW_set_27] at hP hD
          obtain ⟨F14, eF14⟩ : ∃ f9 : Nat → Nat → Int32, f9 = va_up F5 27 (upd (F5 27) (nI i1).toNatClampNeg (vp_nar .boolean 1)) := ⟨_, rfl⟩
          rw [← eF14] at hP hD
          replace hZ9 := bnd_s hZ9 eF14
          replace hI : StM n (b) F V F14 V6 := ⟨by rw [eF14]; exact hI.1.setF (by decide), trivial⟩
          replace hU : ∀ j : Nat, j ∉ ([27, 29] : List Nat) → F14 j = F j := by rw [eF14]; exact mw_up (by decide) hU
          refine lv_aload_n hx hb dX9_members_26 rfl (lv_at hl 1 rfl) ?_
          refine va_get (D := (dC, dI)) (ci := 10) (v := .ref (a 29)) (C := RX9) (T := TX9) (N := 46) hx hb hts in_w_members_X9 hown hK hP 0 rfl rfl 29 (by decide) (hts (.fieldLink RX9 83 "ServiceTreeModel" "looked" "[Z") (by decide +kernel)) (fun _ h9 => h9) rfl dX9_members_27 ?_
          refine lv_iload_n hx hb dX9_members_30 rfl (lv_at hl 0 rfl) ?_
          refine lv_iconst (v := 0) hx hb dX9_members_31 (by decide) ?_
          refine va_zast (n := 40) (f := F14 29) hx hb hK hP hD hS 25 24 rfl rfl (vp_in_nI (n := i1) (by omega) (by decide)) dX9_members_32 (fun H locs hP hD hS => ?_)
          rw [mW_set_29] at hP hD
          obtain ⟨F15, eF15⟩ : ∃ f9 : Nat → Nat → Int32, f9 = va_up F14 29 (upd (F14 29) (nI i1).toNatClampNeg (vp_nar .boolean 0)) := ⟨_, rfl⟩
          rw [← eF15] at hP hD
          replace hZ9 := bnd_s hZ9 eF15
          replace hI : StM n (b) F V F15 V6 := ⟨by rw [eF15]; exact hI.1.setF (by decide), trivial⟩
          replace hU : ∀ j : Nat, j ∉ ([27, 29] : List Nat) → F15 j = F j := by rw [eF15]; exact mw_up (by decide) hU
          refine lv_iinc (v := nI (i1 + 1)) (lv' := [(2, .int (nI (i1 + 1))), (0, .ref h), (1, .int (nI xv))]) hx hb dX9_members_33 hl (k := 0) rfl (nI_add i1 1) (by decide) rfl (fun ls hl => ?_)
          refine lv_goto (tgt := 2) hx hb dX9_members_36 (by decide) ?_
          exact ih3 (i1 + 1)  F15 V6 _ _ _ (by omega) (by omega) (hI.mono (by omega)) hU hV  hZ9 hP hD hS (lv_sub hl [0, 1, 2] rfl)
  exact lp4 (n + 1) 0  F V _ _ _ (by omega) (by omega) (hI.mono (by omega)) hU hV  hZ9 hP hD hS hl
def f_w_addWanted_176 (n : Nat)  : Nat → Nat → (Nat → Nat → Int32) → (Nat → Int32) → (Nat → (Nat → Nat → Int32) → (Nat → Int32) → (Nat → Nat → Int32) × (Nat → Int32)) → (Nat → Nat → Int32) × (Nat → Int32)
  | 0, i37, F41, V42, K9_176 => K9_176 i37 F41 V42
  | fu38 + 1, i37, F41, V42, K9_176 => if n ≤ i37 then (K9_176 i37 F41 V42) else (bnd (F41 28 (nI i37).toNatClampNeg) (fun (x44 : Int32) => bnd (va_up F41 27 (upd (F41 27) (nI i37).toNatClampNeg (vp_nar .boolean x44))) (fun (F45 : Nat → Nat → Int32) => f_w_addWanted_176 n  fu38 (i37 + 1) F45 V42 K9_176)))
def f_w_addWanted_105 (n : Nat) (j17 : Nat) : Nat → Nat → (Nat → Nat → Int32) → (Nat → Int32) → (Nat → (Nat → Nat → Int32) → (Nat → Int32) → (Nat → Nat → Int32) × (Nat → Int32)) → (Nat → Nat → Int32) × (Nat → Int32)
  | 0, i19, F23, V24, K9_105 => K9_105 i19 F23 V24
  | fu20 + 1, i19, F23, V24, K9_105 => if n ≤ i19 then (K9_105 i19 F23 V24) else (bnd (F23 27 (nI i19).toNatClampNeg) (fun (x46 : Int32) => if x46 = (0 : Int32) then (if i19 = j17 then (bnd (va_up F23 28 (upd (F23 28) (nI i19).toNatClampNeg (vp_nar .boolean 1))) (fun (F51 : Nat → Nat → Int32) => f_w_addWanted_105 n j17 fu20 (i19 + 1) F51 V24 K9_105)) else (bnd (va_up F23 28 (upd (F23 28) (nI i19).toNatClampNeg (vp_nar .boolean 0))) (fun (F50 : Nat → Nat → Int32) => f_w_addWanted_105 n j17 fu20 (i19 + 1) F50 V24 K9_105))) else (bnd (va_up F23 28 (upd (F23 28) (nI i19).toNatClampNeg (vp_nar .boolean 1))) (fun (F48 : Nat → Nat → Int32) => f_w_addWanted_105 n j17 fu20 (i19 + 1) F48 V24 K9_105))))
def f_w_addWanted_24 (n : Nat) (F5 : Nat → Nat → Int32) (q52 : Nat) : Nat → Nat → Int32 → (Nat → Int32 → (Nat → Nat → Int32) × (Nat → Int32)) → (Nat → Nat → Int32) × (Nat → Int32)
  | 0, i53, y57, K9_24 => K9_24 i53 y57
  | fu54 + 1, i53, y57, K9_24 => if n ≤ i53 then (K9_24 i53 y57) else (bnd (F5 27 (nI i53).toNatClampNeg) (fun (x59 : Int32) => if x59 = (0 : Int32) then (f_w_addWanted_24 n F5 q52 fu54 (i53 + 1) y57 K9_24) else (bnd (f_w_has n 1 i53 q52 F5) (fun (r61 : Int32) => if r61 = (0 : Int32) then (f_w_addWanted_24 n F5 q52 fu54 (i53 + 1) y57 K9_24) else (bnd (F5 27 (nI q52).toNatClampNeg) (fun (x65 : Int32) => if x65 = (0 : Int32) then (bnd (F5 29 (nI q52).toNatClampNeg) (fun (x67 : Int32) => if x67 = (0 : Int32) then (f_w_addWanted_24 n F5 q52 fu54 (i53 + 1) (nI q52) K9_24) else (f_w_addWanted_24 n F5 q52 fu54 (i53 + 1) y57 K9_24))) else (f_w_addWanted_24 n F5 q52 fu54 (i53 + 1) y57 K9_24)))))))
def f_w_addWanted_17 (n : Nat) (F5 : Nat → Nat → Int32) : Nat → Nat → Int32 → (Nat → Int32 → (Nat → Nat → Int32) × (Nat → Int32)) → (Nat → Nat → Int32) × (Nat → Int32)
  | 0, i10, y14, K9_17 => K9_17 i10 y14
  | fu11 + 1, i10, y14, K9_17 => if (nI i10 + (-1)) < (0 : Int32) then (K9_17 i10 y14) else (bnd (i10 - 1) (fun (q52 : Nat) => f_w_addWanted_24 n F5 q52 (n + 1) (0 : Nat) y14 (fun (i53 : Nat) (y57 : Int32) => f_w_addWanted_17 n F5 fu11 q52 y57 K9_17)))
def f_w_addWanted_2 (n : Nat)  : Nat → Nat → Int32 → (Nat → Nat → Int32) → (Nat → Int32) → (Nat → Int32 → (Nat → Nat → Int32) → (Nat → Int32) → (Nat → Nat → Int32) × (Nat → Int32)) → (Nat → Nat → Int32) × (Nat → Int32)
  | 0, i1, y7, F5, V6, K9_2 => K9_2 i1 y7 F5 V6
  | fu2 + 1, i1, y7, F5, V6, K9_2 => if y7 = (0 : Int32) then (K9_2 i1 y7 F5 V6) else (bnd ((nI n) - (1 : Int32)) (fun (x9 : Int32) => f_w_addWanted_17 n F5 (n + 1) n (-1 : Int32) (fun (i10 : Nat) (y14 : Int32) => if y14 < (0 : Int32) then (f_w_addWanted_2 n  fu2 (i1 + 1) (0 : Int32) F5 V6 K9_2) else (bnd (y14.toNatClampNeg) (fun (j17 : Nat) => bnd (va_up F5 29 (upd (F5 29) (nI j17).toNatClampNeg (vp_nar .boolean 1))) (fun (F18 : Nat → Nat → Int32) => f_w_addWanted_105 n j17 (n + 1) (0 : Nat) F18 V6 (fun (i19 : Nat) (F23 : Nat → Nat → Int32) (V24 : Nat → Int32) => bn2 (f_w_addNeeds_more n  F23 V24) (fun (F27 : Nat → Nat → Int32) (V28 : Nat → Int32) => bnd (f_w_clash_more n  F27) (fun (r29 : Int32) => if r29 = (0 : Int32) then (bn3 (f_w_memberRing_more n  F27 V28) (fun (r33 : Int32) (F34 : Nat → Nat → Int32) (V35 : Nat → Int32) => if r33 = (0 : Int32) then (f_w_addWanted_176 n  (n + 1) (0 : Nat) F34 V35 (fun (i37 : Nat) (F41 : Nat → Nat → Int32) (V42 : Nat → Int32) => f_w_addWanted_2 n  fu2 (i1 + 1) (1 : Int32) F41 V42 K9_2)) else (f_w_addWanted_2 n  fu2 (i1 + 1) (1 : Int32) F34 V35 K9_2))) else (f_w_addWanted_2 n  fu2 (i1 + 1) (1 : Int32) F27 V28 K9_2))))))))))
def f_w_addWanted (n : Nat)  (F : Nat → Nat → Int32) (V : Nat → Int32) : (Nat → Nat → Int32) × (Nat → Int32) := f_w_addWanted_2 n  (41 + 1) (0 : Nat) (1 : Int32) F V (fun (i1 : Nat) (y7 : Int32) (F5 : Nat → Nat → Int32) (V6 : Nat → Int32) => (F5, V6))
def wq_w_addWanted : List Cond := ([.code yX9_addWanted cX9_addWanted 5 none, .fieldLink RX9 126 "ServiceTreeModel" "services" "I", .fieldLink RX9 83 "ServiceTreeModel" "looked" "[Z", .fieldLink RX9 80 "ServiceTreeModel" "more" "[Z", .fieldLink RX9 77 "ServiceTreeModel" "member" "[Z", .methodLink RX9 174 yX9_addNeeds, .instanceMethod yX9_addNeeds, .selects RX9 yX9_addNeeds yX9_addNeeds, .initialized RX9, .methodLink RX9 178 yX9_clash, .instanceMethod yX9_clash, .selects RX9 yX9_clash yX9_clash, .methodLink RX9 182 yX9_memberRing, .instanceMethod yX9_memberRing, .selects RX9 yX9_memberRing yX9_memberRing, .methodLink RX9 150 yX9_has, .instanceMethod yX9_has, .selects RX9 yX9_has yX9_has] : List Cond) ++ (wsX90 ++ (wq_w_addNeeds_more ++ (wq_w_clash_more ++ (wq_w_memberRing_more ++ (wq_w_has)))))
theorem in_w_addWanted_X9 : ∀ w ∈ wsX90, w ∈ wq_w_addWanted := fun _ h => List.mem_append_right _ (List.mem_append_left _ (h))
set_option maxRecDepth 20000 in
theorem wi_w_addWanted : ∀ w ∈ wq_w_addWanted, w ∈ lw_tbl := List.forall_mem_append.mpr ⟨(wix [1078, 873, 881, 880, 879, 1059, 1061, 41, 69, 1063, 1065, 42, 1067, 1069, 43, 1023, 1025, 35] rfl), List.forall_mem_append.mpr ⟨inKX9, List.forall_mem_append.mpr ⟨wi_w_addNeeds_more, List.forall_mem_append.mpr ⟨wi_w_clash_more, List.forall_mem_append.mpr ⟨wi_w_memberRing_more, wi_w_has⟩⟩⟩⟩⟩
set_option maxRecDepth 20000 in
theorem wg_w_addWanted : GoodIn wq_w_addWanted wq_w_addWanted := goodIn_sub (fun _ h => h) (by decide +kernel)
set_option maxRecDepth 20000 in
theorem wc_w_addWanted_w_addNeeds_more_174 : GoodIn wq_w_addWanted (wsV RX9 174 RX9 yX9_addNeeds wq_w_addNeeds_more) := goodIn_app (goodIn_of _ (by decide +kernel)) (fun w h => ⟨List.mem_append_right _ (List.mem_append_right _ (List.mem_append_left _ (h))), (wg_w_addNeeds_more w h).2⟩)
set_option maxRecDepth 20000 in
theorem wc_w_addWanted_w_clash_more_178 : GoodIn wq_w_addWanted (wsV RX9 178 RX9 yX9_clash wq_w_clash_more) := goodIn_app (goodIn_of _ (by decide +kernel)) (fun w h => ⟨List.mem_append_right _ (List.mem_append_right _ (List.mem_append_right _ (List.mem_append_left _ (h)))), (wg_w_clash_more w h).2⟩)
set_option maxRecDepth 20000 in
theorem wc_w_addWanted_w_memberRing_more_182 : GoodIn wq_w_addWanted (wsV RX9 182 RX9 yX9_memberRing wq_w_memberRing_more) := goodIn_app (goodIn_of _ (by decide +kernel)) (fun w h => ⟨List.mem_append_right _ (List.mem_append_right _ (List.mem_append_right _ (List.mem_append_right _ (List.mem_append_left _ (h))))), (wg_w_memberRing_more w h).2⟩)
set_option maxRecDepth 20000 in
theorem wc_w_addWanted_w_has_150 : GoodIn wq_w_addWanted (wsV RX9 150 RX9 yX9_has wq_w_has) := goodIn_app (goodIn_of _ (by decide +kernel)) (fun w h => ⟨List.mem_append_right _ (List.mem_append_right _ (List.mem_append_right _ (List.mem_append_right _ (List.mem_append_right _ (h))))), (wg_w_has w h).2⟩)
def rm_w_addWanted : Room := { frames := 2, cells := 0, slots := 0, locals := 48 }
set_option maxHeartbeats 4000000 in
set_option maxRecDepth 100000 in
theorem c_w_addWanted (l : Launch) (dC : Nat → ClassId) (dI : Nat → Nat → Nat) (h : Nat) (a : Nat → Nat) (k : Nat → ClassId) (F : Nat → Nat → Int32) (V : Nat → Int32) (n b : Nat)  (sz : Nat) (hI0 : InvM n b F V) (hb0 : b + 0 < 2147483648)  : Met l yX9_addWanted wq_w_addWanted rm_w_addWanted (va_Pc [.ref h] (fun U => U.heap.size = sz ∧ va_P (dC, dI) vwCl (mW h a k F V) U.heap ∧ va_K (dC, dI) vwCl (mT k) U ∧ va_D (fun _ => True) (mW h a k F V))) (va_Qv (fun (u : (Nat → Nat → Int32) × (Nat → Int32)) => StM n (b + 0) F V u.1 u.2 ∧ (∀ j : Nat, j ∉ ([27, 28, 29, 31, 32] : List Nat) → u.1 j = F j) ∧ (∀ j : Nat, j ∉ ([] : List Nat) → u.2 j = V j) ∧ ((u.1, u.2) = f_w_addWanted n  F V)) (fun (u : (Nat → Nat → Int32) × (Nat → Int32)) (t : State) => va_P (dC, dI) vwCl (mW h a k u.1 u.2) t.heap ∧ va_D (va_A (mW h a k F V) sz) (mW h a k u.1 u.2)) (va_A (mW h a k F V) sz)) 0 0 (va_A (mW h a k F V) sz) := by
  have hn : n ≤ 40 := hI0.1
  have hI : StM n b F V F V := StM.rf hI0
  have hU : ∀ j : Nat, j ∉ ([27, 28, 29, 31, 32] : List Nat) → F j = F j := fun _ _ => rfl
  have hV : ∀ j : Nat, j ∉ ([] : List Nat) → V j = V j := fun _ _ => rfl
  refine Met.ofW (cc := cX9_addWanted) (maxL := 5) (ret := none) (by decide) rfl ?_
  intro p e s m args below meth c s₁ B hml hv
  obtain ⟨rfl, hsz, hP, hK, hD0⟩ := hv
  have hx := B.exec
  have hb := B.bytes
  have hr := B.returns
  have hts := atoms_spec (ws := wq_w_addWanted) B.pre
  have hown : s.vm.findClass RX9 = some m.cls := findClass_of_methodNamed B.named
  have hlocks := B.notSynchronized
  subst hsz
  have hD := hD0.self (sz := s.heap.size)
  generalize hAe : va_A (mW h a k F V) s.heap.size = A at hD ⊢
  have hA : ∀ q : Nat, s.heap.size ≤ q → A q := fun q h => by rw [← hAe]; exact Or.inr h
  have hS : va_S A s.heap s.heap [] := va_S.rf
  have hl := lv_entry ([.ref h]) (n := 5) (Nat.le_of_ble_eq_true rfl)
  rw [lg_entry_eq]
  generalize (lg_sl ([.ref h]) ++ List.replicate (5 - (lg_sl ([.ref h])).length) Slot.unset).toArray = ls at hl ⊢
  have hl : lv_has ls 5 [(0, .ref h)] := hl
  refine mw_Q (fun Q0 hQ => ?_)
  obtain ⟨RES, hR0⟩ : ∃ R9, R9 = f_w_addWanted n  F V := ⟨_, rfl⟩
  have hZ9 := hR0
  unfold f_w_addWanted at hZ9
  refine lv_iconst (v := 1) hx hb dX9_addWanted_0 (by decide) ?_
  refine lv_istore_n (lv' := [(1, .int 1), (0, .ref h)]) hx hb dX9_addWanted_1 rfl hl (by decide) rfl (fun ls hl => ?_)
  obtain ⟨K9_2, hK9_2, hZ9⟩ := lp_gen hZ9
  have lp4 : ∀ (fu2 i1 : Nat) (y7 : Int32) (F5 : Nat → Nat → Int32) (V6 : Nat → Int32) (H : Heap) (locs : List Loc) (ls : Array Slot), 41 < i1 + fu2 → i1 ≤ 41 → StM n (b) F V F5 V6 → (∀ j : Nat, j ∉ ([27, 28, 29, 31, 32] : List Nat) → F5 j = F j) → (∀ j : Nat, j ∉ ([] : List Nat) → V6 j = V j) → (¬ y7 = 0 → i1 + zc (F5 29) 40 ≤ 40) → RES = f_w_addWanted_2 n  fu2 i1 y7 F5 V6 K9_2 → va_P (dC, dI) vwCl (mW h a k F5 V6) H → va_D A (mW h a k F5 V6) → va_S A s.heap H locs → lv_has ls 5 [(1, .int y7), (0, .ref h)] → W p l e (headSpec wq_w_addWanted rm_w_addWanted).room s m ([.ref h] : List Value).toArray below meth c H locs 0 0 Q0 (F0 m 2 ls []) := by
    intro fu2
    induction fu2 with
    | zero =>
      intro i1 y7 F5 V6 H locs ls hf hi
      exact absurd hf (by omega)
    | succ fu2 ih3 =>
      intro i1 y7 F5 V6 H locs ls hfi1 hii1 hI hU hV hEi1 hZ9 hP hD hS hl
      rw [f_w_addWanted_2] at hZ9
      refine lv_iload_n hx hb dX9_addWanted_2 rfl (lv_at hl 0 rfl) ?_
      refine lv_if_eq (tgt := 205) hx hb dX9_addWanted_3 (by decide) (fun c8 => ?_) (fun c8 => ?_)
      · replace hZ9 := ite_t hZ9 c8
        replace hZ9 := lp_app4 hK9_2 hZ9
        rw [hQ]
        exact W.vret hx hb hr (fun t ht hW => ⟨⟨(F5, V6), rfl, ⟨hI.mono (by omega), hU, hV, hZ9.symm.trans hR0⟩, by rw [ht]; exact hP, hD⟩, hS.F ht⟩) hS.2.2 dX9_addWanted_205
      · replace hZ9 := ite_f hZ9 c8
        have hz0 := hEi1 c8
        refine lv_iconst (v := 0) hx hb dX9_addWanted_6 (by decide) ?_
        refine lv_istore_n (lv' := [(1, .int 0), (0, .ref h)]) hx hb dX9_addWanted_7 rfl hl (by decide) rfl (fun ls hl => ?_)
        refine lv_iconst (v := (-1)) hx hb dX9_addWanted_8 (by decide) ?_
        refine lv_istore_n (lv' := [(2, .int (-1)), (1, .int 0), (0, .ref h)]) hx hb dX9_addWanted_9 rfl hl (by decide) rfl (fun ls hl => ?_)
        refine lv_aload_n hx hb dX9_addWanted_10 rfl (lv_at hl 2 rfl) ?_
        refine va_get (D := (dC, dI)) (ci := 10) (v := .int (V6 21)) (C := RX9) (T := TX9) (N := 46) hx hb hts in_w_addWanted_X9 hown hK hP 0 rfl rfl 21 (by decide) (hts (.fieldLink RX9 126 "ServiceTreeModel" "services" "I") (by decide +kernel)) (fun _ h9 => h9) rfl dX9_addWanted_11 ?_
        refine p1_topr (v := .int (nI n)) (congrArg Value.int hI.1.2.1) ?_
        refine lv_iconst (v := 1) hx hb dX9_addWanted_14 (by decide) ?_
        refine lv_isub hx hb dX9_addWanted_15 ?_
        refine lv_topi (fun x9 ex9 => ?_)
        replace hZ9 := bnd_s hZ9 ex9
        obtain rfl : x9 = nI n + (-1) := ex9.trans (Int32.sub_eq_add_neg _ _)
        refine lv_istore_n (lv' := [(3, .int (nI n + (-1))), (2, .int (-1)), (1, .int 0), (0, .ref h)]) hx hb dX9_addWanted_16 rfl hl (by decide) rfl (fun ls hl => ?_)
        obtain ⟨K9_17, hK9_17, hZ9⟩ := lp_gen hZ9
        have lp13 : ∀ (fu11 i10 : Nat) (y14 : Int32) (H : Heap) (locs : List Loc) (ls : Array Slot), i10 < fu11 → i10 ≤ n → (y14 = -1 ∨ ∃ j9 : Nat, j9 < n ∧ y14 = nI j9 ∧ F5 29 (nI j9).toNatClampNeg = 0) → RES = f_w_addWanted_17 n F5 fu11 i10 y14 K9_17 → va_P (dC, dI) vwCl (mW h a k F5 V6) H → va_D A (mW h a k F5 V6) → va_S A s.heap H locs → lv_has ls 5 [(3, .int (nI i10 + (-1))), (2, .int y14), (1, .int 0), (0, .ref h)] → W p l e (headSpec wq_w_addWanted rm_w_addWanted).room s m ([.ref h] : List Value).toArray below meth c H locs 0 0 Q0 (F0 m 17 ls []) := by
          intro fu11
          induction fu11 with
          | zero =>
            intro i10 y14 H locs ls hf hi
            exact absurd hf (by omega)
          | succ fu11 ih12 =>
            intro i10 y14 H locs ls hfi10 hii10 hwai10 hZ9 hP hD hS hl
            rw [f_w_addWanted_17] at hZ9
            refine lv_iload_n hx hb dX9_addWanted_17 rfl (lv_at hl 0 rfl) ?_
            refine lv_if_lt (tgt := 90) hx hb dX9_addWanted_18 (by decide) (fun c15 => ?_) (fun c15 => ?_)
            · replace hZ9 := ite_t hZ9 c15
              replace hZ9 := lp_app2 hK9_17 hZ9
              refine lv_iload_n hx hb dX9_addWanted_90 rfl (lv_at hl 1 rfl) ?_
              refine lv_if_lt (tgt := 202) hx hb dX9_addWanted_91 (by decide) (fun c16 => ?_) (fun c16 => ?_)
              · replace hZ9 := ite_t hZ9 c16
                refine lv_goto (tgt := 2) hx hb dX9_addWanted_202 (by decide) ?_
                exact ih3 (i1 + 1) 0 F5 V6 _ _ _ (by omega) (by omega) (hI.mono (by omega)) hU hV (fun q9 => absurd rfl q9) hZ9 hP hD hS (lv_sub hl [2, 3] rfl)
              · replace hZ9 := ite_f hZ9 c16
                obtain ⟨j17, hj17, ej17, zj17⟩ : ∃ j9 : Nat, j9 < n ∧ y14 = nI j9 ∧ F5 29 (nI j9).toNatClampNeg = 0 := by
                  rcases hwai10 with h9 | h9
                  · exact absurd (by rw [h9]; decide) c16
                  · exact h9
                replace hZ9 := bnd_s hZ9 (show j17 = y14.toNatClampNeg by rw [ej17, nI_clamp (by omega)])
                subst ej17
                refine lv_iconst (v := 1) hx hb dX9_addWanted_94 (by decide) ?_
                refine lv_istore_n (lv' := [(1, .int 1), (3, .int (nI i10 + (-1))), (2, .int (nI j17)), (0, .ref h)]) hx hb dX9_addWanted_95 rfl hl (by decide) rfl (fun ls hl => ?_)
                refine lv_aload_n hx hb dX9_addWanted_96 rfl (lv_at hl 3 rfl) ?_
                refine va_get (D := (dC, dI)) (ci := 10) (v := .ref (a 29)) (C := RX9) (T := TX9) (N := 46) hx hb hts in_w_addWanted_X9 hown hK hP 0 rfl rfl 29 (by decide) (hts (.fieldLink RX9 83 "ServiceTreeModel" "looked" "[Z") (by decide +kernel)) (fun _ h9 => h9) rfl dX9_addWanted_97 ?_
                refine lv_iload_n hx hb dX9_addWanted_100 rfl (lv_at hl 2 rfl) ?_
                refine lv_iconst (v := 1) hx hb dX9_addWanted_101 (by decide) ?_
                refine va_zast (n := 40) (f := F5 29) hx hb hK hP hD hS 25 24 rfl rfl (vp_in_nI (n := j17) (by omega) (by decide)) dX9_addWanted_102 (fun H locs hP hD hS => ?_)
                rw [mW_set_29] at hP hD
                obtain ⟨F18, eF18⟩ : ∃ f9 : Nat → Nat → Int32, f9 = va_up F5 29 (upd (F5 29) (nI j17).toNatClampNeg (vp_nar .boolean 1)) := ⟨_, rfl⟩
                rw [← eF18] at hP hD
                replace hZ9 := bnd_s hZ9 eF18
                replace hI : StM n (b) F V F18 V6 := ⟨by rw [eF18]; exact hI.1.setF (by decide), trivial⟩
                replace hU : ∀ j : Nat, j ∉ ([27, 28, 29, 31, 32] : List Nat) → F18 j = F j := by rw [eF18]; exact mw_up (by decide) hU
                have hlt : zc (F18 29) 40 < zc (F5 29) 40 := by rw [eF18, va_up_self]; exact zc_lt zj17 (by decide) 40 (by rw [nI_clamp (by omega)]; omega)
                have t29 : F18 29 = F18 29 := rfl
                refine lv_iconst (v := 0) hx hb dX9_addWanted_103 (by decide) ?_
                refine lv_istore_n (lv' := [(3, .int 0), (1, .int 1), (2, .int (nI j17)), (0, .ref h)]) hx hb dX9_addWanted_104 rfl hl (by decide) rfl (fun ls hl => ?_)
                obtain ⟨K9_105, hK9_105, hZ9⟩ := lp_gen hZ9
                have lp22 : ∀ (fu20 i19 : Nat)  (F23 : Nat → Nat → Int32) (V24 : Nat → Int32) (H : Heap) (locs : List Loc) (ls : Array Slot), n < i19 + fu20 → i19 ≤ n → StM n (b) F V F23 V24 → (∀ j : Nat, j ∉ ([27, 28, 29, 31, 32] : List Nat) → F23 j = F j) → (∀ j : Nat, j ∉ ([] : List Nat) → V24 j = V j) → F23 29 = F18 29 → RES = f_w_addWanted_105 n j17 fu20 i19 F23 V24 K9_105 → va_P (dC, dI) vwCl (mW h a k F23 V24) H → va_D A (mW h a k F23 V24) → va_S A s.heap H locs → lv_has ls 5 [(3, .int (nI i19)), (1, .int 1), (2, .int (nI j17)), (0, .ref h)] → W p l e (headSpec wq_w_addWanted rm_w_addWanted).room s m ([.ref h] : List Value).toArray below meth c H locs 0 0 Q0 (F0 m 105 ls []) := by
                  intro fu20
                  induction fu20 with
                  | zero =>
                    intro i19  F23 V24 H locs ls hf hi
                    exact absurd hf (by omega)
                  | succ fu20 ih21 =>
                    intro i19  F23 V24 H locs ls hfi19 hii19 hI hU hV t29qi19 hZ9 hP hD hS hl
                    rw [f_w_addWanted_105] at hZ9
                    have t29 := t29qi19
                    refine lv_iload_n hx hb dX9_addWanted_105 rfl (lv_at hl 0 rfl) ?_
                    refine lv_aload_n hx hb dX9_addWanted_106 rfl (lv_at hl 3 rfl) ?_
                    refine va_get (D := (dC, dI)) (ci := 10) (v := .int (V24 21)) (C := RX9) (T := TX9) (N := 46) hx hb hts in_w_addWanted_X9 hown hK hP 0 rfl rfl 21 (by decide) (hts (.fieldLink RX9 126 "ServiceTreeModel" "services" "I") (by decide +kernel)) (fun _ h9 => h9) rfl dX9_addWanted_107 ?_
                    refine p1_topr (v := .int (nI n)) (congrArg Value.int hI.1.2.1) ?_
                    refine lv_icmp_ge (tgt := 144) hx hb dX9_addWanted_110 (by decide) (fun c25 => ?_) (fun c25 => ?_)
                    · replace c25 : n ≤ i19 := (nI_leI (a := n) (b := i19) (by omega) (by omega)).mp c25
                      replace hZ9 := ite_t hZ9 c25
                      replace hZ9 := lp_app3 hK9_105 hZ9
                      refine lv_aload_n hx hb dX9_addWanted_144 rfl (lv_at hl 3 rfl) ?_
                      refine lv_aload_n hx hb dX9_addWanted_145 rfl (lv_at hl 3 rfl) ?_
                      refine va_get (D := (dC, dI)) (ci := 10) (v := .ref (a 28)) (C := RX9) (T := TX9) (N := 46) hx hb hts in_w_addWanted_X9 hown hK hP 0 rfl rfl 28 (by decide) (hts (.fieldLink RX9 80 "ServiceTreeModel" "more" "[Z") (by decide +kernel)) (fun _ h9 => h9) rfl dX9_addWanted_146 ?_
                      have hFc := mw_free hD hS hA
                      refine va_callv (va_runV (As := [.ref (a 28)]) (rest := []) ⟨hx, hb, hml, hown, hts⟩ (c_w_addNeeds_more l dC dI h a k F23 V24 n (b)  H.size hI.1 (by omega) ) (cwV 1 hts wc_w_addWanted_w_addNeeds_more_174 rfl rfl rfl (by decide +kernel) ⟨Nat.le_of_ble_eq_true rfl, Nat.le_of_ble_eq_true rfl⟩) ⟨fun a9 U g mk q => by obtain ⟨q0, q1, qP, qK, qD⟩ := q; exact ⟨q0, q1, qP, va_K.moved (u := U) (U := U.calling g mk a9) (Vm.Alike.refl U.vm) qK, qD⟩, va_recv hK hP (ci := 10) (q0 := 0) rfl rfl, fun U hU hW => ⟨rfl, by rw [hU], by rw [hU]; exact hP, va_K.moved hW.alike hK, hD.weaken (fun _ _ _ _ => trivial)⟩⟩ rfl rfl hl.1 rfl (lv_room (Nat.le_of_ble_eq_true rfl)) dX9_addWanted_149 ⟨Nat.le_of_ble_eq_true rfl, Nat.le_of_ble_eq_true rfl⟩) hS (fun q _ h => hFc q h) hFc (fun u t H1 locs ht hvm hw hB hz1 hk1 hS => ?_)
                      obtain ⟨F27, V28⟩ := u
                      replace hP := hB.1
                      rw [ht] at hP
                      replace hD : va_D A (mW h a k F27 V28) := hB.2.weaken (fun _ q _ h9 => hFc q.1 h9)
                      clear hB
                      generalize H1 = H at hP hS ⊢
                      replace hP : va_P (dC, dI) vwCl (mW h a k F27 V28) H := hP
                      obtain ⟨hwI, hwU, hwV, hw⟩ := hw
                      replace hU : ∀ j : Nat, j ∉ ([27, 28, 29, 31, 32] : List Nat) → F27 j = F j := mw_tr (by decide) hwU hU
                      replace hV : ∀ j : Nat, j ∉ ([] : List Nat) → V28 j = V j := mw_tr (by decide) hwV hV
                      replace hI : StM n (b + 0) F V F27 V28 := hI.trans hwI
                      replace t29 : F27 29 = F18 29 := (hwU 29 (by decide)).trans t29
                      replace hI : StM n (b) F V F27 V28 := hI
                      replace hw : (F27, V28) = f_w_addNeeds_more n  F23 V24 := hw
                      replace hZ9 := bn2_s hZ9 hw
                      refine lv_aload_n hx hb dX9_addWanted_152 rfl (lv_at hl 3 rfl) ?_
                      refine lv_aload_n hx hb dX9_addWanted_153 rfl (lv_at hl 3 rfl) ?_
                      refine va_get (D := (dC, dI)) (ci := 10) (v := .ref (a 28)) (C := RX9) (T := TX9) (N := 46) hx hb hts in_w_addWanted_X9 hown hK hP 0 rfl rfl 28 (by decide) (hts (.fieldLink RX9 80 "ServiceTreeModel" "more" "[Z") (by decide +kernel)) (fun _ h9 => h9) rfl dX9_addWanted_154 ?_
                      have hFc := mw_free hD hS hA
                      refine va_calli (va_runV (As := [.ref (a 28)]) (rest := []) ⟨hx, hb, hml, hown, hts⟩ (c_w_clash_more l dC dI h a k F27 V28 n (b)  H.size hI.1 (by omega) ) (cwV 1 hts wc_w_addWanted_w_clash_more_178 rfl rfl rfl (by decide +kernel) ⟨Nat.le_of_ble_eq_true rfl, Nat.le_of_ble_eq_true rfl⟩) ⟨fun a9 U g mk q => by obtain ⟨q0, q1, qP, qK, qD⟩ := q; exact ⟨q0, q1, qP, va_K.moved (u := U) (U := U.calling g mk a9) (Vm.Alike.refl U.vm) qK, qD⟩, va_recv hK hP (ci := 10) (q0 := 0) rfl rfl, fun U hU hW => ⟨rfl, by rw [hU], by rw [hU]; exact hP, va_K.moved hW.alike hK, hD.weaken (fun _ _ _ _ => trivial)⟩⟩ rfl rfl hl.1 rfl (lv_room (Nat.le_of_ble_eq_true rfl)) dX9_addWanted_157 ⟨Nat.le_of_ble_eq_true rfl, Nat.le_of_ble_eq_true rfl⟩) hS (fun q _ h => hFc q h) hFc (fun r29 u t H1 locs ht hvm hw hB hz1 hk1 hS => ?_)
                      obtain ⟨F30, V31⟩ := u
                      replace hP := hB.1
                      rw [ht] at hP
                      replace hD : va_D A (mW h a k F30 V31) := hB.2.weaken (fun _ q _ h9 => hFc q.1 h9)
                      clear hB
                      generalize H1 = H at hP hS ⊢
                      replace hP : va_P (dC, dI) vwCl (mW h a k F30 V31) H := hP
                      obtain ⟨hwF, hwV, hw⟩ : F30 = F27 ∧ V31 = V28 ∧ _ := hw
                      rw [hwF, hwV] at hP hD
                      obtain ⟨hw, hwe⟩ := hw
                      replace hw : r29 = f_w_clash_more n  F27 := hw
                      replace hZ9 := bnd_s hZ9 hw
                      have br29 := hwe
                      refine lv_if_ne (tgt := 202) hx hb dX9_addWanted_160 (by decide) (fun c32 => ?_) (fun c32 => ?_)
                      · replace hZ9 := ite_f hZ9 c32
                        refine lv_goto (tgt := 2) hx hb dX9_addWanted_202 (by decide) ?_
                        exact ih3 (i1 + 1) 1 F27 V28 _ _ _ (by omega) (by omega) (hI.mono (by omega)) hU hV (fun _ => (show i1 + 1 + zc (F27 29) 40 ≤ 40 by rw [t29]; omega)) hZ9 hP hD hS (lv_sub hl [1, 3] rfl)
                      · replace hZ9 := ite_t hZ9 c32
                        refine lv_aload_n hx hb dX9_addWanted_163 rfl (lv_at hl 3 rfl) ?_
                        refine lv_aload_n hx hb dX9_addWanted_164 rfl (lv_at hl 3 rfl) ?_
                        refine va_get (D := (dC, dI)) (ci := 10) (v := .ref (a 28)) (C := RX9) (T := TX9) (N := 46) hx hb hts in_w_addWanted_X9 hown hK hP 0 rfl rfl 28 (by decide) (hts (.fieldLink RX9 80 "ServiceTreeModel" "more" "[Z") (by decide +kernel)) (fun _ h9 => h9) rfl dX9_addWanted_165 ?_
                        have hFc := mw_free hD hS hA
                        refine va_calli (va_runV (As := [.ref (a 28)]) (rest := []) ⟨hx, hb, hml, hown, hts⟩ (c_w_memberRing_more l dC dI h a k F27 V28 n (b)  H.size hI.1 (by omega) ) (cwV 1 hts wc_w_addWanted_w_memberRing_more_182 rfl rfl rfl (by decide +kernel) ⟨Nat.le_of_ble_eq_true rfl, Nat.le_of_ble_eq_true rfl⟩) ⟨fun a9 U g mk q => by obtain ⟨q0, q1, qP, qK, qD⟩ := q; exact ⟨q0, q1, qP, va_K.moved (u := U) (U := U.calling g mk a9) (Vm.Alike.refl U.vm) qK, qD⟩, va_recv hK hP (ci := 10) (q0 := 0) rfl rfl, fun U hU hW => ⟨rfl, by rw [hU], by rw [hU]; exact hP, va_K.moved hW.alike hK, hD.weaken (fun _ _ _ _ => trivial)⟩⟩ rfl rfl hl.1 rfl (lv_room (Nat.le_of_ble_eq_true rfl)) dX9_addWanted_168 ⟨Nat.le_of_ble_eq_true rfl, Nat.le_of_ble_eq_true rfl⟩) hS (fun q _ h => hFc q h) hFc (fun r33 u t H1 locs ht hvm hw hB hz1 hk1 hS => ?_)
                        obtain ⟨F34, V35⟩ := u
                        replace hP := hB.1
                        rw [ht] at hP
                        replace hD : va_D A (mW h a k F34 V35) := hB.2.weaken (fun _ q _ h9 => hFc q.1 h9)
                        clear hB
                        generalize H1 = H at hP hS ⊢
                        replace hP : va_P (dC, dI) vwCl (mW h a k F34 V35) H := hP
                        obtain ⟨hwI, hwU, hwV, hw⟩ := hw
                        replace hU : ∀ j : Nat, j ∉ ([27, 28, 29, 31, 32] : List Nat) → F34 j = F j := mw_tr (by decide) hwU hU
                        replace hV : ∀ j : Nat, j ∉ ([] : List Nat) → V35 j = V j := mw_tr (by decide) hwV hV
                        replace hI : StM n (b + 0) F V F34 V35 := hI.trans hwI
                        replace t29 : F34 29 = F18 29 := (hwU 29 (by decide)).trans t29
                        replace hI : StM n (b) F V F34 V35 := hI
                        replace hw : (r33, F34, V35) = f_w_memberRing_more n  F27 V28 := hw
                        replace hZ9 := bn3_s hZ9 hw
                        refine lv_if_ne (tgt := 202) hx hb dX9_addWanted_171 (by decide) (fun c36 => ?_) (fun c36 => ?_)
                        · replace hZ9 := ite_f hZ9 c36
                          refine lv_goto (tgt := 2) hx hb dX9_addWanted_202 (by decide) ?_
                          exact ih3 (i1 + 1) 1 F34 V35 _ _ _ (by omega) (by omega) (hI.mono (by omega)) hU hV (fun _ => (show i1 + 1 + zc (F34 29) 40 ≤ 40 by rw [t29]; omega)) hZ9 hP hD hS (lv_sub hl [1, 3] rfl)
                        · replace hZ9 := ite_t hZ9 c36
                          refine lv_iconst (v := 0) hx hb dX9_addWanted_174 (by decide) ?_
                          refine lv_istore_n (lv' := [(3, .int 0), (1, .int 1), (2, .int (nI j17)), (0, .ref h)]) hx hb dX9_addWanted_175 rfl hl (by decide) rfl (fun ls hl => ?_)
                          obtain ⟨K9_176, hK9_176, hZ9⟩ := lp_gen hZ9
                          have lp40 : ∀ (fu38 i37 : Nat)  (F41 : Nat → Nat → Int32) (V42 : Nat → Int32) (H : Heap) (locs : List Loc) (ls : Array Slot), n < i37 + fu38 → i37 ≤ n → StM n (b) F V F41 V42 → (∀ j : Nat, j ∉ ([27, 28, 29, 31, 32] : List Nat) → F41 j = F j) → (∀ j : Nat, j ∉ ([] : List Nat) → V42 j = V j) → F41 29 = F18 29 → RES = f_w_addWanted_176 n  fu38 i37 F41 V42 K9_176 → va_P (dC, dI) vwCl (mW h a k F41 V42) H → va_D A (mW h a k F41 V42) → va_S A s.heap H locs → lv_has ls 5 [(3, .int (nI i37)), (1, .int 1), (2, .int (nI j17)), (0, .ref h)] → W p l e (headSpec wq_w_addWanted rm_w_addWanted).room s m ([.ref h] : List Value).toArray below meth c H locs 0 0 Q0 (F0 m 176 ls []) := by
                            intro fu38
                            induction fu38 with
                            | zero =>
                              intro i37  F41 V42 H locs ls hf hi
                              exact absurd hf (by omega)
                            | succ fu38 ih39 =>
                              intro i37  F41 V42 H locs ls hfi37 hii37 hI hU hV t29qi37 hZ9 hP hD hS hl
                              rw [f_w_addWanted_176] at hZ9
                              have t29 := t29qi37
                              refine lv_iload_n hx hb dX9_addWanted_176 rfl (lv_at hl 0 rfl) ?_
                              refine lv_aload_n hx hb dX9_addWanted_177 rfl (lv_at hl 3 rfl) ?_
                              refine va_get (D := (dC, dI)) (ci := 10) (v := .int (V42 21)) (C := RX9) (T := TX9) (N := 46) hx hb hts in_w_addWanted_X9 hown hK hP 0 rfl rfl 21 (by decide) (hts (.fieldLink RX9 126 "ServiceTreeModel" "services" "I") (by decide +kernel)) (fun _ h9 => h9) rfl dX9_addWanted_178 ?_
                              refine p1_topr (v := .int (nI n)) (congrArg Value.int hI.1.2.1) ?_
                              refine lv_icmp_ge (tgt := 202) hx hb dX9_addWanted_181 (by decide) (fun c43 => ?_) (fun c43 => ?_)
                              · replace c43 : n ≤ i37 := (nI_leI (a := n) (b := i37) (by omega) (by omega)).mp c43
                                replace hZ9 := ite_t hZ9 c43
                                replace hZ9 := lp_app3 hK9_176 hZ9
                                refine lv_goto (tgt := 2) hx hb dX9_addWanted_202 (by decide) ?_
                                exact ih3 (i1 + 1) 1 F41 V42 _ _ _ (by omega) (by omega) (hI.mono (by omega)) hU hV (fun _ => (show i1 + 1 + zc (F41 29) 40 ≤ 40 by rw [t29]; omega)) hZ9 hP hD hS (lv_sub hl [1, 3] rfl)
                              · replace c43 : ¬ (n ≤ i37) := fun q9 => c43 ((nI_leI (a := n) (b := i37) (by omega) (by omega)).mpr q9)
                                replace hZ9 := ite_f hZ9 c43
                                refine lv_aload_n hx hb dX9_addWanted_184 rfl (lv_at hl 3 rfl) ?_
                                refine va_get (D := (dC, dI)) (ci := 10) (v := .ref (a 27)) (C := RX9) (T := TX9) (N := 46) hx hb hts in_w_addWanted_X9 hown hK hP 0 rfl rfl 27 (by decide) (hts (.fieldLink RX9 77 "ServiceTreeModel" "member" "[Z") (by decide +kernel)) (fun _ h9 => h9) rfl dX9_addWanted_185 ?_
                                refine lv_iload_n hx hb dX9_addWanted_188 rfl (lv_at hl 0 rfl) ?_
                                refine lv_aload_n hx hb dX9_addWanted_189 rfl (lv_at hl 3 rfl) ?_
                                refine va_get (D := (dC, dI)) (ci := 10) (v := .ref (a 28)) (C := RX9) (T := TX9) (N := 46) hx hb hts in_w_addWanted_X9 hown hK hP 0 rfl rfl 28 (by decide) (hts (.fieldLink RX9 80 "ServiceTreeModel" "more" "[Z") (by decide +kernel)) (fun _ h9 => h9) rfl dX9_addWanted_190 ?_
                                refine lv_iload_n hx hb dX9_addWanted_193 rfl (lv_at hl 0 rfl) ?_
                                refine va_zald (n := 40) (f := F41 28) hx hb hK hP 24 23 rfl rfl (vp_in_nI (n := i37) (by omega) (by decide)) dX9_addWanted_194 ?_
                                refine lv_topi (fun x44 ex44 => ?_)
                                replace hZ9 := bnd_s hZ9 ex44
                                refine va_zast (n := 40) (f := F41 27) hx hb hK hP hD hS 23 22 rfl rfl (vp_in_nI (n := i37) (by omega) (by decide)) dX9_addWanted_195 (fun H locs hP hD hS => ?_)
                                rw [mW_set_27] at hP hD
                                obtain ⟨F45, eF45⟩ : ∃ f9 : Nat → Nat → Int32, f9 = va_up F41 27 (upd (F41 27) (nI i37).toNatClampNeg (vp_nar .boolean x44)) := ⟨_, rfl⟩
                                rw [← eF45] at hP hD
                                replace hZ9 := bnd_s hZ9 eF45
                                replace hI : StM n (b) F V F45 V42 := ⟨by rw [eF45]; exact hI.1.setF (by decide), trivial⟩
                                replace hU : ∀ j : Nat, j ∉ ([27, 28, 29, 31, 32] : List Nat) → F45 j = F j := by rw [eF45]; exact mw_up (by decide) hU
                                replace t29 : F45 29 = F18 29 := by rw [eF45]; exact (va_up_ne _ _ (by decide)).trans t29
                                refine lv_iinc (v := nI (i37 + 1)) (lv' := [(3, .int (nI (i37 + 1))), (1, .int 1), (2, .int (nI j17)), (0, .ref h)]) hx hb dX9_addWanted_196 hl (k := 0) rfl (nI_add i37 1) (by decide) rfl (fun ls hl => ?_)
                                refine lv_goto (tgt := 176) hx hb dX9_addWanted_199 (by decide) ?_
                                exact ih39 (i37 + 1)  F45 V42 _ _ _ (by omega) (by omega) (hI.mono (by omega)) hU hV t29 hZ9 hP hD hS (lv_sub hl [0, 1, 2, 3] rfl)
                          exact lp40 (n + 1) 0  F34 V35 _ _ _ (by omega) (by omega) (hI.mono (by omega)) hU hV t29 hZ9 hP hD hS hl
                    · replace c25 : ¬ (n ≤ i19) := fun q9 => c25 ((nI_leI (a := n) (b := i19) (by omega) (by omega)).mpr q9)
                      replace hZ9 := ite_f hZ9 c25
                      refine lv_aload_n hx hb dX9_addWanted_113 rfl (lv_at hl 3 rfl) ?_
                      refine va_get (D := (dC, dI)) (ci := 10) (v := .ref (a 28)) (C := RX9) (T := TX9) (N := 46) hx hb hts in_w_addWanted_X9 hown hK hP 0 rfl rfl 28 (by decide) (hts (.fieldLink RX9 80 "ServiceTreeModel" "more" "[Z") (by decide +kernel)) (fun _ h9 => h9) rfl dX9_addWanted_114 ?_
                      refine lv_iload_n hx hb dX9_addWanted_117 rfl (lv_at hl 0 rfl) ?_
                      refine lv_aload_n hx hb dX9_addWanted_118 rfl (lv_at hl 3 rfl) ?_
                      refine va_get (D := (dC, dI)) (ci := 10) (v := .ref (a 27)) (C := RX9) (T := TX9) (N := 46) hx hb hts in_w_addWanted_X9 hown hK hP 0 rfl rfl 27 (by decide) (hts (.fieldLink RX9 77 "ServiceTreeModel" "member" "[Z") (by decide +kernel)) (fun _ h9 => h9) rfl dX9_addWanted_119 ?_
                      refine lv_iload_n hx hb dX9_addWanted_122 rfl (lv_at hl 0 rfl) ?_
                      refine va_zald (n := 40) (f := F23 27) hx hb hK hP 23 22 rfl rfl (vp_in_nI (n := i19) (by omega) (by decide)) dX9_addWanted_123 ?_
                      refine lv_topi (fun x46 ex46 => ?_)
                      replace hZ9 := bnd_s hZ9 ex46
                      refine lv_if_ne (tgt := 132) hx hb dX9_addWanted_124 (by decide) (fun c47 => ?_) (fun c47 => ?_)
                      · replace hZ9 := ite_f hZ9 c47
                        refine lv_iconst (v := 1) hx hb dX9_addWanted_132 (by decide) ?_
                        refine lv_goto (tgt := 137) hx hb dX9_addWanted_133 (by decide) ?_
                        refine va_zast (n := 40) (f := F23 28) hx hb hK hP hD hS 24 23 rfl rfl (vp_in_nI (n := i19) (by omega) (by decide)) dX9_addWanted_137 (fun H locs hP hD hS => ?_)
                        rw [mW_set_28] at hP hD
                        obtain ⟨F48, eF48⟩ : ∃ f9 : Nat → Nat → Int32, f9 = va_up F23 28 (upd (F23 28) (nI i19).toNatClampNeg (vp_nar .boolean 1)) := ⟨_, rfl⟩
                        rw [← eF48] at hP hD
                        replace hZ9 := bnd_s hZ9 eF48
                        replace hI : StM n (b) F V F48 V24 := ⟨by rw [eF48]; exact hI.1.setF (by decide), trivial⟩
                        replace hU : ∀ j : Nat, j ∉ ([27, 28, 29, 31, 32] : List Nat) → F48 j = F j := by rw [eF48]; exact mw_up (by decide) hU
                        replace t29 : F48 29 = F18 29 := by rw [eF48]; exact (va_up_ne _ _ (by decide)).trans t29
                        refine lv_iinc (v := nI (i19 + 1)) (lv' := [(3, .int (nI (i19 + 1))), (1, .int 1), (2, .int (nI j17)), (0, .ref h)]) hx hb dX9_addWanted_138 hl (k := 0) rfl (nI_add i19 1) (by decide) rfl (fun ls hl => ?_)
                        refine lv_goto (tgt := 105) hx hb dX9_addWanted_141 (by decide) ?_
                        exact ih21 (i19 + 1)  F48 V24 _ _ _ (by omega) (by omega) (hI.mono (by omega)) hU hV t29 hZ9 hP hD hS (lv_sub hl [0, 1, 2, 3] rfl)
                      · replace hZ9 := ite_t hZ9 c47
                        refine lv_iload_n hx hb dX9_addWanted_127 rfl (lv_at hl 0 rfl) ?_
                        refine lv_iload_n hx hb dX9_addWanted_128 rfl (lv_at hl 2 rfl) ?_
                        refine lv_icmp_ne (tgt := 136) hx hb dX9_addWanted_129 (by decide) (fun c49 => ?_) (fun c49 => ?_)
                        · replace c49 : ¬ (i19 = j17) := fun q9 => c49 ((nI_eq (a := i19) (b := j17) (by omega) (by omega)).mpr q9)
                          replace hZ9 := ite_f hZ9 c49
                          refine lv_iconst (v := 0) hx hb dX9_addWanted_136 (by decide) ?_
                          refine va_zast (n := 40) (f := F23 28) hx hb hK hP hD hS 24 23 rfl rfl (vp_in_nI (n := i19) (by omega) (by decide)) dX9_addWanted_137 (fun H locs hP hD hS => ?_)
                          rw [mW_set_28] at hP hD
                          obtain ⟨F50, eF50⟩ : ∃ f9 : Nat → Nat → Int32, f9 = va_up F23 28 (upd (F23 28) (nI i19).toNatClampNeg (vp_nar .boolean 0)) := ⟨_, rfl⟩
                          rw [← eF50] at hP hD
                          replace hZ9 := bnd_s hZ9 eF50
                          replace hI : StM n (b) F V F50 V24 := ⟨by rw [eF50]; exact hI.1.setF (by decide), trivial⟩
                          replace hU : ∀ j : Nat, j ∉ ([27, 28, 29, 31, 32] : List Nat) → F50 j = F j := by rw [eF50]; exact mw_up (by decide) hU
                          replace t29 : F50 29 = F18 29 := by rw [eF50]; exact (va_up_ne _ _ (by decide)).trans t29
                          refine lv_iinc (v := nI (i19 + 1)) (lv' := [(3, .int (nI (i19 + 1))), (1, .int 1), (2, .int (nI j17)), (0, .ref h)]) hx hb dX9_addWanted_138 hl (k := 0) rfl (nI_add i19 1) (by decide) rfl (fun ls hl => ?_)
                          refine lv_goto (tgt := 105) hx hb dX9_addWanted_141 (by decide) ?_
                          exact ih21 (i19 + 1)  F50 V24 _ _ _ (by omega) (by omega) (hI.mono (by omega)) hU hV t29 hZ9 hP hD hS (lv_sub hl [0, 1, 2, 3] rfl)
                        · replace c49 : i19 = j17 := (nI_eq (a := i19) (b := j17) (by omega) (by omega)).mp c49
                          replace hZ9 := ite_t hZ9 c49
                          refine lv_iconst (v := 1) hx hb dX9_addWanted_132 (by decide) ?_
                          refine lv_goto (tgt := 137) hx hb dX9_addWanted_133 (by decide) ?_
                          refine va_zast (n := 40) (f := F23 28) hx hb hK hP hD hS 24 23 rfl rfl (vp_in_nI (n := i19) (by omega) (by decide)) dX9_addWanted_137 (fun H locs hP hD hS => ?_)
                          rw [mW_set_28] at hP hD
                          obtain ⟨F51, eF51⟩ : ∃ f9 : Nat → Nat → Int32, f9 = va_up F23 28 (upd (F23 28) (nI i19).toNatClampNeg (vp_nar .boolean 1)) := ⟨_, rfl⟩
                          rw [← eF51] at hP hD
                          replace hZ9 := bnd_s hZ9 eF51
                          replace hI : StM n (b) F V F51 V24 := ⟨by rw [eF51]; exact hI.1.setF (by decide), trivial⟩
                          replace hU : ∀ j : Nat, j ∉ ([27, 28, 29, 31, 32] : List Nat) → F51 j = F j := by rw [eF51]; exact mw_up (by decide) hU
                          replace t29 : F51 29 = F18 29 := by rw [eF51]; exact (va_up_ne _ _ (by decide)).trans t29
                          refine lv_iinc (v := nI (i19 + 1)) (lv' := [(3, .int (nI (i19 + 1))), (1, .int 1), (2, .int (nI j17)), (0, .ref h)]) hx hb dX9_addWanted_138 hl (k := 0) rfl (nI_add i19 1) (by decide) rfl (fun ls hl => ?_)
                          refine lv_goto (tgt := 105) hx hb dX9_addWanted_141 (by decide) ?_
                          exact ih21 (i19 + 1)  F51 V24 _ _ _ (by omega) (by omega) (hI.mono (by omega)) hU hV t29 hZ9 hP hD hS (lv_sub hl [0, 1, 2, 3] rfl)
                exact lp22 (n + 1) 0  F18 V6 _ _ _ (by omega) (by omega) (hI.mono (by omega)) hU hV t29 hZ9 hP hD hS hl
            · replace hZ9 := ite_f hZ9 c15
              obtain ⟨q52, rfl⟩ : ∃ q9 : Nat, i10 = q9 + 1 := by
                cases i10 with
                | zero => exact absurd (show nI 0 + (-1) < 0 by decide) c15
                | succ q9 => exact ⟨q9, rfl⟩
              replace hZ9 := bnd_s hZ9 (show q52 = q52 + 1 - 1 by omega)
              rw [pk_m1] at hl
              refine lv_iconst (v := 0) hx hb dX9_addWanted_21 (by decide) ?_
              refine lv_istore (lv' := [(4, .int 0), (3, .int (nI q52)), (2, .int y14), (1, .int 0), (0, .ref h)]) hx hb dX9_addWanted_22 hl (by decide) rfl (fun ls hl => ?_)
              obtain ⟨K9_24, hK9_24, hZ9⟩ := lp_gen hZ9
              have lp56 : ∀ (fu54 i53 : Nat) (y57 : Int32) (H : Heap) (locs : List Loc) (ls : Array Slot), n < i53 + fu54 → i53 ≤ n → (y57 = -1 ∨ ∃ j9 : Nat, j9 < n ∧ y57 = nI j9 ∧ F5 29 (nI j9).toNatClampNeg = 0) → RES = f_w_addWanted_24 n F5 q52 fu54 i53 y57 K9_24 → va_P (dC, dI) vwCl (mW h a k F5 V6) H → va_D A (mW h a k F5 V6) → va_S A s.heap H locs → lv_has ls 5 [(4, .int (nI i53)), (3, .int (nI q52)), (2, .int y57), (1, .int 0), (0, .ref h)] → W p l e (headSpec wq_w_addWanted rm_w_addWanted).room s m ([.ref h] : List Value).toArray below meth c H locs 0 0 Q0 (F0 m 24 ls []) := by
                intro fu54
                induction fu54 with
                | zero =>
                  intro i53 y57 H locs ls hf hi
                  exact absurd hf (by omega)
                | succ fu54 ih55 =>
                  intro i53 y57 H locs ls hfi53 hii53 hwai53 hZ9 hP hD hS hl
                  rw [f_w_addWanted_24] at hZ9
                  refine lv_iload hx hb dX9_addWanted_24 (lv_at hl 0 rfl) ?_
                  refine lv_aload_n hx hb dX9_addWanted_26 rfl (lv_at hl 4 rfl) ?_
                  refine va_get (D := (dC, dI)) (ci := 10) (v := .int (V6 21)) (C := RX9) (T := TX9) (N := 46) hx hb hts in_w_addWanted_X9 hown hK hP 0 rfl rfl 21 (by decide) (hts (.fieldLink RX9 126 "ServiceTreeModel" "services" "I") (by decide +kernel)) (fun _ h9 => h9) rfl dX9_addWanted_27 ?_
                  refine p1_topr (v := .int (nI n)) (congrArg Value.int hI.1.2.1) ?_
                  refine lv_icmp_ge (tgt := 84) hx hb dX9_addWanted_30 (by decide) (fun c58 => ?_) (fun c58 => ?_)
                  · replace c58 : n ≤ i53 := (nI_leI (a := n) (b := i53) (by omega) (by omega)).mp c58
                    replace hZ9 := ite_t hZ9 c58
                    replace hZ9 := lp_app2 hK9_24 hZ9
                    refine lv_iinc (v := nI q52 + (-1)) (lv' := [(3, .int (nI q52 + (-1))), (4, .int (nI i53)), (2, .int y57), (1, .int 0), (0, .ref h)]) hx hb dX9_addWanted_84 hl (k := 1) rfl rfl (by decide) rfl (fun ls hl => ?_)
                    refine lv_goto (tgt := 17) hx hb dX9_addWanted_87 (by decide) ?_
                    exact ih12 q52 y57 _ _ _ (by omega) (by omega) (by assumption) hZ9 hP hD hS (lv_sub hl [0, 2, 3, 4] rfl)
                  · replace c58 : ¬ (n ≤ i53) := fun q9 => c58 ((nI_leI (a := n) (b := i53) (by omega) (by omega)).mpr q9)
                    replace hZ9 := ite_f hZ9 c58
                    refine lv_aload_n hx hb dX9_addWanted_33 rfl (lv_at hl 4 rfl) ?_
                    refine va_get (D := (dC, dI)) (ci := 10) (v := .ref (a 27)) (C := RX9) (T := TX9) (N := 46) hx hb hts in_w_addWanted_X9 hown hK hP 0 rfl rfl 27 (by decide) (hts (.fieldLink RX9 77 "ServiceTreeModel" "member" "[Z") (by decide +kernel)) (fun _ h9 => h9) rfl dX9_addWanted_34 ?_
                    refine lv_iload hx hb dX9_addWanted_37 (lv_at hl 0 rfl) ?_
                    refine va_zald (n := 40) (f := F5 27) hx hb hK hP 23 22 rfl rfl (vp_in_nI (n := i53) (by omega) (by decide)) dX9_addWanted_39 ?_
                    refine lv_topi (fun x59 ex59 => ?_)
                    replace hZ9 := bnd_s hZ9 ex59
                    refine lv_if_eq (tgt := 76) hx hb dX9_addWanted_40 (by decide) (fun c60 => ?_) (fun c60 => ?_)
                    · replace hZ9 := ite_t hZ9 c60
                      refine lv_iload_n hx hb dX9_addWanted_76 rfl (lv_at hl 2 rfl) ?_
                      refine lv_istore_n (lv' := [(2, .int y57), (4, .int (nI i53)), (3, .int (nI q52)), (1, .int 0), (0, .ref h)]) hx hb dX9_addWanted_77 rfl hl (by decide) rfl (fun ls hl => ?_)
                      refine lv_iinc (v := nI (i53 + 1)) (lv' := [(4, .int (nI (i53 + 1))), (2, .int y57), (3, .int (nI q52)), (1, .int 0), (0, .ref h)]) hx hb dX9_addWanted_78 hl (k := 1) rfl (nI_add i53 1) (by decide) rfl (fun ls hl => ?_)
                      refine lv_goto (tgt := 24) hx hb dX9_addWanted_81 (by decide) ?_
                      exact ih55 (i53 + 1) y57 _ _ _ (by omega) (by omega) (by assumption) hZ9 hP hD hS (lv_sub hl [0, 2, 1, 3, 4] rfl)
                    · replace hZ9 := ite_f hZ9 c60
                      refine lv_aload_n hx hb dX9_addWanted_43 rfl (lv_at hl 4 rfl) ?_
                      refine lv_iconst (v := 1) hx hb dX9_addWanted_44 (by decide) ?_
                      refine lv_iload hx hb dX9_addWanted_45 (lv_at hl 0 rfl) ?_
                      refine lv_iload_n hx hb dX9_addWanted_47 rfl (lv_at hl 1 rfl) ?_
                      have hFc := mw_free hD hS hA
                      refine va_calli (va_runV (As := [.int 1, .int (nI i53), .int (nI q52)]) (rest := []) ⟨hx, hb, hml, hown, hts⟩ (c_w_has l dC dI h a k F5 V6 n (b) 1 i53 q52 H.size hI.1 (by omega) (by omega) (by omega) (by omega)) (cwV 3 hts wc_w_addWanted_w_has_150 rfl rfl rfl (by decide +kernel) ⟨Nat.le_of_ble_eq_true rfl, Nat.le_of_ble_eq_true rfl⟩) ⟨fun a9 U g mk q => by obtain ⟨q0, q1, qP, qK, qD⟩ := q; exact ⟨q0, q1, qP, va_K.moved (u := U) (U := U.calling g mk a9) (Vm.Alike.refl U.vm) qK, qD⟩, va_recv hK hP (ci := 10) (q0 := 0) rfl rfl, fun U hU hW => ⟨rfl, by rw [hU], by rw [hU]; exact hP, va_K.moved hW.alike hK, hD.weaken (fun _ _ _ _ => trivial)⟩⟩ rfl rfl hl.1 rfl (lv_room (Nat.le_of_ble_eq_true rfl)) dX9_addWanted_48 ⟨Nat.le_of_ble_eq_true rfl, Nat.le_of_ble_eq_true rfl⟩) hS (fun q _ h => hFc q h) hFc (fun r61 u t H1 locs ht hvm hw hB hz1 hk1 hS => ?_)
                      obtain ⟨F62, V63⟩ := u
                      replace hP := hB.1
                      rw [ht] at hP
                      replace hD : va_D A (mW h a k F62 V63) := hB.2.weaken (fun _ q _ h9 => hFc q.1 h9)
                      clear hB
                      generalize H1 = H at hP hS ⊢
                      replace hP : va_P (dC, dI) vwCl (mW h a k F62 V63) H := hP
                      obtain ⟨hwF, hwV, hw⟩ : F62 = F5 ∧ V63 = V6 ∧ _ := hw
                      rw [hwF, hwV] at hP hD
                      obtain ⟨hw, hwe⟩ := hw
                      replace hw : r61 = f_w_has n 1 i53 q52 F5 := hw
                      replace hZ9 := bnd_s hZ9 hw
                      have br61 := hwe
                      refine lv_if_eq (tgt := 76) hx hb dX9_addWanted_51 (by decide) (fun c64 => ?_) (fun c64 => ?_)
                      · replace hZ9 := ite_t hZ9 c64
                        refine lv_iload_n hx hb dX9_addWanted_76 rfl (lv_at hl 2 rfl) ?_
                        refine lv_istore_n (lv' := [(2, .int y57), (4, .int (nI i53)), (3, .int (nI q52)), (1, .int 0), (0, .ref h)]) hx hb dX9_addWanted_77 rfl hl (by decide) rfl (fun ls hl => ?_)
                        refine lv_iinc (v := nI (i53 + 1)) (lv' := [(4, .int (nI (i53 + 1))), (2, .int y57), (3, .int (nI q52)), (1, .int 0), (0, .ref h)]) hx hb dX9_addWanted_78 hl (k := 1) rfl (nI_add i53 1) (by decide) rfl (fun ls hl => ?_)
                        refine lv_goto (tgt := 24) hx hb dX9_addWanted_81 (by decide) ?_
                        exact ih55 (i53 + 1) y57 _ _ _ (by omega) (by omega) (by assumption) hZ9 hP hD hS (lv_sub hl [0, 2, 1, 3, 4] rfl)
                      · replace hZ9 := ite_f hZ9 c64
                        refine lv_aload_n hx hb dX9_addWanted_54 rfl (lv_at hl 4 rfl) ?_
                        refine va_get (D := (dC, dI)) (ci := 10) (v := .ref (a 27)) (C := RX9) (T := TX9) (N := 46) hx hb hts in_w_addWanted_X9 hown hK hP 0 rfl rfl 27 (by decide) (hts (.fieldLink RX9 77 "ServiceTreeModel" "member" "[Z") (by decide +kernel)) (fun _ h9 => h9) rfl dX9_addWanted_55 ?_
                        refine lv_iload_n hx hb dX9_addWanted_58 rfl (lv_at hl 1 rfl) ?_
                        refine va_zald (n := 40) (f := F5 27) hx hb hK hP 23 22 rfl rfl (vp_in_nI (n := q52) (by omega) (by decide)) dX9_addWanted_59 ?_
                        refine lv_topi (fun x65 ex65 => ?_)
                        replace hZ9 := bnd_s hZ9 ex65
                        refine lv_if_ne (tgt := 76) hx hb dX9_addWanted_60 (by decide) (fun c66 => ?_) (fun c66 => ?_)
                        · replace hZ9 := ite_f hZ9 c66
                          refine lv_iload_n hx hb dX9_addWanted_76 rfl (lv_at hl 2 rfl) ?_
                          refine lv_istore_n (lv' := [(2, .int y57), (4, .int (nI i53)), (3, .int (nI q52)), (1, .int 0), (0, .ref h)]) hx hb dX9_addWanted_77 rfl hl (by decide) rfl (fun ls hl => ?_)
                          refine lv_iinc (v := nI (i53 + 1)) (lv' := [(4, .int (nI (i53 + 1))), (2, .int y57), (3, .int (nI q52)), (1, .int 0), (0, .ref h)]) hx hb dX9_addWanted_78 hl (k := 1) rfl (nI_add i53 1) (by decide) rfl (fun ls hl => ?_)
                          refine lv_goto (tgt := 24) hx hb dX9_addWanted_81 (by decide) ?_
                          exact ih55 (i53 + 1) y57 _ _ _ (by omega) (by omega) (by assumption) hZ9 hP hD hS (lv_sub hl [0, 2, 1, 3, 4] rfl)
                        · replace hZ9 := ite_t hZ9 c66
                          refine lv_aload_n hx hb dX9_addWanted_63 rfl (lv_at hl 4 rfl) ?_
                          refine va_get (D := (dC, dI)) (ci := 10) (v := .ref (a 29)) (C := RX9) (T := TX9) (N := 46) hx hb hts in_w_addWanted_X9 hown hK hP 0 rfl rfl 29 (by decide) (hts (.fieldLink RX9 83 "ServiceTreeModel" "looked" "[Z") (by decide +kernel)) (fun _ h9 => h9) rfl dX9_addWanted_64 ?_
                          refine lv_iload_n hx hb dX9_addWanted_67 rfl (lv_at hl 1 rfl) ?_
                          refine va_zald (n := 40) (f := F5 29) hx hb hK hP 25 24 rfl rfl (vp_in_nI (n := q52) (by omega) (by decide)) dX9_addWanted_68 ?_
                          refine lv_topi (fun x67 ex67 => ?_)
                          replace hZ9 := bnd_s hZ9 ex67
                          refine lv_if_ne (tgt := 76) hx hb dX9_addWanted_69 (by decide) (fun c68 => ?_) (fun c68 => ?_)
                          · replace hZ9 := ite_f hZ9 c68
                            refine lv_iload_n hx hb dX9_addWanted_76 rfl (lv_at hl 2 rfl) ?_
                            refine lv_istore_n (lv' := [(2, .int y57), (4, .int (nI i53)), (3, .int (nI q52)), (1, .int 0), (0, .ref h)]) hx hb dX9_addWanted_77 rfl hl (by decide) rfl (fun ls hl => ?_)
                            refine lv_iinc (v := nI (i53 + 1)) (lv' := [(4, .int (nI (i53 + 1))), (2, .int y57), (3, .int (nI q52)), (1, .int 0), (0, .ref h)]) hx hb dX9_addWanted_78 hl (k := 1) rfl (nI_add i53 1) (by decide) rfl (fun ls hl => ?_)
                            refine lv_goto (tgt := 24) hx hb dX9_addWanted_81 (by decide) ?_
                            exact ih55 (i53 + 1) y57 _ _ _ (by omega) (by omega) (by assumption) hZ9 hP hD hS (lv_sub hl [0, 2, 1, 3, 4] rfl)
                          · replace hZ9 := ite_t hZ9 c68
                            refine lv_iload_n hx hb dX9_addWanted_72 rfl (lv_at hl 1 rfl) ?_
                            refine lv_goto (tgt := 77) hx hb dX9_addWanted_73 (by decide) ?_
                            refine lv_istore_n (lv' := [(2, .int (nI q52)), (4, .int (nI i53)), (3, .int (nI q52)), (1, .int 0), (0, .ref h)]) hx hb dX9_addWanted_77 rfl hl (by decide) rfl (fun ls hl => ?_)
                            refine lv_iinc (v := nI (i53 + 1)) (lv' := [(4, .int (nI (i53 + 1))), (2, .int (nI q52)), (3, .int (nI q52)), (1, .int 0), (0, .ref h)]) hx hb dX9_addWanted_78 hl (k := 1) rfl (nI_add i53 1) (by decide) rfl (fun ls hl => ?_)
                            refine lv_goto (tgt := 24) hx hb dX9_addWanted_81 (by decide) ?_
                            exact ih55 (i53 + 1) (nI q52) _ _ _ (by omega) (by omega) (Or.inr ⟨q52, by omega, rfl, ex67.symm.trans c68⟩) hZ9 hP hD hS (lv_sub hl [0, 2, 1, 3, 4] rfl)
              exact lp56 (n + 1) 0 y14 _ _ _ (by omega) (by omega) (by assumption) hZ9 hP hD hS hl
        exact lp13 (n + 1) n (-1) _ _ _ (by omega) (by omega) (Or.inl rfl) hZ9 hP hD hS hl
  exact lp4 (41 + 1) 0 1 F V _ _ _ (by omega) (by omega) (hI.mono (by omega)) hU hV (fun _ => (show 0 + zc (F 29) 40 ≤ 40 by have := zc_le (F 29) 40; omega)) hZ9 hP hD hS hl

end
section
def f_w_look_298 (n : Nat)  : Nat → Nat → (Nat → Nat → Int32) → (Nat → Int32) → (Nat → (Nat → Nat → Int32) → (Nat → Int32) → Int32 × (Nat → Nat → Int32) × (Nat → Int32)) → Int32 × (Nat → Nat → Int32) × (Nat → Int32)
  | 0, i60, F64, V65, K9_298 => K9_298 i60 F64 V65
  | fu61 + 1, i60, F64, V65, K9_298 => if n ≤ i60 then (K9_298 i60 F64 V65) else (bnd (F64 27 (nI i60).toNatClampNeg) (fun (x67 : Int32) => if x67 = (0 : Int32) then (bnd (F64 30 (nI i60).toNatClampNeg) (fun (x69 : Int32) => bnd (va_up F64 30 (upd (F64 30) (nI i60).toNatClampNeg x69)) (fun (F70 : Nat → Nat → Int32) => f_w_look_298 n  fu61 (i60 + 1) F70 V65 K9_298))) else (bnd (F64 7 (nI i60).toNatClampNeg) (fun (x71 : Int32) => if x71 = (2 : Int32) then (bnd (F64 30 (nI i60).toNatClampNeg) (fun (x73 : Int32) => bnd (va_up F64 30 (upd (F64 30) (nI i60).toNatClampNeg x73)) (fun (F74 : Nat → Nat → Int32) => f_w_look_298 n  fu61 (i60 + 1) F74 V65 K9_298))) else (bnd (va_up F64 30 (upd (F64 30) (nI i60).toNatClampNeg 1)) (fun (F75 : Nat → Nat → Int32) => f_w_look_298 n  fu61 (i60 + 1) F75 V65 K9_298))))))
def f_w_look_256 (n : Nat)  : Nat → Nat → (Nat → Nat → Int32) → (Nat → Int32) → (Nat → (Nat → Nat → Int32) → (Nat → Int32) → Int32 × (Nat → Nat → Int32) × (Nat → Int32)) → Int32 × (Nat → Nat → Int32) × (Nat → Int32)
  | 0, i53, F57, V58, K9_256 => K9_256 i53 F57 V58
  | fu54 + 1, i53, F57, V58, K9_256 => if n ≤ i53 then (K9_256 i53 F57 V58) else (bnd (F57 27 (nI i53).toNatClampNeg) (fun (x76 : Int32) => if x76 = (0 : Int32) then (f_w_look_256 n  fu54 (i53 + 1) F57 V58 K9_256) else (bnd (F57 30 (nI i53).toNatClampNeg) (fun (x78 : Int32) => if x78 = (2 : Int32) then (((-4 : Int32), F57, V58)) else (f_w_look_256 n  fu54 (i53 + 1) F57 V58 K9_256)))))
def f_w_look_167 (n : Nat) (i43 : Nat) : Nat → Nat → Int32 → (Nat → Nat → Int32) → (Nat → Int32) → (Nat → Int32 → (Nat → Nat → Int32) → (Nat → Int32) → Int32 × (Nat → Nat → Int32) × (Nat → Int32)) → Int32 × (Nat → Nat → Int32) × (Nat → Int32)
  | 0, i81, y87, F85, V86, K9_167 => K9_167 i81 y87 F85 V86
  | fu82 + 1, i81, y87, F85, V86, K9_167 => if n ≤ i81 then (K9_167 i81 y87 F85 V86) else (if y87 = (0 : Int32) then (bnd (F85 27 (nI i81).toNatClampNeg) (fun (x98 : Int32) => if x98 = (0 : Int32) then (f_w_look_167 n i43 fu82 (i81 + 1) (0 : Int32) F85 V86 K9_167) else (bnd (f_w_has n 3 i43 i81 F85) (fun (r100 : Int32) => if r100 = (0 : Int32) then (f_w_look_167 n i43 fu82 (i81 + 1) (0 : Int32) F85 V86 K9_167) else (f_w_look_167 n i43 fu82 (i81 + 1) (1 : Int32) F85 V86 K9_167))))) else (f_w_look_167 n i43 fu82 (i81 + 1) (1 : Int32) F85 V86 K9_167))
def f_w_look_167q1 (n : Nat) (i43 : Nat) : Nat → Nat → Int32 → (Nat → Nat → Int32) → (Nat → Int32) → (Nat → Int32 → (Nat → Nat → Int32) → (Nat → Int32) → Int32 × (Nat → Nat → Int32) × (Nat → Int32)) → Int32 × (Nat → Nat → Int32) × (Nat → Int32)
  | 0, i106, y112, F110, V111, K9_167 => K9_167 i106 y112 F110 V111
  | fu107 + 1, i106, y112, F110, V111, K9_167 => if n ≤ i106 then (K9_167 i106 y112 F110 V111) else (if y112 = (0 : Int32) then (bnd (F110 27 (nI i106).toNatClampNeg) (fun (x123 : Int32) => if x123 = (0 : Int32) then (f_w_look_167q1 n i43 fu107 (i106 + 1) (0 : Int32) F110 V111 K9_167) else (bnd (f_w_has n 3 i43 i106 F110) (fun (r125 : Int32) => if r125 = (0 : Int32) then (f_w_look_167q1 n i43 fu107 (i106 + 1) (0 : Int32) F110 V111 K9_167) else (f_w_look_167q1 n i43 fu107 (i106 + 1) (1 : Int32) F110 V111 K9_167))))) else (f_w_look_167q1 n i43 fu107 (i106 + 1) (1 : Int32) F110 V111 K9_167))
def f_w_look_167q2 (n : Nat) (i43 : Nat) : Nat → Nat → Int32 → (Nat → Nat → Int32) → (Nat → Int32) → (Nat → Int32 → (Nat → Nat → Int32) → (Nat → Int32) → Int32 × (Nat → Nat → Int32) × (Nat → Int32)) → Int32 × (Nat → Nat → Int32) × (Nat → Int32)
  | 0, i129, y135, F133, V134, K9_167 => K9_167 i129 y135 F133 V134
  | fu130 + 1, i129, y135, F133, V134, K9_167 => if n ≤ i129 then (K9_167 i129 y135 F133 V134) else (if y135 = (0 : Int32) then (bnd (F133 27 (nI i129).toNatClampNeg) (fun (x146 : Int32) => if x146 = (0 : Int32) then (f_w_look_167q2 n i43 fu130 (i129 + 1) (0 : Int32) F133 V134 K9_167) else (bnd (f_w_has n 3 i43 i129 F133) (fun (r148 : Int32) => if r148 = (0 : Int32) then (f_w_look_167q2 n i43 fu130 (i129 + 1) (0 : Int32) F133 V134 K9_167) else (f_w_look_167q2 n i43 fu130 (i129 + 1) (1 : Int32) F133 V134 K9_167))))) else (f_w_look_167q2 n i43 fu130 (i129 + 1) (1 : Int32) F133 V134 K9_167))
def f_w_look_133 (n : Nat) (p0 : Int32) : Nat → Nat → (Nat → Nat → Int32) → (Nat → Int32) → (Nat → (Nat → Nat → Int32) → (Nat → Int32) → Int32 × (Nat → Nat → Int32) × (Nat → Int32)) → Int32 × (Nat → Nat → Int32) × (Nat → Int32)
  | 0, i43, F47, V48, K9_133 => K9_133 i43 F47 V48
  | fu44 + 1, i43, F47, V48, K9_133 => if n ≤ i43 then (K9_133 i43 F47 V48) else (if p0 = (2 : Int32) then (bnd (F47 27 (nI i43).toNatClampNeg) (fun (x104 : Int32) => if x104 = (0 : Int32) then (f_w_look_167q2 n i43 (n + 1) (0 : Nat) (1 : Int32) F47 V48 (fun (i129 : Nat) (y135 : Int32) (F133 : Nat → Nat → Int32) (V134 : Nat → Int32) => if y135 = (0 : Int32) then (bnd (va_up F133 30 (upd (F133 30) (nI i43).toNatClampNeg 0)) (fun (F138 : Nat → Nat → Int32) => f_w_look_133 n p0 fu44 (i43 + 1) F138 V134 K9_133)) else (bnd (f_w_isUpOrWaiting n i43 F133) (fun (r139 : Int32) => if r139 = (0 : Int32) then (bnd (va_up F133 30 (upd (F133 30) (nI i43).toNatClampNeg 0)) (fun (F143 : Nat → Nat → Int32) => f_w_look_133 n p0 fu44 (i43 + 1) F143 V134 K9_133)) else (bnd (va_up F133 30 (upd (F133 30) (nI i43).toNatClampNeg 2)) (fun (F144 : Nat → Nat → Int32) => f_w_look_133 n p0 fu44 (i43 + 1) F144 V134 K9_133)))))) else (f_w_look_167q1 n i43 (n + 1) (0 : Nat) (0 : Int32) F47 V48 (fun (i106 : Nat) (y112 : Int32) (F110 : Nat → Nat → Int32) (V111 : Nat → Int32) => if y112 = (0 : Int32) then (bnd (va_up F110 30 (upd (F110 30) (nI i43).toNatClampNeg 0)) (fun (F115 : Nat → Nat → Int32) => f_w_look_133 n p0 fu44 (i43 + 1) F115 V111 K9_133)) else (bnd (f_w_isUpOrWaiting n i43 F110) (fun (r116 : Int32) => if r116 = (0 : Int32) then (bnd (va_up F110 30 (upd (F110 30) (nI i43).toNatClampNeg 0)) (fun (F120 : Nat → Nat → Int32) => f_w_look_133 n p0 fu44 (i43 + 1) F120 V111 K9_133)) else (bnd (va_up F110 30 (upd (F110 30) (nI i43).toNatClampNeg 2)) (fun (F121 : Nat → Nat → Int32) => f_w_look_133 n p0 fu44 (i43 + 1) F121 V111 K9_133)))))))) else (f_w_look_167 n i43 (n + 1) (0 : Nat) (0 : Int32) F47 V48 (fun (i81 : Nat) (y87 : Int32) (F85 : Nat → Nat → Int32) (V86 : Nat → Int32) => if y87 = (0 : Int32) then (bnd (va_up F85 30 (upd (F85 30) (nI i43).toNatClampNeg 0)) (fun (F90 : Nat → Nat → Int32) => f_w_look_133 n p0 fu44 (i43 + 1) F90 V86 K9_133)) else (bnd (f_w_isUpOrWaiting n i43 F85) (fun (r91 : Int32) => if r91 = (0 : Int32) then (bnd (va_up F85 30 (upd (F85 30) (nI i43).toNatClampNeg 0)) (fun (F95 : Nat → Nat → Int32) => f_w_look_133 n p0 fu44 (i43 + 1) F95 V86 K9_133)) else (bnd (va_up F85 30 (upd (F85 30) (nI i43).toNatClampNeg 2)) (fun (F96 : Nat → Nat → Int32) => f_w_look_133 n p0 fu44 (i43 + 1) F96 V86 K9_133)))))))
def f_w_look_26 (n : Nat)  : Nat → Nat → (Nat → Nat → Int32) → (Nat → Int32) → (Nat → (Nat → Nat → Int32) → (Nat → Int32) → Int32 × (Nat → Nat → Int32) × (Nat → Int32)) → Int32 × (Nat → Nat → Int32) × (Nat → Int32)
  | 0, i13, F17, V18, K9_26 => K9_26 i13 F17 V18
  | fu14 + 1, i13, F17, V18, K9_26 => if n ≤ i13 then (K9_26 i13 F17 V18) else (bnd (va_up F17 30 (upd (F17 30) (nI i13).toNatClampNeg 0)) (fun (F165 : Nat → Nat → Int32) => bnd (va_up F165 27 (upd (F165 27) (nI i13).toNatClampNeg (vp_nar .boolean 0))) (fun (F166 : Nat → Nat → Int32) => f_w_look_26 n  fu14 (i13 + 1) F166 V18 K9_26)))
def f_w_look (n : Nat) (p0 : Int32) (xv : Nat) (F : Nat → Nat → Int32) (V : Nat → Int32) : Int32 × (Nat → Nat → Int32) × (Nat → Int32) := bnd (f_w_jobs n  F) (fun (r1 : Int32) => if (0 : Int32) < r1 then (((-3 : Int32), F, V)) else (bnd (f_w_in n 1 F) (fun (r5 : Int32) => bnd (f_w_in n 3 F) (fun (r8 : Int32) => bnd (r5 + r8) (fun (x11 : Int32) => if x11 ≤ (0 : Int32) then (f_w_look_26 n  (n + 1) (0 : Nat) F V (fun (i13 : Nat) (F17 : Nat → Nat → Int32) (V18 : Nat → Int32) => jb (fun (F20 : Nat → Nat → Int32) (V21 : Nat → Int32) => bn3 (f_w_jobRing n  F20 V21) (fun (r23 : Int32) (F24 : Nat → Nat → Int32) (V25 : Nat → Int32) => if r23 ≤ (0 : Int32) then (((0 : Int32), F24, V25)) else (bnd (va_up V25 33 r23) (fun (V27 : Nat → Int32) => ((-5 : Int32), F24, V27))))) (fun (K9_352 : (Nat → Nat → Int32) → (Nat → Int32) → Int32 × (Nat → Nat → Int32) × (Nat → Int32)) => if p0 = (1 : Int32) then (bnd (f_w_isUpOrWaiting n xv F17) (fun (r153 : Int32) => if r153 = (0 : Int32) then (bnd (va_up F17 30 (upd (F17 30) (nI xv).toNatClampNeg 0)) (fun (F157 : Nat → Nat → Int32) => bn2 (f_w_addNeeding n (nI xv) F157 V18) (fun (F159 : Nat → Nat → Int32) (V160 : Nat → Int32) => K9_352 F159 V160))) else (bnd (va_up F17 30 (upd (F17 30) (nI xv).toNatClampNeg 2)) (fun (F161 : Nat → Nat → Int32) => bn2 (f_w_addNeeding n (nI xv) F161 V18) (fun (F163 : Nat → Nat → Int32) (V164 : Nat → Int32) => K9_352 F163 V164))))) else (bn2 (f_w_members n xv F17 V18) (fun (F30 : Nat → Nat → Int32) (V31 : Nat → Int32) => bnd (f_w_clash_member n  F30) (fun (r32 : Int32) => if r32 = (0 : Int32) then (bn3 (f_w_memberRing_member n  F30 V31) (fun (r36 : Int32) (F37 : Nat → Nat → Int32) (V38 : Nat → Int32) => if r36 ≤ (0 : Int32) then (bn2 (f_w_addWanted n  F37 V38) (fun (F41 : Nat → Nat → Int32) (V42 : Nat → Int32) => f_w_look_133 n p0 (n + 1) (0 : Nat) F41 V42 (fun (i43 : Nat) (F47 : Nat → Nat → Int32) (V48 : Nat → Int32) => bn2 (f_w_addNeeding n (-1) F47 V48) (fun (F51 : Nat → Nat → Int32) (V52 : Nat → Int32) => f_w_look_256 n  (n + 1) (0 : Nat) F51 V52 (fun (i53 : Nat) (F57 : Nat → Nat → Int32) (V58 : Nat → Int32) => f_w_look_298 n  (n + 1) (0 : Nat) F57 V58 (fun (i60 : Nat) (F64 : Nat → Nat → Int32) (V65 : Nat → Int32) => K9_352 F64 V65)))))) else (bnd (va_up V38 33 r36) (fun (V152 : Nat → Int32) => ((-5 : Int32), F37, V152))))) else (((-4 : Int32), F30, V31)))))))) else (((-3 : Int32), F, V)))))))
def wq_w_look : List Cond := ([.code yX9_look cX9_look 7 (some .int), .fieldLink RX9 126 "ServiceTreeModel" "services" "I", .fieldLink RX9 86 "ServiceTreeModel" "newJob" "[I", .fieldLink RX9 197 "ServiceTreeModel" "ring" "I", .fieldLink RX9 77 "ServiceTreeModel" "member" "[Z", .fieldLink RX9 31 "ServiceTreeModel" "state" "[I", .methodLink RX9 143 yX9_jobs, .instanceMethod yX9_jobs, .selects RX9 yX9_jobs yX9_jobs, .initialized RX9, .methodLink RX9 186 yX9_in, .instanceMethod yX9_in, .selects RX9 yX9_in yX9_in, .methodLink RX9 203 yX9_jobRing, .instanceMethod yX9_jobRing, .selects RX9 yX9_jobRing yX9_jobRing, .methodLink RX9 194 yX9_members, .instanceMethod yX9_members, .selects RX9 yX9_members yX9_members, .methodLink RX9 178 yX9_clash, .instanceMethod yX9_clash, .selects RX9 yX9_clash yX9_clash, .methodLink RX9 182 yX9_memberRing, .instanceMethod yX9_memberRing, .selects RX9 yX9_memberRing yX9_memberRing, .methodLink RX9 200 yX9_addWanted, .instanceMethod yX9_addWanted, .selects RX9 yX9_addWanted yX9_addWanted, .methodLink RX9 190 yX9_addNeeding, .instanceMethod yX9_addNeeding, .selects RX9 yX9_addNeeding yX9_addNeeding, .methodLink RX9 171 yX9_isUpOrWaiting, .instanceMethod yX9_isUpOrWaiting, .selects RX9 yX9_isUpOrWaiting yX9_isUpOrWaiting, .methodLink RX9 150 yX9_has, .instanceMethod yX9_has, .selects RX9 yX9_has yX9_has] : List Cond) ++ (wsX90 ++ (wq_w_jobs ++ (wq_w_in ++ (wq_w_jobRing ++ (wq_w_members ++ (wq_w_clash_member ++ (wq_w_memberRing_member ++ (wq_w_addWanted ++ (wq_w_addNeeding ++ (wq_w_isUpOrWaiting ++ (wq_w_has)))))))))))
theorem in_w_look_X9 : ∀ w ∈ wsX90, w ∈ wq_w_look := fun _ h => List.mem_append_right _ (List.mem_append_left _ (h))
set_option maxRecDepth 20000 in
theorem wi_w_look : ∀ w ∈ wq_w_look, w ∈ lw_tbl := List.forall_mem_append.mpr ⟨(wix [1042, 873, 882, 885, 879, 859, 1016, 1018, 34, 69, 1043, 1044, 1045, 1079, 1081, 46, 1055, 1057, 40, 1063, 1065, 42, 1067, 1069, 43, 1075, 1077, 45, 1051, 1053, 39, 1047, 1049, 38, 1023, 1025, 35] rfl), List.forall_mem_append.mpr ⟨inKX9, List.forall_mem_append.mpr ⟨wi_w_jobs, List.forall_mem_append.mpr ⟨wi_w_in, List.forall_mem_append.mpr ⟨wi_w_jobRing, List.forall_mem_append.mpr ⟨wi_w_members, List.forall_mem_append.mpr ⟨wi_w_clash_member, List.forall_mem_append.mpr ⟨wi_w_memberRing_member, List.forall_mem_append.mpr ⟨wi_w_addWanted, List.forall_mem_append.mpr ⟨wi_w_addNeeding, List.forall_mem_append.mpr ⟨wi_w_isUpOrWaiting, wi_w_has⟩⟩⟩⟩⟩⟩⟩⟩⟩⟩⟩
set_option maxRecDepth 20000 in
theorem wg_w_look : GoodIn wq_w_look wq_w_look := goodIn_sub (fun _ h => h) (by decide +kernel)
set_option maxRecDepth 20000 in
theorem wc_w_look_w_jobs_143 : GoodIn wq_w_look (wsV RX9 143 RX9 yX9_jobs wq_w_jobs) := goodIn_app (goodIn_of _ (by decide +kernel)) (fun w h => ⟨List.mem_append_right _ (List.mem_append_right _ (List.mem_append_left _ (h))), (wg_w_jobs w h).2⟩)
set_option maxRecDepth 20000 in
theorem wc_w_look_w_in_186 : GoodIn wq_w_look (wsV RX9 186 RX9 yX9_in wq_w_in) := goodIn_app (goodIn_of _ (by decide +kernel)) (fun w h => ⟨List.mem_append_right _ (List.mem_append_right _ (List.mem_append_right _ (List.mem_append_left _ (h)))), (wg_w_in w h).2⟩)
set_option maxRecDepth 20000 in
theorem wc_w_look_w_jobRing_203 : GoodIn wq_w_look (wsV RX9 203 RX9 yX9_jobRing wq_w_jobRing) := goodIn_app (goodIn_of _ (by decide +kernel)) (fun w h => ⟨List.mem_append_right _ (List.mem_append_right _ (List.mem_append_right _ (List.mem_append_right _ (List.mem_append_left _ (h))))), (wg_w_jobRing w h).2⟩)
set_option maxRecDepth 20000 in
theorem wc_w_look_w_members_194 : GoodIn wq_w_look (wsV RX9 194 RX9 yX9_members wq_w_members) := goodIn_app (goodIn_of _ (by decide +kernel)) (fun w h => ⟨List.mem_append_right _ (List.mem_append_right _ (List.mem_append_right _ (List.mem_append_right _ (List.mem_append_right _ (List.mem_append_left _ (h)))))), (wg_w_members w h).2⟩)
set_option maxRecDepth 20000 in
theorem wc_w_look_w_clash_member_178 : GoodIn wq_w_look (wsV RX9 178 RX9 yX9_clash wq_w_clash_member) := goodIn_app (goodIn_of _ (by decide +kernel)) (fun w h => ⟨List.mem_append_right _ (List.mem_append_right _ (List.mem_append_right _ (List.mem_append_right _ (List.mem_append_right _ (List.mem_append_right _ (List.mem_append_left _ (h))))))), (wg_w_clash_member w h).2⟩)
set_option maxRecDepth 20000 in
theorem wc_w_look_w_memberRing_member_182 : GoodIn wq_w_look (wsV RX9 182 RX9 yX9_memberRing wq_w_memberRing_member) := goodIn_app (goodIn_of _ (by decide +kernel)) (fun w h => ⟨List.mem_append_right _ (List.mem_append_right _ (List.mem_append_right _ (List.mem_append_right _ (List.mem_append_right _ (List.mem_append_right _ (List.mem_append_right _ (List.mem_append_left _ (h)))))))), (wg_w_memberRing_member w h).2⟩)
set_option maxRecDepth 20000 in
theorem wc_w_look_w_addWanted_200 : GoodIn wq_w_look (wsV RX9 200 RX9 yX9_addWanted wq_w_addWanted) := goodIn_app (goodIn_of _ (by decide +kernel)) (fun w h => ⟨List.mem_append_right _ (List.mem_append_right _ (List.mem_append_right _ (List.mem_append_right _ (List.mem_append_right _ (List.mem_append_right _ (List.mem_append_right _ (List.mem_append_right _ (List.mem_append_left _ (h))))))))), (wg_w_addWanted w h).2⟩)
set_option maxRecDepth 20000 in
theorem wc_w_look_w_addNeeding_190 : GoodIn wq_w_look (wsV RX9 190 RX9 yX9_addNeeding wq_w_addNeeding) := goodIn_app (goodIn_of _ (by decide +kernel)) (fun w h => ⟨List.mem_append_right _ (List.mem_append_right _ (List.mem_append_right _ (List.mem_append_right _ (List.mem_append_right _ (List.mem_append_right _ (List.mem_append_right _ (List.mem_append_right _ (List.mem_append_right _ (List.mem_append_left _ (h)))))))))), (wg_w_addNeeding w h).2⟩)
set_option maxRecDepth 20000 in
theorem wc_w_look_w_isUpOrWaiting_171 : GoodIn wq_w_look (wsV RX9 171 RX9 yX9_isUpOrWaiting wq_w_isUpOrWaiting) := goodIn_app (goodIn_of _ (by decide +kernel)) (fun w h => ⟨List.mem_append_right _ (List.mem_append_right _ (List.mem_append_right _ (List.mem_append_right _ (List.mem_append_right _ (List.mem_append_right _ (List.mem_append_right _ (List.mem_append_right _ (List.mem_append_right _ (List.mem_append_right _ (List.mem_append_left _ (h))))))))))), (wg_w_isUpOrWaiting w h).2⟩)
set_option maxRecDepth 20000 in
theorem wc_w_look_w_has_150 : GoodIn wq_w_look (wsV RX9 150 RX9 yX9_has wq_w_has) := goodIn_app (goodIn_of _ (by decide +kernel)) (fun w h => ⟨List.mem_append_right _ (List.mem_append_right _ (List.mem_append_right _ (List.mem_append_right _ (List.mem_append_right _ (List.mem_append_right _ (List.mem_append_right _ (List.mem_append_right _ (List.mem_append_right _ (List.mem_append_right _ (List.mem_append_right _ (h))))))))))), (wg_w_has w h).2⟩)
def rm_w_look : Room := { frames := 3, cells := 0, slots := 0, locals := 72 }
set_option maxHeartbeats 4000000 in
set_option maxRecDepth 100000 in
theorem c_w_look (l : Launch) (dC : Nat → ClassId) (dI : Nat → Nat → Nat) (h : Nat) (a : Nat → Nat) (k : Nat → ClassId) (F : Nat → Nat → Int32) (V : Nat → Int32) (n b : Nat) (p0 : Int32) (xv : Nat) (sz : Nat) (hI0 : InvM n b F V) (hb0 : b + 0 < 2147483648) (hp0 : xv < n) : Met l yX9_look wq_w_look rm_w_look (va_Pc [.ref h, .int p0, .int (nI xv)] (fun U => U.heap.size = sz ∧ va_P (dC, dI) vwCl (mW h a k F V) U.heap ∧ va_K (dC, dI) vwCl (mT k) U ∧ va_D (fun _ => True) (mW h a k F V))) (va_Qi (fun (r : Int32) (u : (Nat → Nat → Int32) × (Nat → Int32)) => StM n (b + 0) F V u.1 u.2 ∧ (∀ j : Nat, j ∉ ([27, 28, 29, 30, 31, 32] : List Nat) → u.1 j = F j) ∧ (∀ j : Nat, j ∉ ([33] : List Nat) → u.2 j = V j) ∧ ((r, u.1, u.2) = f_w_look n p0 xv F V)) (fun (u : (Nat → Nat → Int32) × (Nat → Int32)) (t : State) => va_P (dC, dI) vwCl (mW h a k u.1 u.2) t.heap ∧ va_D (va_A (mW h a k F V) sz) (mW h a k u.1 u.2)) (va_A (mW h a k F V) sz)) 0 0 (va_A (mW h a k F V) sz) := by
  have hn : n ≤ 40 := hI0.1
  have hI : StM n b F V F V := StM.rf hI0
  have hU : ∀ j : Nat, j ∉ ([27, 28, 29, 30, 31, 32] : List Nat) → F j = F j := fun _ _ => rfl
  have hV : ∀ j : Nat, j ∉ ([33] : List Nat) → V j = V j := fun _ _ => rfl
  refine Met.ofW (cc := cX9_look) (maxL := 7) (ret := (some .int)) (by decide) rfl ?_
  intro p e s m args below meth c s₁ B hml hv
  obtain ⟨rfl, hsz, hP, hK, hD0⟩ := hv
  have hx := B.exec
  have hb := B.bytes
  have hr := B.returns
  have hts := atoms_spec (ws := wq_w_look) B.pre
  have hown : s.vm.findClass RX9 = some m.cls := findClass_of_methodNamed B.named
  have hlocks := B.notSynchronized
  subst hsz
  have hD := hD0.self (sz := s.heap.size)
  generalize hAe : va_A (mW h a k F V) s.heap.size = A at hD ⊢
  have hA : ∀ q : Nat, s.heap.size ≤ q → A q := fun q h => by rw [← hAe]; exact Or.inr h
  have hS : va_S A s.heap s.heap [] := va_S.rf
  have hl := lv_entry ([.ref h, .int p0, .int (nI xv)]) (n := 7) (Nat.le_of_ble_eq_true rfl)
  rw [lg_entry_eq]
  generalize (lg_sl ([.ref h, .int p0, .int (nI xv)]) ++ List.replicate (7 - (lg_sl ([.ref h, .int p0, .int (nI xv)])).length) Slot.unset).toArray = ls at hl ⊢
  have hl : lv_has ls 7 [(0, .ref h), (1, .int p0), (2, .int (nI xv))] := hl
  refine mw_Q (fun Q0 hQ => ?_)
  obtain ⟨RES, hR0⟩ : ∃ R9, R9 = f_w_look n p0 xv F V := ⟨_, rfl⟩
  have hZ9 := hR0
  unfold f_w_look at hZ9
  refine lv_aload_n hx hb dX9_look_0 rfl (lv_at hl 0 rfl) ?_
  have hFc := mw_free hD hS hA
  refine va_calli (va_runV (As := []) (rest := []) ⟨hx, hb, hml, hown, hts⟩ (c_w_jobs l dC dI h a k F V n (b)  s.heap.size hI.1 (by omega) ) (cwV 0 hts wc_w_look_w_jobs_143 rfl rfl rfl (by decide +kernel) ⟨Nat.le_of_ble_eq_true rfl, Nat.le_of_ble_eq_true rfl⟩) ⟨fun a9 U g mk q => by obtain ⟨q0, q1, qP, qK, qD⟩ := q; exact ⟨q0, q1, qP, va_K.moved (u := U) (U := U.calling g mk a9) (Vm.Alike.refl U.vm) qK, qD⟩, va_recv hK hP (ci := 10) (q0 := 0) rfl rfl, fun U hU hW => ⟨rfl, by rw [hU], by rw [hU]; exact hP, va_K.moved hW.alike hK, hD.weaken (fun _ _ _ _ => trivial)⟩⟩ rfl rfl hl.1 rfl (lv_room (Nat.le_of_ble_eq_true rfl)) dX9_look_1 ⟨Nat.le_of_ble_eq_true rfl, Nat.le_of_ble_eq_true rfl⟩) hS (fun q _ h => hFc q h) hFc (fun r1 u t H1 locs ht hvm hw hB hz1 hk1 hS => ?_)
  obtain ⟨F2, V3⟩ := u
  replace hP := hB.1
  rw [ht] at hP
  replace hD : va_D A (mW h a k F2 V3) := hB.2.weaken (fun _ q _ h9 => hFc q.1 h9)
  clear hB
  generalize H1 = H at hP hS ⊢
  replace hP : va_P (dC, dI) vwCl (mW h a k F2 V3) H := hP
  obtain ⟨hwF, hwV, hw⟩ : F2 = F ∧ V3 = V ∧ _ := hw
  rw [hwF, hwV] at hP hD
  replace hw : r1 = f_w_jobs n  F := hw
  replace hZ9 := bnd_s hZ9 hw
  refine lv_if_gt (tgt := 21) hx hb dX9_look_4 (by decide) (fun c4 => ?_) (fun c4 => ?_)
  · replace hZ9 := ite_t hZ9 c4
    refine lv_bipush (v := (-3)) hx hb dX9_look_21 (by decide) ?_
    rw [hQ]
    exact W.iret (v := (-3)) hx hb hr (fun t ht hW => ⟨⟨(-3), (F, V), rfl, ⟨hI.mono (by omega), hU, hV, hZ9.symm.trans hR0⟩, by rw [ht]; exact hP, hD⟩, hS.F ht⟩) hS.2.2 dX9_look_23
  · replace hZ9 := ite_f hZ9 c4
    refine lv_aload_n hx hb dX9_look_7 rfl (lv_at hl 0 rfl) ?_
    refine lv_iconst (v := 1) hx hb dX9_look_8 (by decide) ?_
    have hFc := mw_free hD hS hA
    refine va_calli (va_runV (As := [.int 1]) (rest := []) ⟨hx, hb, hml, hown, hts⟩ (c_w_in l dC dI h a k F V n (b) 1 H.size hI.1 (by omega) ) (cwV 1 hts wc_w_look_w_in_186 rfl rfl rfl (by decide +kernel) ⟨Nat.le_of_ble_eq_true rfl, Nat.le_of_ble_eq_true rfl⟩) ⟨fun a9 U g mk q => by obtain ⟨q0, q1, qP, qK, qD⟩ := q; exact ⟨q0, q1, qP, va_K.moved (u := U) (U := U.calling g mk a9) (Vm.Alike.refl U.vm) qK, qD⟩, va_recv hK hP (ci := 10) (q0 := 0) rfl rfl, fun U hU hW => ⟨rfl, by rw [hU], by rw [hU]; exact hP, va_K.moved hW.alike hK, hD.weaken (fun _ _ _ _ => trivial)⟩⟩ rfl rfl hl.1 rfl (lv_room (Nat.le_of_ble_eq_true rfl)) dX9_look_9 ⟨Nat.le_of_ble_eq_true rfl, Nat.le_of_ble_eq_true rfl⟩) hS (fun q _ h => hFc q h) hFc (fun r5 u t H1 locs ht hvm hw hB hz1 hk1 hS => ?_)
    obtain ⟨F6, V7⟩ := u
    replace hP := hB.1
    rw [ht] at hP
    replace hD : va_D A (mW h a k F6 V7) := hB.2.weaken (fun _ q _ h9 => hFc q.1 h9)
    clear hB
    generalize H1 = H at hP hS ⊢
    replace hP : va_P (dC, dI) vwCl (mW h a k F6 V7) H := hP
    obtain ⟨hwF, hwV, hw⟩ : F6 = F ∧ V7 = V ∧ _ := hw
    rw [hwF, hwV] at hP hD
    replace hw : r5 = f_w_in n 1 F := hw
    replace hZ9 := bnd_s hZ9 hw
    refine lv_aload_n hx hb dX9_look_12 rfl (lv_at hl 0 rfl) ?_
    refine lv_iconst (v := 3) hx hb dX9_look_13 (by decide) ?_
    have hFc := mw_free hD hS hA
    refine va_calli (va_runV (As := [.int 3]) (rest := [.int r5]) ⟨hx, hb, hml, hown, hts⟩ (c_w_in l dC dI h a k F V n (b) 3 H.size hI.1 (by omega) ) (cwV 1 hts wc_w_look_w_in_186 rfl rfl rfl (by decide +kernel) ⟨Nat.le_of_ble_eq_true rfl, Nat.le_of_ble_eq_true rfl⟩) ⟨fun a9 U g mk q => by obtain ⟨q0, q1, qP, qK, qD⟩ := q; exact ⟨q0, q1, qP, va_K.moved (u := U) (U := U.calling g mk a9) (Vm.Alike.refl U.vm) qK, qD⟩, va_recv hK hP (ci := 10) (q0 := 0) rfl rfl, fun U hU hW => ⟨rfl, by rw [hU], by rw [hU]; exact hP, va_K.moved hW.alike hK, hD.weaken (fun _ _ _ _ => trivial)⟩⟩ rfl rfl hl.1 rfl (lv_room (Nat.le_of_ble_eq_true rfl)) dX9_look_14 ⟨Nat.le_of_ble_eq_true rfl, Nat.le_of_ble_eq_true rfl⟩) hS (fun q _ h => hFc q h) hFc (fun r8 u t H1 locs ht hvm hw hB hz1 hk1 hS => ?_)
    obtain ⟨F9, V10⟩ := u
    replace hP := hB.1
    rw [ht] at hP
    replace hD : va_D A (mW h a k F9 V10) := hB.2.weaken (fun _ q _ h9 => hFc q.1 h9)
    clear hB
    generalize H1 = H at hP hS ⊢
    replace hP : va_P (dC, dI) vwCl (mW h a k F9 V10) H := hP
    obtain ⟨hwF, hwV, hw⟩ : F9 = F ∧ V10 = V ∧ _ := hw
    rw [hwF, hwV] at hP hD
    replace hw : r8 = f_w_in n 3 F := hw
    replace hZ9 := bnd_s hZ9 hw
    refine lv_iadd hx hb dX9_look_17 ?_
    refine lv_topi (fun x11 ex11 => ?_)
    replace hZ9 := bnd_s hZ9 ex11
    refine lv_if_le (tgt := 24) hx hb dX9_look_18 (by decide) (fun c12 => ?_) (fun c12 => ?_)
    · replace hZ9 := ite_t hZ9 c12
      refine lv_iconst (v := 0) hx hb dX9_look_24 (by decide) ?_
      refine lv_istore_n (lv' := [(3, .int 0), (0, .ref h), (1, .int p0), (2, .int (nI xv))]) hx hb dX9_look_25 rfl hl (by decide) rfl (fun ls hl => ?_)
      obtain ⟨K9_26, hK9_26, hZ9⟩ := lp_gen hZ9
      have lp16 : ∀ (fu14 i13 : Nat)  (F17 : Nat → Nat → Int32) (V18 : Nat → Int32) (H : Heap) (locs : List Loc) (ls : Array Slot), n < i13 + fu14 → i13 ≤ n → StM n (b) F V F17 V18 → (∀ j : Nat, j ∉ ([27, 28, 29, 30, 31, 32] : List Nat) → F17 j = F j) → (∀ j : Nat, j ∉ ([33] : List Nat) → V18 j = V j) → RES = f_w_look_26 n  fu14 i13 F17 V18 K9_26 → va_P (dC, dI) vwCl (mW h a k F17 V18) H → va_D A (mW h a k F17 V18) → va_S A s.heap H locs → lv_has ls 7 [(3, .int (nI i13)), (0, .ref h), (1, .int p0), (2, .int (nI xv))] → W p l e (headSpec wq_w_look rm_w_look).room s m ([.ref h, .int p0, .int (nI xv)] : List Value).toArray below meth c H locs 0 0 Q0 (F0 m 26 ls []) := by
        intro fu14
        induction fu14 with
        | zero =>
          intro i13  F17 V18 H locs ls hf hi
          exact absurd hf (by omega)
        | succ fu14 ih15 =>
          intro i13  F17 V18 H locs ls hfi13 hii13 hI hU hV hZ9 hP hD hS hl
          rw [f_w_look_26] at hZ9
          refine lv_iload_n hx hb dX9_look_26 rfl (lv_at hl 0 rfl) ?_
          refine lv_aload_n hx hb dX9_look_27 rfl (lv_at hl 1 rfl) ?_
          refine va_get (D := (dC, dI)) (ci := 10) (v := .int (V18 21)) (C := RX9) (T := TX9) (N := 46) hx hb hts in_w_look_X9 hown hK hP 0 rfl rfl 21 (by decide) (hts (.fieldLink RX9 126 "ServiceTreeModel" "services" "I") (by decide +kernel)) (fun _ h9 => h9) rfl dX9_look_28 ?_
          refine p1_topr (v := .int (nI n)) (congrArg Value.int hI.1.2.1) ?_
          refine lv_icmp_ge (tgt := 54) hx hb dX9_look_31 (by decide) (fun c19 => ?_) (fun c19 => ?_)
          · replace c19 : n ≤ i13 := (nI_leI (a := n) (b := i13) (by omega) (by omega)).mp c19
            replace hZ9 := ite_t hZ9 c19
            replace hZ9 := lp_app3 hK9_26 hZ9
            obtain ⟨K9_352, hK9_352, hZ9⟩ := jb_gen hZ9
            have jn22 : ∀ (F20 : Nat → Nat → Int32) (V21 : Nat → Int32) (H : Heap) (locs : List Loc) (ls : Array Slot), RES = K9_352 F20 V21 → StM n (b) F V F20 V21 → (∀ j : Nat, j ∉ ([27, 28, 29, 30, 31, 32] : List Nat) → F20 j = F j) → (∀ j : Nat, j ∉ ([33] : List Nat) → V21 j = V j) → va_P (dC, dI) vwCl (mW h a k F20 V21) H → va_D A (mW h a k F20 V21) → va_S A s.heap H locs → lv_has ls 7 [(0, .ref h), (1, .int p0), (2, .int (nI xv))] → W p l e (headSpec wq_w_look rm_w_look).room s m ([.ref h, .int p0, .int (nI xv)] : List Value).toArray below meth c H locs 0 0 Q0 (F0 m 352 ls []) := by
              intro F20 V21 H locs ls hZ9 hI hU hV hP hD hS hl
              replace hZ9 := lp_app2 hK9_352 hZ9
              refine lv_aload_n hx hb dX9_look_352 rfl (lv_at hl 0 rfl) ?_
              refine lv_aload_n hx hb dX9_look_353 rfl (lv_at hl 0 rfl) ?_
              refine va_get (D := (dC, dI)) (ci := 10) (v := .ref (a 30)) (C := RX9) (T := TX9) (N := 46) hx hb hts in_w_look_X9 hown hK hP 0 rfl rfl 30 (by decide) (hts (.fieldLink RX9 86 "ServiceTreeModel" "newJob" "[I") (by decide +kernel)) (fun _ h9 => h9) rfl dX9_look_354 ?_
              have hFc := mw_free hD hS hA
              refine va_calli (va_runV (As := [.ref (a 30)]) (rest := []) ⟨hx, hb, hml, hown, hts⟩ (c_w_jobRing l dC dI h a k F20 V21 n (b)  H.size hI.1 (by omega) ) (cwV 1 hts wc_w_look_w_jobRing_203 rfl rfl rfl (by decide +kernel) ⟨Nat.le_of_ble_eq_true rfl, Nat.le_of_ble_eq_true rfl⟩) ⟨fun a9 U g mk q => by obtain ⟨q0, q1, qP, qK, qD⟩ := q; exact ⟨q0, q1, qP, va_K.moved (u := U) (U := U.calling g mk a9) (Vm.Alike.refl U.vm) qK, qD⟩, va_recv hK hP (ci := 10) (q0 := 0) rfl rfl, fun U hU hW => ⟨rfl, by rw [hU], by rw [hU]; exact hP, va_K.moved hW.alike hK, hD.weaken (fun _ _ _ _ => trivial)⟩⟩ rfl rfl hl.1 rfl (lv_room (Nat.le_of_ble_eq_true rfl)) dX9_look_357 ⟨Nat.le_of_ble_eq_true rfl, Nat.le_of_ble_eq_true rfl⟩) hS (fun q _ h => hFc q h) hFc (fun r23 u t H1 locs ht hvm hw hB hz1 hk1 hS => ?_)
              obtain ⟨F24, V25⟩ := u
              replace hP := hB.1
              rw [ht] at hP
              replace hD : va_D A (mW h a k F24 V25) := hB.2.weaken (fun _ q _ h9 => hFc q.1 h9)
              clear hB
              generalize H1 = H at hP hS ⊢
              replace hP : va_P (dC, dI) vwCl (mW h a k F24 V25) H := hP
              obtain ⟨hwI, hwU, hwV, hw⟩ := hw
              replace hU : ∀ j : Nat, j ∉ ([27, 28, 29, 30, 31, 32] : List Nat) → F24 j = F j := mw_tr (by decide) hwU hU
              replace hV : ∀ j : Nat, j ∉ ([33] : List Nat) → V25 j = V j := mw_tr (by decide) hwV hV
              replace hI : StM n (b + 0) F V F24 V25 := hI.trans hwI
              replace hI : StM n (b) F V F24 V25 := hI
              replace hw : (r23, F24, V25) = f_w_jobRing n  F20 V21 := hw
              replace hZ9 := bn3_s hZ9 hw
              refine lv_istore_n (lv' := [(3, .int r23), (0, .ref h), (1, .int p0), (2, .int (nI xv))]) hx hb dX9_look_360 rfl hl (by decide) rfl (fun ls hl => ?_)
              refine lv_iload_n hx hb dX9_look_361 rfl (lv_at hl 0 rfl) ?_
              refine lv_if_le (tgt := 373) hx hb dX9_look_362 (by decide) (fun c26 => ?_) (fun c26 => ?_)
              · replace hZ9 := ite_t hZ9 c26
                refine lv_iconst (v := 0) hx hb dX9_look_373 (by decide) ?_
                rw [hQ]
                exact W.iret (v := 0) hx hb hr (fun t ht hW => ⟨⟨0, (F24, V25), rfl, ⟨hI.mono (by omega), hU, hV, hZ9.symm.trans hR0⟩, by rw [ht]; exact hP, hD⟩, hS.F ht⟩) hS.2.2 dX9_look_374
              · replace hZ9 := ite_f hZ9 c26
                refine lv_aload_n hx hb dX9_look_365 rfl (lv_at hl 1 rfl) ?_
                refine lv_iload_n hx hb dX9_look_366 rfl (lv_at hl 0 rfl) ?_
                refine va_put (D := (dC, dI)) (ci := 10) (fs := mF a V25) (v := .int r23) (ty := .int) (C := RX9) (T := TX9) (N := 46) hx hb hts in_w_look_X9 tyX9 tyX9_ok nmX9 hown hK hP hD hS 0 rfl rfl 33 (by decide) (hts (.fieldLink RX9 197 "ServiceTreeModel" "ring" "I") (by decide +kernel)) (fun _ h9 => h9) rfl (by decide +kernel) rfl rfl (Nat.le_of_ble_eq_true rfl) dX9_look_367 (fun H locs hP hD hS => ?_)
                rw [mW_put_33] at hP hD
                obtain ⟨V27, eV27⟩ : ∃ f9 : Nat → Int32, f9 = va_up V25 33 r23 := ⟨_, rfl⟩
                rw [← eV27] at hP hD
                replace hZ9 := bnd_s hZ9 eV27
                replace hI : StM n (b) F V F24 V27 := ⟨by rw [eV27]; exact hI.1.setV (by decide), trivial⟩
                replace hV : ∀ j : Nat, j ∉ ([33] : List Nat) → V27 j = V j := by rw [eV27]; exact mw_up (by decide) hV
                refine lv_bipush (v := (-5)) hx hb dX9_look_370 (by decide) ?_
                rw [hQ]
                exact W.iret (v := (-5)) hx hb hr (fun t ht hW => ⟨⟨(-5), (F24, V27), rfl, ⟨hI.mono (by omega), hU, hV, hZ9.symm.trans hR0⟩, by rw [ht]; exact hP, hD⟩, hS.F ht⟩) hS.2.2 dX9_look_372
            refine lv_iload_n hx hb dX9_look_54 rfl (lv_at hl 2 rfl) ?_
            refine lv_iconst (v := 1) hx hb dX9_look_55 (by decide) ?_
            refine lv_icmp_ne (tgt := 86) hx hb dX9_look_56 (by decide) (fun c28 => ?_) (fun c28 => ?_)
            · replace hZ9 := ite_f hZ9 c28
              refine lv_aload_n hx hb dX9_look_86 rfl (lv_at hl 1 rfl) ?_
              refine lv_iload_n hx hb dX9_look_87 rfl (lv_at hl 3 rfl) ?_
              have hFc := mw_free hD hS hA
              refine va_callv (va_runV (As := [.int (nI xv)]) (rest := []) ⟨hx, hb, hml, hown, hts⟩ (c_w_members l dC dI h a k F17 V18 n (b) xv H.size hI.1 (by omega) (by omega)) (cwV 1 hts wc_w_look_w_members_194 rfl rfl rfl (by decide +kernel) ⟨Nat.le_of_ble_eq_true rfl, Nat.le_of_ble_eq_true rfl⟩) ⟨fun a9 U g mk q => by obtain ⟨q0, q1, qP, qK, qD⟩ := q; exact ⟨q0, q1, qP, va_K.moved (u := U) (U := U.calling g mk a9) (Vm.Alike.refl U.vm) qK, qD⟩, va_recv hK hP (ci := 10) (q0 := 0) rfl rfl, fun U hU hW => ⟨rfl, by rw [hU], by rw [hU]; exact hP, va_K.moved hW.alike hK, hD.weaken (fun _ _ _ _ => trivial)⟩⟩ rfl rfl hl.1 rfl (lv_room (Nat.le_of_ble_eq_true rfl)) dX9_look_88 ⟨Nat.le_of_ble_eq_true rfl, Nat.le_of_ble_eq_true rfl⟩) hS (fun q _ h => hFc q h) hFc (fun u t H1 locs ht hvm hw hB hz1 hk1 hS => ?_)
              obtain ⟨F30, V31⟩ := u
              replace hP := hB.1
              rw [ht] at hP
              replace hD : va_D A (mW h a k F30 V31) := hB.2.weaken (fun _ q _ h9 => hFc q.1 h9)
              clear hB
              generalize H1 = H at hP hS ⊢
              replace hP : va_P (dC, dI) vwCl (mW h a k F30 V31) H := hP
              obtain ⟨hwI, hwU, hwV, hw⟩ := hw
              replace hU : ∀ j : Nat, j ∉ ([27, 28, 29, 30, 31, 32] : List Nat) → F30 j = F j := mw_tr (by decide) hwU hU
              replace hV : ∀ j : Nat, j ∉ ([33] : List Nat) → V31 j = V j := mw_tr (by decide) hwV hV
              replace hI : StM n (b + 0) F V F30 V31 := hI.trans hwI
              replace hI : StM n (b) F V F30 V31 := hI
              replace hw : (F30, V31) = f_w_members n xv F17 V18 := hw
              replace hZ9 := bn2_s hZ9 hw
              refine lv_aload_n hx hb dX9_look_91 rfl (lv_at hl 1 rfl) ?_
              refine lv_aload_n hx hb dX9_look_92 rfl (lv_at hl 1 rfl) ?_
              refine va_get (D := (dC, dI)) (ci := 10) (v := .ref (a 27)) (C := RX9) (T := TX9) (N := 46) hx hb hts in_w_look_X9 hown hK hP 0 rfl rfl 27 (by decide) (hts (.fieldLink RX9 77 "ServiceTreeModel" "member" "[Z") (by decide +kernel)) (fun _ h9 => h9) rfl dX9_look_93 ?_
              have hFc := mw_free hD hS hA
              refine va_calli (va_runV (As := [.ref (a 27)]) (rest := []) ⟨hx, hb, hml, hown, hts⟩ (c_w_clash_member l dC dI h a k F30 V31 n (b)  H.size hI.1 (by omega) ) (cwV 1 hts wc_w_look_w_clash_member_178 rfl rfl rfl (by decide +kernel) ⟨Nat.le_of_ble_eq_true rfl, Nat.le_of_ble_eq_true rfl⟩) ⟨fun a9 U g mk q => by obtain ⟨q0, q1, qP, qK, qD⟩ := q; exact ⟨q0, q1, qP, va_K.moved (u := U) (U := U.calling g mk a9) (Vm.Alike.refl U.vm) qK, qD⟩, va_recv hK hP (ci := 10) (q0 := 0) rfl rfl, fun U hU hW => ⟨rfl, by rw [hU], by rw [hU]; exact hP, va_K.moved hW.alike hK, hD.weaken (fun _ _ _ _ => trivial)⟩⟩ rfl rfl hl.1 rfl (lv_room (Nat.le_of_ble_eq_true rfl)) dX9_look_96 ⟨Nat.le_of_ble_eq_true rfl, Nat.le_of_ble_eq_true rfl⟩) hS (fun q _ h => hFc q h) hFc (fun r32 u t H1 locs ht hvm hw hB hz1 hk1 hS => ?_)
              obtain ⟨F33, V34⟩ := u
              replace hP := hB.1
              rw [ht] at hP
              replace hD : va_D A (mW h a k F33 V34) := hB.2.weaken (fun _ q _ h9 => hFc q.1 h9)
              clear hB
              generalize H1 = H at hP hS ⊢
              replace hP : va_P (dC, dI) vwCl (mW h a k F33 V34) H := hP
              obtain ⟨hwF, hwV, hw⟩ : F33 = F30 ∧ V34 = V31 ∧ _ := hw
              rw [hwF, hwV] at hP hD
              obtain ⟨hw, hwe⟩ := hw
              replace hw : r32 = f_w_clash_member n  F30 := hw
              replace hZ9 := bnd_s hZ9 hw
              have br32 := hwe
              refine lv_if_eq (tgt := 105) hx hb dX9_look_99 (by decide) (fun c35 => ?_) (fun c35 => ?_)
              · replace hZ9 := ite_t hZ9 c35
                refine lv_aload_n hx hb dX9_look_105 rfl (lv_at hl 1 rfl) ?_
                refine lv_aload_n hx hb dX9_look_106 rfl (lv_at hl 1 rfl) ?_
                refine va_get (D := (dC, dI)) (ci := 10) (v := .ref (a 27)) (C := RX9) (T := TX9) (N := 46) hx hb hts in_w_look_X9 hown hK hP 0 rfl rfl 27 (by decide) (hts (.fieldLink RX9 77 "ServiceTreeModel" "member" "[Z") (by decide +kernel)) (fun _ h9 => h9) rfl dX9_look_107 ?_
                have hFc := mw_free hD hS hA
                refine va_calli (va_runV (As := [.ref (a 27)]) (rest := []) ⟨hx, hb, hml, hown, hts⟩ (c_w_memberRing_member l dC dI h a k F30 V31 n (b)  H.size hI.1 (by omega) ) (cwV 1 hts wc_w_look_w_memberRing_member_182 rfl rfl rfl (by decide +kernel) ⟨Nat.le_of_ble_eq_true rfl, Nat.le_of_ble_eq_true rfl⟩) ⟨fun a9 U g mk q => by obtain ⟨q0, q1, qP, qK, qD⟩ := q; exact ⟨q0, q1, qP, va_K.moved (u := U) (U := U.calling g mk a9) (Vm.Alike.refl U.vm) qK, qD⟩, va_recv hK hP (ci := 10) (q0 := 0) rfl rfl, fun U hU hW => ⟨rfl, by rw [hU], by rw [hU]; exact hP, va_K.moved hW.alike hK, hD.weaken (fun _ _ _ _ => trivial)⟩⟩ rfl rfl hl.1 rfl (lv_room (Nat.le_of_ble_eq_true rfl)) dX9_look_110 ⟨Nat.le_of_ble_eq_true rfl, Nat.le_of_ble_eq_true rfl⟩) hS (fun q _ h => hFc q h) hFc (fun r36 u t H1 locs ht hvm hw hB hz1 hk1 hS => ?_)
                obtain ⟨F37, V38⟩ := u
                replace hP := hB.1
                rw [ht] at hP
                replace hD : va_D A (mW h a k F37 V38) := hB.2.weaken (fun _ q _ h9 => hFc q.1 h9)
                clear hB
                generalize H1 = H at hP hS ⊢
                replace hP : va_P (dC, dI) vwCl (mW h a k F37 V38) H := hP
                obtain ⟨hwI, hwU, hwV, hw⟩ := hw
                replace hU : ∀ j : Nat, j ∉ ([27, 28, 29, 30, 31, 32] : List Nat) → F37 j = F j := mw_tr (by decide) hwU hU
                replace hV : ∀ j : Nat, j ∉ ([33] : List Nat) → V38 j = V j := mw_tr (by decide) hwV hV
                replace hI : StM n (b + 0) F V F37 V38 := hI.trans hwI
                replace hI : StM n (b) F V F37 V38 := hI
                replace hw : (r36, F37, V38) = f_w_memberRing_member n  F30 V31 := hw
                replace hZ9 := bn3_s hZ9 hw
                refine lv_istore_n (lv' := [(3, .int r36), (0, .ref h), (1, .int p0), (2, .int (nI xv))]) hx hb dX9_look_113 rfl hl (by decide) rfl (fun ls hl => ?_)
                refine lv_iload_n hx hb dX9_look_114 rfl (lv_at hl 0 rfl) ?_
                refine lv_if_le (tgt := 126) hx hb dX9_look_115 (by decide) (fun c39 => ?_) (fun c39 => ?_)
                · replace hZ9 := ite_t hZ9 c39
                  refine lv_aload_n hx hb dX9_look_126 rfl (lv_at hl 1 rfl) ?_
                  have hFc := mw_free hD hS hA
                  refine va_callv (va_runV (As := []) (rest := []) ⟨hx, hb, hml, hown, hts⟩ (c_w_addWanted l dC dI h a k F37 V38 n (b)  H.size hI.1 (by omega) ) (cwV 0 hts wc_w_look_w_addWanted_200 rfl rfl rfl (by decide +kernel) ⟨Nat.le_of_ble_eq_true rfl, Nat.le_of_ble_eq_true rfl⟩) ⟨fun a9 U g mk q => by obtain ⟨q0, q1, qP, qK, qD⟩ := q; exact ⟨q0, q1, qP, va_K.moved (u := U) (U := U.calling g mk a9) (Vm.Alike.refl U.vm) qK, qD⟩, va_recv hK hP (ci := 10) (q0 := 0) rfl rfl, fun U hU hW => ⟨rfl, by rw [hU], by rw [hU]; exact hP, va_K.moved hW.alike hK, hD.weaken (fun _ _ _ _ => trivial)⟩⟩ rfl rfl hl.1 rfl (lv_room (Nat.le_of_ble_eq_true rfl)) dX9_look_127 ⟨Nat.le_of_ble_eq_true rfl, Nat.le_of_ble_eq_true rfl⟩) hS (fun q _ h => hFc q h) hFc (fun u t H1 locs ht hvm hw hB hz1 hk1 hS => ?_)
                  obtain ⟨F41, V42⟩ := u
                  replace hP := hB.1
                  rw [ht] at hP
                  replace hD : va_D A (mW h a k F41 V42) := hB.2.weaken (fun _ q _ h9 => hFc q.1 h9)
                  clear hB
                  generalize H1 = H at hP hS ⊢
                  replace hP : va_P (dC, dI) vwCl (mW h a k F41 V42) H := hP
                  obtain ⟨hwI, hwU, hwV, hw⟩ := hw
                  replace hU : ∀ j : Nat, j ∉ ([27, 28, 29, 30, 31, 32] : List Nat) → F41 j = F j := mw_tr (by decide) hwU hU
                  replace hV : ∀ j : Nat, j ∉ ([33] : List Nat) → V42 j = V j := mw_tr (by decide) hwV hV
                  replace hI : StM n (b + 0) F V F41 V42 := hI.trans hwI
                  replace hI : StM n (b) F V F41 V42 := hI
                  replace hw : (F41, V42) = f_w_addWanted n  F37 V38 := hw
                  replace hZ9 := bn2_s hZ9 hw
                  refine lv_iconst (v := 0) hx hb dX9_look_130 (by decide) ?_
                  refine lv_istore (lv' := [(4, .int 0), (3, .int r36), (0, .ref h), (1, .int p0), (2, .int (nI xv))]) hx hb dX9_look_131 hl (by decide) rfl (fun ls hl => ?_)
                  obtain ⟨K9_133, hK9_133, hZ9⟩ := lp_gen hZ9
                  have lp46 : ∀ (fu44 i43 : Nat)  (F47 : Nat → Nat → Int32) (V48 : Nat → Int32) (H : Heap) (locs : List Loc) (ls : Array Slot), n < i43 + fu44 → i43 ≤ n → StM n (b) F V F47 V48 → (∀ j : Nat, j ∉ ([27, 28, 29, 30, 31, 32] : List Nat) → F47 j = F j) → (∀ j : Nat, j ∉ ([33] : List Nat) → V48 j = V j) → RES = f_w_look_133 n p0 fu44 i43 F47 V48 K9_133 → va_P (dC, dI) vwCl (mW h a k F47 V48) H → va_D A (mW h a k F47 V48) → va_S A s.heap H locs → lv_has ls 7 [(4, .int (nI i43)), (3, .int r36), (0, .ref h), (1, .int p0), (2, .int (nI xv))] → W p l e (headSpec wq_w_look rm_w_look).room s m ([.ref h, .int p0, .int (nI xv)] : List Value).toArray below meth c H locs 0 0 Q0 (F0 m 133 ls []) := by
                    intro fu44
                    induction fu44 with
                    | zero =>
                      intro i43  F47 V48 H locs ls hf hi
                      exact absurd hf (by omega)
                    | succ fu44 ih45 =>
                      intro i43  F47 V48 H locs ls hfi43 hii43 hI hU hV hZ9 hP hD hS hl
                      rw [f_w_look_133] at hZ9
                      refine lv_iload hx hb dX9_look_133 (lv_at hl 0 rfl) ?_
                      refine lv_aload_n hx hb dX9_look_135 rfl (lv_at hl 2 rfl) ?_
                      refine va_get (D := (dC, dI)) (ci := 10) (v := .int (V48 21)) (C := RX9) (T := TX9) (N := 46) hx hb hts in_w_look_X9 hown hK hP 0 rfl rfl 21 (by decide) (hts (.fieldLink RX9 126 "ServiceTreeModel" "services" "I") (by decide +kernel)) (fun _ h9 => h9) rfl dX9_look_136 ?_
                      refine p1_topr (v := .int (nI n)) (congrArg Value.int hI.1.2.1) ?_
                      refine lv_icmp_ge (tgt := 248) hx hb dX9_look_139 (by decide) (fun c49 => ?_) (fun c49 => ?_)
                      · replace c49 : n ≤ i43 := (nI_leI (a := n) (b := i43) (by omega) (by omega)).mp c49
                        replace hZ9 := ite_t hZ9 c49
                        replace hZ9 := lp_app3 hK9_133 hZ9
                        refine lv_aload_n hx hb dX9_look_248 rfl (lv_at hl 2 rfl) ?_
                        refine lv_iconst (v := (-1)) hx hb dX9_look_249 (by decide) ?_
                        have hFc := mw_free hD hS hA
                        refine va_callv (va_runV (As := [.int (-1)]) (rest := []) ⟨hx, hb, hml, hown, hts⟩ (c_w_addNeeding l dC dI h a k F47 V48 n (b) (-1) H.size hI.1 (by omega) ) (cwV 1 hts wc_w_look_w_addNeeding_190 rfl rfl rfl (by decide +kernel) ⟨Nat.le_of_ble_eq_true rfl, Nat.le_of_ble_eq_true rfl⟩) ⟨fun a9 U g mk q => by obtain ⟨q0, q1, qP, qK, qD⟩ := q; exact ⟨q0, q1, qP, va_K.moved (u := U) (U := U.calling g mk a9) (Vm.Alike.refl U.vm) qK, qD⟩, va_recv hK hP (ci := 10) (q0 := 0) rfl rfl, fun U hU hW => ⟨rfl, by rw [hU], by rw [hU]; exact hP, va_K.moved hW.alike hK, hD.weaken (fun _ _ _ _ => trivial)⟩⟩ rfl rfl hl.1 rfl (lv_room (Nat.le_of_ble_eq_true rfl)) dX9_look_250 ⟨Nat.le_of_ble_eq_true rfl, Nat.le_of_ble_eq_true rfl⟩) hS (fun q _ h => hFc q h) hFc (fun u t H1 locs ht hvm hw hB hz1 hk1 hS => ?_)
                        obtain ⟨F51, V52⟩ := u
                        replace hP := hB.1
                        rw [ht] at hP
                        replace hD : va_D A (mW h a k F51 V52) := hB.2.weaken (fun _ q _ h9 => hFc q.1 h9)
                        clear hB
                        generalize H1 = H at hP hS ⊢
                        replace hP : va_P (dC, dI) vwCl (mW h a k F51 V52) H := hP
                        obtain ⟨hwI, hwU, hwV, hw⟩ := hw
                        replace hU : ∀ j : Nat, j ∉ ([27, 28, 29, 30, 31, 32] : List Nat) → F51 j = F j := mw_tr (by decide) hwU hU
                        replace hV : ∀ j : Nat, j ∉ ([33] : List Nat) → V52 j = V j := mw_tr (by decide) hwV hV
                        replace hI : StM n (b + 0) F V F51 V52 := hI.trans hwI
                        replace hI : StM n (b) F V F51 V52 := hI
                        replace hw : (F51, V52) = f_w_addNeeding n (-1) F47 V48 := hw
                        replace hZ9 := bn2_s hZ9 hw
                        refine lv_iconst (v := 0) hx hb dX9_look_253 (by decide) ?_
                        refine lv_istore (lv' := [(4, .int 0), (3, .int r36), (0, .ref h), (1, .int p0), (2, .int (nI xv))]) hx hb dX9_look_254 hl (by decide) rfl (fun ls hl => ?_)
                        obtain ⟨K9_256, hK9_256, hZ9⟩ := lp_gen hZ9
                        have lp56 : ∀ (fu54 i53 : Nat)  (F57 : Nat → Nat → Int32) (V58 : Nat → Int32) (H : Heap) (locs : List Loc) (ls : Array Slot), n < i53 + fu54 → i53 ≤ n → StM n (b) F V F57 V58 → (∀ j : Nat, j ∉ ([27, 28, 29, 30, 31, 32] : List Nat) → F57 j = F j) → (∀ j : Nat, j ∉ ([33] : List Nat) → V58 j = V j) → RES = f_w_look_256 n  fu54 i53 F57 V58 K9_256 → va_P (dC, dI) vwCl (mW h a k F57 V58) H → va_D A (mW h a k F57 V58) → va_S A s.heap H locs → lv_has ls 7 [(4, .int (nI i53)), (3, .int r36), (0, .ref h), (1, .int p0), (2, .int (nI xv))] → W p l e (headSpec wq_w_look rm_w_look).room s m ([.ref h, .int p0, .int (nI xv)] : List Value).toArray below meth c H locs 0 0 Q0 (F0 m 256 ls []) := by
                          intro fu54
                          induction fu54 with
                          | zero =>
                            intro i53  F57 V58 H locs ls hf hi
                            exact absurd hf (by omega)
                          | succ fu54 ih55 =>
                            intro i53  F57 V58 H locs ls hfi53 hii53 hI hU hV hZ9 hP hD hS hl
                            rw [f_w_look_256] at hZ9
                            refine lv_iload hx hb dX9_look_256 (lv_at hl 0 rfl) ?_
                            refine lv_aload_n hx hb dX9_look_258 rfl (lv_at hl 2 rfl) ?_
                            refine va_get (D := (dC, dI)) (ci := 10) (v := .int (V58 21)) (C := RX9) (T := TX9) (N := 46) hx hb hts in_w_look_X9 hown hK hP 0 rfl rfl 21 (by decide) (hts (.fieldLink RX9 126 "ServiceTreeModel" "services" "I") (by decide +kernel)) (fun _ h9 => h9) rfl dX9_look_259 ?_
                            refine p1_topr (v := .int (nI n)) (congrArg Value.int hI.1.2.1) ?_
                            refine lv_icmp_ge (tgt := 295) hx hb dX9_look_262 (by decide) (fun c59 => ?_) (fun c59 => ?_)
                            · replace c59 : n ≤ i53 := (nI_leI (a := n) (b := i53) (by omega) (by omega)).mp c59
                              replace hZ9 := ite_t hZ9 c59
                              replace hZ9 := lp_app3 hK9_256 hZ9
                              refine lv_iconst (v := 0) hx hb dX9_look_295 (by decide) ?_
                              refine lv_istore (lv' := [(4, .int 0), (3, .int r36), (0, .ref h), (1, .int p0), (2, .int (nI xv))]) hx hb dX9_look_296 hl (by decide) rfl (fun ls hl => ?_)
                              obtain ⟨K9_298, hK9_298, hZ9⟩ := lp_gen hZ9
                              have lp63 : ∀ (fu61 i60 : Nat)  (F64 : Nat → Nat → Int32) (V65 : Nat → Int32) (H : Heap) (locs : List Loc) (ls : Array Slot), n < i60 + fu61 → i60 ≤ n → StM n (b) F V F64 V65 → (∀ j : Nat, j ∉ ([27, 28, 29, 30, 31, 32] : List Nat) → F64 j = F j) → (∀ j : Nat, j ∉ ([33] : List Nat) → V65 j = V j) → RES = f_w_look_298 n  fu61 i60 F64 V65 K9_298 → va_P (dC, dI) vwCl (mW h a k F64 V65) H → va_D A (mW h a k F64 V65) → va_S A s.heap H locs → lv_has ls 7 [(4, .int (nI i60)), (3, .int r36), (0, .ref h), (1, .int p0), (2, .int (nI xv))] → W p l e (headSpec wq_w_look rm_w_look).room s m ([.ref h, .int p0, .int (nI xv)] : List Value).toArray below meth c H locs 0 0 Q0 (F0 m 298 ls []) := by
                                intro fu61
                                induction fu61 with
                                | zero =>
                                  intro i60  F64 V65 H locs ls hf hi
                                  exact absurd hf (by omega)
                                | succ fu61 ih62 =>
                                  intro i60  F64 V65 H locs ls hfi60 hii60 hI hU hV hZ9 hP hD hS hl
                                  rw [f_w_look_298] at hZ9
                                  refine lv_iload hx hb dX9_look_298 (lv_at hl 0 rfl) ?_
                                  refine lv_aload_n hx hb dX9_look_300 rfl (lv_at hl 2 rfl) ?_
                                  refine va_get (D := (dC, dI)) (ci := 10) (v := .int (V65 21)) (C := RX9) (T := TX9) (N := 46) hx hb hts in_w_look_X9 hown hK hP 0 rfl rfl 21 (by decide) (hts (.fieldLink RX9 126 "ServiceTreeModel" "services" "I") (by decide +kernel)) (fun _ h9 => h9) rfl dX9_look_301 ?_
                                  refine p1_topr (v := .int (nI n)) (congrArg Value.int hI.1.2.1) ?_
                                  refine lv_icmp_ge (tgt := 352) hx hb dX9_look_304 (by decide) (fun c66 => ?_) (fun c66 => ?_)
                                  · replace c66 : n ≤ i60 := (nI_leI (a := n) (b := i60) (by omega) (by omega)).mp c66
                                    replace hZ9 := ite_t hZ9 c66
                                    replace hZ9 := lp_app3 hK9_298 hZ9
                                    exact jn22 F64 V65 _ _ _ hZ9 (hI.mono (by omega)) hU hV hP hD hS (lv_sub hl [2, 3, 4] rfl)
                                  · replace c66 : ¬ (n ≤ i60) := fun q9 => c66 ((nI_leI (a := n) (b := i60) (by omega) (by omega)).mpr q9)
                                    replace hZ9 := ite_f hZ9 c66
                                    refine lv_aload_n hx hb dX9_look_307 rfl (lv_at hl 2 rfl) ?_
                                    refine va_get (D := (dC, dI)) (ci := 10) (v := .ref (a 30)) (C := RX9) (T := TX9) (N := 46) hx hb hts in_w_look_X9 hown hK hP 0 rfl rfl 30 (by decide) (hts (.fieldLink RX9 86 "ServiceTreeModel" "newJob" "[I") (by decide +kernel)) (fun _ h9 => h9) rfl dX9_look_308 ?_
                                    refine lv_iload hx hb dX9_look_311 (lv_at hl 0 rfl) ?_
                                    refine lv_aload_n hx hb dX9_look_313 rfl (lv_at hl 2 rfl) ?_
                                    refine va_get (D := (dC, dI)) (ci := 10) (v := .ref (a 27)) (C := RX9) (T := TX9) (N := 46) hx hb hts in_w_look_X9 hown hK hP 0 rfl rfl 27 (by decide) (hts (.fieldLink RX9 77 "ServiceTreeModel" "member" "[Z") (by decide +kernel)) (fun _ h9 => h9) rfl dX9_look_314 ?_
                                    refine lv_iload hx hb dX9_look_317 (lv_at hl 0 rfl) ?_
                                    refine va_zald (n := 40) (f := F64 27) hx hb hK hP 23 22 rfl rfl (vp_in_nI (n := i60) (by omega) (by decide)) dX9_look_319 ?_
                                    refine lv_topi (fun x67 ex67 => ?_)
                                    replace hZ9 := bnd_s hZ9 ex67
                                    refine lv_if_eq (tgt := 338) hx hb dX9_look_320 (by decide) (fun c68 => ?_) (fun c68 => ?_)
                                    · replace hZ9 := ite_t hZ9 c68
                                      refine lv_aload_n hx hb dX9_look_338 rfl (lv_at hl 2 rfl) ?_
                                      refine va_get (D := (dC, dI)) (ci := 10) (v := .ref (a 30)) (C := RX9) (T := TX9) (N := 46) hx hb hts in_w_look_X9 hown hK hP 0 rfl rfl 30 (by decide) (hts (.fieldLink RX9 86 "ServiceTreeModel" "newJob" "[I") (by decide +kernel)) (fun _ h9 => h9) rfl dX9_look_339 ?_
                                      refine lv_iload hx hb dX9_look_342 (lv_at hl 0 rfl) ?_
                                      refine va_iald (n := 40) (f := F64 30) hx hb hK hP 26 25 rfl rfl (vp_in_nI (n := i60) (by omega) (by decide)) dX9_look_344 ?_
                                      refine lv_topi (fun x69 ex69 => ?_)
                                      replace hZ9 := bnd_s hZ9 ex69
                                      refine va_iast (n := 40) (f := F64 30) hx hb hK hP hD hS 26 25 rfl rfl (vp_in_nI (n := i60) (by omega) (by decide)) dX9_look_345 (fun H locs hP hD hS => ?_)
                                      rw [mW_set_30] at hP hD
                                      obtain ⟨F70, eF70⟩ : ∃ f9 : Nat → Nat → Int32, f9 = va_up F64 30 (upd (F64 30) (nI i60).toNatClampNeg x69) := ⟨_, rfl⟩
                                      rw [← eF70] at hP hD
                                      replace hZ9 := bnd_s hZ9 eF70
                                      replace hI : StM n (b) F V F70 V65 := ⟨by rw [eF70]; exact hI.1.setF (by decide), trivial⟩
                                      replace hU : ∀ j : Nat, j ∉ ([27, 28, 29, 30, 31, 32] : List Nat) → F70 j = F j := by rw [eF70]; exact mw_up (by decide) hU
                                      refine lv_iinc (v := nI (i60 + 1)) (lv' := [(4, .int (nI (i60 + 1))), (3, .int r36), (0, .ref h), (1, .int p0), (2, .int (nI xv))]) hx hb dX9_look_346 hl (k := 0) rfl (nI_add i60 1) (by decide) rfl (fun ls hl => ?_)
                                      refine lv_goto (tgt := 298) hx hb dX9_look_349 (by decide) ?_
                                      exact ih62 (i60 + 1)  F70 V65 _ _ _ (by omega) (by omega) (hI.mono (by omega)) hU hV  hZ9 hP hD hS (lv_sub hl [0, 1, 2, 3, 4] rfl)
                                    · replace hZ9 := ite_f hZ9 c68
                                      refine lv_aload_n hx hb dX9_look_323 rfl (lv_at hl 2 rfl) ?_
                                      refine va_get (D := (dC, dI)) (ci := 10) (v := .ref (a 7)) (C := RX9) (T := TX9) (N := 46) hx hb hts in_w_look_X9 hown hK hP 0 rfl rfl 7 (by decide) (hts (.fieldLink RX9 31 "ServiceTreeModel" "state" "[I") (by decide +kernel)) (fun _ h9 => h9) rfl dX9_look_324 ?_
                                      refine lv_iload hx hb dX9_look_327 (lv_at hl 0 rfl) ?_
                                      refine va_iald (n := 40) (f := F64 7) hx hb hK hP 8 7 rfl rfl (vp_in_nI (n := i60) (by omega) (by decide)) dX9_look_329 ?_
                                      refine lv_topi (fun x71 ex71 => ?_)
                                      replace hZ9 := bnd_s hZ9 ex71
                                      refine lv_iconst (v := 2) hx hb dX9_look_330 (by decide) ?_
                                      refine lv_icmp_eq (tgt := 338) hx hb dX9_look_331 (by decide) (fun c72 => ?_) (fun c72 => ?_)
                                      · replace hZ9 := ite_t hZ9 c72
                                        refine lv_aload_n hx hb dX9_look_338 rfl (lv_at hl 2 rfl) ?_
                                        refine va_get (D := (dC, dI)) (ci := 10) (v := .ref (a 30)) (C := RX9) (T := TX9) (N := 46) hx hb hts in_w_look_X9 hown hK hP 0 rfl rfl 30 (by decide) (hts (.fieldLink RX9 86 "ServiceTreeModel" "newJob" "[I") (by decide +kernel)) (fun _ h9 => h9) rfl dX9_look_339 ?_
                                        refine lv_iload hx hb dX9_look_342 (lv_at hl 0 rfl) ?_
                                        refine va_iald (n := 40) (f := F64 30) hx hb hK hP 26 25 rfl rfl (vp_in_nI (n := i60) (by omega) (by decide)) dX9_look_344 ?_
                                        refine lv_topi (fun x73 ex73 => ?_)
                                        replace hZ9 := bnd_s hZ9 ex73
                                        refine va_iast (n := 40) (f := F64 30) hx hb hK hP hD hS 26 25 rfl rfl (vp_in_nI (n := i60) (by omega) (by decide)) dX9_look_345 (fun H locs hP hD hS => ?_)
                                        rw [mW_set_30] at hP hD
                                        obtain ⟨F74, eF74⟩ : ∃ f9 : Nat → Nat → Int32, f9 = va_up F64 30 (upd (F64 30) (nI i60).toNatClampNeg x73) := ⟨_, rfl⟩
                                        rw [← eF74] at hP hD
                                        replace hZ9 := bnd_s hZ9 eF74
                                        replace hI : StM n (b) F V F74 V65 := ⟨by rw [eF74]; exact hI.1.setF (by decide), trivial⟩
                                        replace hU : ∀ j : Nat, j ∉ ([27, 28, 29, 30, 31, 32] : List Nat) → F74 j = F j := by rw [eF74]; exact mw_up (by decide) hU
                                        refine lv_iinc (v := nI (i60 + 1)) (lv' := [(4, .int (nI (i60 + 1))), (3, .int r36), (0, .ref h), (1, .int p0), (2, .int (nI xv))]) hx hb dX9_look_346 hl (k := 0) rfl (nI_add i60 1) (by decide) rfl (fun ls hl => ?_)
                                        refine lv_goto (tgt := 298) hx hb dX9_look_349 (by decide) ?_
                                        exact ih62 (i60 + 1)  F74 V65 _ _ _ (by omega) (by omega) (hI.mono (by omega)) hU hV  hZ9 hP hD hS (lv_sub hl [0, 1, 2, 3, 4] rfl)
                                      · replace hZ9 := ite_f hZ9 c72
                                        refine lv_iconst (v := 1) hx hb dX9_look_334 (by decide) ?_
                                        refine lv_goto (tgt := 345) hx hb dX9_look_335 (by decide) ?_
                                        refine va_iast (n := 40) (f := F64 30) hx hb hK hP hD hS 26 25 rfl rfl (vp_in_nI (n := i60) (by omega) (by decide)) dX9_look_345 (fun H locs hP hD hS => ?_)
                                        rw [mW_set_30] at hP hD
                                        obtain ⟨F75, eF75⟩ : ∃ f9 : Nat → Nat → Int32, f9 = va_up F64 30 (upd (F64 30) (nI i60).toNatClampNeg 1) := ⟨_, rfl⟩
                                        rw [← eF75] at hP hD
                                        replace hZ9 := bnd_s hZ9 eF75
                                        replace hI : StM n (b) F V F75 V65 := ⟨by rw [eF75]; exact hI.1.setF (by decide), trivial⟩
                                        replace hU : ∀ j : Nat, j ∉ ([27, 28, 29, 30, 31, 32] : List Nat) → F75 j = F j := by rw [eF75]; exact mw_up (by decide) hU
                                        refine lv_iinc (v := nI (i60 + 1)) (lv' := [(4, .int (nI (i60 + 1))), (3, .int r36), (0, .ref h), (1, .int p0), (2, .int (nI xv))]) hx hb dX9_look_346 hl (k := 0) rfl (nI_add i60 1) (by decide) rfl (fun ls hl => ?_)
                                        refine lv_goto (tgt := 298) hx hb dX9_look_349 (by decide) ?_
                                        exact ih62 (i60 + 1)  F75 V65 _ _ _ (by omega) (by omega) (hI.mono (by omega)) hU hV  hZ9 hP hD hS (lv_sub hl [0, 1, 2, 3, 4] rfl)
                              exact lp63 (n + 1) 0  F57 V58 _ _ _ (by omega) (by omega) (hI.mono (by omega)) hU hV  hZ9 hP hD hS hl
                            · replace c59 : ¬ (n ≤ i53) := fun q9 => c59 ((nI_leI (a := n) (b := i53) (by omega) (by omega)).mpr q9)
                              replace hZ9 := ite_f hZ9 c59
                              refine lv_aload_n hx hb dX9_look_265 rfl (lv_at hl 2 rfl) ?_
                              refine va_get (D := (dC, dI)) (ci := 10) (v := .ref (a 27)) (C := RX9) (T := TX9) (N := 46) hx hb hts in_w_look_X9 hown hK hP 0 rfl rfl 27 (by decide) (hts (.fieldLink RX9 77 "ServiceTreeModel" "member" "[Z") (by decide +kernel)) (fun _ h9 => h9) rfl dX9_look_266 ?_
                              refine lv_iload hx hb dX9_look_269 (lv_at hl 0 rfl) ?_
                              refine va_zald (n := 40) (f := F57 27) hx hb hK hP 23 22 rfl rfl (vp_in_nI (n := i53) (by omega) (by decide)) dX9_look_271 ?_
                              refine lv_topi (fun x76 ex76 => ?_)
                              replace hZ9 := bnd_s hZ9 ex76
                              refine lv_if_eq (tgt := 289) hx hb dX9_look_272 (by decide) (fun c77 => ?_) (fun c77 => ?_)
                              · replace hZ9 := ite_t hZ9 c77
                                refine lv_iinc (v := nI (i53 + 1)) (lv' := [(4, .int (nI (i53 + 1))), (3, .int r36), (0, .ref h), (1, .int p0), (2, .int (nI xv))]) hx hb dX9_look_289 hl (k := 0) rfl (nI_add i53 1) (by decide) rfl (fun ls hl => ?_)
                                refine lv_goto (tgt := 256) hx hb dX9_look_292 (by decide) ?_
                                exact ih55 (i53 + 1)  F57 V58 _ _ _ (by omega) (by omega) (hI.mono (by omega)) hU hV  hZ9 hP hD hS (lv_sub hl [0, 1, 2, 3, 4] rfl)
                              · replace hZ9 := ite_f hZ9 c77
                                refine lv_aload_n hx hb dX9_look_275 rfl (lv_at hl 2 rfl) ?_
                                refine va_get (D := (dC, dI)) (ci := 10) (v := .ref (a 30)) (C := RX9) (T := TX9) (N := 46) hx hb hts in_w_look_X9 hown hK hP 0 rfl rfl 30 (by decide) (hts (.fieldLink RX9 86 "ServiceTreeModel" "newJob" "[I") (by decide +kernel)) (fun _ h9 => h9) rfl dX9_look_276 ?_
                                refine lv_iload hx hb dX9_look_279 (lv_at hl 0 rfl) ?_
                                refine va_iald (n := 40) (f := F57 30) hx hb hK hP 26 25 rfl rfl (vp_in_nI (n := i53) (by omega) (by decide)) dX9_look_281 ?_
                                refine lv_topi (fun x78 ex78 => ?_)
                                replace hZ9 := bnd_s hZ9 ex78
                                refine lv_iconst (v := 2) hx hb dX9_look_282 (by decide) ?_
                                refine lv_icmp_ne (tgt := 289) hx hb dX9_look_283 (by decide) (fun c79 => ?_) (fun c79 => ?_)
                                · replace hZ9 := ite_f hZ9 c79
                                  refine lv_iinc (v := nI (i53 + 1)) (lv' := [(4, .int (nI (i53 + 1))), (3, .int r36), (0, .ref h), (1, .int p0), (2, .int (nI xv))]) hx hb dX9_look_289 hl (k := 0) rfl (nI_add i53 1) (by decide) rfl (fun ls hl => ?_)
                                  refine lv_goto (tgt := 256) hx hb dX9_look_292 (by decide) ?_
                                  exact ih55 (i53 + 1)  F57 V58 _ _ _ (by omega) (by omega) (hI.mono (by omega)) hU hV  hZ9 hP hD hS (lv_sub hl [0, 1, 2, 3, 4] rfl)
                                · replace hZ9 := ite_t hZ9 c79
                                  refine lv_bipush (v := (-4)) hx hb dX9_look_286 (by decide) ?_
                                  rw [hQ]
                                  exact W.iret (v := (-4)) hx hb hr (fun t ht hW => ⟨⟨(-4), (F57, V58), rfl, ⟨hI.mono (by omega), hU, hV, hZ9.symm.trans hR0⟩, by rw [ht]; exact hP, hD⟩, hS.F ht⟩) hS.2.2 dX9_look_288
                        exact lp56 (n + 1) 0  F51 V52 _ _ _ (by omega) (by omega) (hI.mono (by omega)) hU hV  hZ9 hP hD hS hl
                      · replace c49 : ¬ (n ≤ i43) := fun q9 => c49 ((nI_leI (a := n) (b := i43) (by omega) (by omega)).mpr q9)
                        replace hZ9 := ite_f hZ9 c49
                        refine lv_iload_n hx hb dX9_look_142 rfl (lv_at hl 3 rfl) ?_
                        refine lv_iconst (v := 2) hx hb dX9_look_143 (by decide) ?_
                        refine lv_icmp_ne (tgt := 161) hx hb dX9_look_144 (by decide) (fun c80 => ?_) (fun c80 => ?_)
                        · replace hZ9 := ite_f hZ9 c80
                          refine lv_iconst (v := 0) hx hb dX9_look_161 (by decide) ?_
                          refine lv_istore (lv' := [(5, .int 0), (4, .int (nI i43)), (3, .int r36), (0, .ref h), (1, .int p0), (2, .int (nI xv))]) hx hb dX9_look_162 hl (by decide) rfl (fun ls hl => ?_)
                          refine lv_iconst (v := 0) hx hb dX9_look_164 (by decide) ?_
                          refine lv_istore (lv' := [(6, .int 0), (5, .int 0), (4, .int (nI i43)), (3, .int r36), (0, .ref h), (1, .int p0), (2, .int (nI xv))]) hx hb dX9_look_165 hl (by decide) rfl (fun ls hl => ?_)
                          obtain ⟨K9_167, hK9_167, hZ9⟩ := lp_gen hZ9
                          have lp84 : ∀ (fu82 i81 : Nat) (y87 : Int32) (F85 : Nat → Nat → Int32) (V86 : Nat → Int32) (H : Heap) (locs : List Loc) (ls : Array Slot), n < i81 + fu82 → i81 ≤ n → StM n (b) F V F85 V86 → (∀ j : Nat, j ∉ ([27, 28, 29, 30, 31, 32] : List Nat) → F85 j = F j) → (∀ j : Nat, j ∉ ([33] : List Nat) → V86 j = V j) → RES = f_w_look_167 n i43 fu82 i81 y87 F85 V86 K9_167 → va_P (dC, dI) vwCl (mW h a k F85 V86) H → va_D A (mW h a k F85 V86) → va_S A s.heap H locs → lv_has ls 7 [(6, .int (nI i81)), (5, .int y87), (4, .int (nI i43)), (3, .int r36), (0, .ref h), (1, .int p0), (2, .int (nI xv))] → W p l e (headSpec wq_w_look rm_w_look).room s m ([.ref h, .int p0, .int (nI xv)] : List Value).toArray below meth c H locs 0 0 Q0 (F0 m 167 ls []) := by
                            intro fu82
                            induction fu82 with
                            | zero =>
                              intro i81 y87 F85 V86 H locs ls hf hi
                              exact absurd hf (by omega)
                            | succ fu82 ih83 =>
                              intro i81 y87 F85 V86 H locs ls hfi81 hii81 hI hU hV hZ9 hP hD hS hl
                              rw [f_w_look_167] at hZ9
                              refine lv_iload hx hb dX9_look_167 (lv_at hl 0 rfl) ?_
                              refine lv_aload_n hx hb dX9_look_169 rfl (lv_at hl 4 rfl) ?_
                              refine va_get (D := (dC, dI)) (ci := 10) (v := .int (V86 21)) (C := RX9) (T := TX9) (N := 46) hx hb hts in_w_look_X9 hown hK hP 0 rfl rfl 21 (by decide) (hts (.fieldLink RX9 126 "ServiceTreeModel" "services" "I") (by decide +kernel)) (fun _ h9 => h9) rfl dX9_look_170 ?_
                              refine p1_topr (v := .int (nI n)) (congrArg Value.int hI.1.2.1) ?_
                              refine lv_icmp_ge (tgt := 216) hx hb dX9_look_173 (by decide) (fun c88 => ?_) (fun c88 => ?_)
                              · replace c88 : n ≤ i81 := (nI_leI (a := n) (b := i81) (by omega) (by omega)).mp c88
                                replace hZ9 := ite_t hZ9 c88
                                replace hZ9 := lp_app4 hK9_167 hZ9
                                refine lv_aload_n hx hb dX9_look_216 rfl (lv_at hl 4 rfl) ?_
                                refine va_get (D := (dC, dI)) (ci := 10) (v := .ref (a 30)) (C := RX9) (T := TX9) (N := 46) hx hb hts in_w_look_X9 hown hK hP 0 rfl rfl 30 (by decide) (hts (.fieldLink RX9 86 "ServiceTreeModel" "newJob" "[I") (by decide +kernel)) (fun _ h9 => h9) rfl dX9_look_217 ?_
                                refine lv_iload hx hb dX9_look_220 (lv_at hl 2 rfl) ?_
                                refine lv_iload hx hb dX9_look_222 (lv_at hl 1 rfl) ?_
                                refine lv_if_eq (tgt := 240) hx hb dX9_look_224 (by decide) (fun c89 => ?_) (fun c89 => ?_)
                                · replace hZ9 := ite_t hZ9 c89
                                  refine lv_iconst (v := 0) hx hb dX9_look_240 (by decide) ?_
                                  refine va_iast (n := 40) (f := F85 30) hx hb hK hP hD hS 26 25 rfl rfl (vp_in_nI (n := i43) (by omega) (by decide)) dX9_look_241 (fun H locs hP hD hS => ?_)
                                  rw [mW_set_30] at hP hD
                                  obtain ⟨F90, eF90⟩ : ∃ f9 : Nat → Nat → Int32, f9 = va_up F85 30 (upd (F85 30) (nI i43).toNatClampNeg 0) := ⟨_, rfl⟩
                                  rw [← eF90] at hP hD
                                  replace hZ9 := bnd_s hZ9 eF90
                                  replace hI : StM n (b) F V F90 V86 := ⟨by rw [eF90]; exact hI.1.setF (by decide), trivial⟩
                                  replace hU : ∀ j : Nat, j ∉ ([27, 28, 29, 30, 31, 32] : List Nat) → F90 j = F j := by rw [eF90]; exact mw_up (by decide) hU
                                  refine lv_iinc (v := nI (i43 + 1)) (lv' := [(4, .int (nI (i43 + 1))), (6, .int (nI i81)), (5, .int y87), (3, .int r36), (0, .ref h), (1, .int p0), (2, .int (nI xv))]) hx hb dX9_look_242 hl (k := 2) rfl (nI_add i43 1) (by decide) rfl (fun ls hl => ?_)
                                  refine lv_goto (tgt := 133) hx hb dX9_look_245 (by decide) ?_
                                  exact ih45 (i43 + 1)  F90 V86 _ _ _ (by omega) (by omega) (hI.mono (by omega)) hU hV  hZ9 hP hD hS (lv_sub hl [0, 3, 4, 5, 6] rfl)
                                · replace hZ9 := ite_f hZ9 c89
                                  refine lv_aload_n hx hb dX9_look_227 rfl (lv_at hl 4 rfl) ?_
                                  refine lv_iload hx hb dX9_look_228 (lv_at hl 2 rfl) ?_
                                  have hFc := mw_free hD hS hA
                                  refine va_calli (va_runV (As := [.int (nI i43)]) (rest := [.int (nI i43), .ref (a 30)]) ⟨hx, hb, hml, hown, hts⟩ (c_w_isUpOrWaiting l dC dI h a k F85 V86 n (b) i43 H.size hI.1 (by omega) (by omega)) (cwV 1 hts wc_w_look_w_isUpOrWaiting_171 rfl rfl rfl (by decide +kernel) ⟨Nat.le_of_ble_eq_true rfl, Nat.le_of_ble_eq_true rfl⟩) ⟨fun a9 U g mk q => by obtain ⟨q0, q1, qP, qK, qD⟩ := q; exact ⟨q0, q1, qP, va_K.moved (u := U) (U := U.calling g mk a9) (Vm.Alike.refl U.vm) qK, qD⟩, va_recv hK hP (ci := 10) (q0 := 0) rfl rfl, fun U hU hW => ⟨rfl, by rw [hU], by rw [hU]; exact hP, va_K.moved hW.alike hK, hD.weaken (fun _ _ _ _ => trivial)⟩⟩ rfl rfl hl.1 rfl (lv_room (Nat.le_of_ble_eq_true rfl)) dX9_look_230 ⟨Nat.le_of_ble_eq_true rfl, Nat.le_of_ble_eq_true rfl⟩) hS (fun q _ h => hFc q h) hFc (fun r91 u t H1 locs ht hvm hw hB hz1 hk1 hS => ?_)
                                  obtain ⟨F92, V93⟩ := u
                                  replace hP := hB.1
                                  rw [ht] at hP
                                  replace hD : va_D A (mW h a k F92 V93) := hB.2.weaken (fun _ q _ h9 => hFc q.1 h9)
                                  clear hB
                                  generalize H1 = H at hP hS ⊢
                                  replace hP : va_P (dC, dI) vwCl (mW h a k F92 V93) H := hP
                                  obtain ⟨hwF, hwV, hw⟩ : F92 = F85 ∧ V93 = V86 ∧ _ := hw
                                  rw [hwF, hwV] at hP hD
                                  replace hw : r91 = f_w_isUpOrWaiting n i43 F85 := hw
                                  replace hZ9 := bnd_s hZ9 hw
                                  refine lv_if_eq (tgt := 240) hx hb dX9_look_233 (by decide) (fun c94 => ?_) (fun c94 => ?_)
                                  · replace hZ9 := ite_t hZ9 c94
                                    refine lv_iconst (v := 0) hx hb dX9_look_240 (by decide) ?_
                                    refine va_iast (n := 40) (f := F85 30) hx hb hK hP hD hS 26 25 rfl rfl (vp_in_nI (n := i43) (by omega) (by decide)) dX9_look_241 (fun H locs hP hD hS => ?_)
                                    rw [mW_set_30] at hP hD
                                    obtain ⟨F95, eF95⟩ : ∃ f9 : Nat → Nat → Int32, f9 = va_up F85 30 (upd (F85 30) (nI i43).toNatClampNeg 0) := ⟨_, rfl⟩
                                    rw [← eF95] at hP hD
                                    replace hZ9 := bnd_s hZ9 eF95
                                    replace hI : StM n (b) F V F95 V86 := ⟨by rw [eF95]; exact hI.1.setF (by decide), trivial⟩
                                    replace hU : ∀ j : Nat, j ∉ ([27, 28, 29, 30, 31, 32] : List Nat) → F95 j = F j := by rw [eF95]; exact mw_up (by decide) hU
                                    refine lv_iinc (v := nI (i43 + 1)) (lv' := [(4, .int (nI (i43 + 1))), (6, .int (nI i81)), (5, .int y87), (3, .int r36), (0, .ref h), (1, .int p0), (2, .int (nI xv))]) hx hb dX9_look_242 hl (k := 2) rfl (nI_add i43 1) (by decide) rfl (fun ls hl => ?_)
                                    refine lv_goto (tgt := 133) hx hb dX9_look_245 (by decide) ?_
                                    exact ih45 (i43 + 1)  F95 V86 _ _ _ (by omega) (by omega) (hI.mono (by omega)) hU hV  hZ9 hP hD hS (lv_sub hl [0, 3, 4, 5, 6] rfl)
                                  · replace hZ9 := ite_f hZ9 c94
                                    refine lv_iconst (v := 2) hx hb dX9_look_236 (by decide) ?_
                                    refine lv_goto (tgt := 241) hx hb dX9_look_237 (by decide) ?_
                                    refine va_iast (n := 40) (f := F85 30) hx hb hK hP hD hS 26 25 rfl rfl (vp_in_nI (n := i43) (by omega) (by decide)) dX9_look_241 (fun H locs hP hD hS => ?_)
                                    rw [mW_set_30] at hP hD
                                    obtain ⟨F96, eF96⟩ : ∃ f9 : Nat → Nat → Int32, f9 = va_up F85 30 (upd (F85 30) (nI i43).toNatClampNeg 2) := ⟨_, rfl⟩
                                    rw [← eF96] at hP hD
                                    replace hZ9 := bnd_s hZ9 eF96
                                    replace hI : StM n (b) F V F96 V86 := ⟨by rw [eF96]; exact hI.1.setF (by decide), trivial⟩
                                    replace hU : ∀ j : Nat, j ∉ ([27, 28, 29, 30, 31, 32] : List Nat) → F96 j = F j := by rw [eF96]; exact mw_up (by decide) hU
                                    refine lv_iinc (v := nI (i43 + 1)) (lv' := [(4, .int (nI (i43 + 1))), (6, .int (nI i81)), (5, .int y87), (3, .int r36), (0, .ref h), (1, .int p0), (2, .int (nI xv))]) hx hb dX9_look_242 hl (k := 2) rfl (nI_add i43 1) (by decide) rfl (fun ls hl => ?_)
                                    refine lv_goto (tgt := 133) hx hb dX9_look_245 (by decide) ?_
                                    exact ih45 (i43 + 1)  F96 V86 _ _ _ (by omega) (by omega) (hI.mono (by omega)) hU hV  hZ9 hP hD hS (lv_sub hl [0, 3, 4, 5, 6] rfl)
                              · replace c88 : ¬ (n ≤ i81) := fun q9 => c88 ((nI_leI (a := n) (b := i81) (by omega) (by omega)).mpr q9)
                                replace hZ9 := ite_f hZ9 c88
                                refine lv_iload hx hb dX9_look_176 (lv_at hl 1 rfl) ?_
                                refine lv_if_ne (tgt := 203) hx hb dX9_look_178 (by decide) (fun c97 => ?_) (fun c97 => ?_)
                                · replace hZ9 := ite_f hZ9 c97
                                  refine lv_iconst (v := 1) hx hb dX9_look_203 (by decide) ?_
                                  refine lv_goto (tgt := 208) hx hb dX9_look_204 (by decide) ?_
                                  refine lv_istore (lv' := [(5, .int 1), (6, .int (nI i81)), (4, .int (nI i43)), (3, .int r36), (0, .ref h), (1, .int p0), (2, .int (nI xv))]) hx hb dX9_look_208 hl (by decide) rfl (fun ls hl => ?_)
                                  refine lv_iinc (v := nI (i81 + 1)) (lv' := [(6, .int (nI (i81 + 1))), (5, .int 1), (4, .int (nI i43)), (3, .int r36), (0, .ref h), (1, .int p0), (2, .int (nI xv))]) hx hb dX9_look_210 hl (k := 1) rfl (nI_add i81 1) (by decide) rfl (fun ls hl => ?_)
                                  refine lv_goto (tgt := 167) hx hb dX9_look_213 (by decide) ?_
                                  exact ih83 (i81 + 1) 1 F85 V86 _ _ _ (by omega) (by omega) (hI.mono (by omega)) hU hV  hZ9 hP hD hS (lv_sub hl [0, 1, 2, 3, 4, 5, 6] rfl)
                                · replace hZ9 := ite_t hZ9 c97
                                  refine lv_aload_n hx hb dX9_look_181 rfl (lv_at hl 4 rfl) ?_
                                  refine va_get (D := (dC, dI)) (ci := 10) (v := .ref (a 27)) (C := RX9) (T := TX9) (N := 46) hx hb hts in_w_look_X9 hown hK hP 0 rfl rfl 27 (by decide) (hts (.fieldLink RX9 77 "ServiceTreeModel" "member" "[Z") (by decide +kernel)) (fun _ h9 => h9) rfl dX9_look_182 ?_
                                  refine lv_iload hx hb dX9_look_185 (lv_at hl 0 rfl) ?_
                                  refine va_zald (n := 40) (f := F85 27) hx hb hK hP 23 22 rfl rfl (vp_in_nI (n := i81) (by omega) (by decide)) dX9_look_187 ?_
                                  refine lv_topi (fun x98 ex98 => ?_)
                                  replace hZ9 := bnd_s hZ9 ex98
                                  refine lv_if_eq (tgt := 207) hx hb dX9_look_188 (by decide) (fun c99 => ?_) (fun c99 => ?_)
                                  · replace hZ9 := ite_t hZ9 c99
                                    refine lv_iconst (v := 0) hx hb dX9_look_207 (by decide) ?_
                                    refine lv_istore (lv' := [(5, .int 0), (6, .int (nI i81)), (4, .int (nI i43)), (3, .int r36), (0, .ref h), (1, .int p0), (2, .int (nI xv))]) hx hb dX9_look_208 hl (by decide) rfl (fun ls hl => ?_)
                                    refine lv_iinc (v := nI (i81 + 1)) (lv' := [(6, .int (nI (i81 + 1))), (5, .int 0), (4, .int (nI i43)), (3, .int r36), (0, .ref h), (1, .int p0), (2, .int (nI xv))]) hx hb dX9_look_210 hl (k := 1) rfl (nI_add i81 1) (by decide) rfl (fun ls hl => ?_)
                                    refine lv_goto (tgt := 167) hx hb dX9_look_213 (by decide) ?_
                                    exact ih83 (i81 + 1) 0 F85 V86 _ _ _ (by omega) (by omega) (hI.mono (by omega)) hU hV  hZ9 hP hD hS (lv_sub hl [0, 1, 2, 3, 4, 5, 6] rfl)
                                  · replace hZ9 := ite_f hZ9 c99
                                    refine lv_aload_n hx hb dX9_look_191 rfl (lv_at hl 4 rfl) ?_
                                    refine lv_iconst (v := 3) hx hb dX9_look_192 (by decide) ?_
                                    refine lv_iload hx hb dX9_look_193 (lv_at hl 2 rfl) ?_
                                    refine lv_iload hx hb dX9_look_195 (lv_at hl 0 rfl) ?_
                                    have hFc := mw_free hD hS hA
                                    refine va_calli (va_runV (As := [.int 3, .int (nI i43), .int (nI i81)]) (rest := []) ⟨hx, hb, hml, hown, hts⟩ (c_w_has l dC dI h a k F85 V86 n (b) 3 i43 i81 H.size hI.1 (by omega) (by omega) (by omega) (by omega)) (cwV 3 hts wc_w_look_w_has_150 rfl rfl rfl (by decide +kernel) ⟨Nat.le_of_ble_eq_true rfl, Nat.le_of_ble_eq_true rfl⟩) ⟨fun a9 U g mk q => by obtain ⟨q0, q1, qP, qK, qD⟩ := q; exact ⟨q0, q1, qP, va_K.moved (u := U) (U := U.calling g mk a9) (Vm.Alike.refl U.vm) qK, qD⟩, va_recv hK hP (ci := 10) (q0 := 0) rfl rfl, fun U hU hW => ⟨rfl, by rw [hU], by rw [hU]; exact hP, va_K.moved hW.alike hK, hD.weaken (fun _ _ _ _ => trivial)⟩⟩ rfl rfl hl.1 rfl (lv_room (Nat.le_of_ble_eq_true rfl)) dX9_look_197 ⟨Nat.le_of_ble_eq_true rfl, Nat.le_of_ble_eq_true rfl⟩) hS (fun q _ h => hFc q h) hFc (fun r100 u t H1 locs ht hvm hw hB hz1 hk1 hS => ?_)
                                    obtain ⟨F101, V102⟩ := u
                                    replace hP := hB.1
                                    rw [ht] at hP
                                    replace hD : va_D A (mW h a k F101 V102) := hB.2.weaken (fun _ q _ h9 => hFc q.1 h9)
                                    clear hB
                                    generalize H1 = H at hP hS ⊢
                                    replace hP : va_P (dC, dI) vwCl (mW h a k F101 V102) H := hP
                                    obtain ⟨hwF, hwV, hw⟩ : F101 = F85 ∧ V102 = V86 ∧ _ := hw
                                    rw [hwF, hwV] at hP hD
                                    obtain ⟨hw, hwe⟩ := hw
                                    replace hw : r100 = f_w_has n 3 i43 i81 F85 := hw
                                    replace hZ9 := bnd_s hZ9 hw
                                    have br100 := hwe
                                    refine lv_if_eq (tgt := 207) hx hb dX9_look_200 (by decide) (fun c103 => ?_) (fun c103 => ?_)
                                    · replace hZ9 := ite_t hZ9 c103
                                      refine lv_iconst (v := 0) hx hb dX9_look_207 (by decide) ?_
                                      refine lv_istore (lv' := [(5, .int 0), (6, .int (nI i81)), (4, .int (nI i43)), (3, .int r36), (0, .ref h), (1, .int p0), (2, .int (nI xv))]) hx hb dX9_look_208 hl (by decide) rfl (fun ls hl => ?_)
                                      refine lv_iinc (v := nI (i81 + 1)) (lv' := [(6, .int (nI (i81 + 1))), (5, .int 0), (4, .int (nI i43)), (3, .int r36), (0, .ref h), (1, .int p0), (2, .int (nI xv))]) hx hb dX9_look_210 hl (k := 1) rfl (nI_add i81 1) (by decide) rfl (fun ls hl => ?_)
                                      refine lv_goto (tgt := 167) hx hb dX9_look_213 (by decide) ?_
                                      exact ih83 (i81 + 1) 0 F85 V86 _ _ _ (by omega) (by omega) (hI.mono (by omega)) hU hV  hZ9 hP hD hS (lv_sub hl [0, 1, 2, 3, 4, 5, 6] rfl)
                                    · replace hZ9 := ite_f hZ9 c103
                                      refine lv_iconst (v := 1) hx hb dX9_look_203 (by decide) ?_
                                      refine lv_goto (tgt := 208) hx hb dX9_look_204 (by decide) ?_
                                      refine lv_istore (lv' := [(5, .int 1), (6, .int (nI i81)), (4, .int (nI i43)), (3, .int r36), (0, .ref h), (1, .int p0), (2, .int (nI xv))]) hx hb dX9_look_208 hl (by decide) rfl (fun ls hl => ?_)
                                      refine lv_iinc (v := nI (i81 + 1)) (lv' := [(6, .int (nI (i81 + 1))), (5, .int 1), (4, .int (nI i43)), (3, .int r36), (0, .ref h), (1, .int p0), (2, .int (nI xv))]) hx hb dX9_look_210 hl (k := 1) rfl (nI_add i81 1) (by decide) rfl (fun ls hl => ?_)
                                      refine lv_goto (tgt := 167) hx hb dX9_look_213 (by decide) ?_
                                      exact ih83 (i81 + 1) 1 F85 V86 _ _ _ (by omega) (by omega) (hI.mono (by omega)) hU hV  hZ9 hP hD hS (lv_sub hl [0, 1, 2, 3, 4, 5, 6] rfl)
                          exact lp84 (n + 1) 0 0 F47 V48 _ _ _ (by omega) (by omega) (hI.mono (by omega)) hU hV  hZ9 hP hD hS hl
                        · replace hZ9 := ite_t hZ9 c80
                          refine lv_aload_n hx hb dX9_look_147 rfl (lv_at hl 2 rfl) ?_
                          refine va_get (D := (dC, dI)) (ci := 10) (v := .ref (a 27)) (C := RX9) (T := TX9) (N := 46) hx hb hts in_w_look_X9 hown hK hP 0 rfl rfl 27 (by decide) (hts (.fieldLink RX9 77 "ServiceTreeModel" "member" "[Z") (by decide +kernel)) (fun _ h9 => h9) rfl dX9_look_148 ?_
                          refine lv_iload hx hb dX9_look_151 (lv_at hl 0 rfl) ?_
                          refine va_zald (n := 40) (f := F47 27) hx hb hK hP 23 22 rfl rfl (vp_in_nI (n := i43) (by omega) (by decide)) dX9_look_153 ?_
                          refine lv_topi (fun x104 ex104 => ?_)
                          replace hZ9 := bnd_s hZ9 ex104
                          refine lv_if_ne (tgt := 161) hx hb dX9_look_154 (by decide) (fun c105 => ?_) (fun c105 => ?_)
                          · replace hZ9 := ite_f hZ9 c105
                            refine lv_iconst (v := 0) hx hb dX9_look_161 (by decide) ?_
                            refine lv_istore (lv' := [(5, .int 0), (4, .int (nI i43)), (3, .int r36), (0, .ref h), (1, .int p0), (2, .int (nI xv))]) hx hb dX9_look_162 hl (by decide) rfl (fun ls hl => ?_)
                            refine lv_iconst (v := 0) hx hb dX9_look_164 (by decide) ?_
                            refine lv_istore (lv' := [(6, .int 0), (5, .int 0), (4, .int (nI i43)), (3, .int r36), (0, .ref h), (1, .int p0), (2, .int (nI xv))]) hx hb dX9_look_165 hl (by decide) rfl (fun ls hl => ?_)
                            obtain ⟨K9_167, hK9_167, hZ9⟩ := lp_gen hZ9
                            have lp109 : ∀ (fu107 i106 : Nat) (y112 : Int32) (F110 : Nat → Nat → Int32) (V111 : Nat → Int32) (H : Heap) (locs : List Loc) (ls : Array Slot), n < i106 + fu107 → i106 ≤ n → StM n (b) F V F110 V111 → (∀ j : Nat, j ∉ ([27, 28, 29, 30, 31, 32] : List Nat) → F110 j = F j) → (∀ j : Nat, j ∉ ([33] : List Nat) → V111 j = V j) → RES = f_w_look_167q1 n i43 fu107 i106 y112 F110 V111 K9_167 → va_P (dC, dI) vwCl (mW h a k F110 V111) H → va_D A (mW h a k F110 V111) → va_S A s.heap H locs → lv_has ls 7 [(6, .int (nI i106)), (5, .int y112), (4, .int (nI i43)), (3, .int r36), (0, .ref h), (1, .int p0), (2, .int (nI xv))] → W p l e (headSpec wq_w_look rm_w_look).room s m ([.ref h, .int p0, .int (nI xv)] : List Value).toArray below meth c H locs 0 0 Q0 (F0 m 167 ls []) := by
                              intro fu107
                              induction fu107 with
                              | zero =>
                                intro i106 y112 F110 V111 H locs ls hf hi
                                exact absurd hf (by omega)
                              | succ fu107 ih108 =>
                                intro i106 y112 F110 V111 H locs ls hfi106 hii106 hI hU hV hZ9 hP hD hS hl
                                rw [f_w_look_167q1] at hZ9
                                refine lv_iload hx hb dX9_look_167 (lv_at hl 0 rfl) ?_
                                refine lv_aload_n hx hb dX9_look_169 rfl (lv_at hl 4 rfl) ?_
                                refine va_get (D := (dC, dI)) (ci := 10) (v := .int (V111 21)) (C := RX9) (T := TX9) (N := 46) hx hb hts in_w_look_X9 hown hK hP 0 rfl rfl 21 (by decide) (hts (.fieldLink RX9 126 "ServiceTreeModel" "services" "I") (by decide +kernel)) (fun _ h9 => h9) rfl dX9_look_170 ?_
                                refine p1_topr (v := .int (nI n)) (congrArg Value.int hI.1.2.1) ?_
                                refine lv_icmp_ge (tgt := 216) hx hb dX9_look_173 (by decide) (fun c113 => ?_) (fun c113 => ?_)
                                · replace c113 : n ≤ i106 := (nI_leI (a := n) (b := i106) (by omega) (by omega)).mp c113
                                  replace hZ9 := ite_t hZ9 c113
                                  replace hZ9 := lp_app4 hK9_167 hZ9
                                  refine lv_aload_n hx hb dX9_look_216 rfl (lv_at hl 4 rfl) ?_
                                  refine va_get (D := (dC, dI)) (ci := 10) (v := .ref (a 30)) (C := RX9) (T := TX9) (N := 46) hx hb hts in_w_look_X9 hown hK hP 0 rfl rfl 30 (by decide) (hts (.fieldLink RX9 86 "ServiceTreeModel" "newJob" "[I") (by decide +kernel)) (fun _ h9 => h9) rfl dX9_look_217 ?_
                                  refine lv_iload hx hb dX9_look_220 (lv_at hl 2 rfl) ?_
                                  refine lv_iload hx hb dX9_look_222 (lv_at hl 1 rfl) ?_
                                  refine lv_if_eq (tgt := 240) hx hb dX9_look_224 (by decide) (fun c114 => ?_) (fun c114 => ?_)
                                  · replace hZ9 := ite_t hZ9 c114
                                    refine lv_iconst (v := 0) hx hb dX9_look_240 (by decide) ?_
                                    refine va_iast (n := 40) (f := F110 30) hx hb hK hP hD hS 26 25 rfl rfl (vp_in_nI (n := i43) (by omega) (by decide)) dX9_look_241 (fun H locs hP hD hS => ?_)
                                    rw [mW_set_30] at hP hD
                                    obtain ⟨F115, eF115⟩ : ∃ f9 : Nat → Nat → Int32, f9 = va_up F110 30 (upd (F110 30) (nI i43).toNatClampNeg 0) := ⟨_, rfl⟩
                                    rw [← eF115] at hP hD
                                    replace hZ9 := bnd_s hZ9 eF115
                                    replace hI : StM n (b) F V F115 V111 := ⟨by rw [eF115]; exact hI.1.setF (by decide), trivial⟩
                                    replace hU : ∀ j : Nat, j ∉ ([27, 28, 29, 30, 31, 32] : List Nat) → F115 j = F j := by rw [eF115]; exact mw_up (by decide) hU
                                    refine lv_iinc (v := nI (i43 + 1)) (lv' := [(4, .int (nI (i43 + 1))), (6, .int (nI i106)), (5, .int y112), (3, .int r36), (0, .ref h), (1, .int p0), (2, .int (nI xv))]) hx hb dX9_look_242 hl (k := 2) rfl (nI_add i43 1) (by decide) rfl (fun ls hl => ?_)
                                    refine lv_goto (tgt := 133) hx hb dX9_look_245 (by decide) ?_
                                    exact ih45 (i43 + 1)  F115 V111 _ _ _ (by omega) (by omega) (hI.mono (by omega)) hU hV  hZ9 hP hD hS (lv_sub hl [0, 3, 4, 5, 6] rfl)
                                  · replace hZ9 := ite_f hZ9 c114
                                    refine lv_aload_n hx hb dX9_look_227 rfl (lv_at hl 4 rfl) ?_
                                    refine lv_iload hx hb dX9_look_228 (lv_at hl 2 rfl) ?_
                                    have hFc := mw_free hD hS hA
                                    refine va_calli (va_runV (As := [.int (nI i43)]) (rest := [.int (nI i43), .ref (a 30)]) ⟨hx, hb, hml, hown, hts⟩ (c_w_isUpOrWaiting l dC dI h a k F110 V111 n (b) i43 H.size hI.1 (by omega) (by omega)) (cwV 1 hts wc_w_look_w_isUpOrWaiting_171 rfl rfl rfl (by decide +kernel) ⟨Nat.le_of_ble_eq_true rfl, Nat.le_of_ble_eq_true rfl⟩) ⟨fun a9 U g mk q => by obtain ⟨q0, q1, qP, qK, qD⟩ := q; exact ⟨q0, q1, qP, va_K.moved (u := U) (U := U.calling g mk a9) (Vm.Alike.refl U.vm) qK, qD⟩, va_recv hK hP (ci := 10) (q0 := 0) rfl rfl, fun U hU hW => ⟨rfl, by rw [hU], by rw [hU]; exact hP, va_K.moved hW.alike hK, hD.weaken (fun _ _ _ _ => trivial)⟩⟩ rfl rfl hl.1 rfl (lv_room (Nat.le_of_ble_eq_true rfl)) dX9_look_230 ⟨Nat.le_of_ble_eq_true rfl, Nat.le_of_ble_eq_true rfl⟩) hS (fun q _ h => hFc q h) hFc (fun r116 u t H1 locs ht hvm hw hB hz1 hk1 hS => ?_)
                                    obtain ⟨F117, V118⟩ := u
                                    replace hP := hB.1
                                    rw [ht] at hP
                                    replace hD : va_D A (mW h a k F117 V118) := hB.2.weaken (fun _ q _ h9 => hFc q.1 h9)
                                    clear hB
                                    generalize H1 = H at hP hS ⊢
                                    replace hP : va_P (dC, dI) vwCl (mW h a k F117 V118) H := hP
                                    obtain ⟨hwF, hwV, hw⟩ : F117 = F110 ∧ V118 = V111 ∧ _ := hw
                                    rw [hwF, hwV] at hP hD
                                    replace hw : r116 = f_w_isUpOrWaiting n i43 F110 := hw
                                    replace hZ9 := bnd_s hZ9 hw
                                    refine lv_if_eq (tgt := 240) hx hb dX9_look_233 (by decide) (fun c119 => ?_) (fun c119 => ?_)
                                    · replace hZ9 := ite_t hZ9 c119
                                      refine lv_iconst (v := 0) hx hb dX9_look_240 (by decide) ?_
                                      refine va_iast (n := 40) (f := F110 30) hx hb hK hP hD hS 26 25 rfl rfl (vp_in_nI (n := i43) (by omega) (by decide)) dX9_look_241 (fun H locs hP hD hS => ?_)
                                      rw [mW_set_30] at hP hD
                                      obtain ⟨F120, eF120⟩ : ∃ f9 : Nat → Nat → Int32, f9 = va_up F110 30 (upd (F110 30) (nI i43).toNatClampNeg 0) := ⟨_, rfl⟩
                                      rw [← eF120] at hP hD
                                      replace hZ9 := bnd_s hZ9 eF120
                                      replace hI : StM n (b) F V F120 V111 := ⟨by rw [eF120]; exact hI.1.setF (by decide), trivial⟩
                                      replace hU : ∀ j : Nat, j ∉ ([27, 28, 29, 30, 31, 32] : List Nat) → F120 j = F j := by rw [eF120]; exact mw_up (by decide) hU
                                      refine lv_iinc (v := nI (i43 + 1)) (lv' := [(4, .int (nI (i43 + 1))), (6, .int (nI i106)), (5, .int y112), (3, .int r36), (0, .ref h), (1, .int p0), (2, .int (nI xv))]) hx hb dX9_look_242 hl (k := 2) rfl (nI_add i43 1) (by decide) rfl (fun ls hl => ?_)
                                      refine lv_goto (tgt := 133) hx hb dX9_look_245 (by decide) ?_
                                      exact ih45 (i43 + 1)  F120 V111 _ _ _ (by omega) (by omega) (hI.mono (by omega)) hU hV  hZ9 hP hD hS (lv_sub hl [0, 3, 4, 5, 6] rfl)
                                    · replace hZ9 := ite_f hZ9 c119
                                      refine lv_iconst (v := 2) hx hb dX9_look_236 (by decide) ?_
                                      refine lv_goto (tgt := 241) hx hb dX9_look_237 (by decide) ?_
                                      refine va_iast (n := 40) (f := F110 30) hx hb hK hP hD hS 26 25 rfl rfl (vp_in_nI (n := i43) (by omega) (by decide)) dX9_look_241 (fun H locs hP hD hS => ?_)
                                      rw [mW_set_30] at hP hD
                                      obtain ⟨F121, eF121⟩ : ∃ f9 : Nat → Nat → Int32, f9 = va_up F110 30 (upd (F110 30) (nI i43).toNatClampNeg 2) := ⟨_, rfl⟩
                                      rw [← eF121] at hP hD
                                      replace hZ9 := bnd_s hZ9 eF121
                                      replace hI : StM n (b) F V F121 V111 := ⟨by rw [eF121]; exact hI.1.setF (by decide), trivial⟩
                                      replace hU : ∀ j : Nat, j ∉ ([27, 28, 29, 30, 31, 32] : List Nat) → F121 j = F j := by rw [eF121]; exact mw_up (by decide) hU
                                      refine lv_iinc (v := nI (i43 + 1)) (lv' := [(4, .int (nI (i43 + 1))), (6, .int (nI i106)), (5, .int y112), (3, .int r36), (0, .ref h), (1, .int p0), (2, .int (nI xv))]) hx hb dX9_look_242 hl (k := 2) rfl (nI_add i43 1) (by decide) rfl (fun ls hl => ?_)
                                      refine lv_goto (tgt := 133) hx hb dX9_look_245 (by decide) ?_
                                      exact ih45 (i43 + 1)  F121 V111 _ _ _ (by omega) (by omega) (hI.mono (by omega)) hU hV  hZ9 hP hD hS (lv_sub hl [0, 3, 4, 5, 6] rfl)
                                · replace c113 : ¬ (n ≤ i106) := fun q9 => c113 ((nI_leI (a := n) (b := i106) (by omega) (by omega)).mpr q9)
                                  replace hZ9 := ite_f hZ9 c113
                                  refine lv_iload hx hb dX9_look_176 (lv_at hl 1 rfl) ?_
                                  refine lv_if_ne (tgt := 203) hx hb dX9_look_178 (by decide) (fun c122 => ?_) (fun c122 => ?_)
                                  · replace hZ9 := ite_f hZ9 c122
                                    refine lv_iconst (v := 1) hx hb dX9_look_203 (by decide) ?_
                                    refine lv_goto (tgt := 208) hx hb dX9_look_204 (by decide) ?_
                                    refine lv_istore (lv' := [(5, .int 1), (6, .int (nI i106)), (4, .int (nI i43)), (3, .int r36), (0, .ref h), (1, .int p0), (2, .int (nI xv))]) hx hb dX9_look_208 hl (by decide) rfl (fun ls hl => ?_)
                                    refine lv_iinc (v := nI (i106 + 1)) (lv' := [(6, .int (nI (i106 + 1))), (5, .int 1), (4, .int (nI i43)), (3, .int r36), (0, .ref h), (1, .int p0), (2, .int (nI xv))]) hx hb dX9_look_210 hl (k := 1) rfl (nI_add i106 1) (by decide) rfl (fun ls hl => ?_)
                                    refine lv_goto (tgt := 167) hx hb dX9_look_213 (by decide) ?_
                                    exact ih108 (i106 + 1) 1 F110 V111 _ _ _ (by omega) (by omega) (hI.mono (by omega)) hU hV  hZ9 hP hD hS (lv_sub hl [0, 1, 2, 3, 4, 5, 6] rfl)
                                  · replace hZ9 := ite_t hZ9 c122
                                    refine lv_aload_n hx hb dX9_look_181 rfl (lv_at hl 4 rfl) ?_
                                    refine va_get (D := (dC, dI)) (ci := 10) (v := .ref (a 27)) (C := RX9) (T := TX9) (N := 46) hx hb hts in_w_look_X9 hown hK hP 0 rfl rfl 27 (by decide) (hts (.fieldLink RX9 77 "ServiceTreeModel" "member" "[Z") (by decide +kernel)) (fun _ h9 => h9) rfl dX9_look_182 ?_
                                    refine lv_iload hx hb dX9_look_185 (lv_at hl 0 rfl) ?_
                                    refine va_zald (n := 40) (f := F110 27) hx hb hK hP 23 22 rfl rfl (vp_in_nI (n := i106) (by omega) (by decide)) dX9_look_187 ?_
                                    refine lv_topi (fun x123 ex123 => ?_)
                                    replace hZ9 := bnd_s hZ9 ex123
                                    refine lv_if_eq (tgt := 207) hx hb dX9_look_188 (by decide) (fun c124 => ?_) (fun c124 => ?_)
                                    · replace hZ9 := ite_t hZ9 c124
                                      refine lv_iconst (v := 0) hx hb dX9_look_207 (by decide) ?_
                                      refine lv_istore (lv' := [(5, .int 0), (6, .int (nI i106)), (4, .int (nI i43)), (3, .int r36), (0, .ref h), (1, .int p0), (2, .int (nI xv))]) hx hb dX9_look_208 hl (by decide) rfl (fun ls hl => ?_)
                                      refine lv_iinc (v := nI (i106 + 1)) (lv' := [(6, .int (nI (i106 + 1))), (5, .int 0), (4, .int (nI i43)), (3, .int r36), (0, .ref h), (1, .int p0), (2, .int (nI xv))]) hx hb dX9_look_210 hl (k := 1) rfl (nI_add i106 1) (by decide) rfl (fun ls hl => ?_)
                                      refine lv_goto (tgt := 167) hx hb dX9_look_213 (by decide) ?_
                                      exact ih108 (i106 + 1) 0 F110 V111 _ _ _ (by omega) (by omega) (hI.mono (by omega)) hU hV  hZ9 hP hD hS (lv_sub hl [0, 1, 2, 3, 4, 5, 6] rfl)
                                    · replace hZ9 := ite_f hZ9 c124
                                      refine lv_aload_n hx hb dX9_look_191 rfl (lv_at hl 4 rfl) ?_
                                      refine lv_iconst (v := 3) hx hb dX9_look_192 (by decide) ?_
                                      refine lv_iload hx hb dX9_look_193 (lv_at hl 2 rfl) ?_
                                      refine lv_iload hx hb dX9_look_195 (lv_at hl 0 rfl) ?_
                                      have hFc := mw_free hD hS hA
                                      refine va_calli (va_runV (As := [.int 3, .int (nI i43), .int (nI i106)]) (rest := []) ⟨hx, hb, hml, hown, hts⟩ (c_w_has l dC dI h a k F110 V111 n (b) 3 i43 i106 H.size hI.1 (by omega) (by omega) (by omega) (by omega)) (cwV 3 hts wc_w_look_w_has_150 rfl rfl rfl (by decide +kernel) ⟨Nat.le_of_ble_eq_true rfl, Nat.le_of_ble_eq_true rfl⟩) ⟨fun a9 U g mk q => by obtain ⟨q0, q1, qP, qK, qD⟩ := q; exact ⟨q0, q1, qP, va_K.moved (u := U) (U := U.calling g mk a9) (Vm.Alike.refl U.vm) qK, qD⟩, va_recv hK hP (ci := 10) (q0 := 0) rfl rfl, fun U hU hW => ⟨rfl, by rw [hU], by rw [hU]; exact hP, va_K.moved hW.alike hK, hD.weaken (fun _ _ _ _ => trivial)⟩⟩ rfl rfl hl.1 rfl (lv_room (Nat.le_of_ble_eq_true rfl)) dX9_look_197 ⟨Nat.le_of_ble_eq_true rfl, Nat.le_of_ble_eq_true rfl⟩) hS (fun q _ h => hFc q h) hFc (fun r125 u t H1 locs ht hvm hw hB hz1 hk1 hS => ?_)
                                      obtain ⟨F126, V127⟩ := u
                                      replace hP := hB.1
                                      rw [ht] at hP
                                      replace hD : va_D A (mW h a k F126 V127) := hB.2.weaken (fun _ q _ h9 => hFc q.1 h9)
                                      clear hB
                                      generalize H1 = H at hP hS ⊢
                                      replace hP : va_P (dC, dI) vwCl (mW h a k F126 V127) H := hP
                                      obtain ⟨hwF, hwV, hw⟩ : F126 = F110 ∧ V127 = V111 ∧ _ := hw
                                      rw [hwF, hwV] at hP hD
                                      obtain ⟨hw, hwe⟩ := hw
                                      replace hw : r125 = f_w_has n 3 i43 i106 F110 := hw
                                      replace hZ9 := bnd_s hZ9 hw
                                      have br125 := hwe
                                      refine lv_if_eq (tgt := 207) hx hb dX9_look_200 (by decide) (fun c128 => ?_) (fun c128 => ?_)
                                      · replace hZ9 := ite_t hZ9 c128
                                        refine lv_iconst (v := 0) hx hb dX9_look_207 (by decide) ?_
                                        refine lv_istore (lv' := [(5, .int 0), (6, .int (nI i106)), (4, .int (nI i43)), (3, .int r36), (0, .ref h), (1, .int p0), (2, .int (nI xv))]) hx hb dX9_look_208 hl (by decide) rfl (fun ls hl => ?_)
                                        refine lv_iinc (v := nI (i106 + 1)) (lv' := [(6, .int (nI (i106 + 1))), (5, .int 0), (4, .int (nI i43)), (3, .int r36), (0, .ref h), (1, .int p0), (2, .int (nI xv))]) hx hb dX9_look_210 hl (k := 1) rfl (nI_add i106 1) (by decide) rfl (fun ls hl => ?_)
                                        refine lv_goto (tgt := 167) hx hb dX9_look_213 (by decide) ?_
                                        exact ih108 (i106 + 1) 0 F110 V111 _ _ _ (by omega) (by omega) (hI.mono (by omega)) hU hV  hZ9 hP hD hS (lv_sub hl [0, 1, 2, 3, 4, 5, 6] rfl)
                                      · replace hZ9 := ite_f hZ9 c128
                                        refine lv_iconst (v := 1) hx hb dX9_look_203 (by decide) ?_
                                        refine lv_goto (tgt := 208) hx hb dX9_look_204 (by decide) ?_
                                        refine lv_istore (lv' := [(5, .int 1), (6, .int (nI i106)), (4, .int (nI i43)), (3, .int r36), (0, .ref h), (1, .int p0), (2, .int (nI xv))]) hx hb dX9_look_208 hl (by decide) rfl (fun ls hl => ?_)
                                        refine lv_iinc (v := nI (i106 + 1)) (lv' := [(6, .int (nI (i106 + 1))), (5, .int 1), (4, .int (nI i43)), (3, .int r36), (0, .ref h), (1, .int p0), (2, .int (nI xv))]) hx hb dX9_look_210 hl (k := 1) rfl (nI_add i106 1) (by decide) rfl (fun ls hl => ?_)
                                        refine lv_goto (tgt := 167) hx hb dX9_look_213 (by decide) ?_
                                        exact ih108 (i106 + 1) 1 F110 V111 _ _ _ (by omega) (by omega) (hI.mono (by omega)) hU hV  hZ9 hP hD hS (lv_sub hl [0, 1, 2, 3, 4, 5, 6] rfl)
                            exact lp109 (n + 1) 0 0 F47 V48 _ _ _ (by omega) (by omega) (hI.mono (by omega)) hU hV  hZ9 hP hD hS hl
                          · replace hZ9 := ite_t hZ9 c105
                            refine lv_iconst (v := 1) hx hb dX9_look_157 (by decide) ?_
                            refine lv_goto (tgt := 162) hx hb dX9_look_158 (by decide) ?_
                            refine lv_istore (lv' := [(5, .int 1), (4, .int (nI i43)), (3, .int r36), (0, .ref h), (1, .int p0), (2, .int (nI xv))]) hx hb dX9_look_162 hl (by decide) rfl (fun ls hl => ?_)
                            refine lv_iconst (v := 0) hx hb dX9_look_164 (by decide) ?_
                            refine lv_istore (lv' := [(6, .int 0), (5, .int 1), (4, .int (nI i43)), (3, .int r36), (0, .ref h), (1, .int p0), (2, .int (nI xv))]) hx hb dX9_look_165 hl (by decide) rfl (fun ls hl => ?_)
                            obtain ⟨K9_167, hK9_167, hZ9⟩ := lp_gen hZ9
                            have lp132 : ∀ (fu130 i129 : Nat) (y135 : Int32) (F133 : Nat → Nat → Int32) (V134 : Nat → Int32) (H : Heap) (locs : List Loc) (ls : Array Slot), n < i129 + fu130 → i129 ≤ n → StM n (b) F V F133 V134 → (∀ j : Nat, j ∉ ([27, 28, 29, 30, 31, 32] : List Nat) → F133 j = F j) → (∀ j : Nat, j ∉ ([33] : List Nat) → V134 j = V j) → RES = f_w_look_167q2 n i43 fu130 i129 y135 F133 V134 K9_167 → va_P (dC, dI) vwCl (mW h a k F133 V134) H → va_D A (mW h a k F133 V134) → va_S A s.heap H locs → lv_has ls 7 [(6, .int (nI i129)), (5, .int y135), (4, .int (nI i43)), (3, .int r36), (0, .ref h), (1, .int p0), (2, .int (nI xv))] → W p l e (headSpec wq_w_look rm_w_look).room s m ([.ref h, .int p0, .int (nI xv)] : List Value).toArray below meth c H locs 0 0 Q0 (F0 m 167 ls []) := by
                              intro fu130
                              induction fu130 with
                              | zero =>
                                intro i129 y135 F133 V134 H locs ls hf hi
                                exact absurd hf (by omega)
                              | succ fu130 ih131 =>
                                intro i129 y135 F133 V134 H locs ls hfi129 hii129 hI hU hV hZ9 hP hD hS hl
                                rw [f_w_look_167q2] at hZ9
                                refine lv_iload hx hb dX9_look_167 (lv_at hl 0 rfl) ?_
                                refine lv_aload_n hx hb dX9_look_169 rfl (lv_at hl 4 rfl) ?_
                                refine va_get (D := (dC, dI)) (ci := 10) (v := .int (V134 21)) (C := RX9) (T := TX9) (N := 46) hx hb hts in_w_look_X9 hown hK hP 0 rfl rfl 21 (by decide) (hts (.fieldLink RX9 126 "ServiceTreeModel" "services" "I") (by decide +kernel)) (fun _ h9 => h9) rfl dX9_look_170 ?_
                                refine p1_topr (v := .int (nI n)) (congrArg Value.int hI.1.2.1) ?_
                                refine lv_icmp_ge (tgt := 216) hx hb dX9_look_173 (by decide) (fun c136 => ?_) (fun c136 => ?_)
                                · replace c136 : n ≤ i129 := (nI_leI (a := n) (b := i129) (by omega) (by omega)).mp c136
                                  replace hZ9 := ite_t hZ9 c136
                                  replace hZ9 := lp_app4 hK9_167 hZ9
                                  refine lv_aload_n hx hb dX9_look_216 rfl (lv_at hl 4 rfl) ?_
                                  refine va_get (D := (dC, dI)) (ci := 10) (v := .ref (a 30)) (C := RX9) (T := TX9) (N := 46) hx hb hts in_w_look_X9 hown hK hP 0 rfl rfl 30 (by decide) (hts (.fieldLink RX9 86 "ServiceTreeModel" "newJob" "[I") (by decide +kernel)) (fun _ h9 => h9) rfl dX9_look_217 ?_
                                  refine lv_iload hx hb dX9_look_220 (lv_at hl 2 rfl) ?_
                                  refine lv_iload hx hb dX9_look_222 (lv_at hl 1 rfl) ?_
                                  refine lv_if_eq (tgt := 240) hx hb dX9_look_224 (by decide) (fun c137 => ?_) (fun c137 => ?_)
                                  · replace hZ9 := ite_t hZ9 c137
                                    refine lv_iconst (v := 0) hx hb dX9_look_240 (by decide) ?_
                                    refine va_iast (n := 40) (f := F133 30) hx hb hK hP hD hS 26 25 rfl rfl (vp_in_nI (n := i43) (by omega) (by decide)) dX9_look_241 (fun H locs hP hD hS => ?_)
                                    rw [mW_set_30] at hP hD
                                    obtain ⟨F138, eF138⟩ : ∃ f9 : Nat → Nat → Int32, f9 = va_up F133 30 (upd (F133 30) (nI i43).toNatClampNeg 0) := ⟨_, rfl⟩
                                    rw [← eF138] at hP hD
                                    replace hZ9 := bnd_s hZ9 eF138
                                    replace hI : StM n (b) F V F138 V134 := ⟨by rw [eF138]; exact hI.1.setF (by decide), trivial⟩
                                    replace hU : ∀ j : Nat, j ∉ ([27, 28, 29, 30, 31, 32] : List Nat) → F138 j = F j := by rw [eF138]; exact mw_up (by decide) hU
                                    refine lv_iinc (v := nI (i43 + 1)) (lv' := [(4, .int (nI (i43 + 1))), (6, .int (nI i129)), (5, .int y135), (3, .int r36), (0, .ref h), (1, .int p0), (2, .int (nI xv))]) hx hb dX9_look_242 hl (k := 2) rfl (nI_add i43 1) (by decide) rfl (fun ls hl => ?_)
                                    refine lv_goto (tgt := 133) hx hb dX9_look_245 (by decide) ?_
                                    exact ih45 (i43 + 1)  F138 V134 _ _ _ (by omega) (by omega) (hI.mono (by omega)) hU hV  hZ9 hP hD hS (lv_sub hl [0, 3, 4, 5, 6] rfl)
                                  · replace hZ9 := ite_f hZ9 c137
                                    refine lv_aload_n hx hb dX9_look_227 rfl (lv_at hl 4 rfl) ?_
                                    refine lv_iload hx hb dX9_look_228 (lv_at hl 2 rfl) ?_
                                    have hFc := mw_free hD hS hA
                                    refine va_calli (va_runV (As := [.int (nI i43)]) (rest := [.int (nI i43), .ref (a 30)]) ⟨hx, hb, hml, hown, hts⟩ (c_w_isUpOrWaiting l dC dI h a k F133 V134 n (b) i43 H.size hI.1 (by omega) (by omega)) (cwV 1 hts wc_w_look_w_isUpOrWaiting_171 rfl rfl rfl (by decide +kernel) ⟨Nat.le_of_ble_eq_true rfl, Nat.le_of_ble_eq_true rfl⟩) ⟨fun a9 U g mk q => by obtain ⟨q0, q1, qP, qK, qD⟩ := q; exact ⟨q0, q1, qP, va_K.moved (u := U) (U := U.calling g mk a9) (Vm.Alike.refl U.vm) qK, qD⟩, va_recv hK hP (ci := 10) (q0 := 0) rfl rfl, fun U hU hW => ⟨rfl, by rw [hU], by rw [hU]; exact hP, va_K.moved hW.alike hK, hD.weaken (fun _ _ _ _ => trivial)⟩⟩ rfl rfl hl.1 rfl (lv_room (Nat.le_of_ble_eq_true rfl)) dX9_look_230 ⟨Nat.le_of_ble_eq_true rfl, Nat.le_of_ble_eq_true rfl⟩) hS (fun q _ h => hFc q h) hFc (fun r139 u t H1 locs ht hvm hw hB hz1 hk1 hS => ?_)
                                    obtain ⟨F140, V141⟩ := u
                                    replace hP := hB.1
                                    rw [ht] at hP
                                    replace hD : va_D A (mW h a k F140 V141) := hB.2.weaken (fun _ q _ h9 => hFc q.1 h9)
                                    clear hB
                                    generalize H1 = H at hP hS ⊢
                                    replace hP : va_P (dC, dI) vwCl (mW h a k F140 V141) H := hP
                                    obtain ⟨hwF, hwV, hw⟩ : F140 = F133 ∧ V141 = V134 ∧ _ := hw
                                    rw [hwF, hwV] at hP hD
                                    replace hw : r139 = f_w_isUpOrWaiting n i43 F133 := hw
                                    replace hZ9 := bnd_s hZ9 hw
                                    refine lv_if_eq (tgt := 240) hx hb dX9_look_233 (by decide) (fun c142 => ?_) (fun c142 => ?_)
                                    · replace hZ9 := ite_t hZ9 c142
                                      refine lv_iconst (v := 0) hx hb dX9_look_240 (by decide) ?_
                                      refine va_iast (n := 40) (f := F133 30) hx hb hK hP hD hS 26 25 rfl rfl (vp_in_nI (n := i43) (by omega) (by decide)) dX9_look_241 (fun H locs hP hD hS => ?_)
                                      rw [mW_set_30] at hP hD
                                      obtain ⟨F143, eF143⟩ : ∃ f9 : Nat → Nat → Int32, f9 = va_up F133 30 (upd (F133 30) (nI i43).toNatClampNeg 0) := ⟨_, rfl⟩
                                      rw [← eF143] at hP hD
                                      replace hZ9 := bnd_s hZ9 eF143
                                      replace hI : StM n (b) F V F143 V134 := ⟨by rw [eF143]; exact hI.1.setF (by decide), trivial⟩
                                      replace hU : ∀ j : Nat, j ∉ ([27, 28, 29, 30, 31, 32] : List Nat) → F143 j = F j := by rw [eF143]; exact mw_up (by decide) hU
                                      refine lv_iinc (v := nI (i43 + 1)) (lv' := [(4, .int (nI (i43 + 1))), (6, .int (nI i129)), (5, .int y135), (3, .int r36), (0, .ref h), (1, .int p0), (2, .int (nI xv))]) hx hb dX9_look_242 hl (k := 2) rfl (nI_add i43 1) (by decide) rfl (fun ls hl => ?_)
                                      refine lv_goto (tgt := 133) hx hb dX9_look_245 (by decide) ?_
                                      exact ih45 (i43 + 1)  F143 V134 _ _ _ (by omega) (by omega) (hI.mono (by omega)) hU hV  hZ9 hP hD hS (lv_sub hl [0, 3, 4, 5, 6] rfl)
                                    · replace hZ9 := ite_f hZ9 c142
                                      refine lv_iconst (v := 2) hx hb dX9_look_236 (by decide) ?_
                                      refine lv_goto (tgt := 241) hx hb dX9_look_237 (by decide) ?_
                                      refine va_iast (n := 40) (f := F133 30) hx hb hK hP hD hS 26 25 rfl rfl (vp_in_nI (n := i43) (by omega) (by decide)) dX9_look_241 (fun H locs hP hD hS => ?_)
                                      rw [mW_set_30] at hP hD
                                      obtain ⟨F144, eF144⟩ : ∃ f9 : Nat → Nat → Int32, f9 = va_up F133 30 (upd (F133 30) (nI i43).toNatClampNeg 2) := ⟨_, rfl⟩
                                      rw [← eF144] at hP hD
                                      replace hZ9 := bnd_s hZ9 eF144
                                      replace hI : StM n (b) F V F144 V134 := ⟨by rw [eF144]; exact hI.1.setF (by decide), trivial⟩
                                      replace hU : ∀ j : Nat, j ∉ ([27, 28, 29, 30, 31, 32] : List Nat) → F144 j = F j := by rw [eF144]; exact mw_up (by decide) hU
                                      refine lv_iinc (v := nI (i43 + 1)) (lv' := [(4, .int (nI (i43 + 1))), (6, .int (nI i129)), (5, .int y135), (3, .int r36), (0, .ref h), (1, .int p0), (2, .int (nI xv))]) hx hb dX9_look_242 hl (k := 2) rfl (nI_add i43 1) (by decide) rfl (fun ls hl => ?_)
                                      refine lv_goto (tgt := 133) hx hb dX9_look_245 (by decide) ?_
                                      exact ih45 (i43 + 1)  F144 V134 _ _ _ (by omega) (by omega) (hI.mono (by omega)) hU hV  hZ9 hP hD hS (lv_sub hl [0, 3, 4, 5, 6] rfl)
                                · replace c136 : ¬ (n ≤ i129) := fun q9 => c136 ((nI_leI (a := n) (b := i129) (by omega) (by omega)).mpr q9)
                                  replace hZ9 := ite_f hZ9 c136
                                  refine lv_iload hx hb dX9_look_176 (lv_at hl 1 rfl) ?_
                                  refine lv_if_ne (tgt := 203) hx hb dX9_look_178 (by decide) (fun c145 => ?_) (fun c145 => ?_)
                                  · replace hZ9 := ite_f hZ9 c145
                                    refine lv_iconst (v := 1) hx hb dX9_look_203 (by decide) ?_
                                    refine lv_goto (tgt := 208) hx hb dX9_look_204 (by decide) ?_
                                    refine lv_istore (lv' := [(5, .int 1), (6, .int (nI i129)), (4, .int (nI i43)), (3, .int r36), (0, .ref h), (1, .int p0), (2, .int (nI xv))]) hx hb dX9_look_208 hl (by decide) rfl (fun ls hl => ?_)
                                    refine lv_iinc (v := nI (i129 + 1)) (lv' := [(6, .int (nI (i129 + 1))), (5, .int 1), (4, .int (nI i43)), (3, .int r36), (0, .ref h), (1, .int p0), (2, .int (nI xv))]) hx hb dX9_look_210 hl (k := 1) rfl (nI_add i129 1) (by decide) rfl (fun ls hl => ?_)
                                    refine lv_goto (tgt := 167) hx hb dX9_look_213 (by decide) ?_
                                    exact ih131 (i129 + 1) 1 F133 V134 _ _ _ (by omega) (by omega) (hI.mono (by omega)) hU hV  hZ9 hP hD hS (lv_sub hl [0, 1, 2, 3, 4, 5, 6] rfl)
                                  · replace hZ9 := ite_t hZ9 c145
                                    refine lv_aload_n hx hb dX9_look_181 rfl (lv_at hl 4 rfl) ?_
                                    refine va_get (D := (dC, dI)) (ci := 10) (v := .ref (a 27)) (C := RX9) (T := TX9) (N := 46) hx hb hts in_w_look_X9 hown hK hP 0 rfl rfl 27 (by decide) (hts (.fieldLink RX9 77 "ServiceTreeModel" "member" "[Z") (by decide +kernel)) (fun _ h9 => h9) rfl dX9_look_182 ?_
                                    refine lv_iload hx hb dX9_look_185 (lv_at hl 0 rfl) ?_
                                    refine va_zald (n := 40) (f := F133 27) hx hb hK hP 23 22 rfl rfl (vp_in_nI (n := i129) (by omega) (by decide)) dX9_look_187 ?_
                                    refine lv_topi (fun x146 ex146 => ?_)
                                    replace hZ9 := bnd_s hZ9 ex146
                                    refine lv_if_eq (tgt := 207) hx hb dX9_look_188 (by decide) (fun c147 => ?_) (fun c147 => ?_)
                                    · replace hZ9 := ite_t hZ9 c147
                                      refine lv_iconst (v := 0) hx hb dX9_look_207 (by decide) ?_
                                      refine lv_istore (lv' := [(5, .int 0), (6, .int (nI i129)), (4, .int (nI i43)), (3, .int r36), (0, .ref h), (1, .int p0), (2, .int (nI xv))]) hx hb dX9_look_208 hl (by decide) rfl (fun ls hl => ?_)
                                      refine lv_iinc (v := nI (i129 + 1)) (lv' := [(6, .int (nI (i129 + 1))), (5, .int 0), (4, .int (nI i43)), (3, .int r36), (0, .ref h), (1, .int p0), (2, .int (nI xv))]) hx hb dX9_look_210 hl (k := 1) rfl (nI_add i129 1) (by decide) rfl (fun ls hl => ?_)
                                      refine lv_goto (tgt := 167) hx hb dX9_look_213 (by decide) ?_
                                      exact ih131 (i129 + 1) 0 F133 V134 _ _ _ (by omega) (by omega) (hI.mono (by omega)) hU hV  hZ9 hP hD hS (lv_sub hl [0, 1, 2, 3, 4, 5, 6] rfl)
                                    · replace hZ9 := ite_f hZ9 c147
                                      refine lv_aload_n hx hb dX9_look_191 rfl (lv_at hl 4 rfl) ?_
                                      refine lv_iconst (v := 3) hx hb dX9_look_192 (by decide) ?_
                                      refine lv_iload hx hb dX9_look_193 (lv_at hl 2 rfl) ?_
                                      refine lv_iload hx hb dX9_look_195 (lv_at hl 0 rfl) ?_
                                      have hFc := mw_free hD hS hA
                                      refine va_calli (va_runV (As := [.int 3, .int (nI i43), .int (nI i129)]) (rest := []) ⟨hx, hb, hml, hown, hts⟩ (c_w_has l dC dI h a k F133 V134 n (b) 3 i43 i129 H.size hI.1 (by omega) (by omega) (by omega) (by omega)) (cwV 3 hts wc_w_look_w_has_150 rfl rfl rfl (by decide +kernel) ⟨Nat.le_of_ble_eq_true rfl, Nat.le_of_ble_eq_true rfl⟩) ⟨fun a9 U g mk q => by obtain ⟨q0, q1, qP, qK, qD⟩ := q; exact ⟨q0, q1, qP, va_K.moved (u := U) (U := U.calling g mk a9) (Vm.Alike.refl U.vm) qK, qD⟩, va_recv hK hP (ci := 10) (q0 := 0) rfl rfl, fun U hU hW => ⟨rfl, by rw [hU], by rw [hU]; exact hP, va_K.moved hW.alike hK, hD.weaken (fun _ _ _ _ => trivial)⟩⟩ rfl rfl hl.1 rfl (lv_room (Nat.le_of_ble_eq_true rfl)) dX9_look_197 ⟨Nat.le_of_ble_eq_true rfl, Nat.le_of_ble_eq_true rfl⟩) hS (fun q _ h => hFc q h) hFc (fun r148 u t H1 locs ht hvm hw hB hz1 hk1 hS => ?_)
                                      obtain ⟨F149, V150⟩ := u
                                      replace hP := hB.1
                                      rw [ht] at hP
                                      replace hD : va_D A (mW h a k F149 V150) := hB.2.weaken (fun _ q _ h9 => hFc q.1 h9)
                                      clear hB
                                      generalize H1 = H at hP hS ⊢
                                      replace hP : va_P (dC, dI) vwCl (mW h a k F149 V150) H := hP
                                      obtain ⟨hwF, hwV, hw⟩ : F149 = F133 ∧ V150 = V134 ∧ _ := hw
                                      rw [hwF, hwV] at hP hD
                                      obtain ⟨hw, hwe⟩ := hw
                                      replace hw : r148 = f_w_has n 3 i43 i129 F133 := hw
                                      replace hZ9 := bnd_s hZ9 hw
                                      have br148 := hwe
                                      refine lv_if_eq (tgt := 207) hx hb dX9_look_200 (by decide) (fun c151 => ?_) (fun c151 => ?_)
                                      · replace hZ9 := ite_t hZ9 c151
                                        refine lv_iconst (v := 0) hx hb dX9_look_207 (by decide) ?_
                                        refine lv_istore (lv' := [(5, .int 0), (6, .int (nI i129)), (4, .int (nI i43)), (3, .int r36), (0, .ref h), (1, .int p0), (2, .int (nI xv))]) hx hb dX9_look_208 hl (by decide) rfl (fun ls hl => ?_)
                                        refine lv_iinc (v := nI (i129 + 1)) (lv' := [(6, .int (nI (i129 + 1))), (5, .int 0), (4, .int (nI i43)), (3, .int r36), (0, .ref h), (1, .int p0), (2, .int (nI xv))]) hx hb dX9_look_210 hl (k := 1) rfl (nI_add i129 1) (by decide) rfl (fun ls hl => ?_)
                                        refine lv_goto (tgt := 167) hx hb dX9_look_213 (by decide) ?_
                                        exact ih131 (i129 + 1) 0 F133 V134 _ _ _ (by omega) (by omega) (hI.mono (by omega)) hU hV  hZ9 hP hD hS (lv_sub hl [0, 1, 2, 3, 4, 5, 6] rfl)
                                      · replace hZ9 := ite_f hZ9 c151
                                        refine lv_iconst (v := 1) hx hb dX9_look_203 (by decide) ?_
                                        refine lv_goto (tgt := 208) hx hb dX9_look_204 (by decide) ?_
                                        refine lv_istore (lv' := [(5, .int 1), (6, .int (nI i129)), (4, .int (nI i43)), (3, .int r36), (0, .ref h), (1, .int p0), (2, .int (nI xv))]) hx hb dX9_look_208 hl (by decide) rfl (fun ls hl => ?_)
                                        refine lv_iinc (v := nI (i129 + 1)) (lv' := [(6, .int (nI (i129 + 1))), (5, .int 1), (4, .int (nI i43)), (3, .int r36), (0, .ref h), (1, .int p0), (2, .int (nI xv))]) hx hb dX9_look_210 hl (k := 1) rfl (nI_add i129 1) (by decide) rfl (fun ls hl => ?_)
                                        refine lv_goto (tgt := 167) hx hb dX9_look_213 (by decide) ?_
                                        exact ih131 (i129 + 1) 1 F133 V134 _ _ _ (by omega) (by omega) (hI.mono (by omega)) hU hV  hZ9 hP hD hS (lv_sub hl [0, 1, 2, 3, 4, 5, 6] rfl)
                            exact lp132 (n + 1) 0 1 F47 V48 _ _ _ (by omega) (by omega) (hI.mono (by omega)) hU hV  hZ9 hP hD hS hl
                  exact lp46 (n + 1) 0  F41 V42 _ _ _ (by omega) (by omega) (hI.mono (by omega)) hU hV  hZ9 hP hD hS hl
                · replace hZ9 := ite_f hZ9 c39
                  refine lv_aload_n hx hb dX9_look_118 rfl (lv_at hl 1 rfl) ?_
                  refine lv_iload_n hx hb dX9_look_119 rfl (lv_at hl 0 rfl) ?_
                  refine va_put (D := (dC, dI)) (ci := 10) (fs := mF a V38) (v := .int r36) (ty := .int) (C := RX9) (T := TX9) (N := 46) hx hb hts in_w_look_X9 tyX9 tyX9_ok nmX9 hown hK hP hD hS 0 rfl rfl 33 (by decide) (hts (.fieldLink RX9 197 "ServiceTreeModel" "ring" "I") (by decide +kernel)) (fun _ h9 => h9) rfl (by decide +kernel) rfl rfl (Nat.le_of_ble_eq_true rfl) dX9_look_120 (fun H locs hP hD hS => ?_)
                  rw [mW_put_33] at hP hD
                  obtain ⟨V152, eV152⟩ : ∃ f9 : Nat → Int32, f9 = va_up V38 33 r36 := ⟨_, rfl⟩
                  rw [← eV152] at hP hD
                  replace hZ9 := bnd_s hZ9 eV152
                  replace hI : StM n (b) F V F37 V152 := ⟨by rw [eV152]; exact hI.1.setV (by decide), trivial⟩
                  replace hV : ∀ j : Nat, j ∉ ([33] : List Nat) → V152 j = V j := by rw [eV152]; exact mw_up (by decide) hV
                  refine lv_bipush (v := (-5)) hx hb dX9_look_123 (by decide) ?_
                  rw [hQ]
                  exact W.iret (v := (-5)) hx hb hr (fun t ht hW => ⟨⟨(-5), (F37, V152), rfl, ⟨hI.mono (by omega), hU, hV, hZ9.symm.trans hR0⟩, by rw [ht]; exact hP, hD⟩, hS.F ht⟩) hS.2.2 dX9_look_125
              · replace hZ9 := ite_f hZ9 c35
                refine lv_bipush (v := (-4)) hx hb dX9_look_102 (by decide) ?_
                rw [hQ]
                exact W.iret (v := (-4)) hx hb hr (fun t ht hW => ⟨⟨(-4), (F30, V31), rfl, ⟨hI.mono (by omega), hU, hV, hZ9.symm.trans hR0⟩, by rw [ht]; exact hP, hD⟩, hS.F ht⟩) hS.2.2 dX9_look_104
            · replace hZ9 := ite_t hZ9 c28
              refine lv_aload_n hx hb dX9_look_59 rfl (lv_at hl 1 rfl) ?_
              refine va_get (D := (dC, dI)) (ci := 10) (v := .ref (a 30)) (C := RX9) (T := TX9) (N := 46) hx hb hts in_w_look_X9 hown hK hP 0 rfl rfl 30 (by decide) (hts (.fieldLink RX9 86 "ServiceTreeModel" "newJob" "[I") (by decide +kernel)) (fun _ h9 => h9) rfl dX9_look_60 ?_
              refine lv_iload_n hx hb dX9_look_63 rfl (lv_at hl 3 rfl) ?_
              refine lv_aload_n hx hb dX9_look_64 rfl (lv_at hl 1 rfl) ?_
              refine lv_iload_n hx hb dX9_look_65 rfl (lv_at hl 3 rfl) ?_
              have hFc := mw_free hD hS hA
              refine va_calli (va_runV (As := [.int (nI xv)]) (rest := [.int (nI xv), .ref (a 30)]) ⟨hx, hb, hml, hown, hts⟩ (c_w_isUpOrWaiting l dC dI h a k F17 V18 n (b) xv H.size hI.1 (by omega) (by omega)) (cwV 1 hts wc_w_look_w_isUpOrWaiting_171 rfl rfl rfl (by decide +kernel) ⟨Nat.le_of_ble_eq_true rfl, Nat.le_of_ble_eq_true rfl⟩) ⟨fun a9 U g mk q => by obtain ⟨q0, q1, qP, qK, qD⟩ := q; exact ⟨q0, q1, qP, va_K.moved (u := U) (U := U.calling g mk a9) (Vm.Alike.refl U.vm) qK, qD⟩, va_recv hK hP (ci := 10) (q0 := 0) rfl rfl, fun U hU hW => ⟨rfl, by rw [hU], by rw [hU]; exact hP, va_K.moved hW.alike hK, hD.weaken (fun _ _ _ _ => trivial)⟩⟩ rfl rfl hl.1 rfl (lv_room (Nat.le_of_ble_eq_true rfl)) dX9_look_66 ⟨Nat.le_of_ble_eq_true rfl, Nat.le_of_ble_eq_true rfl⟩) hS (fun q _ h => hFc q h) hFc (fun r153 u t H1 locs ht hvm hw hB hz1 hk1 hS => ?_)
              obtain ⟨F154, V155⟩ := u
              replace hP := hB.1
              rw [ht] at hP
              replace hD : va_D A (mW h a k F154 V155) := hB.2.weaken (fun _ q _ h9 => hFc q.1 h9)
              clear hB
              generalize H1 = H at hP hS ⊢
              replace hP : va_P (dC, dI) vwCl (mW h a k F154 V155) H := hP
              obtain ⟨hwF, hwV, hw⟩ : F154 = F17 ∧ V155 = V18 ∧ _ := hw
              rw [hwF, hwV] at hP hD
              replace hw : r153 = f_w_isUpOrWaiting n xv F17 := hw
              replace hZ9 := bnd_s hZ9 hw
              refine lv_if_eq (tgt := 76) hx hb dX9_look_69 (by decide) (fun c156 => ?_) (fun c156 => ?_)
              · replace hZ9 := ite_t hZ9 c156
                refine lv_iconst (v := 0) hx hb dX9_look_76 (by decide) ?_
                refine va_iast (n := 40) (f := F17 30) hx hb hK hP hD hS 26 25 rfl rfl (vp_in_nI (n := xv) (by omega) (by decide)) dX9_look_77 (fun H locs hP hD hS => ?_)
                rw [mW_set_30] at hP hD
                obtain ⟨F157, eF157⟩ : ∃ f9 : Nat → Nat → Int32, f9 = va_up F17 30 (upd (F17 30) (nI xv).toNatClampNeg 0) := ⟨_, rfl⟩
                rw [← eF157] at hP hD
                replace hZ9 := bnd_s hZ9 eF157
                replace hI : StM n (b) F V F157 V18 := ⟨by rw [eF157]; exact hI.1.setF (by decide), trivial⟩
                replace hU : ∀ j : Nat, j ∉ ([27, 28, 29, 30, 31, 32] : List Nat) → F157 j = F j := by rw [eF157]; exact mw_up (by decide) hU
                refine lv_aload_n hx hb dX9_look_78 rfl (lv_at hl 1 rfl) ?_
                refine lv_iload_n hx hb dX9_look_79 rfl (lv_at hl 3 rfl) ?_
                have hFc := mw_free hD hS hA
                refine va_callv (va_runV (As := [.int (nI xv)]) (rest := []) ⟨hx, hb, hml, hown, hts⟩ (c_w_addNeeding l dC dI h a k F157 V18 n (b) (nI xv) H.size hI.1 (by omega) ) (cwV 1 hts wc_w_look_w_addNeeding_190 rfl rfl rfl (by decide +kernel) ⟨Nat.le_of_ble_eq_true rfl, Nat.le_of_ble_eq_true rfl⟩) ⟨fun a9 U g mk q => by obtain ⟨q0, q1, qP, qK, qD⟩ := q; exact ⟨q0, q1, qP, va_K.moved (u := U) (U := U.calling g mk a9) (Vm.Alike.refl U.vm) qK, qD⟩, va_recv hK hP (ci := 10) (q0 := 0) rfl rfl, fun U hU hW => ⟨rfl, by rw [hU], by rw [hU]; exact hP, va_K.moved hW.alike hK, hD.weaken (fun _ _ _ _ => trivial)⟩⟩ rfl rfl hl.1 rfl (lv_room (Nat.le_of_ble_eq_true rfl)) dX9_look_80 ⟨Nat.le_of_ble_eq_true rfl, Nat.le_of_ble_eq_true rfl⟩) hS (fun q _ h => hFc q h) hFc (fun u t H1 locs ht hvm hw hB hz1 hk1 hS => ?_)
                obtain ⟨F159, V160⟩ := u
                replace hP := hB.1
                rw [ht] at hP
                replace hD : va_D A (mW h a k F159 V160) := hB.2.weaken (fun _ q _ h9 => hFc q.1 h9)
                clear hB
                generalize H1 = H at hP hS ⊢
                replace hP : va_P (dC, dI) vwCl (mW h a k F159 V160) H := hP
                obtain ⟨hwI, hwU, hwV, hw⟩ := hw
                replace hU : ∀ j : Nat, j ∉ ([27, 28, 29, 30, 31, 32] : List Nat) → F159 j = F j := mw_tr (by decide) hwU hU
                replace hV : ∀ j : Nat, j ∉ ([33] : List Nat) → V160 j = V j := mw_tr (by decide) hwV hV
                replace hI : StM n (b + 0) F V F159 V160 := hI.trans hwI
                replace hI : StM n (b) F V F159 V160 := hI
                replace hw : (F159, V160) = f_w_addNeeding n (nI xv) F157 V18 := hw
                replace hZ9 := bn2_s hZ9 hw
                refine lv_goto (tgt := 352) hx hb dX9_look_83 (by decide) ?_
                exact jn22 F159 V160 _ _ _ hZ9 (hI.mono (by omega)) hU hV hP hD hS (lv_sub hl [1, 2, 3] rfl)
              · replace hZ9 := ite_f hZ9 c156
                refine lv_iconst (v := 2) hx hb dX9_look_72 (by decide) ?_
                refine lv_goto (tgt := 77) hx hb dX9_look_73 (by decide) ?_
                refine va_iast (n := 40) (f := F17 30) hx hb hK hP hD hS 26 25 rfl rfl (vp_in_nI (n := xv) (by omega) (by decide)) dX9_look_77 (fun H locs hP hD hS => ?_)
                rw [mW_set_30] at hP hD
                obtain ⟨F161, eF161⟩ : ∃ f9 : Nat → Nat → Int32, f9 = va_up F17 30 (upd (F17 30) (nI xv).toNatClampNeg 2) := ⟨_, rfl⟩
                rw [← eF161] at hP hD
                replace hZ9 := bnd_s hZ9 eF161
                replace hI : StM n (b) F V F161 V18 := ⟨by rw [eF161]; exact hI.1.setF (by decide), trivial⟩
                replace hU : ∀ j : Nat, j ∉ ([27, 28, 29, 30, 31, 32] : List Nat) → F161 j = F j := by rw [eF161]; exact mw_up (by decide) hU
                refine lv_aload_n hx hb dX9_look_78 rfl (lv_at hl 1 rfl) ?_
                refine lv_iload_n hx hb dX9_look_79 rfl (lv_at hl 3 rfl) ?_
                have hFc := mw_free hD hS hA
                refine va_callv (va_runV (As := [.int (nI xv)]) (rest := []) ⟨hx, hb, hml, hown, hts⟩ (c_w_addNeeding l dC dI h a k F161 V18 n (b) (nI xv) H.size hI.1 (by omega) ) (cwV 1 hts wc_w_look_w_addNeeding_190 rfl rfl rfl (by decide +kernel) ⟨Nat.le_of_ble_eq_true rfl, Nat.le_of_ble_eq_true rfl⟩) ⟨fun a9 U g mk q => by obtain ⟨q0, q1, qP, qK, qD⟩ := q; exact ⟨q0, q1, qP, va_K.moved (u := U) (U := U.calling g mk a9) (Vm.Alike.refl U.vm) qK, qD⟩, va_recv hK hP (ci := 10) (q0 := 0) rfl rfl, fun U hU hW => ⟨rfl, by rw [hU], by rw [hU]; exact hP, va_K.moved hW.alike hK, hD.weaken (fun _ _ _ _ => trivial)⟩⟩ rfl rfl hl.1 rfl (lv_room (Nat.le_of_ble_eq_true rfl)) dX9_look_80 ⟨Nat.le_of_ble_eq_true rfl, Nat.le_of_ble_eq_true rfl⟩) hS (fun q _ h => hFc q h) hFc (fun u t H1 locs ht hvm hw hB hz1 hk1 hS => ?_)
                obtain ⟨F163, V164⟩ := u
                replace hP := hB.1
                rw [ht] at hP
                replace hD : va_D A (mW h a k F163 V164) := hB.2.weaken (fun _ q _ h9 => hFc q.1 h9)
                clear hB
                generalize H1 = H at hP hS ⊢
                replace hP : va_P (dC, dI) vwCl (mW h a k F163 V164) H := hP
                obtain ⟨hwI, hwU, hwV, hw⟩ := hw
                replace hU : ∀ j : Nat, j ∉ ([27, 28, 29, 30, 31, 32] : List Nat) → F163 j = F j := mw_tr (by decide) hwU hU
                replace hV : ∀ j : Nat, j ∉ ([33] : List Nat) → V164 j = V j := mw_tr (by decide) hwV hV
                replace hI : StM n (b + 0) F V F163 V164 := hI.trans hwI
                replace hI : StM n (b) F V F163 V164 := hI
                replace hw : (F163, V164) = f_w_addNeeding n (nI xv) F161 V18 := hw
                replace hZ9 := bn2_s hZ9 hw
                refine lv_goto (tgt := 352) hx hb dX9_look_83 (by decide) ?_
                exact jn22 F163 V164 _ _ _ hZ9 (hI.mono (by omega)) hU hV hP hD hS (lv_sub hl [1, 2, 3] rfl)
          · replace c19 : ¬ (n ≤ i13) := fun q9 => c19 ((nI_leI (a := n) (b := i13) (by omega) (by omega)).mpr q9)
            replace hZ9 := ite_f hZ9 c19
            refine lv_aload_n hx hb dX9_look_34 rfl (lv_at hl 1 rfl) ?_
            refine va_get (D := (dC, dI)) (ci := 10) (v := .ref (a 30)) (C := RX9) (T := TX9) (N := 46) hx hb hts in_w_look_X9 hown hK hP 0 rfl rfl 30 (by decide) (hts (.fieldLink RX9 86 "ServiceTreeModel" "newJob" "[I") (by decide +kernel)) (fun _ h9 => h9) rfl dX9_look_35 ?_
            refine lv_iload_n hx hb dX9_look_38 rfl (lv_at hl 0 rfl) ?_
            refine lv_iconst (v := 0) hx hb dX9_look_39 (by decide) ?_
            refine va_iast (n := 40) (f := F17 30) hx hb hK hP hD hS 26 25 rfl rfl (vp_in_nI (n := i13) (by omega) (by decide)) dX9_look_40 (fun H locs hP hD hS => ?_)
            rw [mW_set_30] at hP hD
            obtain ⟨F165, eF165⟩ : ∃ f9 : Nat → Nat → Int32, f9 = va_up F17 30 (upd (F17 30) (nI i13).toNatClampNeg 0) := ⟨_, rfl⟩
            rw [← eF165] at hP hD
            replace hZ9 := bnd_s hZ9 eF165
            replace hI : StM n (b) F V F165 V18 := ⟨by rw [eF165]; exact hI.1.setF (by decide), trivial⟩
            replace hU : ∀ j : Nat, j ∉ ([27, 28, 29, 30, 31, 32] : List Nat) → F165 j = F j := by rw [eF165]; exact mw_up (by decide) hU
            refine lv_aload_n hx hb dX9_look_41 rfl (lv_at hl 1 rfl) ?_
            refine va_get (D := (dC, dI)) (ci := 10) (v := .ref (a 27)) (C := RX9) (T := TX9) (N := 46) hx hb hts in_w_look_X9 hown hK hP 0 rfl rfl 27 (by decide) (hts (.fieldLink RX9 77 "ServiceTreeModel" "member" "[Z") (by decide +kernel)) (fun _ h9 => h9) rfl dX9_look_42 ?_
            refine lv_iload_n hx hb dX9_look_45 rfl (lv_at hl 0 rfl) ?_
            refine lv_iconst (v := 0) hx hb dX9_look_46 (by decide) ?_
            refine va_zast (n := 40) (f := F165 27) hx hb hK hP hD hS 23 22 rfl rfl (vp_in_nI (n := i13) (by omega) (by decide)) dX9_look_47 (fun H locs hP hD hS => ?_)
            rw [mW_set_27] at hP hD
            obtain ⟨F166, eF166⟩ : ∃ f9 : Nat → Nat → Int32, f9 = va_up F165 27 (upd (F165 27) (nI i13).toNatClampNeg (vp_nar .boolean 0)) := ⟨_, rfl⟩
            rw [← eF166] at hP hD
            replace hZ9 := bnd_s hZ9 eF166
            replace hI : StM n (b) F V F166 V18 := ⟨by rw [eF166]; exact hI.1.setF (by decide), trivial⟩
            replace hU : ∀ j : Nat, j ∉ ([27, 28, 29, 30, 31, 32] : List Nat) → F166 j = F j := by rw [eF166]; exact mw_up (by decide) hU
            refine lv_iinc (v := nI (i13 + 1)) (lv' := [(3, .int (nI (i13 + 1))), (0, .ref h), (1, .int p0), (2, .int (nI xv))]) hx hb dX9_look_48 hl (k := 0) rfl (nI_add i13 1) (by decide) rfl (fun ls hl => ?_)
            refine lv_goto (tgt := 26) hx hb dX9_look_51 (by decide) ?_
            exact ih15 (i13 + 1)  F166 V18 _ _ _ (by omega) (by omega) (hI.mono (by omega)) hU hV  hZ9 hP hD hS (lv_sub hl [0, 1, 2, 3] rfl)
      exact lp16 (n + 1) 0  F V _ _ _ (by omega) (by omega) (hI.mono (by omega)) hU hV  hZ9 hP hD hS hl
    · replace hZ9 := ite_f hZ9 c12
      refine lv_bipush (v := (-3)) hx hb dX9_look_21 (by decide) ?_
      rw [hQ]
      exact W.iret (v := (-3)) hx hb hr (fun t ht hW => ⟨⟨(-3), (F, V), rfl, ⟨hI.mono (by omega), hU, hV, hZ9.symm.trans hR0⟩, by rw [ht]; exact hP, hD⟩, hS.F ht⟩) hS.2.2 dX9_look_23
def f_w_order_35 (n : Nat)  : Nat → Nat → (Nat → Nat → Int32) → (Nat → Int32) → (Nat → (Nat → Nat → Int32) → (Nat → Int32) → Int32 × (Nat → Nat → Int32) × (Nat → Int32)) → Int32 × (Nat → Nat → Int32) × (Nat → Int32)
  | 0, i11, F15, V16, K9_35 => K9_35 i11 F15 V16
  | fu12 + 1, i11, F15, V16, K9_35 => if n ≤ i11 then (K9_35 i11 F15 V16) else (bnd (F15 27 (nI i11).toNatClampNeg) (fun (x24 : Int32) => if x24 = (0 : Int32) then (bnd (F15 30 (nI i11).toNatClampNeg) (fun (x26 : Int32) => bnd (va_up F15 25 (upd (F15 25) (nI i11).toNatClampNeg x26)) (fun (F27 : Nat → Nat → Int32) => bnd (va_up F27 26 (upd (F27 26) (nI i11).toNatClampNeg (vp_nar .boolean 0))) (fun (F28 : Nat → Nat → Int32) => f_w_order_35 n  fu12 (i11 + 1) F28 V16 K9_35)))) else (bnd (F15 7 (nI i11).toNatClampNeg) (fun (x29 : Int32) => if x29 = (5 : Int32) then (bn2 (f_w_to n i11 0 F15 V16) (fun (F35 : Nat → Nat → Int32) (V36 : Nat → Int32) => bnd (F35 30 (nI i11).toNatClampNeg) (fun (x37 : Int32) => bnd (va_up F35 25 (upd (F35 25) (nI i11).toNatClampNeg x37)) (fun (F38 : Nat → Nat → Int32) => bnd (va_up F38 26 (upd (F38 26) (nI i11).toNatClampNeg (vp_nar .boolean 0))) (fun (F39 : Nat → Nat → Int32) => f_w_order_35 n  fu12 (i11 + 1) F39 V36 K9_35))))) else (bnd (F15 30 (nI i11).toNatClampNeg) (fun (x31 : Int32) => bnd (va_up F15 25 (upd (F15 25) (nI i11).toNatClampNeg x31)) (fun (F32 : Nat → Nat → Int32) => bnd (va_up F32 26 (upd (F32 26) (nI i11).toNatClampNeg (vp_nar .boolean 0))) (fun (F33 : Nat → Nat → Int32) => f_w_order_35 n  fu12 (i11 + 1) F33 V16 K9_35))))))))
def f_w_order (n : Nat) (p0 : Int32) (p1 : Int32) (F : Nat → Nat → Int32) (V : Nat → Int32) : Int32 × (Nat → Nat → Int32) × (Nat → Int32) := if p0 < (0 : Int32) then (((-1 : Int32), F, V)) else (if (2 : Int32) < p0 then (((-1 : Int32), F, V)) else (if (0 : Int32) ≤ p1 ∧ p1 < nI n then (bnd (p1.toNatClampNeg) (fun (j6 : Nat) => bn3 (f_w_look n p0 j6 F V) (fun (r7 : Int32) (F8 : Nat → Nat → Int32) (V9 : Nat → Int32) => if r7 = (0 : Int32) then (f_w_order_35 n  (n + 1) (0 : Nat) F8 V9 (fun (i11 : Nat) (F15 : Nat → Nat → Int32) (V16 : Nat → Int32) => bn2 (f_w_begin n  F15 V16) (fun (F19 : Nat → Nat → Int32) (V20 : Nat → Int32) => bnd (f_w_many n n F19) (fun (r21 : Int32) => (r21, F19, V20))))) else ((r7, F8, V9))))) else (((-1 : Int32), F, V))))
def wq_w_order : List Cond := ([.code yX9_order cX9_order 5 (some .int), .fieldLink RX9 126 "ServiceTreeModel" "services" "I", .fieldLink RX9 86 "ServiceTreeModel" "newJob" "[I", .fieldLink RX9 77 "ServiceTreeModel" "member" "[Z", .fieldLink RX9 71 "ServiceTreeModel" "job" "[I", .fieldLink RX9 74 "ServiceTreeModel" "hasBegun" "[Z", .fieldLink RX9 31 "ServiceTreeModel" "state" "[I", .methodLink RX9 135 yX9_is, .instanceMethod yX9_is, .selects RX9 yX9_is yX9_is, .initialized RX9, .methodLink RX9 207 yX9_look, .instanceMethod yX9_look, .selects RX9 yX9_look yX9_look, .methodLink RX9 215 yX9_begin, .instanceMethod yX9_begin, .selects RX9 yX9_begin yX9_begin, .methodLink RX9 218 yX9_many, .static yX9_many, .methodLink RX9 211 yX9_to, .instanceMethod yX9_to, .selects RX9 yX9_to yX9_to] : List Cond) ++ (wsX90 ++ (wq_w_is ++ (wq_w_look ++ (wq_w_begin ++ (wq_w_many ++ (wq_w_to))))))
theorem in_w_order_X9 : ∀ w ∈ wsX90, w ∈ wq_w_order := fun _ h => List.mem_append_right _ (List.mem_append_left _ (h))
set_option maxRecDepth 20000 in
theorem wi_w_order : ∀ w ∈ wq_w_order, w ∈ lw_tbl := List.forall_mem_append.mpr ⟨(wix [1038, 873, 882, 879, 877, 878, 859, 1000, 1002, 32, 69, 1039, 1041, 37, 1094, 1096, 49, 1114, 1115, 1090, 1092, 48] rfl), List.forall_mem_append.mpr ⟨inKX9, List.forall_mem_append.mpr ⟨wi_w_is, List.forall_mem_append.mpr ⟨wi_w_look, List.forall_mem_append.mpr ⟨wi_w_begin, List.forall_mem_append.mpr ⟨wi_w_many, wi_w_to⟩⟩⟩⟩⟩⟩
set_option maxRecDepth 20000 in
theorem wg_w_order : GoodIn wq_w_order wq_w_order := goodIn_sub (fun _ h => h) (by decide +kernel)
set_option maxRecDepth 20000 in
theorem wc_w_order_w_is_135 : GoodIn wq_w_order (wsV RX9 135 RX9 yX9_is wq_w_is) := goodIn_app (goodIn_of _ (by decide +kernel)) (fun w h => ⟨List.mem_append_right _ (List.mem_append_right _ (List.mem_append_left _ (h))), (wg_w_is w h).2⟩)
set_option maxRecDepth 20000 in
theorem wc_w_order_w_look_207 : GoodIn wq_w_order (wsV RX9 207 RX9 yX9_look wq_w_look) := goodIn_app (goodIn_of _ (by decide +kernel)) (fun w h => ⟨List.mem_append_right _ (List.mem_append_right _ (List.mem_append_right _ (List.mem_append_left _ (h)))), (wg_w_look w h).2⟩)
set_option maxRecDepth 20000 in
theorem wc_w_order_w_begin_215 : GoodIn wq_w_order (wsV RX9 215 RX9 yX9_begin wq_w_begin) := goodIn_app (goodIn_of _ (by decide +kernel)) (fun w h => ⟨List.mem_append_right _ (List.mem_append_right _ (List.mem_append_right _ (List.mem_append_right _ (List.mem_append_left _ (h))))), (wg_w_begin w h).2⟩)
set_option maxRecDepth 20000 in
theorem wc_w_order_w_many_218 : GoodIn wq_w_order (va_wsS RX9 218 yX9_many wq_w_many) := goodIn_app (goodIn_of _ (by decide +kernel)) (fun w h => ⟨List.mem_append_right _ (List.mem_append_right _ (List.mem_append_right _ (List.mem_append_right _ (List.mem_append_right _ (List.mem_append_left _ (h)))))), (wg_w_many w h).2⟩)
set_option maxRecDepth 20000 in
theorem wc_w_order_w_to_211 : GoodIn wq_w_order (wsV RX9 211 RX9 yX9_to wq_w_to) := goodIn_app (goodIn_of _ (by decide +kernel)) (fun w h => ⟨List.mem_append_right _ (List.mem_append_right _ (List.mem_append_right _ (List.mem_append_right _ (List.mem_append_right _ (List.mem_append_right _ (h)))))), (wg_w_to w h).2⟩)
def rm_w_order : Room := { frames := 4, cells := 0, slots := 0, locals := 98 }
set_option maxHeartbeats 4000000 in
set_option maxRecDepth 100000 in
theorem c_w_order (l : Launch) (dC : Nat → ClassId) (dI : Nat → Nat → Nat) (h : Nat) (a : Nat → Nat) (k : Nat → ClassId) (F : Nat → Nat → Int32) (V : Nat → Int32) (n b : Nat) (p0 : Int32) (p1 : Int32) (sz : Nat) (hI0 : InvM n b F V) (hb0 : b + 162 < 2147483648)  : Met l yX9_order wq_w_order rm_w_order (va_Pc [.ref h, .int p0, .int p1] (fun U => U.heap.size = sz ∧ va_P (dC, dI) vwCl (mW h a k F V) U.heap ∧ va_K (dC, dI) vwCl (mT k) U ∧ va_D (fun _ => True) (mW h a k F V))) (va_Qi (fun (r : Int32) (u : (Nat → Nat → Int32) × (Nat → Int32)) => StM n (b + 162) F V u.1 u.2 ∧ (∀ j : Nat, j ∉ ([7, 8, 9, 11, 12, 25, 26, 27, 28, 29, 30, 31, 32, 42, 43, 44] : List Nat) → u.1 j = F j) ∧ (∀ j : Nat, j ∉ ([33, 45] : List Nat) → u.2 j = V j) ∧ ((r, u.1, u.2) = f_w_order n p0 p1 F V)) (fun (u : (Nat → Nat → Int32) × (Nat → Int32)) (t : State) => va_P (dC, dI) vwCl (mW h a k u.1 u.2) t.heap ∧ va_D (va_A (mW h a k F V) sz) (mW h a k u.1 u.2)) (va_A (mW h a k F V) sz)) 0 0 (va_A (mW h a k F V) sz) := by
  have hn : n ≤ 40 := hI0.1
  have hI : StM n b F V F V := StM.rf hI0
  have hU : ∀ j : Nat, j ∉ ([7, 8, 9, 11, 12, 25, 26, 27, 28, 29, 30, 31, 32, 42, 43, 44] : List Nat) → F j = F j := fun _ _ => rfl
  have hV : ∀ j : Nat, j ∉ ([33, 45] : List Nat) → V j = V j := fun _ _ => rfl
  refine Met.ofW (cc := cX9_order) (maxL := 5) (ret := (some .int)) (by decide) rfl ?_
  intro p e s m args below meth c s₁ B hml hv
  obtain ⟨rfl, hsz, hP, hK, hD0⟩ := hv
  have hx := B.exec
  have hb := B.bytes
  have hr := B.returns
  have hts := atoms_spec (ws := wq_w_order) B.pre
  have hown : s.vm.findClass RX9 = some m.cls := findClass_of_methodNamed B.named
  have hlocks := B.notSynchronized
  subst hsz
  have hD := hD0.self (sz := s.heap.size)
  generalize hAe : va_A (mW h a k F V) s.heap.size = A at hD ⊢
  have hA : ∀ q : Nat, s.heap.size ≤ q → A q := fun q h => by rw [← hAe]; exact Or.inr h
  have hS : va_S A s.heap s.heap [] := va_S.rf
  have hl := lv_entry ([.ref h, .int p0, .int p1]) (n := 5) (Nat.le_of_ble_eq_true rfl)
  rw [lg_entry_eq]
  generalize (lg_sl ([.ref h, .int p0, .int p1]) ++ List.replicate (5 - (lg_sl ([.ref h, .int p0, .int p1])).length) Slot.unset).toArray = ls at hl ⊢
  have hl : lv_has ls 5 [(0, .ref h), (1, .int p0), (2, .int p1)] := hl
  refine mw_Q (fun Q0 hQ => ?_)
  obtain ⟨RES, hR0⟩ : ∃ R9, R9 = f_w_order n p0 p1 F V := ⟨_, rfl⟩
  have hZ9 := hR0
  unfold f_w_order at hZ9
  refine lv_iload_n hx hb dX9_order_0 rfl (lv_at hl 1 rfl) ?_
  refine lv_if_lt (tgt := 17) hx hb dX9_order_1 (by decide) (fun c1 => ?_) (fun c1 => ?_)
  · replace hZ9 := ite_t hZ9 c1
    refine lv_iconst (v := (-1)) hx hb dX9_order_17 (by decide) ?_
    rw [hQ]
    exact W.iret (v := (-1)) hx hb hr (fun t ht hW => ⟨⟨(-1), (F, V), rfl, ⟨hI.mono (by omega), hU, hV, hZ9.symm.trans hR0⟩, by rw [ht]; exact hP, hD⟩, hS.F ht⟩) hS.2.2 dX9_order_18
  · replace hZ9 := ite_f hZ9 c1
    refine lv_iload_n hx hb dX9_order_4 rfl (lv_at hl 1 rfl) ?_
    refine lv_iconst (v := 2) hx hb dX9_order_5 (by decide) ?_
    refine lv_icmp_gt (tgt := 17) hx hb dX9_order_6 (by decide) (fun c2 => ?_) (fun c2 => ?_)
    · replace hZ9 := ite_t hZ9 c2
      refine lv_iconst (v := (-1)) hx hb dX9_order_17 (by decide) ?_
      rw [hQ]
      exact W.iret (v := (-1)) hx hb hr (fun t ht hW => ⟨⟨(-1), (F, V), rfl, ⟨hI.mono (by omega), hU, hV, hZ9.symm.trans hR0⟩, by rw [ht]; exact hP, hD⟩, hS.F ht⟩) hS.2.2 dX9_order_18
    · replace hZ9 := ite_f hZ9 c2
      refine lv_aload_n hx hb dX9_order_9 rfl (lv_at hl 0 rfl) ?_
      refine lv_iload_n hx hb dX9_order_10 rfl (lv_at hl 2 rfl) ?_
      have hFc := mw_free hD hS hA
      refine va_calli (va_runV (As := [.int p1]) (rest := []) ⟨hx, hb, hml, hown, hts⟩ (c_w_is l dC dI h a k F V n (b) p1 s.heap.size hI.1 (by omega) ) (cwV 1 hts wc_w_order_w_is_135 rfl rfl rfl (by decide +kernel) ⟨Nat.le_of_ble_eq_true rfl, Nat.le_of_ble_eq_true rfl⟩) ⟨fun a9 U g mk q => by obtain ⟨q0, q1, qP, qK, qD⟩ := q; exact ⟨q0, q1, qP, va_K.moved (u := U) (U := U.calling g mk a9) (Vm.Alike.refl U.vm) qK, qD⟩, va_recv hK hP (ci := 10) (q0 := 0) rfl rfl, fun U hU hW => ⟨rfl, by rw [hU], by rw [hU]; exact hP, va_K.moved hW.alike hK, hD.weaken (fun _ _ _ _ => trivial)⟩⟩ rfl rfl hl.1 rfl (lv_room (Nat.le_of_ble_eq_true rfl)) dX9_order_11 ⟨Nat.le_of_ble_eq_true rfl, Nat.le_of_ble_eq_true rfl⟩) hS (fun q _ h => hFc q h) hFc (fun r3 u t H1 locs ht hvm hw hB hz1 hk1 hS => ?_)
      obtain ⟨F4, V5⟩ := u
      replace hP := hB.1
      rw [ht] at hP
      replace hD : va_D A (mW h a k F4 V5) := hB.2.weaken (fun _ q _ h9 => hFc q.1 h9)
      clear hB
      generalize H1 = H at hP hS ⊢
      replace hP : va_P (dC, dI) vwCl (mW h a k F4 V5) H := hP
      obtain ⟨hwF, hwV, hw⟩ : F4 = F ∧ V5 = V ∧ _ := hw
      rw [hwF, hwV] at hP hD
      rcases hw with ⟨rfl, j6, hj6, ej6⟩ | ⟨rfl, noj6⟩
      · replace hZ9 := ite_t hZ9 (show (0 : Int32) ≤ p1 ∧ p1 < nI n by rw [ej6]; exact ⟨nI_pos' (by omega), nI_lt hj6 (by omega)⟩)
        replace hZ9 := bnd_s hZ9 (show j6 = p1.toNatClampNeg by rw [ej6, nI_clamp (by omega)])
        subst ej6
        refine lv_if_ne (tgt := 19) hx hb dX9_order_14 (by decide) (fun _ => ?_) (fun c9 => absurd c9 (by decide))
        refine lv_aload_n hx hb dX9_order_19 rfl (lv_at hl 0 rfl) ?_
        refine lv_iload_n hx hb dX9_order_20 rfl (lv_at hl 1 rfl) ?_
        refine lv_iload_n hx hb dX9_order_21 rfl (lv_at hl 2 rfl) ?_
        have hFc := mw_free hD hS hA
        refine va_calli (va_runV (As := [.int p0, .int (nI j6)]) (rest := []) ⟨hx, hb, hml, hown, hts⟩ (c_w_look l dC dI h a k F V n (b) p0 j6 H.size hI.1 (by omega) (by omega)) (cwV 2 hts wc_w_order_w_look_207 rfl rfl rfl (by decide +kernel) ⟨Nat.le_of_ble_eq_true rfl, Nat.le_of_ble_eq_true rfl⟩) ⟨fun a9 U g mk q => by obtain ⟨q0, q1, qP, qK, qD⟩ := q; exact ⟨q0, q1, qP, va_K.moved (u := U) (U := U.calling g mk a9) (Vm.Alike.refl U.vm) qK, qD⟩, va_recv hK hP (ci := 10) (q0 := 0) rfl rfl, fun U hU hW => ⟨rfl, by rw [hU], by rw [hU]; exact hP, va_K.moved hW.alike hK, hD.weaken (fun _ _ _ _ => trivial)⟩⟩ rfl rfl hl.1 rfl (lv_room (Nat.le_of_ble_eq_true rfl)) dX9_order_22 ⟨Nat.le_of_ble_eq_true rfl, Nat.le_of_ble_eq_true rfl⟩) hS (fun q _ h => hFc q h) hFc (fun r7 u t H1 locs ht hvm hw hB hz1 hk1 hS => ?_)
        obtain ⟨F8, V9⟩ := u
        replace hP := hB.1
        rw [ht] at hP
        replace hD : va_D A (mW h a k F8 V9) := hB.2.weaken (fun _ q _ h9 => hFc q.1 h9)
        clear hB
        generalize H1 = H at hP hS ⊢
        replace hP : va_P (dC, dI) vwCl (mW h a k F8 V9) H := hP
        obtain ⟨hwI, hwU, hwV, hw⟩ := hw
        replace hU : ∀ j : Nat, j ∉ ([7, 8, 9, 11, 12, 25, 26, 27, 28, 29, 30, 31, 32, 42, 43, 44] : List Nat) → F8 j = F j := mw_tr (by decide) hwU hU
        replace hV : ∀ j : Nat, j ∉ ([33, 45] : List Nat) → V9 j = V j := mw_tr (by decide) hwV hV
        replace hI : StM n (b + 0) F V F8 V9 := hI.trans hwI
        replace hI : StM n (b) F V F8 V9 := hI
        replace hw : (r7, F8, V9) = f_w_look n p0 j6 F V := hw
        replace hZ9 := bn3_s hZ9 hw
        refine lv_istore_n (lv' := [(3, .int r7), (0, .ref h), (1, .int p0), (2, .int (nI j6))]) hx hb dX9_order_25 rfl hl (by decide) rfl (fun ls hl => ?_)
        refine lv_iload_n hx hb dX9_order_26 rfl (lv_at hl 0 rfl) ?_
        refine lv_if_eq (tgt := 32) hx hb dX9_order_27 (by decide) (fun c10 => ?_) (fun c10 => ?_)
        · replace hZ9 := ite_t hZ9 c10
          refine lv_iconst (v := 0) hx hb dX9_order_32 (by decide) ?_
          refine lv_istore (lv' := [(4, .int 0), (3, .int r7), (0, .ref h), (1, .int p0), (2, .int (nI j6))]) hx hb dX9_order_33 hl (by decide) rfl (fun ls hl => ?_)
          obtain ⟨K9_35, hK9_35, hZ9⟩ := lp_gen hZ9
          have lp14 : ∀ (fu12 i11 : Nat)  (F15 : Nat → Nat → Int32) (V16 : Nat → Int32) (H : Heap) (locs : List Loc) (ls : Array Slot), n < i11 + fu12 → i11 ≤ n → StM n (b + 2 * i11) F V F15 V16 → (∀ j : Nat, j ∉ ([7, 8, 9, 11, 12, 25, 26, 27, 28, 29, 30, 31, 32, 42, 43, 44] : List Nat) → F15 j = F j) → (∀ j : Nat, j ∉ ([33, 45] : List Nat) → V16 j = V j) → RES = f_w_order_35 n  fu12 i11 F15 V16 K9_35 → va_P (dC, dI) vwCl (mW h a k F15 V16) H → va_D A (mW h a k F15 V16) → va_S A s.heap H locs → lv_has ls 5 [(4, .int (nI i11)), (3, .int r7), (0, .ref h), (1, .int p0), (2, .int (nI j6))] → W p l e (headSpec wq_w_order rm_w_order).room s m ([.ref h, .int p0, .int (nI j6)] : List Value).toArray below meth c H locs 0 0 Q0 (F0 m 35 ls []) := by
            intro fu12
            induction fu12 with
            | zero =>
              intro i11  F15 V16 H locs ls hf hi
              exact absurd hf (by omega)
            | succ fu12 ih13 =>
              intro i11  F15 V16 H locs ls hfi11 hii11 hI hU hV hZ9 hP hD hS hl
              rw [f_w_order_35] at hZ9
              refine lv_iload hx hb dX9_order_35 (lv_at hl 0 rfl) ?_
              refine lv_aload_n hx hb dX9_order_37 rfl (lv_at hl 2 rfl) ?_
              refine va_get (D := (dC, dI)) (ci := 10) (v := .int (V16 21)) (C := RX9) (T := TX9) (N := 46) hx hb hts in_w_order_X9 hown hK hP 0 rfl rfl 21 (by decide) (hts (.fieldLink RX9 126 "ServiceTreeModel" "services" "I") (by decide +kernel)) (fun _ h9 => h9) rfl dX9_order_38 ?_
              refine p1_topr (v := .int (nI n)) (congrArg Value.int hI.1.2.1) ?_
              refine lv_icmp_ge (tgt := 100) hx hb dX9_order_41 (by decide) (fun c17 => ?_) (fun c17 => ?_)
              · replace c17 : n ≤ i11 := (nI_leI (a := n) (b := i11) (by omega) (by omega)).mp c17
                replace hZ9 := ite_t hZ9 c17
                replace hZ9 := lp_app3 hK9_35 hZ9
                refine lv_aload_n hx hb dX9_order_100 rfl (lv_at hl 2 rfl) ?_
                have hFc := mw_free hD hS hA
                refine va_callv (va_runV (As := []) (rest := []) ⟨hx, hb, hml, hown, hts⟩ (c_w_begin l dC dI h a k F15 V16 n (b + 2 * i11)  H.size hI.1 (by omega) ) (cwV 0 hts wc_w_order_w_begin_215 rfl rfl rfl (by decide +kernel) ⟨Nat.le_of_ble_eq_true rfl, Nat.le_of_ble_eq_true rfl⟩) ⟨fun a9 U g mk q => by obtain ⟨q0, q1, qP, qK, qD⟩ := q; exact ⟨q0, q1, qP, va_K.moved (u := U) (U := U.calling g mk a9) (Vm.Alike.refl U.vm) qK, qD⟩, va_recv hK hP (ci := 10) (q0 := 0) rfl rfl, fun U hU hW => ⟨rfl, by rw [hU], by rw [hU]; exact hP, va_K.moved hW.alike hK, hD.weaken (fun _ _ _ _ => trivial)⟩⟩ rfl rfl hl.1 rfl (lv_room (Nat.le_of_ble_eq_true rfl)) dX9_order_101 ⟨Nat.le_of_ble_eq_true rfl, Nat.le_of_ble_eq_true rfl⟩) hS (fun q _ h => hFc q h) hFc (fun u t H1 locs ht hvm hw hB hz1 hk1 hS => ?_)
                obtain ⟨F19, V20⟩ := u
                replace hP := hB.1
                rw [ht] at hP
                replace hD : va_D A (mW h a k F19 V20) := hB.2.weaken (fun _ q _ h9 => hFc q.1 h9)
                clear hB
                generalize H1 = H at hP hS ⊢
                replace hP : va_P (dC, dI) vwCl (mW h a k F19 V20) H := hP
                obtain ⟨hwI, hwU, hwV, hw⟩ := hw
                replace hU : ∀ j : Nat, j ∉ ([7, 8, 9, 11, 12, 25, 26, 27, 28, 29, 30, 31, 32, 42, 43, 44] : List Nat) → F19 j = F j := mw_tr (by decide) hwU hU
                replace hV : ∀ j : Nat, j ∉ ([33, 45] : List Nat) → V20 j = V j := mw_tr (by decide) hwV hV
                replace hI : StM n (b + 2 * i11 + 82) F V F19 V20 := hI.trans hwI
                replace hw : (F19, V20) = f_w_begin n  F15 V16 := hw
                replace hZ9 := bn2_s hZ9 hw
                refine lv_aload_n hx hb dX9_order_104 rfl (lv_at hl 2 rfl) ?_
                refine va_get (D := (dC, dI)) (ci := 10) (v := .ref (a 30)) (C := RX9) (T := TX9) (N := 46) hx hb hts in_w_order_X9 hown hK hP 0 rfl rfl 30 (by decide) (hts (.fieldLink RX9 86 "ServiceTreeModel" "newJob" "[I") (by decide +kernel)) (fun _ h9 => h9) rfl dX9_order_105 ?_
                refine lv_aload_n hx hb dX9_order_108 rfl (lv_at hl 2 rfl) ?_
                refine va_get (D := (dC, dI)) (ci := 10) (v := .int (V20 21)) (C := RX9) (T := TX9) (N := 46) hx hb hts in_w_order_X9 hown hK hP 0 rfl rfl 21 (by decide) (hts (.fieldLink RX9 126 "ServiceTreeModel" "services" "I") (by decide +kernel)) (fun _ h9 => h9) rfl dX9_order_109 ?_
                refine p1_topr (v := .int (nI n)) (congrArg Value.int hI.1.2.1) ?_
                have hFc := mw_free hD hS hA
                refine va_calli (va_runS (As := [.ref (a 30), .int (nI n)]) (rest := []) ⟨hx, hb, hml, hown, hts⟩ (c_w_many l dC dI h a k F19 V20 n (b + 2 * i11 + 82) n H.size hI.1 (by omega) (by omega)) (va_cwS 2 hts wc_w_order_w_many_218 rfl rfl rfl (by decide +kernel) ⟨Nat.le_of_ble_eq_true rfl, Nat.le_of_ble_eq_true rfl⟩) ⟨fun a9 U g mk q => by obtain ⟨q0, q1, qP, qK, qD⟩ := q; exact ⟨q0, q1, qP, va_K.moved (u := U) (U := U.calling g mk a9) (Vm.Alike.refl U.vm) qK, qD⟩, fun U hU hW => ⟨rfl, by rw [hU], by rw [hU]; exact hP, va_K.moved hW.alike hK, hD.weaken (fun _ _ _ _ => trivial)⟩⟩ rfl rfl hl.1 rfl (lv_room (Nat.le_of_ble_eq_true rfl)) dX9_order_112 ⟨Nat.le_of_ble_eq_true rfl, Nat.le_of_ble_eq_true rfl⟩) hS (fun q _ h => hFc q h) hFc (fun r21 u t H1 locs ht hvm hw hB hz1 hk1 hS => ?_)
                obtain ⟨F22, V23⟩ := u
                replace hP := hB.1
                rw [ht] at hP
                replace hD : va_D A (mW h a k F22 V23) := hB.2.weaken (fun _ q _ h9 => hFc q.1 h9)
                clear hB
                generalize H1 = H at hP hS ⊢
                replace hP : va_P (dC, dI) vwCl (mW h a k F22 V23) H := hP
                obtain ⟨hwF, hwV, hw⟩ : F22 = F19 ∧ V23 = V20 ∧ _ := hw
                rw [hwF, hwV] at hP hD
                replace hw : r21 = f_w_many n n F19 := hw
                replace hZ9 := bnd_s hZ9 hw
                rw [hQ]
                exact W.iret (v := r21) hx hb hr (fun t ht hW => ⟨⟨r21, (F19, V20), rfl, ⟨hI.mono (by omega), hU, hV, hZ9.symm.trans hR0⟩, by rw [ht]; exact hP, hD⟩, hS.F ht⟩) hS.2.2 dX9_order_115
              · replace c17 : ¬ (n ≤ i11) := fun q9 => c17 ((nI_leI (a := n) (b := i11) (by omega) (by omega)).mpr q9)
                replace hZ9 := ite_f hZ9 c17
                refine lv_aload_n hx hb dX9_order_44 rfl (lv_at hl 2 rfl) ?_
                refine va_get (D := (dC, dI)) (ci := 10) (v := .ref (a 27)) (C := RX9) (T := TX9) (N := 46) hx hb hts in_w_order_X9 hown hK hP 0 rfl rfl 27 (by decide) (hts (.fieldLink RX9 77 "ServiceTreeModel" "member" "[Z") (by decide +kernel)) (fun _ h9 => h9) rfl dX9_order_45 ?_
                refine lv_iload hx hb dX9_order_48 (lv_at hl 0 rfl) ?_
                refine va_zald (n := 40) (f := F15 27) hx hb hK hP 23 22 rfl rfl (vp_in_nI (n := i11) (by omega) (by decide)) dX9_order_50 ?_
                refine lv_topi (fun x24 ex24 => ?_)
                replace hZ9 := bnd_s hZ9 ex24
                refine lv_if_eq (tgt := 72) hx hb dX9_order_51 (by decide) (fun c25 => ?_) (fun c25 => ?_)
                · replace hZ9 := ite_t hZ9 c25
                  refine lv_aload_n hx hb dX9_order_72 rfl (lv_at hl 2 rfl) ?_
                  refine va_get (D := (dC, dI)) (ci := 10) (v := .ref (a 25)) (C := RX9) (T := TX9) (N := 46) hx hb hts in_w_order_X9 hown hK hP 0 rfl rfl 25 (by decide) (hts (.fieldLink RX9 71 "ServiceTreeModel" "job" "[I") (by decide +kernel)) (fun _ h9 => h9) rfl dX9_order_73 ?_
                  refine lv_iload hx hb dX9_order_76 (lv_at hl 0 rfl) ?_
                  refine lv_aload_n hx hb dX9_order_78 rfl (lv_at hl 2 rfl) ?_
                  refine va_get (D := (dC, dI)) (ci := 10) (v := .ref (a 30)) (C := RX9) (T := TX9) (N := 46) hx hb hts in_w_order_X9 hown hK hP 0 rfl rfl 30 (by decide) (hts (.fieldLink RX9 86 "ServiceTreeModel" "newJob" "[I") (by decide +kernel)) (fun _ h9 => h9) rfl dX9_order_79 ?_
                  refine lv_iload hx hb dX9_order_82 (lv_at hl 0 rfl) ?_
                  refine va_iald (n := 40) (f := F15 30) hx hb hK hP 26 25 rfl rfl (vp_in_nI (n := i11) (by omega) (by decide)) dX9_order_84 ?_
                  refine lv_topi (fun x26 ex26 => ?_)
                  replace hZ9 := bnd_s hZ9 ex26
                  refine va_iast (n := 40) (f := F15 25) hx hb hK hP hD hS 21 20 rfl rfl (vp_in_nI (n := i11) (by omega) (by decide)) dX9_order_85 (fun H locs hP hD hS => ?_)
                  rw [mW_set_25] at hP hD
                  obtain ⟨F27, eF27⟩ : ∃ f9 : Nat → Nat → Int32, f9 = va_up F15 25 (upd (F15 25) (nI i11).toNatClampNeg x26) := ⟨_, rfl⟩
                  rw [← eF27] at hP hD
                  replace hZ9 := bnd_s hZ9 eF27
                  replace hI : StM n (b + 2 * i11) F V F27 V16 := ⟨by rw [eF27]; exact hI.1.setF (by decide), trivial⟩
                  replace hU : ∀ j : Nat, j ∉ ([7, 8, 9, 11, 12, 25, 26, 27, 28, 29, 30, 31, 32, 42, 43, 44] : List Nat) → F27 j = F j := by rw [eF27]; exact mw_up (by decide) hU
                  refine lv_aload_n hx hb dX9_order_86 rfl (lv_at hl 2 rfl) ?_
                  refine va_get (D := (dC, dI)) (ci := 10) (v := .ref (a 26)) (C := RX9) (T := TX9) (N := 46) hx hb hts in_w_order_X9 hown hK hP 0 rfl rfl 26 (by decide) (hts (.fieldLink RX9 74 "ServiceTreeModel" "hasBegun" "[Z") (by decide +kernel)) (fun _ h9 => h9) rfl dX9_order_87 ?_
                  refine lv_iload hx hb dX9_order_90 (lv_at hl 0 rfl) ?_
                  refine lv_iconst (v := 0) hx hb dX9_order_92 (by decide) ?_
                  refine va_zast (n := 40) (f := F27 26) hx hb hK hP hD hS 22 21 rfl rfl (vp_in_nI (n := i11) (by omega) (by decide)) dX9_order_93 (fun H locs hP hD hS => ?_)
                  rw [mW_set_26] at hP hD
                  obtain ⟨F28, eF28⟩ : ∃ f9 : Nat → Nat → Int32, f9 = va_up F27 26 (upd (F27 26) (nI i11).toNatClampNeg (vp_nar .boolean 0)) := ⟨_, rfl⟩
                  rw [← eF28] at hP hD
                  replace hZ9 := bnd_s hZ9 eF28
                  replace hI : StM n (b + 2 * i11) F V F28 V16 := ⟨by rw [eF28]; exact hI.1.setF (by decide), trivial⟩
                  replace hU : ∀ j : Nat, j ∉ ([7, 8, 9, 11, 12, 25, 26, 27, 28, 29, 30, 31, 32, 42, 43, 44] : List Nat) → F28 j = F j := by rw [eF28]; exact mw_up (by decide) hU
                  refine lv_iinc (v := nI (i11 + 1)) (lv' := [(4, .int (nI (i11 + 1))), (3, .int r7), (0, .ref h), (1, .int p0), (2, .int (nI j6))]) hx hb dX9_order_94 hl (k := 0) rfl (nI_add i11 1) (by decide) rfl (fun ls hl => ?_)
                  refine lv_goto (tgt := 35) hx hb dX9_order_97 (by decide) ?_
                  exact ih13 (i11 + 1)  F28 V16 _ _ _ (by omega) (by omega) (hI.mono (by omega)) hU hV  hZ9 hP hD hS (lv_sub hl [0, 1, 2, 3, 4] rfl)
                · replace hZ9 := ite_f hZ9 c25
                  refine lv_aload_n hx hb dX9_order_54 rfl (lv_at hl 2 rfl) ?_
                  refine va_get (D := (dC, dI)) (ci := 10) (v := .ref (a 7)) (C := RX9) (T := TX9) (N := 46) hx hb hts in_w_order_X9 hown hK hP 0 rfl rfl 7 (by decide) (hts (.fieldLink RX9 31 "ServiceTreeModel" "state" "[I") (by decide +kernel)) (fun _ h9 => h9) rfl dX9_order_55 ?_
                  refine lv_iload hx hb dX9_order_58 (lv_at hl 0 rfl) ?_
                  refine va_iald (n := 40) (f := F15 7) hx hb hK hP 8 7 rfl rfl (vp_in_nI (n := i11) (by omega) (by decide)) dX9_order_60 ?_
                  refine lv_topi (fun x29 ex29 => ?_)
                  replace hZ9 := bnd_s hZ9 ex29
                  refine lv_iconst (v := 5) hx hb dX9_order_61 (by decide) ?_
                  refine lv_icmp_ne (tgt := 72) hx hb dX9_order_62 (by decide) (fun c30 => ?_) (fun c30 => ?_)
                  · replace hZ9 := ite_f hZ9 c30
                    refine lv_aload_n hx hb dX9_order_72 rfl (lv_at hl 2 rfl) ?_
                    refine va_get (D := (dC, dI)) (ci := 10) (v := .ref (a 25)) (C := RX9) (T := TX9) (N := 46) hx hb hts in_w_order_X9 hown hK hP 0 rfl rfl 25 (by decide) (hts (.fieldLink RX9 71 "ServiceTreeModel" "job" "[I") (by decide +kernel)) (fun _ h9 => h9) rfl dX9_order_73 ?_
                    refine lv_iload hx hb dX9_order_76 (lv_at hl 0 rfl) ?_
                    refine lv_aload_n hx hb dX9_order_78 rfl (lv_at hl 2 rfl) ?_
                    refine va_get (D := (dC, dI)) (ci := 10) (v := .ref (a 30)) (C := RX9) (T := TX9) (N := 46) hx hb hts in_w_order_X9 hown hK hP 0 rfl rfl 30 (by decide) (hts (.fieldLink RX9 86 "ServiceTreeModel" "newJob" "[I") (by decide +kernel)) (fun _ h9 => h9) rfl dX9_order_79 ?_
                    refine lv_iload hx hb dX9_order_82 (lv_at hl 0 rfl) ?_
                    refine va_iald (n := 40) (f := F15 30) hx hb hK hP 26 25 rfl rfl (vp_in_nI (n := i11) (by omega) (by decide)) dX9_order_84 ?_
                    refine lv_topi (fun x31 ex31 => ?_)
                    replace hZ9 := bnd_s hZ9 ex31
                    refine va_iast (n := 40) (f := F15 25) hx hb hK hP hD hS 21 20 rfl rfl (vp_in_nI (n := i11) (by omega) (by decide)) dX9_order_85 (fun H locs hP hD hS => ?_)
                    rw [mW_set_25] at hP hD
                    obtain ⟨F32, eF32⟩ : ∃ f9 : Nat → Nat → Int32, f9 = va_up F15 25 (upd (F15 25) (nI i11).toNatClampNeg x31) := ⟨_, rfl⟩
                    rw [← eF32] at hP hD
                    replace hZ9 := bnd_s hZ9 eF32
                    replace hI : StM n (b + 2 * i11) F V F32 V16 := ⟨by rw [eF32]; exact hI.1.setF (by decide), trivial⟩
                    replace hU : ∀ j : Nat, j ∉ ([7, 8, 9, 11, 12, 25, 26, 27, 28, 29, 30, 31, 32, 42, 43, 44] : List Nat) → F32 j = F j := by rw [eF32]; exact mw_up (by decide) hU
                    refine lv_aload_n hx hb dX9_order_86 rfl (lv_at hl 2 rfl) ?_
                    refine va_get (D := (dC, dI)) (ci := 10) (v := .ref (a 26)) (C := RX9) (T := TX9) (N := 46) hx hb hts in_w_order_X9 hown hK hP 0 rfl rfl 26 (by decide) (hts (.fieldLink RX9 74 "ServiceTreeModel" "hasBegun" "[Z") (by decide +kernel)) (fun _ h9 => h9) rfl dX9_order_87 ?_
                    refine lv_iload hx hb dX9_order_90 (lv_at hl 0 rfl) ?_
                    refine lv_iconst (v := 0) hx hb dX9_order_92 (by decide) ?_
                    refine va_zast (n := 40) (f := F32 26) hx hb hK hP hD hS 22 21 rfl rfl (vp_in_nI (n := i11) (by omega) (by decide)) dX9_order_93 (fun H locs hP hD hS => ?_)
                    rw [mW_set_26] at hP hD
                    obtain ⟨F33, eF33⟩ : ∃ f9 : Nat → Nat → Int32, f9 = va_up F32 26 (upd (F32 26) (nI i11).toNatClampNeg (vp_nar .boolean 0)) := ⟨_, rfl⟩
                    rw [← eF33] at hP hD
                    replace hZ9 := bnd_s hZ9 eF33
                    replace hI : StM n (b + 2 * i11) F V F33 V16 := ⟨by rw [eF33]; exact hI.1.setF (by decide), trivial⟩
                    replace hU : ∀ j : Nat, j ∉ ([7, 8, 9, 11, 12, 25, 26, 27, 28, 29, 30, 31, 32, 42, 43, 44] : List Nat) → F33 j = F j := by rw [eF33]; exact mw_up (by decide) hU
                    refine lv_iinc (v := nI (i11 + 1)) (lv' := [(4, .int (nI (i11 + 1))), (3, .int r7), (0, .ref h), (1, .int p0), (2, .int (nI j6))]) hx hb dX9_order_94 hl (k := 0) rfl (nI_add i11 1) (by decide) rfl (fun ls hl => ?_)
                    refine lv_goto (tgt := 35) hx hb dX9_order_97 (by decide) ?_
                    exact ih13 (i11 + 1)  F33 V16 _ _ _ (by omega) (by omega) (hI.mono (by omega)) hU hV  hZ9 hP hD hS (lv_sub hl [0, 1, 2, 3, 4] rfl)
                  · replace hZ9 := ite_t hZ9 c30
                    refine lv_aload_n hx hb dX9_order_65 rfl (lv_at hl 2 rfl) ?_
                    refine lv_iload hx hb dX9_order_66 (lv_at hl 0 rfl) ?_
                    refine lv_iconst (v := 0) hx hb dX9_order_68 (by decide) ?_
                    have hFc := mw_free hD hS hA
                    refine va_callv (va_runV (As := [.int (nI i11), .int 0]) (rest := []) ⟨hx, hb, hml, hown, hts⟩ (c_w_to l dC dI h a k F15 V16 n (b + 2 * i11) i11 0 H.size hI.1 (by omega) (by omega)) (cwV 2 hts wc_w_order_w_to_211 rfl rfl rfl (by decide +kernel) ⟨Nat.le_of_ble_eq_true rfl, Nat.le_of_ble_eq_true rfl⟩) ⟨fun a9 U g mk q => by obtain ⟨q0, q1, qP, qK, qD⟩ := q; exact ⟨q0, q1, qP, va_K.moved (u := U) (U := U.calling g mk a9) (Vm.Alike.refl U.vm) qK, qD⟩, va_recv hK hP (ci := 10) (q0 := 0) rfl rfl, fun U hU hW => ⟨rfl, by rw [hU], by rw [hU]; exact hP, va_K.moved hW.alike hK, hD.weaken (fun _ _ _ _ => trivial)⟩⟩ rfl rfl hl.1 rfl (lv_room (Nat.le_of_ble_eq_true rfl)) dX9_order_69 ⟨Nat.le_of_ble_eq_true rfl, Nat.le_of_ble_eq_true rfl⟩) hS (fun q _ h => hFc q h) hFc (fun u t H1 locs ht hvm hw hB hz1 hk1 hS => ?_)
                    obtain ⟨F35, V36⟩ := u
                    replace hP := hB.1
                    rw [ht] at hP
                    replace hD : va_D A (mW h a k F35 V36) := hB.2.weaken (fun _ q _ h9 => hFc q.1 h9)
                    clear hB
                    generalize H1 = H at hP hS ⊢
                    replace hP : va_P (dC, dI) vwCl (mW h a k F35 V36) H := hP
                    obtain ⟨hwI, hwU, hwV, hw⟩ := hw
                    replace hU : ∀ j : Nat, j ∉ ([7, 8, 9, 11, 12, 25, 26, 27, 28, 29, 30, 31, 32, 42, 43, 44] : List Nat) → F35 j = F j := mw_tr (by decide) hwU hU
                    replace hV : ∀ j : Nat, j ∉ ([33, 45] : List Nat) → V36 j = V j := mw_tr (by decide) hwV hV
                    replace hI : StM n (b + 2 * i11 + 2) F V F35 V36 := hI.trans hwI
                    obtain ⟨hw, hwe⟩ := hw
                    replace hw : (F35, V36) = f_w_to n i11 0 F15 V16 := hw
                    replace hZ9 := bn2_s hZ9 hw
                    refine lv_aload_n hx hb dX9_order_72 rfl (lv_at hl 2 rfl) ?_
                    refine va_get (D := (dC, dI)) (ci := 10) (v := .ref (a 25)) (C := RX9) (T := TX9) (N := 46) hx hb hts in_w_order_X9 hown hK hP 0 rfl rfl 25 (by decide) (hts (.fieldLink RX9 71 "ServiceTreeModel" "job" "[I") (by decide +kernel)) (fun _ h9 => h9) rfl dX9_order_73 ?_
                    refine lv_iload hx hb dX9_order_76 (lv_at hl 0 rfl) ?_
                    refine lv_aload_n hx hb dX9_order_78 rfl (lv_at hl 2 rfl) ?_
                    refine va_get (D := (dC, dI)) (ci := 10) (v := .ref (a 30)) (C := RX9) (T := TX9) (N := 46) hx hb hts in_w_order_X9 hown hK hP 0 rfl rfl 30 (by decide) (hts (.fieldLink RX9 86 "ServiceTreeModel" "newJob" "[I") (by decide +kernel)) (fun _ h9 => h9) rfl dX9_order_79 ?_
                    refine lv_iload hx hb dX9_order_82 (lv_at hl 0 rfl) ?_
                    refine va_iald (n := 40) (f := F35 30) hx hb hK hP 26 25 rfl rfl (vp_in_nI (n := i11) (by omega) (by decide)) dX9_order_84 ?_
                    refine lv_topi (fun x37 ex37 => ?_)
                    replace hZ9 := bnd_s hZ9 ex37
                    refine va_iast (n := 40) (f := F35 25) hx hb hK hP hD hS 21 20 rfl rfl (vp_in_nI (n := i11) (by omega) (by decide)) dX9_order_85 (fun H locs hP hD hS => ?_)
                    rw [mW_set_25] at hP hD
                    obtain ⟨F38, eF38⟩ : ∃ f9 : Nat → Nat → Int32, f9 = va_up F35 25 (upd (F35 25) (nI i11).toNatClampNeg x37) := ⟨_, rfl⟩
                    rw [← eF38] at hP hD
                    replace hZ9 := bnd_s hZ9 eF38
                    replace hI : StM n (b + 2 * i11 + 2) F V F38 V36 := ⟨by rw [eF38]; exact hI.1.setF (by decide), trivial⟩
                    replace hU : ∀ j : Nat, j ∉ ([7, 8, 9, 11, 12, 25, 26, 27, 28, 29, 30, 31, 32, 42, 43, 44] : List Nat) → F38 j = F j := by rw [eF38]; exact mw_up (by decide) hU
                    refine lv_aload_n hx hb dX9_order_86 rfl (lv_at hl 2 rfl) ?_
                    refine va_get (D := (dC, dI)) (ci := 10) (v := .ref (a 26)) (C := RX9) (T := TX9) (N := 46) hx hb hts in_w_order_X9 hown hK hP 0 rfl rfl 26 (by decide) (hts (.fieldLink RX9 74 "ServiceTreeModel" "hasBegun" "[Z") (by decide +kernel)) (fun _ h9 => h9) rfl dX9_order_87 ?_
                    refine lv_iload hx hb dX9_order_90 (lv_at hl 0 rfl) ?_
                    refine lv_iconst (v := 0) hx hb dX9_order_92 (by decide) ?_
                    refine va_zast (n := 40) (f := F38 26) hx hb hK hP hD hS 22 21 rfl rfl (vp_in_nI (n := i11) (by omega) (by decide)) dX9_order_93 (fun H locs hP hD hS => ?_)
                    rw [mW_set_26] at hP hD
                    obtain ⟨F39, eF39⟩ : ∃ f9 : Nat → Nat → Int32, f9 = va_up F38 26 (upd (F38 26) (nI i11).toNatClampNeg (vp_nar .boolean 0)) := ⟨_, rfl⟩
                    rw [← eF39] at hP hD
                    replace hZ9 := bnd_s hZ9 eF39
                    replace hI : StM n (b + 2 * i11 + 2) F V F39 V36 := ⟨by rw [eF39]; exact hI.1.setF (by decide), trivial⟩
                    replace hU : ∀ j : Nat, j ∉ ([7, 8, 9, 11, 12, 25, 26, 27, 28, 29, 30, 31, 32, 42, 43, 44] : List Nat) → F39 j = F j := by rw [eF39]; exact mw_up (by decide) hU
                    refine lv_iinc (v := nI (i11 + 1)) (lv' := [(4, .int (nI (i11 + 1))), (3, .int r7), (0, .ref h), (1, .int p0), (2, .int (nI j6))]) hx hb dX9_order_94 hl (k := 0) rfl (nI_add i11 1) (by decide) rfl (fun ls hl => ?_)
                    refine lv_goto (tgt := 35) hx hb dX9_order_97 (by decide) ?_
                    exact ih13 (i11 + 1)  F39 V36 _ _ _ (by omega) (by omega) (hI.mono (by omega)) hU hV  hZ9 hP hD hS (lv_sub hl [0, 1, 2, 3, 4] rfl)
          exact lp14 (n + 1) 0  F8 V9 _ _ _ (by omega) (by omega) (hI.mono (by omega)) hU hV  hZ9 hP hD hS hl
        · replace hZ9 := ite_f hZ9 c10
          refine lv_iload_n hx hb dX9_order_30 rfl (lv_at hl 0 rfl) ?_
          rw [hQ]
          exact W.iret (v := r7) hx hb hr (fun t ht hW => ⟨⟨r7, (F8, V9), rfl, ⟨hI.mono (by omega), hU, hV, hZ9.symm.trans hR0⟩, by rw [ht]; exact hP, hD⟩, hS.F ht⟩) hS.2.2 dX9_order_31
      · replace hZ9 := ite_f hZ9 noj6
        refine lv_if_ne (tgt := 19) hx hb dX9_order_14 (by decide) (fun c9 => absurd (by decide) c9) (fun _ => ?_)
        refine lv_iconst (v := (-1)) hx hb dX9_order_17 (by decide) ?_
        rw [hQ]
        exact W.iret (v := (-1)) hx hb hr (fun t ht hW => ⟨⟨(-1), (F, V), rfl, ⟨hI.mono (by omega), hU, hV, hZ9.symm.trans hR0⟩, by rw [ht]; exact hP, hD⟩, hS.F ht⟩) hS.2.2 dX9_order_18
def f_w_letter (n : Nat) (p0 : Int32) (F : Nat → Nat → Int32) (V : Nat → Int32) : Int32 × (Nat → Nat → Int32) × (Nat → Int32) := if (0 : Int32) ≤ p0 ∧ p0 < nI n then (bnd (p0.toNatClampNeg) (fun (j4 : Nat) => bnd (F 0 (nI j4).toNatClampNeg) (fun (x5 : Int32) => if x5 = (2 : Int32) then (bnd (F 18 (nI j4).toNatClampNeg) (fun (x7 : Int32) => bnd (x7.toNatClampNeg) (fun (m8 : Nat) => if m8 = 20 then (((-6 : Int32), F, V)) else (bnd (V 23) (fun (x11 : Int32) => bnd (va_up F 17 (upd (F 17) (nI ((20 * j4) + m8)).toNatClampNeg x11)) (fun (F12 : Nat → Nat → Int32) => bnd (va_up F12 18 (upd (F12 18) (nI j4).toNatClampNeg (nI (m8 + 1)))) (fun (F14 : Nat → Nat → Int32) => bnd (V 23) (fun (x15 : Int32) => bnd (x15 + (1 : Int32)) (fun (x16 : Int32) => bnd (va_up V 23 x16) (fun (V17 : Nat → Int32) => bnd (F14 7 (nI j4).toNatClampNeg) (fun (x18 : Int32) => if x18 = (0 : Int32) then (bnd (V17 33) (fun (x21 : Int32) => bn3 (f_w_order n 0 (nI j4) F14 V17) (fun (r22 : Int32) (F23 : Nat → Nat → Int32) (V24 : Nat → Int32) => bnd (va_up V24 33 x21) (fun (V25 : Nat → Int32) => bnd (V25 23) (fun (x26 : Int32) => bnd (x26 - (1 : Int32)) (fun (x27 : Int32) => (x27, F23, V25))))))) else (bnd (x16 - (1 : Int32)) (fun (x20 : Int32) => (x20, F14, V17)))))))))))))) else (((-2 : Int32), F, V))))) else (((-1 : Int32), F, V))
def wq_w_letter : List Cond := ([.code yX9_letter cX9_letter 4 (some .int), .fieldLink RX9 9 "ServiceTreeModel" "kind" "[I", .fieldLink RX9 65 "ServiceTreeModel" "letterMany" "[I", .fieldLink RX9 62 "ServiceTreeModel" "letters" "[I", .fieldLink RX9 249 "ServiceTreeModel" "lettersAll" "I", .fieldLink RX9 31 "ServiceTreeModel" "state" "[I", .fieldLink RX9 197 "ServiceTreeModel" "ring" "I", .methodLink RX9 135 yX9_is, .instanceMethod yX9_is, .selects RX9 yX9_is yX9_is, .initialized RX9, .methodLink RX9 252 yX9_order, .instanceMethod yX9_order, .selects RX9 yX9_order yX9_order] : List Cond) ++ (wsX90 ++ (wq_w_is ++ (wq_w_order)))
theorem in_w_letter_X9 : ∀ w ∈ wsX90, w ∈ wq_w_letter := fun _ h => List.mem_append_right _ (List.mem_append_left _ (h))
set_option maxRecDepth 20000 in
theorem wi_w_letter : ∀ w ∈ wq_w_letter, w ∈ lw_tbl := List.forall_mem_append.mpr ⟨(wix [1140, 852, 870, 869, 875, 859, 885, 1000, 1002, 32, 69, 1141, 1036, 1037] rfl), List.forall_mem_append.mpr ⟨inKX9, List.forall_mem_append.mpr ⟨wi_w_is, wi_w_order⟩⟩⟩
set_option maxRecDepth 20000 in
theorem wg_w_letter : GoodIn wq_w_letter wq_w_letter := goodIn_sub (fun _ h => h) (by decide +kernel)
set_option maxRecDepth 20000 in
theorem wc_w_letter_w_is_135 : GoodIn wq_w_letter (wsV RX9 135 RX9 yX9_is wq_w_is) := goodIn_app (goodIn_of _ (by decide +kernel)) (fun w h => ⟨List.mem_append_right _ (List.mem_append_right _ (List.mem_append_left _ (h))), (wg_w_is w h).2⟩)
set_option maxRecDepth 20000 in
theorem wc_w_letter_w_order_252 : GoodIn wq_w_letter (wsV RX9 252 RX9 yX9_order wq_w_order) := goodIn_app (goodIn_of _ (by decide +kernel)) (fun w h => ⟨List.mem_append_right _ (List.mem_append_right _ (List.mem_append_right _ (h))), (wg_w_order w h).2⟩)
def rm_w_letter : Room := { frames := 5, cells := 0, slots := 0, locals := 122 }
set_option maxHeartbeats 4000000 in
set_option maxRecDepth 100000 in
theorem c_w_letter (l : Launch) (dC : Nat → ClassId) (dI : Nat → Nat → Nat) (h : Nat) (a : Nat → Nat) (k : Nat → ClassId) (F : Nat → Nat → Int32) (V : Nat → Int32) (n b : Nat) (p0 : Int32) (sz : Nat) (hI0 : InvM n b F V) (hb0 : b + 162 < 2147483648)  : Met l yX9_letter wq_w_letter rm_w_letter (va_Pc [.ref h, .int p0] (fun U => U.heap.size = sz ∧ va_P (dC, dI) vwCl (mW h a k F V) U.heap ∧ va_K (dC, dI) vwCl (mT k) U ∧ va_D (fun _ => True) (mW h a k F V))) (va_Qi (fun (r : Int32) (u : (Nat → Nat → Int32) × (Nat → Int32)) => StM n (b + 162) F V u.1 u.2 ∧ (∀ j : Nat, j ∉ ([7, 8, 9, 11, 12, 17, 18, 25, 26, 27, 28, 29, 30, 31, 32, 42, 43, 44] : List Nat) → u.1 j = F j) ∧ (∀ j : Nat, j ∉ ([23, 33, 45] : List Nat) → u.2 j = V j) ∧ ((r, u.1, u.2) = f_w_letter n p0 F V)) (fun (u : (Nat → Nat → Int32) × (Nat → Int32)) (t : State) => va_P (dC, dI) vwCl (mW h a k u.1 u.2) t.heap ∧ va_D (va_A (mW h a k F V) sz) (mW h a k u.1 u.2)) (va_A (mW h a k F V) sz)) 0 0 (va_A (mW h a k F V) sz) := by
  have hn : n ≤ 40 := hI0.1
  have hI : StM n b F V F V := StM.rf hI0
  have hU : ∀ j : Nat, j ∉ ([7, 8, 9, 11, 12, 17, 18, 25, 26, 27, 28, 29, 30, 31, 32, 42, 43, 44] : List Nat) → F j = F j := fun _ _ => rfl
  have hV : ∀ j : Nat, j ∉ ([23, 33, 45] : List Nat) → V j = V j := fun _ _ => rfl
  refine Met.ofW (cc := cX9_letter) (maxL := 4) (ret := (some .int)) (by decide) rfl ?_
  intro p e s m args below meth c s₁ B hml hv
  obtain ⟨rfl, hsz, hP, hK, hD0⟩ := hv
  have hx := B.exec
  have hb := B.bytes
  have hr := B.returns
  have hts := atoms_spec (ws := wq_w_letter) B.pre
  have hown : s.vm.findClass RX9 = some m.cls := findClass_of_methodNamed B.named
  have hlocks := B.notSynchronized
  subst hsz
  have hD := hD0.self (sz := s.heap.size)
  generalize hAe : va_A (mW h a k F V) s.heap.size = A at hD ⊢
  have hA : ∀ q : Nat, s.heap.size ≤ q → A q := fun q h => by rw [← hAe]; exact Or.inr h
  have hS : va_S A s.heap s.heap [] := va_S.rf
  have hl := lv_entry ([.ref h, .int p0]) (n := 4) (Nat.le_of_ble_eq_true rfl)
  rw [lg_entry_eq]
  generalize (lg_sl ([.ref h, .int p0]) ++ List.replicate (4 - (lg_sl ([.ref h, .int p0])).length) Slot.unset).toArray = ls at hl ⊢
  have hl : lv_has ls 4 [(0, .ref h), (1, .int p0)] := hl
  obtain ⟨RES, hR0⟩ : ∃ R9, R9 = f_w_letter n p0 F V := ⟨_, rfl⟩
  have hZ9 := hR0
  unfold f_w_letter at hZ9
  have t18 : F 18 = F 18 := rfl
  refine lv_aload_n hx hb dX9_letter_0 rfl (lv_at hl 0 rfl) ?_
  refine lv_iload_n hx hb dX9_letter_1 rfl (lv_at hl 1 rfl) ?_
  have hFc := mw_free hD hS hA
  refine va_calli (va_runV (As := [.int p0]) (rest := []) ⟨hx, hb, hml, hown, hts⟩ (c_w_is l dC dI h a k F V n (b) p0 s.heap.size hI.1 (by omega) ) (cwV 1 hts wc_w_letter_w_is_135 rfl rfl rfl (by decide +kernel) ⟨Nat.le_of_ble_eq_true rfl, Nat.le_of_ble_eq_true rfl⟩) ⟨fun a9 U g mk q => by obtain ⟨q0, q1, qP, qK, qD⟩ := q; exact ⟨q0, q1, qP, va_K.moved (u := U) (U := U.calling g mk a9) (Vm.Alike.refl U.vm) qK, qD⟩, va_recv hK hP (ci := 10) (q0 := 0) rfl rfl, fun U hU hW => ⟨rfl, by rw [hU], by rw [hU]; exact hP, va_K.moved hW.alike hK, hD.weaken (fun _ _ _ _ => trivial)⟩⟩ rfl rfl hl.1 rfl (lv_room (Nat.le_of_ble_eq_true rfl)) dX9_letter_2 ⟨Nat.le_of_ble_eq_true rfl, Nat.le_of_ble_eq_true rfl⟩) hS (fun q _ h => hFc q h) hFc (fun r1 u t H1 locs ht hvm hw hB hz1 hk1 hS => ?_)
  obtain ⟨F2, V3⟩ := u
  replace hP := hB.1
  rw [ht] at hP
  replace hD : va_D A (mW h a k F2 V3) := hB.2.weaken (fun _ q _ h9 => hFc q.1 h9)
  clear hB
  generalize H1 = H at hP hS ⊢
  replace hP : va_P (dC, dI) vwCl (mW h a k F2 V3) H := hP
  obtain ⟨hwF, hwV, hw⟩ : F2 = F ∧ V3 = V ∧ _ := hw
  rw [hwF, hwV] at hP hD
  rcases hw with ⟨rfl, j4, hj4, ej4⟩ | ⟨rfl, noj4⟩
  · replace hZ9 := ite_t hZ9 (show (0 : Int32) ≤ p0 ∧ p0 < nI n by rw [ej4]; exact ⟨nI_pos' (by omega), nI_lt hj4 (by omega)⟩)
    replace hZ9 := bnd_s hZ9 (show j4 = p0.toNatClampNeg by rw [ej4, nI_clamp (by omega)])
    subst ej4
    refine lv_if_ne (tgt := 10) hx hb dX9_letter_5 (by decide) (fun _ => ?_) (fun c9 => absurd c9 (by decide))
    refine lv_aload_n hx hb dX9_letter_10 rfl (lv_at hl 0 rfl) ?_
    refine va_get (D := (dC, dI)) (ci := 10) (v := .ref (a 0)) (C := RX9) (T := TX9) (N := 46) hx hb hts in_w_letter_X9 hown hK hP 0 rfl rfl 0 (by decide) (hts (.fieldLink RX9 9 "ServiceTreeModel" "kind" "[I") (by decide +kernel)) (fun _ h9 => h9) rfl dX9_letter_11 ?_
    refine lv_iload_n hx hb dX9_letter_14 rfl (lv_at hl 1 rfl) ?_
    refine va_iald (n := 40) (f := F 0) hx hb hK hP 1 0 rfl rfl (vp_in_nI (n := j4) (by omega) (by decide)) dX9_letter_15 ?_
    refine lv_topi (fun x5 ex5 => ?_)
    replace hZ9 := bnd_s hZ9 ex5
    refine lv_iconst (v := 2) hx hb dX9_letter_16 (by decide) ?_
    refine lv_icmp_eq (tgt := 23) hx hb dX9_letter_17 (by decide) (fun c6 => ?_) (fun c6 => ?_)
    · replace hZ9 := ite_t hZ9 c6
      refine lv_aload_n hx hb dX9_letter_23 rfl (lv_at hl 0 rfl) ?_
      refine va_get (D := (dC, dI)) (ci := 10) (v := .ref (a 18)) (C := RX9) (T := TX9) (N := 46) hx hb hts in_w_letter_X9 hown hK hP 0 rfl rfl 18 (by decide) (hts (.fieldLink RX9 65 "ServiceTreeModel" "letterMany" "[I") (by decide +kernel)) (fun _ h9 => h9) rfl dX9_letter_24 ?_
      refine lv_iload_n hx hb dX9_letter_27 rfl (lv_at hl 1 rfl) ?_
      refine va_iald (n := 40) (f := F 18) hx hb hK hP 19 18 rfl rfl (vp_in_nI (n := j4) (by omega) (by decide)) dX9_letter_28 ?_
      refine lv_topi (fun x7 ex7 => ?_)
      replace hZ9 := bnd_s hZ9 ex7
      rw [t18] at ex7
      obtain ⟨m8, hm8, qm8⟩ := hI.1.2.2.2.2.2.2.1 (nI j4).toNatClampNeg
      rw [t18] at qm8
      obtain rfl : x7 = nI m8 := ex7.trans qm8
      replace hZ9 := bnd_s hZ9 (show m8 = (nI m8).toNatClampNeg by rw [nI_clamp (by omega)])
      refine lv_bipush (v := 20) hx hb dX9_letter_29 (by decide) ?_
      refine lv_icmp_ne (tgt := 37) hx hb dX9_letter_31 (by decide) (fun c9 => ?_) (fun c9 => ?_)
      · replace c9 : ¬ (m8 = 20) := fun q9 => c9 ((nI_eq (a := m8) (b := 20) (by omega) (by omega)).mpr q9)
        replace hZ9 := ite_f hZ9 c9
        refine lv_aload_n hx hb dX9_letter_37 rfl (lv_at hl 0 rfl) ?_
        refine va_get (D := (dC, dI)) (ci := 10) (v := .ref (a 17)) (C := RX9) (T := TX9) (N := 46) hx hb hts in_w_letter_X9 hown hK hP 0 rfl rfl 17 (by decide) (hts (.fieldLink RX9 62 "ServiceTreeModel" "letters" "[I") (by decide +kernel)) (fun _ h9 => h9) rfl dX9_letter_38 ?_
        refine lv_bipush (v := 20) hx hb dX9_letter_41 (by decide) ?_
        refine lv_iload_n hx hb dX9_letter_43 rfl (lv_at hl 1 rfl) ?_
        refine lv_imul hx hb dX9_letter_44 ?_
        refine p1_topr (v := .int (nI (20 * j4))) (congrArg Value.int (pk_mul 20 j4)) ?_
        refine lv_aload_n hx hb dX9_letter_45 rfl (lv_at hl 0 rfl) ?_
        refine va_get (D := (dC, dI)) (ci := 10) (v := .ref (a 18)) (C := RX9) (T := TX9) (N := 46) hx hb hts in_w_letter_X9 hown hK hP 0 rfl rfl 18 (by decide) (hts (.fieldLink RX9 65 "ServiceTreeModel" "letterMany" "[I") (by decide +kernel)) (fun _ h9 => h9) rfl dX9_letter_46 ?_
        refine lv_iload_n hx hb dX9_letter_49 rfl (lv_at hl 1 rfl) ?_
        refine va_iald (n := 40) (f := F 18) hx hb hK hP 19 18 rfl rfl (vp_in_nI (n := j4) (by omega) (by decide)) dX9_letter_50 ?_
        refine p1_topr (v := .int (nI m8)) (congrArg Value.int (by rw [t18]; exact qm8)) ?_
        refine lv_iadd hx hb dX9_letter_51 ?_
        refine p1_topr (v := .int (nI ((20 * j4) + m8))) (congrArg Value.int (nI_add (20 * j4) m8)) ?_
        refine lv_aload_n hx hb dX9_letter_52 rfl (lv_at hl 0 rfl) ?_
        refine va_get (D := (dC, dI)) (ci := 10) (v := .int (V 23)) (C := RX9) (T := TX9) (N := 46) hx hb hts in_w_letter_X9 hown hK hP 0 rfl rfl 23 (by decide) (hts (.fieldLink RX9 249 "ServiceTreeModel" "lettersAll" "I") (by decide +kernel)) (fun _ h9 => h9) rfl dX9_letter_53 ?_
        refine lv_topi (fun x11 ex11 => ?_)
        replace hZ9 := bnd_s hZ9 ex11
        refine va_iast (n := 800) (f := F 17) hx hb hK hP hD hS 18 17 rfl rfl (vp_in_nI (n := (20 * j4) + m8) (by omega) (by decide)) dX9_letter_56 (fun H locs hP hD hS => ?_)
        rw [mW_set_17] at hP hD
        obtain ⟨F12, eF12⟩ : ∃ f9 : Nat → Nat → Int32, f9 = va_up F 17 (upd (F 17) (nI ((20 * j4) + m8)).toNatClampNeg x11) := ⟨_, rfl⟩
        rw [← eF12] at hP hD
        replace hZ9 := bnd_s hZ9 eF12
        replace hI : StM n (b) F V F12 V := ⟨by rw [eF12]; exact hI.1.setF (by decide), trivial⟩
        replace hU : ∀ j : Nat, j ∉ ([7, 8, 9, 11, 12, 17, 18, 25, 26, 27, 28, 29, 30, 31, 32, 42, 43, 44] : List Nat) → F12 j = F j := by rw [eF12]; exact mw_up (by decide) hU
        replace t18 : F12 18 = F 18 := by rw [eF12]; exact (va_up_ne _ _ (by decide)).trans t18
        refine lv_aload_n hx hb dX9_letter_57 rfl (lv_at hl 0 rfl) ?_
        refine va_get (D := (dC, dI)) (ci := 10) (v := .ref (a 18)) (C := RX9) (T := TX9) (N := 46) hx hb hts in_w_letter_X9 hown hK hP 0 rfl rfl 18 (by decide) (hts (.fieldLink RX9 65 "ServiceTreeModel" "letterMany" "[I") (by decide +kernel)) (fun _ h9 => h9) rfl dX9_letter_58 ?_
        refine lv_iload_n hx hb dX9_letter_61 rfl (lv_at hl 1 rfl) ?_
        refine lv_dup2_11 hx hb dX9_letter_62 rfl rfl ?_
        refine va_iald (n := 40) (f := F12 18) hx hb hK hP 19 18 rfl rfl (vp_in_nI (n := j4) (by omega) (by decide)) dX9_letter_63 ?_
        refine p1_topr (v := .int (nI m8)) (congrArg Value.int (by rw [t18]; exact qm8)) ?_
        refine lv_iconst (v := 1) hx hb dX9_letter_64 (by decide) ?_
        refine lv_iadd hx hb dX9_letter_65 ?_
        refine p1_topr (v := .int (nI (m8 + 1))) (congrArg Value.int (nI_add m8 1)) ?_
        refine va_iast (n := 40) (f := F12 18) hx hb hK hP hD hS 19 18 rfl rfl (vp_in_nI (n := j4) (by omega) (by decide)) dX9_letter_66 (fun H locs hP hD hS => ?_)
        rw [mW_set_18] at hP hD
        obtain ⟨F14, eF14⟩ : ∃ f9 : Nat → Nat → Int32, f9 = va_up F12 18 (upd (F12 18) (nI j4).toNatClampNeg (nI (m8 + 1))) := ⟨_, rfl⟩
        rw [← eF14] at hP hD
        replace hZ9 := bnd_s hZ9 eF14
        replace hI : StM n (b) F V F14 V := ⟨by rw [eF14]; exact hI.1.set18 (i := (nI j4).toNatClampNeg) (x := m8 + 1) (by omega), trivial⟩
        replace hU : ∀ j : Nat, j ∉ ([7, 8, 9, 11, 12, 17, 18, 25, 26, 27, 28, 29, 30, 31, 32, 42, 43, 44] : List Nat) → F14 j = F j := by rw [eF14]; exact mw_up (by decide) hU
        replace t18 : F14 18 = upd (F 18) (nI j4).toNatClampNeg (nI (m8 + 1)) := by rw [eF14, va_up_self, t18]
        refine lv_aload_n hx hb dX9_letter_67 rfl (lv_at hl 0 rfl) ?_
        refine lv_dup hx hb dX9_letter_68 rfl ?_
        refine va_get (D := (dC, dI)) (ci := 10) (v := .int (V 23)) (C := RX9) (T := TX9) (N := 46) hx hb hts in_w_letter_X9 hown hK hP 0 rfl rfl 23 (by decide) (hts (.fieldLink RX9 249 "ServiceTreeModel" "lettersAll" "I") (by decide +kernel)) (fun _ h9 => h9) rfl dX9_letter_69 ?_
        refine lv_topi (fun x15 ex15 => ?_)
        replace hZ9 := bnd_s hZ9 ex15
        refine lv_iconst (v := 1) hx hb dX9_letter_72 (by decide) ?_
        refine lv_iadd hx hb dX9_letter_73 ?_
        refine lv_topi (fun x16 ex16 => ?_)
        replace hZ9 := bnd_s hZ9 ex16
        refine va_put (D := (dC, dI)) (ci := 10) (fs := mF a V) (v := .int x16) (ty := .int) (C := RX9) (T := TX9) (N := 46) hx hb hts in_w_letter_X9 tyX9 tyX9_ok nmX9 hown hK hP hD hS 0 rfl rfl 23 (by decide) (hts (.fieldLink RX9 249 "ServiceTreeModel" "lettersAll" "I") (by decide +kernel)) (fun _ h9 => h9) rfl (by decide +kernel) rfl rfl (Nat.le_of_ble_eq_true rfl) dX9_letter_74 (fun H locs hP hD hS => ?_)
        rw [mW_put_23] at hP hD
        obtain ⟨V17, eV17⟩ : ∃ f9 : Nat → Int32, f9 = va_up V 23 x16 := ⟨_, rfl⟩
        rw [← eV17] at hP hD
        replace hZ9 := bnd_s hZ9 eV17
        replace hI : StM n (b) F V F14 V17 := ⟨by rw [eV17]; exact hI.1.setV (by decide), trivial⟩
        replace hV : ∀ j : Nat, j ∉ ([23, 33, 45] : List Nat) → V17 j = V j := by rw [eV17]; exact mw_up (by decide) hV
        refine lv_aload_n hx hb dX9_letter_77 rfl (lv_at hl 0 rfl) ?_
        refine va_get (D := (dC, dI)) (ci := 10) (v := .ref (a 7)) (C := RX9) (T := TX9) (N := 46) hx hb hts in_w_letter_X9 hown hK hP 0 rfl rfl 7 (by decide) (hts (.fieldLink RX9 31 "ServiceTreeModel" "state" "[I") (by decide +kernel)) (fun _ h9 => h9) rfl dX9_letter_78 ?_
        refine lv_iload_n hx hb dX9_letter_81 rfl (lv_at hl 1 rfl) ?_
        refine va_iald (n := 40) (f := F14 7) hx hb hK hP 8 7 rfl rfl (vp_in_nI (n := j4) (by omega) (by decide)) dX9_letter_82 ?_
        refine lv_topi (fun x18 ex18 => ?_)
        replace hZ9 := bnd_s hZ9 ex18
        refine lv_if_ne (tgt := 103) hx hb dX9_letter_83 (by decide) (fun c19 => ?_) (fun c19 => ?_)
        · replace hZ9 := ite_f hZ9 c19
          refine lv_aload_n hx hb dX9_letter_103 rfl (lv_at hl 0 rfl) ?_
          refine va_get (D := (dC, dI)) (ci := 10) (v := .int (V17 23)) (C := RX9) (T := TX9) (N := 46) hx hb hts in_w_letter_X9 hown hK hP 0 rfl rfl 23 (by decide) (hts (.fieldLink RX9 249 "ServiceTreeModel" "lettersAll" "I") (by decide +kernel)) (fun _ h9 => h9) rfl dX9_letter_104 ?_
          refine p1_topr (v := .int x16) (congrArg Value.int (by rw [eV17]; exact va_up_self V 23 _)) ?_
          refine lv_iconst (v := 1) hx hb dX9_letter_107 (by decide) ?_
          refine lv_isub hx hb dX9_letter_108 ?_
          refine lv_topi (fun x20 ex20 => ?_)
          replace hZ9 := bnd_s hZ9 ex20
          exact W.iret (v := x20) hx hb hr (fun t ht hW => ⟨⟨x20, (F14, V17), rfl, ⟨hI.mono (by omega), hU, hV, hZ9.symm.trans hR0⟩, by rw [ht]; exact hP, hD⟩, hS.F ht⟩) hS.2.2 dX9_letter_109
        · replace hZ9 := ite_t hZ9 c19
          refine lv_aload_n hx hb dX9_letter_86 rfl (lv_at hl 0 rfl) ?_
          refine va_get (D := (dC, dI)) (ci := 10) (v := .int (V17 33)) (C := RX9) (T := TX9) (N := 46) hx hb hts in_w_letter_X9 hown hK hP 0 rfl rfl 33 (by decide) (hts (.fieldLink RX9 197 "ServiceTreeModel" "ring" "I") (by decide +kernel)) (fun _ h9 => h9) rfl dX9_letter_87 ?_
          refine lv_topi (fun x21 ex21 => ?_)
          replace hZ9 := bnd_s hZ9 ex21
          refine lv_istore_n (lv' := [(2, .int x21), (0, .ref h), (1, .int (nI j4))]) hx hb dX9_letter_90 rfl hl (by decide) rfl (fun ls hl => ?_)
          refine lv_aload_n hx hb dX9_letter_91 rfl (lv_at hl 1 rfl) ?_
          refine lv_iconst (v := 0) hx hb dX9_letter_92 (by decide) ?_
          refine lv_iload_n hx hb dX9_letter_93 rfl (lv_at hl 2 rfl) ?_
          have hFc := mw_free hD hS hA
          refine va_calli (va_runV (As := [.int 0, .int (nI j4)]) (rest := []) ⟨hx, hb, hml, hown, hts⟩ (c_w_order l dC dI h a k F14 V17 n (b) 0 (nI j4) H.size hI.1 (by omega) ) (cwV 2 hts wc_w_letter_w_order_252 rfl rfl rfl (by decide +kernel) ⟨Nat.le_of_ble_eq_true rfl, Nat.le_of_ble_eq_true rfl⟩) ⟨fun a9 U g mk q => by obtain ⟨q0, q1, qP, qK, qD⟩ := q; exact ⟨q0, q1, qP, va_K.moved (u := U) (U := U.calling g mk a9) (Vm.Alike.refl U.vm) qK, qD⟩, va_recv hK hP (ci := 10) (q0 := 0) rfl rfl, fun U hU hW => ⟨rfl, by rw [hU], by rw [hU]; exact hP, va_K.moved hW.alike hK, hD.weaken (fun _ _ _ _ => trivial)⟩⟩ rfl rfl hl.1 rfl (lv_room (Nat.le_of_ble_eq_true rfl)) dX9_letter_94 ⟨Nat.le_of_ble_eq_true rfl, Nat.le_of_ble_eq_true rfl⟩) hS (fun q _ h => hFc q h) hFc (fun r22 u t H1 locs ht hvm hw hB hz1 hk1 hS => ?_)
          obtain ⟨F23, V24⟩ := u
          replace hP := hB.1
          rw [ht] at hP
          replace hD : va_D A (mW h a k F23 V24) := hB.2.weaken (fun _ q _ h9 => hFc q.1 h9)
          clear hB
          generalize H1 = H at hP hS ⊢
          replace hP : va_P (dC, dI) vwCl (mW h a k F23 V24) H := hP
          obtain ⟨hwI, hwU, hwV, hw⟩ := hw
          replace hU : ∀ j : Nat, j ∉ ([7, 8, 9, 11, 12, 17, 18, 25, 26, 27, 28, 29, 30, 31, 32, 42, 43, 44] : List Nat) → F23 j = F j := mw_tr (by decide) hwU hU
          replace hV : ∀ j : Nat, j ∉ ([23, 33, 45] : List Nat) → V24 j = V j := mw_tr (by decide) hwV hV
          replace hI : StM n (b + 162) F V F23 V24 := hI.trans hwI
          replace t18 : F23 18 = upd (F 18) (nI j4).toNatClampNeg (nI (m8 + 1)) := (hwU 18 (by decide)).trans t18
          replace hw : (r22, F23, V24) = f_w_order n 0 (nI j4) F14 V17 := hw
          replace hZ9 := bn3_s hZ9 hw
          refine lv_istore_n (lv' := [(3, .int r22), (2, .int x21), (0, .ref h), (1, .int (nI j4))]) hx hb dX9_letter_97 rfl hl (by decide) rfl (fun ls hl => ?_)
          refine lv_aload_n hx hb dX9_letter_98 rfl (lv_at hl 2 rfl) ?_
          refine lv_iload_n hx hb dX9_letter_99 rfl (lv_at hl 1 rfl) ?_
          refine va_put (D := (dC, dI)) (ci := 10) (fs := mF a V24) (v := .int x21) (ty := .int) (C := RX9) (T := TX9) (N := 46) hx hb hts in_w_letter_X9 tyX9 tyX9_ok nmX9 hown hK hP hD hS 0 rfl rfl 33 (by decide) (hts (.fieldLink RX9 197 "ServiceTreeModel" "ring" "I") (by decide +kernel)) (fun _ h9 => h9) rfl (by decide +kernel) rfl rfl (Nat.le_of_ble_eq_true rfl) dX9_letter_100 (fun H locs hP hD hS => ?_)
          rw [mW_put_33] at hP hD
          obtain ⟨V25, eV25⟩ : ∃ f9 : Nat → Int32, f9 = va_up V24 33 x21 := ⟨_, rfl⟩
          rw [← eV25] at hP hD
          replace hZ9 := bnd_s hZ9 eV25
          replace hI : StM n (b + 162) F V F23 V25 := ⟨by rw [eV25]; exact hI.1.setV (by decide), trivial⟩
          replace hV : ∀ j : Nat, j ∉ ([23, 33, 45] : List Nat) → V25 j = V j := by rw [eV25]; exact mw_up (by decide) hV
          refine lv_aload_n hx hb dX9_letter_103 rfl (lv_at hl 2 rfl) ?_
          refine va_get (D := (dC, dI)) (ci := 10) (v := .int (V25 23)) (C := RX9) (T := TX9) (N := 46) hx hb hts in_w_letter_X9 hown hK hP 0 rfl rfl 23 (by decide) (hts (.fieldLink RX9 249 "ServiceTreeModel" "lettersAll" "I") (by decide +kernel)) (fun _ h9 => h9) rfl dX9_letter_104 ?_
          refine lv_topi (fun x26 ex26 => ?_)
          replace hZ9 := bnd_s hZ9 ex26
          refine lv_iconst (v := 1) hx hb dX9_letter_107 (by decide) ?_
          refine lv_isub hx hb dX9_letter_108 ?_
          refine lv_topi (fun x27 ex27 => ?_)
          replace hZ9 := bnd_s hZ9 ex27
          exact W.iret (v := x27) hx hb hr (fun t ht hW => ⟨⟨x27, (F23, V25), rfl, ⟨hI.mono (by omega), hU, hV, hZ9.symm.trans hR0⟩, by rw [ht]; exact hP, hD⟩, hS.F ht⟩) hS.2.2 dX9_letter_109
      · replace c9 : m8 = 20 := (nI_eq (a := m8) (b := 20) (by omega) (by omega)).mp c9
        replace hZ9 := ite_t hZ9 c9
        refine lv_bipush (v := (-6)) hx hb dX9_letter_34 (by decide) ?_
        exact W.iret (v := (-6)) hx hb hr (fun t ht hW => ⟨⟨(-6), (F, V), rfl, ⟨hI.mono (by omega), hU, hV, hZ9.symm.trans hR0⟩, by rw [ht]; exact hP, hD⟩, hS.F ht⟩) hS.2.2 dX9_letter_36
    · replace hZ9 := ite_f hZ9 c6
      refine lv_bipush (v := (-2)) hx hb dX9_letter_20 (by decide) ?_
      exact W.iret (v := (-2)) hx hb hr (fun t ht hW => ⟨⟨(-2), (F, V), rfl, ⟨hI.mono (by omega), hU, hV, hZ9.symm.trans hR0⟩, by rw [ht]; exact hP, hD⟩, hS.F ht⟩) hS.2.2 dX9_letter_22
  · replace hZ9 := ite_f hZ9 noj4
    refine lv_if_ne (tgt := 10) hx hb dX9_letter_5 (by decide) (fun c9 => absurd (by decide) c9) (fun _ => ?_)
    refine lv_iconst (v := (-1)) hx hb dX9_letter_8 (by decide) ?_
    exact W.iret (v := (-1)) hx hb hr (fun t ht hW => ⟨⟨(-1), (F, V), rfl, ⟨hI.mono (by omega), hU, hV, hZ9.symm.trans hR0⟩, by rw [ht]; exact hP, hD⟩, hS.F ht⟩) hS.2.2 dX9_letter_9

end
section
def f_w_oneTick_165 (n : Nat) (i19 : Nat) (m34 : Nat) : Nat → Nat → (Nat → Nat → Int32) → (Nat → Int32) → (Nat → (Nat → Nat → Int32) → (Nat → Int32) → (Nat → Nat → Int32) × (Nat → Int32)) → (Nat → Nat → Int32) × (Nat → Int32)
  | 0, i40, F44, V45, K9_165 => K9_165 i40 F44 V45
  | fu41 + 1, i40, F44, V45, K9_165 => bnd (F44 18 (nI i19).toNatClampNeg) (fun (x46 : Int32) => if m34 - 1 ≤ i40 then (K9_165 i40 F44 V45) else (bnd (F44 17 (nI (((20 * i19) + i40) + 1)).toNatClampNeg) (fun (x54 : Int32) => bnd (va_up F44 17 (upd (F44 17) (nI ((20 * i19) + i40)).toNatClampNeg x54)) (fun (F55 : Nat → Nat → Int32) => f_w_oneTick_165 n i19 m34 fu41 (i40 + 1) F55 V45 K9_165))))
def f_w_oneTick_101 (n : Nat)  : Nat → Nat → (Nat → Nat → Int32) → (Nat → Int32) → (Nat → (Nat → Nat → Int32) → (Nat → Int32) → (Nat → Nat → Int32) × (Nat → Int32)) → (Nat → Nat → Int32) × (Nat → Int32)
  | 0, i19, F23, V24, K9_101 => K9_101 i19 F23 V24
  | fu20 + 1, i19, F23, V24, K9_101 => if n ≤ i19 then (K9_101 i19 F23 V24) else (bnd (F23 0 (nI i19).toNatClampNeg) (fun (x29 : Int32) => if x29 = (2 : Int32) then (bnd (F23 7 (nI i19).toNatClampNeg) (fun (x31 : Int32) => if x31 = (2 : Int32) then (bnd (F23 18 (nI i19).toNatClampNeg) (fun (x33 : Int32) => bnd (x33.toNatClampNeg) (fun (m34 : Nat) => if m34 ≤ 0 then (f_w_oneTick_101 n  fu20 (i19 + 1) F23 V24 K9_101) else (bnd (F23 17 (nI (20 * i19)).toNatClampNeg) (fun (x36 : Int32) => bnd (va_up F23 16 (upd (F23 16) (nI i19).toNatClampNeg x36)) (fun (F37 : Nat → Nat → Int32) => bnd (va_up F37 18 (upd (F37 18) (nI i19).toNatClampNeg (nI (m34 - 1)))) (fun (F39 : Nat → Nat → Int32) => f_w_oneTick_165 n i19 m34 (20 + 1) (0 : Nat) F39 V24 (fun (i40 : Nat) (F44 : Nat → Nat → Int32) (V45 : Nat → Int32) => bnd (F44 15 (nI i19).toNatClampNeg) (fun (x48 : Int32) => bnd (x48 + (1 : Int32)) (fun (x49 : Int32) => bnd (va_up F44 15 (upd (F44 15) (nI i19).toNatClampNeg x49)) (fun (F50 : Nat → Nat → Int32) => bnd (V45 24) (fun (x51 : Int32) => bnd (x51 + (1 : Int32)) (fun (x52 : Int32) => bnd (va_up V45 24 x52) (fun (V53 : Nat → Int32) => f_w_oneTick_101 n  fu20 (i19 + 1) F50 V53 K9_101)))))))))))))) else (f_w_oneTick_101 n  fu20 (i19 + 1) F23 V24 K9_101))) else (f_w_oneTick_101 n  fu20 (i19 + 1) F23 V24 K9_101)))
def f_w_oneTick_33 (n : Nat)  : Nat → Nat → Nat → (Nat → Nat → Int32) → (Nat → Int32) → (Nat → Nat → (Nat → Nat → Int32) → (Nat → Int32) → (Nat → Nat → Int32) × (Nat → Int32)) → (Nat → Nat → Int32) × (Nat → Int32)
  | 0, i11, s17, F15, V16, K9_33 => K9_33 i11 s17 F15 V16
  | fu12 + 1, i11, s17, F15, V16, K9_33 => if n ≤ s17 then (K9_33 i11 s17 F15 V16) else (bnd (F15 7 (nI s17).toNatClampNeg) (fun (x56 : Int32) => if x56 = (1 : Int32) then (bnd (f_w_hasNeeds n s17 F15) (fun (r58 : Int32) => if r58 = (0 : Int32) then (bnd (F15 2 (nI s17).toNatClampNeg) (fun (x62 : Int32) => if x62 = (0 : Int32) then (bn2 (f_w_to n s17 0 F15 V16) (fun (F68 : Nat → Nat → Int32) (V69 : Nat → Int32) => f_w_oneTick_33 n  fu12 (i11 + 1) (0 : Nat) F68 V69 K9_33)) else (bn2 (f_w_to n s17 3 F15 V16) (fun (F65 : Nat → Nat → Int32) (V66 : Nat → Int32) => f_w_oneTick_33 n  fu12 (i11 + 1) (0 : Nat) F65 V66 K9_33)))) else (f_w_oneTick_33 n  fu12 i11 (s17 + 1) F15 V16 K9_33))) else (if x56 = (2 : Int32) then (bnd (f_w_hasNeeds n s17 F15) (fun (r72 : Int32) => if r72 = (0 : Int32) then (bnd (F15 2 (nI s17).toNatClampNeg) (fun (x76 : Int32) => if x76 = (0 : Int32) then (bn2 (f_w_to n s17 0 F15 V16) (fun (F82 : Nat → Nat → Int32) (V83 : Nat → Int32) => f_w_oneTick_33 n  fu12 (i11 + 1) (0 : Nat) F82 V83 K9_33)) else (bn2 (f_w_to n s17 3 F15 V16) (fun (F79 : Nat → Nat → Int32) (V80 : Nat → Int32) => f_w_oneTick_33 n  fu12 (i11 + 1) (0 : Nat) F79 V80 K9_33)))) else (f_w_oneTick_33 n  fu12 i11 (s17 + 1) F15 V16 K9_33))) else (f_w_oneTick_33 n  fu12 i11 (s17 + 1) F15 V16 K9_33))))
def f_w_oneTick_12 (n : Nat)  : Nat → Nat → (Nat → Nat → Int32) → (Nat → Int32) → (Nat → (Nat → Nat → Int32) → (Nat → Int32) → (Nat → Nat → Int32) × (Nat → Int32)) → (Nat → Nat → Int32) × (Nat → Int32)
  | 0, i4, F8, V9, K9_12 => K9_12 i4 F8 V9
  | fu5 + 1, i4, F8, V9, K9_12 => if n ≤ i4 then (K9_12 i4 F8 V9) else (bn2 (f_w_step n i4 F8 V9) (fun (F85 : Nat → Nat → Int32) (V86 : Nat → Int32) => f_w_oneTick_12 n  fu5 (i4 + 1) F85 V86 K9_12))
def f_w_oneTick (n : Nat)  (F : Nat → Nat → Int32) (V : Nat → Int32) : (Nat → Nat → Int32) × (Nat → Int32) := bnd (V 22) (fun (x1 : Int32) => bnd (x1 + (1 : Int32)) (fun (x2 : Int32) => bnd (va_up V 22 x2) (fun (V3 : Nat → Int32) => f_w_oneTick_12 n  (n + 1) (0 : Nat) F V3 (fun (i4 : Nat) (F8 : Nat → Nat → Int32) (V9 : Nat → Int32) => f_w_oneTick_33 n  1682 (0 : Nat) (0 : Nat) F8 V9 (fun (i11 : Nat) (s17 : Nat) (F15 : Nat → Nat → Int32) (V16 : Nat → Int32) => f_w_oneTick_101 n  (n + 1) (0 : Nat) F15 V16 (fun (i19 : Nat) (F23 : Nat → Nat → Int32) (V24 : Nat → Int32) => bn2 (f_w_begin n  F23 V24) (fun (F27 : Nat → Nat → Int32) (V28 : Nat → Int32) => (F27, V28))))))))
def wq_w_oneTick : List Cond := ([.code yX9_oneTick cX9_oneTick 4 none, .fieldLink RX9 129 "ServiceTreeModel" "tick" "I", .fieldLink RX9 126 "ServiceTreeModel" "services" "I", .fieldLink RX9 9 "ServiceTreeModel" "kind" "[I", .fieldLink RX9 31 "ServiceTreeModel" "state" "[I", .fieldLink RX9 65 "ServiceTreeModel" "letterMany" "[I", .fieldLink RX9 59 "ServiceTreeModel" "readLast" "[I", .fieldLink RX9 62 "ServiceTreeModel" "letters" "[I", .fieldLink RX9 56 "ServiceTreeModel" "read" "[I", .fieldLink RX9 243 "ServiceTreeModel" "readAll" "I", .fieldLink RX9 16 "ServiceTreeModel" "stop" "[I", .methodLink RX9 215 yX9_begin, .instanceMethod yX9_begin, .selects RX9 yX9_begin yX9_begin, .initialized RX9, .methodLink RX9 231 yX9_hasNeeds, .instanceMethod yX9_hasNeeds, .selects RX9 yX9_hasNeeds yX9_hasNeeds, .methodLink RX9 211 yX9_to, .instanceMethod yX9_to, .selects RX9 yX9_to yX9_to, .methodLink RX9 240 yX9_step, .instanceMethod yX9_step, .selects RX9 yX9_step yX9_step] : List Cond) ++ (wsX90 ++ (wq_w_begin ++ (wq_w_hasNeeds ++ (wq_w_to ++ (wq_w_step)))))
theorem in_w_oneTick_X9 : ∀ w ∈ wsX90, w ∈ wq_w_oneTick := fun _ h => List.mem_append_right _ (List.mem_append_left _ (h))
set_option maxRecDepth 20000 in
theorem wi_w_oneTick : ∀ w ∈ wq_w_oneTick, w ∈ lw_tbl := List.forall_mem_append.mpr ⟨(wix [1124, 874, 873, 852, 859, 870, 868, 869, 867, 876, 854, 1094, 1096, 49, 69, 1110, 1112, 53, 1090, 1092, 48, 1125, 1127, 55] rfl), List.forall_mem_append.mpr ⟨inKX9, List.forall_mem_append.mpr ⟨wi_w_begin, List.forall_mem_append.mpr ⟨wi_w_hasNeeds, List.forall_mem_append.mpr ⟨wi_w_to, wi_w_step⟩⟩⟩⟩⟩
set_option maxRecDepth 20000 in
theorem wg_w_oneTick : GoodIn wq_w_oneTick wq_w_oneTick := goodIn_sub (fun _ h => h) (by decide +kernel)
set_option maxRecDepth 20000 in
theorem wc_w_oneTick_w_begin_215 : GoodIn wq_w_oneTick (wsV RX9 215 RX9 yX9_begin wq_w_begin) := goodIn_app (goodIn_of _ (by decide +kernel)) (fun w h => ⟨List.mem_append_right _ (List.mem_append_right _ (List.mem_append_left _ (h))), (wg_w_begin w h).2⟩)
set_option maxRecDepth 20000 in
theorem wc_w_oneTick_w_hasNeeds_231 : GoodIn wq_w_oneTick (wsV RX9 231 RX9 yX9_hasNeeds wq_w_hasNeeds) := goodIn_app (goodIn_of _ (by decide +kernel)) (fun w h => ⟨List.mem_append_right _ (List.mem_append_right _ (List.mem_append_right _ (List.mem_append_left _ (h)))), (wg_w_hasNeeds w h).2⟩)
set_option maxRecDepth 20000 in
theorem wc_w_oneTick_w_to_211 : GoodIn wq_w_oneTick (wsV RX9 211 RX9 yX9_to wq_w_to) := goodIn_app (goodIn_of _ (by decide +kernel)) (fun w h => ⟨List.mem_append_right _ (List.mem_append_right _ (List.mem_append_right _ (List.mem_append_right _ (List.mem_append_left _ (h))))), (wg_w_to w h).2⟩)
set_option maxRecDepth 20000 in
theorem wc_w_oneTick_w_step_240 : GoodIn wq_w_oneTick (wsV RX9 240 RX9 yX9_step wq_w_step) := goodIn_app (goodIn_of _ (by decide +kernel)) (fun w h => ⟨List.mem_append_right _ (List.mem_append_right _ (List.mem_append_right _ (List.mem_append_right _ (List.mem_append_right _ (h))))), (wg_w_step w h).2⟩)
def rm_w_oneTick : Room := { frames := 4, cells := 0, slots := 0, locals := 91 }
set_option maxHeartbeats 4000000 in
set_option maxRecDepth 100000 in
theorem c_w_oneTick (l : Launch) (dC : Nat → ClassId) (dI : Nat → Nat → Nat) (h : Nat) (a : Nat → Nat) (k : Nat → ClassId) (F : Nat → Nat → Int32) (V : Nat → Int32) (n b : Nat)  (sz : Nat) (hI0 : InvM n b F V) (hb0 : b + 402 < 2147483648)  : Met l yX9_oneTick wq_w_oneTick rm_w_oneTick (va_Pc [.ref h] (fun U => U.heap.size = sz ∧ va_P (dC, dI) vwCl (mW h a k F V) U.heap ∧ va_K (dC, dI) vwCl (mT k) U ∧ va_D (fun _ => True) (mW h a k F V))) (va_Qv (fun (u : (Nat → Nat → Int32) × (Nat → Int32)) => StM n (b + 402) F V u.1 u.2 ∧ (∀ j : Nat, j ∉ ([7, 8, 9, 10, 11, 12, 13, 14, 15, 16, 17, 18, 25, 26, 42, 43, 44] : List Nat) → u.1 j = F j) ∧ (∀ j : Nat, j ∉ ([22, 24, 45] : List Nat) → u.2 j = V j) ∧ ((u.1, u.2) = f_w_oneTick n  F V)) (fun (u : (Nat → Nat → Int32) × (Nat → Int32)) (t : State) => va_P (dC, dI) vwCl (mW h a k u.1 u.2) t.heap ∧ va_D (va_A (mW h a k F V) sz) (mW h a k u.1 u.2)) (va_A (mW h a k F V) sz)) 0 0 (va_A (mW h a k F V) sz) := by
  have hn : n ≤ 40 := hI0.1
  have hI : StM n b F V F V := StM.rf hI0
  have hU : ∀ j : Nat, j ∉ ([7, 8, 9, 10, 11, 12, 13, 14, 15, 16, 17, 18, 25, 26, 42, 43, 44] : List Nat) → F j = F j := fun _ _ => rfl
  have hV : ∀ j : Nat, j ∉ ([22, 24, 45] : List Nat) → V j = V j := fun _ _ => rfl
  refine Met.ofW (cc := cX9_oneTick) (maxL := 4) (ret := none) (by decide) rfl ?_
  intro p e s m args below meth c s₁ B hml hv
  obtain ⟨rfl, hsz, hP, hK, hD0⟩ := hv
  have hx := B.exec
  have hb := B.bytes
  have hr := B.returns
  have hts := atoms_spec (ws := wq_w_oneTick) B.pre
  have hown : s.vm.findClass RX9 = some m.cls := findClass_of_methodNamed B.named
  have hlocks := B.notSynchronized
  subst hsz
  have hD := hD0.self (sz := s.heap.size)
  generalize hAe : va_A (mW h a k F V) s.heap.size = A at hD ⊢
  have hA : ∀ q : Nat, s.heap.size ≤ q → A q := fun q h => by rw [← hAe]; exact Or.inr h
  have hS : va_S A s.heap s.heap [] := va_S.rf
  have hl := lv_entry ([.ref h]) (n := 4) (Nat.le_of_ble_eq_true rfl)
  rw [lg_entry_eq]
  generalize (lg_sl ([.ref h]) ++ List.replicate (4 - (lg_sl ([.ref h])).length) Slot.unset).toArray = ls at hl ⊢
  have hl : lv_has ls 4 [(0, .ref h)] := hl
  refine mw_Q (fun Q0 hQ => ?_)
  obtain ⟨RES, hR0⟩ : ∃ R9, R9 = f_w_oneTick n  F V := ⟨_, rfl⟩
  have hZ9 := hR0
  unfold f_w_oneTick at hZ9
  have t18 : F 18 = F 18 := rfl
  refine lv_aload_n hx hb dX9_oneTick_0 rfl (lv_at hl 0 rfl) ?_
  refine lv_dup hx hb dX9_oneTick_1 rfl ?_
  refine va_get (D := (dC, dI)) (ci := 10) (v := .int (V 22)) (C := RX9) (T := TX9) (N := 46) hx hb hts in_w_oneTick_X9 hown hK hP 0 rfl rfl 22 (by decide) (hts (.fieldLink RX9 129 "ServiceTreeModel" "tick" "I") (by decide +kernel)) (fun _ h9 => h9) rfl dX9_oneTick_2 ?_
  refine lv_topi (fun x1 ex1 => ?_)
  replace hZ9 := bnd_s hZ9 ex1
  refine lv_iconst (v := 1) hx hb dX9_oneTick_5 (by decide) ?_
  refine lv_iadd hx hb dX9_oneTick_6 ?_
  refine lv_topi (fun x2 ex2 => ?_)
  replace hZ9 := bnd_s hZ9 ex2
  refine va_put (D := (dC, dI)) (ci := 10) (fs := mF a V) (v := .int x2) (ty := .int) (C := RX9) (T := TX9) (N := 46) hx hb hts in_w_oneTick_X9 tyX9 tyX9_ok nmX9 hown hK hP hD hS 0 rfl rfl 22 (by decide) (hts (.fieldLink RX9 129 "ServiceTreeModel" "tick" "I") (by decide +kernel)) (fun _ h9 => h9) rfl (by decide +kernel) rfl rfl (Nat.le_of_ble_eq_true rfl) dX9_oneTick_7 (fun H locs hP hD hS => ?_)
  rw [mW_put_22] at hP hD
  obtain ⟨V3, eV3⟩ : ∃ f9 : Nat → Int32, f9 = va_up V 22 x2 := ⟨_, rfl⟩
  rw [← eV3] at hP hD
  replace hZ9 := bnd_s hZ9 eV3
  replace hI : StM n (b) F V F V3 := ⟨by rw [eV3]; exact hI.1.setV (by decide), trivial⟩
  replace hV : ∀ j : Nat, j ∉ ([22, 24, 45] : List Nat) → V3 j = V j := by rw [eV3]; exact mw_up (by decide) hV
  refine lv_iconst (v := 0) hx hb dX9_oneTick_10 (by decide) ?_
  refine lv_istore_n (lv' := [(1, .int 0), (0, .ref h)]) hx hb dX9_oneTick_11 rfl hl (by decide) rfl (fun ls hl => ?_)
  obtain ⟨K9_12, hK9_12, hZ9⟩ := lp_gen hZ9
  have lp7 : ∀ (fu5 i4 : Nat)  (F8 : Nat → Nat → Int32) (V9 : Nat → Int32) (H : Heap) (locs : List Loc) (ls : Array Slot), n < i4 + fu5 → i4 ≤ n → StM n (b + 6 * i4) F V F8 V9 → (∀ j : Nat, j ∉ ([7, 8, 9, 10, 11, 12, 13, 14, 15, 16, 17, 18, 25, 26, 42, 43, 44] : List Nat) → F8 j = F j) → (∀ j : Nat, j ∉ ([22, 24, 45] : List Nat) → V9 j = V j) → F8 18 = F 18 → RES = f_w_oneTick_12 n  fu5 i4 F8 V9 K9_12 → va_P (dC, dI) vwCl (mW h a k F8 V9) H → va_D A (mW h a k F8 V9) → va_S A s.heap H locs → lv_has ls 4 [(1, .int (nI i4)), (0, .ref h)] → W p l e (headSpec wq_w_oneTick rm_w_oneTick).room s m ([.ref h] : List Value).toArray below meth c H locs 0 0 Q0 (F0 m 12 ls []) := by
    intro fu5
    induction fu5 with
    | zero =>
      intro i4  F8 V9 H locs ls hf hi
      exact absurd hf (by omega)
    | succ fu5 ih6 =>
      intro i4  F8 V9 H locs ls hfi4 hii4 hI hU hV t18qi4 hZ9 hP hD hS hl
      rw [f_w_oneTick_12] at hZ9
      have t18 := t18qi4
      refine lv_iload_n hx hb dX9_oneTick_12 rfl (lv_at hl 0 rfl) ?_
      refine lv_aload_n hx hb dX9_oneTick_13 rfl (lv_at hl 1 rfl) ?_
      refine va_get (D := (dC, dI)) (ci := 10) (v := .int (V9 21)) (C := RX9) (T := TX9) (N := 46) hx hb hts in_w_oneTick_X9 hown hK hP 0 rfl rfl 21 (by decide) (hts (.fieldLink RX9 126 "ServiceTreeModel" "services" "I") (by decide +kernel)) (fun _ h9 => h9) rfl dX9_oneTick_14 ?_
      refine p1_topr (v := .int (nI n)) (congrArg Value.int hI.1.2.1) ?_
      refine lv_icmp_ge (tgt := 31) hx hb dX9_oneTick_17 (by decide) (fun c10 => ?_) (fun c10 => ?_)
      · replace c10 : n ≤ i4 := (nI_leI (a := n) (b := i4) (by omega) (by omega)).mp c10
        replace hZ9 := ite_t hZ9 c10
        replace hZ9 := lp_app3 hK9_12 hZ9
        refine lv_iconst (v := 0) hx hb dX9_oneTick_31 (by decide) ?_
        refine lv_istore_n (lv' := [(1, .int 0), (0, .ref h)]) hx hb dX9_oneTick_32 rfl hl (by decide) rfl (fun ls hl => ?_)
        obtain ⟨K9_33, hK9_33, hZ9⟩ := lp_gen hZ9
        have lp14 : ∀ (fu12 i11 : Nat) (s17 : Nat)  (F15 : Nat → Nat → Int32) (V16 : Nat → Int32) (H : Heap) (locs : List Loc) (ls : Array Slot), zc (nu (F15 7)) 40 * 41 + (n - s17) < fu12 → i11 ≤ i11 → StM n (b + 6 * i4 + 2 * i11) F V F15 V16 → (∀ j : Nat, j ∉ ([7, 8, 9, 10, 11, 12, 13, 14, 15, 16, 17, 18, 25, 26, 42, 43, 44] : List Nat) → F15 j = F j) → (∀ j : Nat, j ∉ ([22, 24, 45] : List Nat) → V16 j = V j) → i11 + zc (nu (F15 7)) 40 ≤ 40 → s17 ≤ n → F15 18 = F 18 → RES = f_w_oneTick_33 n  fu12 i11 s17 F15 V16 K9_33 → va_P (dC, dI) vwCl (mW h a k F15 V16) H → va_D A (mW h a k F15 V16) → va_S A s.heap H locs → lv_has ls 4 [(1, .int (nI s17)), (0, .ref h)] → W p l e (headSpec wq_w_oneTick rm_w_oneTick).room s m ([.ref h] : List Value).toArray below meth c H locs 0 0 Q0 (F0 m 33 ls []) := by
          intro fu12
          induction fu12 with
          | zero =>
            intro i11 s17  F15 V16 H locs ls hf hi
            exact absurd hf (by omega)
          | succ fu12 ih13 =>
            intro i11 s17  F15 V16 H locs ls hfi11 hii11 hI hU hV hEi11 hsi11 t18qi11 hZ9 hP hD hS hl
            rw [f_w_oneTick_33] at hZ9
            have t18 := t18qi11
            refine lv_iload_n hx hb dX9_oneTick_33 rfl (lv_at hl 0 rfl) ?_
            refine lv_aload_n hx hb dX9_oneTick_34 rfl (lv_at hl 1 rfl) ?_
            refine va_get (D := (dC, dI)) (ci := 10) (v := .int (V16 21)) (C := RX9) (T := TX9) (N := 46) hx hb hts in_w_oneTick_X9 hown hK hP 0 rfl rfl 21 (by decide) (hts (.fieldLink RX9 126 "ServiceTreeModel" "services" "I") (by decide +kernel)) (fun _ h9 => h9) rfl dX9_oneTick_35 ?_
            refine p1_topr (v := .int (nI n)) (congrArg Value.int hI.1.2.1) ?_
            refine lv_icmp_ge (tgt := 99) hx hb dX9_oneTick_38 (by decide) (fun c18 => ?_) (fun c18 => ?_)
            · replace c18 : n ≤ s17 := (nI_leI (a := n) (b := s17) (by omega) (by omega)).mp c18
              replace hZ9 := ite_t hZ9 c18
              replace hZ9 := lp_app4 hK9_33 hZ9
              refine lv_iconst (v := 0) hx hb dX9_oneTick_99 (by decide) ?_
              refine lv_istore_n (lv' := [(2, .int 0), (1, .int (nI s17)), (0, .ref h)]) hx hb dX9_oneTick_100 rfl hl (by decide) rfl (fun ls hl => ?_)
              obtain ⟨K9_101, hK9_101, hZ9⟩ := lp_gen hZ9
              have lp22 : ∀ (fu20 i19 : Nat)  (F23 : Nat → Nat → Int32) (V24 : Nat → Int32) (H : Heap) (locs : List Loc) (ls : Array Slot), n < i19 + fu20 → i19 ≤ n → StM n (b + 6 * i4 + 2 * i11) F V F23 V24 → (∀ j : Nat, j ∉ ([7, 8, 9, 10, 11, 12, 13, 14, 15, 16, 17, 18, 25, 26, 42, 43, 44] : List Nat) → F23 j = F j) → (∀ j : Nat, j ∉ ([22, 24, 45] : List Nat) → V24 j = V j) → RES = f_w_oneTick_101 n  fu20 i19 F23 V24 K9_101 → va_P (dC, dI) vwCl (mW h a k F23 V24) H → va_D A (mW h a k F23 V24) → va_S A s.heap H locs → lv_has ls 4 [(2, .int (nI i19)), (1, .int (nI s17)), (0, .ref h)] → W p l e (headSpec wq_w_oneTick rm_w_oneTick).room s m ([.ref h] : List Value).toArray below meth c H locs 0 0 Q0 (F0 m 101 ls []) := by
                intro fu20
                induction fu20 with
                | zero =>
                  intro i19  F23 V24 H locs ls hf hi
                  exact absurd hf (by omega)
                | succ fu20 ih21 =>
                  intro i19  F23 V24 H locs ls hfi19 hii19 hI hU hV hZ9 hP hD hS hl
                  rw [f_w_oneTick_101] at hZ9
                  have t18 : F23 18 = F23 18 := rfl
                  refine lv_iload_n hx hb dX9_oneTick_101 rfl (lv_at hl 0 rfl) ?_
                  refine lv_aload_n hx hb dX9_oneTick_102 rfl (lv_at hl 2 rfl) ?_
                  refine va_get (D := (dC, dI)) (ci := 10) (v := .int (V24 21)) (C := RX9) (T := TX9) (N := 46) hx hb hts in_w_oneTick_X9 hown hK hP 0 rfl rfl 21 (by decide) (hts (.fieldLink RX9 126 "ServiceTreeModel" "services" "I") (by decide +kernel)) (fun _ h9 => h9) rfl dX9_oneTick_103 ?_
                  refine p1_topr (v := .int (nI n)) (congrArg Value.int hI.1.2.1) ?_
                  refine lv_icmp_ge (tgt := 231) hx hb dX9_oneTick_106 (by decide) (fun c25 => ?_) (fun c25 => ?_)
                  · replace c25 : n ≤ i19 := (nI_leI (a := n) (b := i19) (by omega) (by omega)).mp c25
                    replace hZ9 := ite_t hZ9 c25
                    replace hZ9 := lp_app3 hK9_101 hZ9
                    refine lv_aload_n hx hb dX9_oneTick_231 rfl (lv_at hl 2 rfl) ?_
                    have hFc := mw_free hD hS hA
                    refine va_callv (va_runV (As := []) (rest := []) ⟨hx, hb, hml, hown, hts⟩ (c_w_begin l dC dI h a k F23 V24 n (b + 6 * i4 + 2 * i11)  H.size hI.1 (by omega) ) (cwV 0 hts wc_w_oneTick_w_begin_215 rfl rfl rfl (by decide +kernel) ⟨Nat.le_of_ble_eq_true rfl, Nat.le_of_ble_eq_true rfl⟩) ⟨fun a9 U g mk q => by obtain ⟨q0, q1, qP, qK, qD⟩ := q; exact ⟨q0, q1, qP, va_K.moved (u := U) (U := U.calling g mk a9) (Vm.Alike.refl U.vm) qK, qD⟩, va_recv hK hP (ci := 10) (q0 := 0) rfl rfl, fun U hU hW => ⟨rfl, by rw [hU], by rw [hU]; exact hP, va_K.moved hW.alike hK, hD.weaken (fun _ _ _ _ => trivial)⟩⟩ rfl rfl hl.1 rfl (lv_room (Nat.le_of_ble_eq_true rfl)) dX9_oneTick_232 ⟨Nat.le_of_ble_eq_true rfl, Nat.le_of_ble_eq_true rfl⟩) hS (fun q _ h => hFc q h) hFc (fun u t H1 locs ht hvm hw hB hz1 hk1 hS => ?_)
                    obtain ⟨F27, V28⟩ := u
                    replace hP := hB.1
                    rw [ht] at hP
                    replace hD : va_D A (mW h a k F27 V28) := hB.2.weaken (fun _ q _ h9 => hFc q.1 h9)
                    clear hB
                    generalize H1 = H at hP hS ⊢
                    replace hP : va_P (dC, dI) vwCl (mW h a k F27 V28) H := hP
                    obtain ⟨hwI, hwU, hwV, hw⟩ := hw
                    replace hU : ∀ j : Nat, j ∉ ([7, 8, 9, 10, 11, 12, 13, 14, 15, 16, 17, 18, 25, 26, 42, 43, 44] : List Nat) → F27 j = F j := mw_tr (by decide) hwU hU
                    replace hV : ∀ j : Nat, j ∉ ([22, 24, 45] : List Nat) → V28 j = V j := mw_tr (by decide) hwV hV
                    replace hI : StM n (b + 6 * i4 + 2 * i11 + 82) F V F27 V28 := hI.trans hwI
                    replace t18 : F27 18 = F23 18 := (hwU 18 (by decide)).trans t18
                    replace hw : (F27, V28) = f_w_begin n  F23 V24 := hw
                    replace hZ9 := bn2_s hZ9 hw
                    rw [hQ]
                    exact W.vret hx hb hr (fun t ht hW => ⟨⟨(F27, V28), rfl, ⟨hI.mono (by omega), hU, hV, hZ9.symm.trans hR0⟩, by rw [ht]; exact hP, hD⟩, hS.F ht⟩) hS.2.2 dX9_oneTick_235
                  · replace c25 : ¬ (n ≤ i19) := fun q9 => c25 ((nI_leI (a := n) (b := i19) (by omega) (by omega)).mpr q9)
                    replace hZ9 := ite_f hZ9 c25
                    refine lv_aload_n hx hb dX9_oneTick_109 rfl (lv_at hl 2 rfl) ?_
                    refine va_get (D := (dC, dI)) (ci := 10) (v := .ref (a 0)) (C := RX9) (T := TX9) (N := 46) hx hb hts in_w_oneTick_X9 hown hK hP 0 rfl rfl 0 (by decide) (hts (.fieldLink RX9 9 "ServiceTreeModel" "kind" "[I") (by decide +kernel)) (fun _ h9 => h9) rfl dX9_oneTick_110 ?_
                    refine lv_iload_n hx hb dX9_oneTick_113 rfl (lv_at hl 0 rfl) ?_
                    refine va_iald (n := 40) (f := F23 0) hx hb hK hP 1 0 rfl rfl (vp_in_nI (n := i19) (by omega) (by decide)) dX9_oneTick_114 ?_
                    refine lv_topi (fun x29 ex29 => ?_)
                    replace hZ9 := bnd_s hZ9 ex29
                    refine lv_iconst (v := 2) hx hb dX9_oneTick_115 (by decide) ?_
                    refine lv_icmp_ne (tgt := 225) hx hb dX9_oneTick_116 (by decide) (fun c30 => ?_) (fun c30 => ?_)
                    · replace hZ9 := ite_f hZ9 c30
                      refine lv_iinc (v := nI (i19 + 1)) (lv' := [(2, .int (nI (i19 + 1))), (1, .int (nI s17)), (0, .ref h)]) hx hb dX9_oneTick_225 hl (k := 0) rfl (nI_add i19 1) (by decide) rfl (fun ls hl => ?_)
                      refine lv_goto (tgt := 101) hx hb dX9_oneTick_228 (by decide) ?_
                      exact ih21 (i19 + 1)  F23 V24 _ _ _ (by omega) (by omega) (hI.mono (by omega)) hU hV  hZ9 hP hD hS (lv_sub hl [0, 1, 2] rfl)
                    · replace hZ9 := ite_t hZ9 c30
                      refine lv_aload_n hx hb dX9_oneTick_119 rfl (lv_at hl 2 rfl) ?_
                      refine va_get (D := (dC, dI)) (ci := 10) (v := .ref (a 7)) (C := RX9) (T := TX9) (N := 46) hx hb hts in_w_oneTick_X9 hown hK hP 0 rfl rfl 7 (by decide) (hts (.fieldLink RX9 31 "ServiceTreeModel" "state" "[I") (by decide +kernel)) (fun _ h9 => h9) rfl dX9_oneTick_120 ?_
                      refine lv_iload_n hx hb dX9_oneTick_123 rfl (lv_at hl 0 rfl) ?_
                      refine va_iald (n := 40) (f := F23 7) hx hb hK hP 8 7 rfl rfl (vp_in_nI (n := i19) (by omega) (by decide)) dX9_oneTick_124 ?_
                      refine lv_topi (fun x31 ex31 => ?_)
                      replace hZ9 := bnd_s hZ9 ex31
                      refine lv_iconst (v := 2) hx hb dX9_oneTick_125 (by decide) ?_
                      refine lv_icmp_ne (tgt := 225) hx hb dX9_oneTick_126 (by decide) (fun c32 => ?_) (fun c32 => ?_)
                      · replace hZ9 := ite_f hZ9 c32
                        refine lv_iinc (v := nI (i19 + 1)) (lv' := [(2, .int (nI (i19 + 1))), (1, .int (nI s17)), (0, .ref h)]) hx hb dX9_oneTick_225 hl (k := 0) rfl (nI_add i19 1) (by decide) rfl (fun ls hl => ?_)
                        refine lv_goto (tgt := 101) hx hb dX9_oneTick_228 (by decide) ?_
                        exact ih21 (i19 + 1)  F23 V24 _ _ _ (by omega) (by omega) (hI.mono (by omega)) hU hV  hZ9 hP hD hS (lv_sub hl [0, 1, 2] rfl)
                      · replace hZ9 := ite_t hZ9 c32
                        refine lv_aload_n hx hb dX9_oneTick_129 rfl (lv_at hl 2 rfl) ?_
                        refine va_get (D := (dC, dI)) (ci := 10) (v := .ref (a 18)) (C := RX9) (T := TX9) (N := 46) hx hb hts in_w_oneTick_X9 hown hK hP 0 rfl rfl 18 (by decide) (hts (.fieldLink RX9 65 "ServiceTreeModel" "letterMany" "[I") (by decide +kernel)) (fun _ h9 => h9) rfl dX9_oneTick_130 ?_
                        refine lv_iload_n hx hb dX9_oneTick_133 rfl (lv_at hl 0 rfl) ?_
                        refine va_iald (n := 40) (f := F23 18) hx hb hK hP 19 18 rfl rfl (vp_in_nI (n := i19) (by omega) (by decide)) dX9_oneTick_134 ?_
                        refine lv_topi (fun x33 ex33 => ?_)
                        replace hZ9 := bnd_s hZ9 ex33
                        rw [t18] at ex33
                        obtain ⟨m34, hm34, qm34⟩ := hI.1.2.2.2.2.2.2.1 (nI i19).toNatClampNeg
                        rw [t18] at qm34
                        obtain rfl : x33 = nI m34 := ex33.trans qm34
                        replace hZ9 := bnd_s hZ9 (show m34 = (nI m34).toNatClampNeg by rw [nI_clamp (by omega)])
                        refine lv_if_le (tgt := 225) hx hb dX9_oneTick_135 (by decide) (fun c35 => ?_) (fun c35 => ?_)
                        · replace c35 : m34 ≤ 0 := (nI_leI (a := m34) (b := 0) (by omega) (by omega)).mp c35
                          replace hZ9 := ite_t hZ9 c35
                          refine lv_iinc (v := nI (i19 + 1)) (lv' := [(2, .int (nI (i19 + 1))), (1, .int (nI s17)), (0, .ref h)]) hx hb dX9_oneTick_225 hl (k := 0) rfl (nI_add i19 1) (by decide) rfl (fun ls hl => ?_)
                          refine lv_goto (tgt := 101) hx hb dX9_oneTick_228 (by decide) ?_
                          exact ih21 (i19 + 1)  F23 V24 _ _ _ (by omega) (by omega) (hI.mono (by omega)) hU hV  hZ9 hP hD hS (lv_sub hl [0, 1, 2] rfl)
                        · replace c35 : ¬ (m34 ≤ 0) := fun q9 => c35 ((nI_leI (a := m34) (b := 0) (by omega) (by omega)).mpr q9)
                          replace hZ9 := ite_f hZ9 c35
                          refine lv_aload_n hx hb dX9_oneTick_138 rfl (lv_at hl 2 rfl) ?_
                          refine va_get (D := (dC, dI)) (ci := 10) (v := .ref (a 16)) (C := RX9) (T := TX9) (N := 46) hx hb hts in_w_oneTick_X9 hown hK hP 0 rfl rfl 16 (by decide) (hts (.fieldLink RX9 59 "ServiceTreeModel" "readLast" "[I") (by decide +kernel)) (fun _ h9 => h9) rfl dX9_oneTick_139 ?_
                          refine lv_iload_n hx hb dX9_oneTick_142 rfl (lv_at hl 0 rfl) ?_
                          refine lv_aload_n hx hb dX9_oneTick_143 rfl (lv_at hl 2 rfl) ?_
                          refine va_get (D := (dC, dI)) (ci := 10) (v := .ref (a 17)) (C := RX9) (T := TX9) (N := 46) hx hb hts in_w_oneTick_X9 hown hK hP 0 rfl rfl 17 (by decide) (hts (.fieldLink RX9 62 "ServiceTreeModel" "letters" "[I") (by decide +kernel)) (fun _ h9 => h9) rfl dX9_oneTick_144 ?_
                          refine lv_bipush (v := 20) hx hb dX9_oneTick_147 (by decide) ?_
                          refine lv_iload_n hx hb dX9_oneTick_149 rfl (lv_at hl 0 rfl) ?_
                          refine lv_imul hx hb dX9_oneTick_150 ?_
                          refine p1_topr (v := .int (nI (20 * i19))) (congrArg Value.int (pk_mul 20 i19)) ?_
                          refine va_iald (n := 800) (f := F23 17) hx hb hK hP 18 17 rfl rfl (vp_in_nI (n := 20 * i19) (by omega) (by decide)) dX9_oneTick_151 ?_
                          refine lv_topi (fun x36 ex36 => ?_)
                          replace hZ9 := bnd_s hZ9 ex36
                          refine va_iast (n := 40) (f := F23 16) hx hb hK hP hD hS 17 16 rfl rfl (vp_in_nI (n := i19) (by omega) (by decide)) dX9_oneTick_152 (fun H locs hP hD hS => ?_)
                          rw [mW_set_16] at hP hD
                          obtain ⟨F37, eF37⟩ : ∃ f9 : Nat → Nat → Int32, f9 = va_up F23 16 (upd (F23 16) (nI i19).toNatClampNeg x36) := ⟨_, rfl⟩
                          rw [← eF37] at hP hD
                          replace hZ9 := bnd_s hZ9 eF37
                          replace hI : StM n (b + 6 * i4 + 2 * i11) F V F37 V24 := ⟨by rw [eF37]; exact hI.1.setF (by decide), trivial⟩
                          replace hU : ∀ j : Nat, j ∉ ([7, 8, 9, 10, 11, 12, 13, 14, 15, 16, 17, 18, 25, 26, 42, 43, 44] : List Nat) → F37 j = F j := by rw [eF37]; exact mw_up (by decide) hU
                          replace t18 : F37 18 = F23 18 := by rw [eF37]; exact (va_up_ne _ _ (by decide)).trans t18
                          refine lv_aload_n hx hb dX9_oneTick_153 rfl (lv_at hl 2 rfl) ?_
                          refine va_get (D := (dC, dI)) (ci := 10) (v := .ref (a 18)) (C := RX9) (T := TX9) (N := 46) hx hb hts in_w_oneTick_X9 hown hK hP 0 rfl rfl 18 (by decide) (hts (.fieldLink RX9 65 "ServiceTreeModel" "letterMany" "[I") (by decide +kernel)) (fun _ h9 => h9) rfl dX9_oneTick_154 ?_
                          refine lv_iload_n hx hb dX9_oneTick_157 rfl (lv_at hl 0 rfl) ?_
                          refine lv_dup2_11 hx hb dX9_oneTick_158 rfl rfl ?_
                          refine va_iald (n := 40) (f := F37 18) hx hb hK hP 19 18 rfl rfl (vp_in_nI (n := i19) (by omega) (by decide)) dX9_oneTick_159 ?_
                          refine p1_topr (v := .int (nI m34)) (congrArg Value.int (by rw [t18]; exact qm34)) ?_
                          refine lv_iconst (v := 1) hx hb dX9_oneTick_160 (by decide) ?_
                          refine lv_isub hx hb dX9_oneTick_161 ?_
                          refine p1_topr (v := .int (nI (m34 - 1))) (congrArg Value.int (pk_sub (a := m34) (b := 1) (by omega))) ?_
                          refine va_iast (n := 40) (f := F37 18) hx hb hK hP hD hS 19 18 rfl rfl (vp_in_nI (n := i19) (by omega) (by decide)) dX9_oneTick_162 (fun H locs hP hD hS => ?_)
                          rw [mW_set_18] at hP hD
                          obtain ⟨F39, eF39⟩ : ∃ f9 : Nat → Nat → Int32, f9 = va_up F37 18 (upd (F37 18) (nI i19).toNatClampNeg (nI (m34 - 1))) := ⟨_, rfl⟩
                          rw [← eF39] at hP hD
                          replace hZ9 := bnd_s hZ9 eF39
                          replace hI : StM n (b + 6 * i4 + 2 * i11) F V F39 V24 := ⟨by rw [eF39]; exact hI.1.set18 (i := (nI i19).toNatClampNeg) (x := m34 - 1) (by omega), trivial⟩
                          replace hU : ∀ j : Nat, j ∉ ([7, 8, 9, 10, 11, 12, 13, 14, 15, 16, 17, 18, 25, 26, 42, 43, 44] : List Nat) → F39 j = F j := by rw [eF39]; exact mw_up (by decide) hU
                          replace t18 : F39 18 = upd (F23 18) (nI i19).toNatClampNeg (nI (m34 - 1)) := by rw [eF39, va_up_self, t18]
                          refine lv_iconst (v := 0) hx hb dX9_oneTick_163 (by decide) ?_
                          refine lv_istore_n (lv' := [(3, .int 0), (2, .int (nI i19)), (1, .int (nI s17)), (0, .ref h)]) hx hb dX9_oneTick_164 rfl hl (by decide) rfl (fun ls hl => ?_)
                          obtain ⟨K9_165, hK9_165, hZ9⟩ := lp_gen hZ9
                          have lp43 : ∀ (fu41 i40 : Nat)  (F44 : Nat → Nat → Int32) (V45 : Nat → Int32) (H : Heap) (locs : List Loc) (ls : Array Slot), 20 < i40 + fu41 → i40 ≤ 20 → StM n (b + 6 * i4 + 2 * i11) F V F44 V45 → (∀ j : Nat, j ∉ ([7, 8, 9, 10, 11, 12, 13, 14, 15, 16, 17, 18, 25, 26, 42, 43, 44] : List Nat) → F44 j = F j) → (∀ j : Nat, j ∉ ([22, 24, 45] : List Nat) → V45 j = V j) → F44 18 = upd (F23 18) (nI i19).toNatClampNeg (nI (m34 - 1)) → RES = f_w_oneTick_165 n i19 m34 fu41 i40 F44 V45 K9_165 → va_P (dC, dI) vwCl (mW h a k F44 V45) H → va_D A (mW h a k F44 V45) → va_S A s.heap H locs → lv_has ls 4 [(3, .int (nI i40)), (2, .int (nI i19)), (1, .int (nI s17)), (0, .ref h)] → W p l e (headSpec wq_w_oneTick rm_w_oneTick).room s m ([.ref h] : List Value).toArray below meth c H locs 0 0 Q0 (F0 m 165 ls []) := by
                            intro fu41
                            induction fu41 with
                            | zero =>
                              intro i40  F44 V45 H locs ls hf hi
                              exact absurd hf (by omega)
                            | succ fu41 ih42 =>
                              intro i40  F44 V45 H locs ls hfi40 hii40 hI hU hV t18qi40 hZ9 hP hD hS hl
                              rw [f_w_oneTick_165] at hZ9
                              have t18 := t18qi40
                              refine lv_iload_n hx hb dX9_oneTick_165 rfl (lv_at hl 0 rfl) ?_
                              refine lv_aload_n hx hb dX9_oneTick_166 rfl (lv_at hl 3 rfl) ?_
                              refine va_get (D := (dC, dI)) (ci := 10) (v := .ref (a 18)) (C := RX9) (T := TX9) (N := 46) hx hb hts in_w_oneTick_X9 hown hK hP 0 rfl rfl 18 (by decide) (hts (.fieldLink RX9 65 "ServiceTreeModel" "letterMany" "[I") (by decide +kernel)) (fun _ h9 => h9) rfl dX9_oneTick_167 ?_
                              refine lv_iload_n hx hb dX9_oneTick_170 rfl (lv_at hl 1 rfl) ?_
                              refine va_iald (n := 40) (f := F44 18) hx hb hK hP 19 18 rfl rfl (vp_in_nI (n := i19) (by omega) (by decide)) dX9_oneTick_171 ?_
                              refine lv_topi (fun x46 ex46 => ?_)
                              replace hZ9 := bnd_s hZ9 ex46
                              rw [t18] at ex46
                              obtain rfl : x46 = nI (m34 - 1) := ex46.trans pk_us
                              refine lv_icmp_ge (tgt := 205) hx hb dX9_oneTick_172 (by decide) (fun c47 => ?_) (fun c47 => ?_)
                              · replace c47 : m34 - 1 ≤ i40 := (nI_leI (a := m34 - 1) (b := i40) (by omega) (by omega)).mp c47
                                replace hZ9 := ite_t hZ9 c47
                                replace hZ9 := lp_app3 hK9_165 hZ9
                                refine lv_aload_n hx hb dX9_oneTick_205 rfl (lv_at hl 3 rfl) ?_
                                refine va_get (D := (dC, dI)) (ci := 10) (v := .ref (a 15)) (C := RX9) (T := TX9) (N := 46) hx hb hts in_w_oneTick_X9 hown hK hP 0 rfl rfl 15 (by decide) (hts (.fieldLink RX9 56 "ServiceTreeModel" "read" "[I") (by decide +kernel)) (fun _ h9 => h9) rfl dX9_oneTick_206 ?_
                                refine lv_iload_n hx hb dX9_oneTick_209 rfl (lv_at hl 1 rfl) ?_
                                refine lv_dup2_11 hx hb dX9_oneTick_210 rfl rfl ?_
                                refine va_iald (n := 40) (f := F44 15) hx hb hK hP 16 15 rfl rfl (vp_in_nI (n := i19) (by omega) (by decide)) dX9_oneTick_211 ?_
                                refine lv_topi (fun x48 ex48 => ?_)
                                replace hZ9 := bnd_s hZ9 ex48
                                refine lv_iconst (v := 1) hx hb dX9_oneTick_212 (by decide) ?_
                                refine lv_iadd hx hb dX9_oneTick_213 ?_
                                refine lv_topi (fun x49 ex49 => ?_)
                                replace hZ9 := bnd_s hZ9 ex49
                                refine va_iast (n := 40) (f := F44 15) hx hb hK hP hD hS 16 15 rfl rfl (vp_in_nI (n := i19) (by omega) (by decide)) dX9_oneTick_214 (fun H locs hP hD hS => ?_)
                                rw [mW_set_15] at hP hD
                                obtain ⟨F50, eF50⟩ : ∃ f9 : Nat → Nat → Int32, f9 = va_up F44 15 (upd (F44 15) (nI i19).toNatClampNeg x49) := ⟨_, rfl⟩
                                rw [← eF50] at hP hD
                                replace hZ9 := bnd_s hZ9 eF50
                                replace hI : StM n (b + 6 * i4 + 2 * i11) F V F50 V45 := ⟨by rw [eF50]; exact hI.1.setF (by decide), trivial⟩
                                replace hU : ∀ j : Nat, j ∉ ([7, 8, 9, 10, 11, 12, 13, 14, 15, 16, 17, 18, 25, 26, 42, 43, 44] : List Nat) → F50 j = F j := by rw [eF50]; exact mw_up (by decide) hU
                                replace t18 : F50 18 = upd (F23 18) (nI i19).toNatClampNeg (nI (m34 - 1)) := by rw [eF50]; exact (va_up_ne _ _ (by decide)).trans t18
                                refine lv_aload_n hx hb dX9_oneTick_215 rfl (lv_at hl 3 rfl) ?_
                                refine lv_dup hx hb dX9_oneTick_216 rfl ?_
                                refine va_get (D := (dC, dI)) (ci := 10) (v := .int (V45 24)) (C := RX9) (T := TX9) (N := 46) hx hb hts in_w_oneTick_X9 hown hK hP 0 rfl rfl 24 (by decide) (hts (.fieldLink RX9 243 "ServiceTreeModel" "readAll" "I") (by decide +kernel)) (fun _ h9 => h9) rfl dX9_oneTick_217 ?_
                                refine lv_topi (fun x51 ex51 => ?_)
                                replace hZ9 := bnd_s hZ9 ex51
                                refine lv_iconst (v := 1) hx hb dX9_oneTick_220 (by decide) ?_
                                refine lv_iadd hx hb dX9_oneTick_221 ?_
                                refine lv_topi (fun x52 ex52 => ?_)
                                replace hZ9 := bnd_s hZ9 ex52
                                refine va_put (D := (dC, dI)) (ci := 10) (fs := mF a V45) (v := .int x52) (ty := .int) (C := RX9) (T := TX9) (N := 46) hx hb hts in_w_oneTick_X9 tyX9 tyX9_ok nmX9 hown hK hP hD hS 0 rfl rfl 24 (by decide) (hts (.fieldLink RX9 243 "ServiceTreeModel" "readAll" "I") (by decide +kernel)) (fun _ h9 => h9) rfl (by decide +kernel) rfl rfl (Nat.le_of_ble_eq_true rfl) dX9_oneTick_222 (fun H locs hP hD hS => ?_)
                                rw [mW_put_24] at hP hD
                                obtain ⟨V53, eV53⟩ : ∃ f9 : Nat → Int32, f9 = va_up V45 24 x52 := ⟨_, rfl⟩
                                rw [← eV53] at hP hD
                                replace hZ9 := bnd_s hZ9 eV53
                                replace hI : StM n (b + 6 * i4 + 2 * i11) F V F50 V53 := ⟨by rw [eV53]; exact hI.1.setV (by decide), trivial⟩
                                replace hV : ∀ j : Nat, j ∉ ([22, 24, 45] : List Nat) → V53 j = V j := by rw [eV53]; exact mw_up (by decide) hV
                                refine lv_iinc (v := nI (i19 + 1)) (lv' := [(2, .int (nI (i19 + 1))), (3, .int (nI i40)), (1, .int (nI s17)), (0, .ref h)]) hx hb dX9_oneTick_225 hl (k := 1) rfl (nI_add i19 1) (by decide) rfl (fun ls hl => ?_)
                                refine lv_goto (tgt := 101) hx hb dX9_oneTick_228 (by decide) ?_
                                exact ih21 (i19 + 1)  F50 V53 _ _ _ (by omega) (by omega) (hI.mono (by omega)) hU hV  hZ9 hP hD hS (lv_sub hl [0, 2, 3] rfl)
                              · replace c47 : ¬ (m34 - 1 ≤ i40) := fun q9 => c47 ((nI_leI (a := m34 - 1) (b := i40) (by omega) (by omega)).mpr q9)
                                replace hZ9 := ite_f hZ9 c47
                                refine lv_aload_n hx hb dX9_oneTick_175 rfl (lv_at hl 3 rfl) ?_
                                refine va_get (D := (dC, dI)) (ci := 10) (v := .ref (a 17)) (C := RX9) (T := TX9) (N := 46) hx hb hts in_w_oneTick_X9 hown hK hP 0 rfl rfl 17 (by decide) (hts (.fieldLink RX9 62 "ServiceTreeModel" "letters" "[I") (by decide +kernel)) (fun _ h9 => h9) rfl dX9_oneTick_176 ?_
                                refine lv_bipush (v := 20) hx hb dX9_oneTick_179 (by decide) ?_
                                refine lv_iload_n hx hb dX9_oneTick_181 rfl (lv_at hl 1 rfl) ?_
                                refine lv_imul hx hb dX9_oneTick_182 ?_
                                refine p1_topr (v := .int (nI (20 * i19))) (congrArg Value.int (pk_mul 20 i19)) ?_
                                refine lv_iload_n hx hb dX9_oneTick_183 rfl (lv_at hl 0 rfl) ?_
                                refine lv_iadd hx hb dX9_oneTick_184 ?_
                                refine p1_topr (v := .int (nI ((20 * i19) + i40))) (congrArg Value.int (nI_add (20 * i19) i40)) ?_
                                refine lv_aload_n hx hb dX9_oneTick_185 rfl (lv_at hl 3 rfl) ?_
                                refine va_get (D := (dC, dI)) (ci := 10) (v := .ref (a 17)) (C := RX9) (T := TX9) (N := 46) hx hb hts in_w_oneTick_X9 hown hK hP 0 rfl rfl 17 (by decide) (hts (.fieldLink RX9 62 "ServiceTreeModel" "letters" "[I") (by decide +kernel)) (fun _ h9 => h9) rfl dX9_oneTick_186 ?_
                                refine lv_bipush (v := 20) hx hb dX9_oneTick_189 (by decide) ?_
                                refine lv_iload_n hx hb dX9_oneTick_191 rfl (lv_at hl 1 rfl) ?_
                                refine lv_imul hx hb dX9_oneTick_192 ?_
                                refine p1_topr (v := .int (nI (20 * i19))) (congrArg Value.int (pk_mul 20 i19)) ?_
                                refine lv_iload_n hx hb dX9_oneTick_193 rfl (lv_at hl 0 rfl) ?_
                                refine lv_iadd hx hb dX9_oneTick_194 ?_
                                refine p1_topr (v := .int (nI ((20 * i19) + i40))) (congrArg Value.int (nI_add (20 * i19) i40)) ?_
                                refine lv_iconst (v := 1) hx hb dX9_oneTick_195 (by decide) ?_
                                refine lv_iadd hx hb dX9_oneTick_196 ?_
                                refine p1_topr (v := .int (nI (((20 * i19) + i40) + 1))) (congrArg Value.int (nI_add ((20 * i19) + i40) 1)) ?_
                                refine va_iald (n := 800) (f := F44 17) hx hb hK hP 18 17 rfl rfl (vp_in_nI (n := ((20 * i19) + i40) + 1) (by omega) (by decide)) dX9_oneTick_197 ?_
                                refine lv_topi (fun x54 ex54 => ?_)
                                replace hZ9 := bnd_s hZ9 ex54
                                refine va_iast (n := 800) (f := F44 17) hx hb hK hP hD hS 18 17 rfl rfl (vp_in_nI (n := (20 * i19) + i40) (by omega) (by decide)) dX9_oneTick_198 (fun H locs hP hD hS => ?_)
                                rw [mW_set_17] at hP hD
                                obtain ⟨F55, eF55⟩ : ∃ f9 : Nat → Nat → Int32, f9 = va_up F44 17 (upd (F44 17) (nI ((20 * i19) + i40)).toNatClampNeg x54) := ⟨_, rfl⟩
                                rw [← eF55] at hP hD
                                replace hZ9 := bnd_s hZ9 eF55
                                replace hI : StM n (b + 6 * i4 + 2 * i11) F V F55 V45 := ⟨by rw [eF55]; exact hI.1.setF (by decide), trivial⟩
                                replace hU : ∀ j : Nat, j ∉ ([7, 8, 9, 10, 11, 12, 13, 14, 15, 16, 17, 18, 25, 26, 42, 43, 44] : List Nat) → F55 j = F j := by rw [eF55]; exact mw_up (by decide) hU
                                replace t18 : F55 18 = upd (F23 18) (nI i19).toNatClampNeg (nI (m34 - 1)) := by rw [eF55]; exact (va_up_ne _ _ (by decide)).trans t18
                                refine lv_iinc (v := nI (i40 + 1)) (lv' := [(3, .int (nI (i40 + 1))), (2, .int (nI i19)), (1, .int (nI s17)), (0, .ref h)]) hx hb dX9_oneTick_199 hl (k := 0) rfl (nI_add i40 1) (by decide) rfl (fun ls hl => ?_)
                                refine lv_goto (tgt := 165) hx hb dX9_oneTick_202 (by decide) ?_
                                exact ih42 (i40 + 1)  F55 V45 _ _ _ (by omega) (by omega) (hI.mono (by omega)) hU hV t18 hZ9 hP hD hS (lv_sub hl [0, 1, 2, 3] rfl)
                          exact lp43 (20 + 1) 0  F39 V24 _ _ _ (by omega) (by omega) (hI.mono (by omega)) hU hV t18 hZ9 hP hD hS hl
              exact lp22 (n + 1) 0  F15 V16 _ _ _ (by omega) (by omega) (hI.mono (by omega)) hU hV  hZ9 hP hD hS hl
            · replace c18 : ¬ (n ≤ s17) := fun q9 => c18 ((nI_leI (a := n) (b := s17) (by omega) (by omega)).mpr q9)
              replace hZ9 := ite_f hZ9 c18
              refine lv_aload_n hx hb dX9_oneTick_41 rfl (lv_at hl 1 rfl) ?_
              refine va_get (D := (dC, dI)) (ci := 10) (v := .ref (a 7)) (C := RX9) (T := TX9) (N := 46) hx hb hts in_w_oneTick_X9 hown hK hP 0 rfl rfl 7 (by decide) (hts (.fieldLink RX9 31 "ServiceTreeModel" "state" "[I") (by decide +kernel)) (fun _ h9 => h9) rfl dX9_oneTick_42 ?_
              refine lv_iload_n hx hb dX9_oneTick_45 rfl (lv_at hl 0 rfl) ?_
              refine va_iald (n := 40) (f := F15 7) hx hb hK hP 8 7 rfl rfl (vp_in_nI (n := s17) (by omega) (by decide)) dX9_oneTick_46 ?_
              refine lv_topi (fun x56 ex56 => ?_)
              replace hZ9 := bnd_s hZ9 ex56
              refine lv_iconst (v := 1) hx hb dX9_oneTick_47 (by decide) ?_
              refine lv_icmp_eq (tgt := 61) hx hb dX9_oneTick_48 (by decide) (fun c57 => ?_) (fun c57 => ?_)
              · replace hZ9 := ite_t hZ9 c57
                refine lv_aload_n hx hb dX9_oneTick_61 rfl (lv_at hl 1 rfl) ?_
                refine lv_iload_n hx hb dX9_oneTick_62 rfl (lv_at hl 0 rfl) ?_
                have hFc := mw_free hD hS hA
                refine va_calli (va_runV (As := [.int (nI s17)]) (rest := []) ⟨hx, hb, hml, hown, hts⟩ (c_w_hasNeeds l dC dI h a k F15 V16 n (b + 6 * i4 + 2 * i11) s17 H.size hI.1 (by omega) (by omega)) (cwV 1 hts wc_w_oneTick_w_hasNeeds_231 rfl rfl rfl (by decide +kernel) ⟨Nat.le_of_ble_eq_true rfl, Nat.le_of_ble_eq_true rfl⟩) ⟨fun a9 U g mk q => by obtain ⟨q0, q1, qP, qK, qD⟩ := q; exact ⟨q0, q1, qP, va_K.moved (u := U) (U := U.calling g mk a9) (Vm.Alike.refl U.vm) qK, qD⟩, va_recv hK hP (ci := 10) (q0 := 0) rfl rfl, fun U hU hW => ⟨rfl, by rw [hU], by rw [hU]; exact hP, va_K.moved hW.alike hK, hD.weaken (fun _ _ _ _ => trivial)⟩⟩ rfl rfl hl.1 rfl (lv_room (Nat.le_of_ble_eq_true rfl)) dX9_oneTick_63 ⟨Nat.le_of_ble_eq_true rfl, Nat.le_of_ble_eq_true rfl⟩) hS (fun q _ h => hFc q h) hFc (fun r58 u t H1 locs ht hvm hw hB hz1 hk1 hS => ?_)
                obtain ⟨F59, V60⟩ := u
                replace hP := hB.1
                rw [ht] at hP
                replace hD : va_D A (mW h a k F59 V60) := hB.2.weaken (fun _ q _ h9 => hFc q.1 h9)
                clear hB
                generalize H1 = H at hP hS ⊢
                replace hP : va_P (dC, dI) vwCl (mW h a k F59 V60) H := hP
                obtain ⟨hwF, hwV, hw⟩ : F59 = F15 ∧ V60 = V16 ∧ _ := hw
                rw [hwF, hwV] at hP hD
                obtain ⟨hw, hwe⟩ := hw
                replace hw : r58 = f_w_hasNeeds n s17 F15 := hw
                replace hZ9 := bnd_s hZ9 hw
                have br58 := hwe
                refine lv_if_ne (tgt := 93) hx hb dX9_oneTick_66 (by decide) (fun c61 => ?_) (fun c61 => ?_)
                · replace hZ9 := ite_f hZ9 c61
                  refine lv_iinc (v := nI (s17 + 1)) (lv' := [(1, .int (nI (s17 + 1))), (0, .ref h)]) hx hb dX9_oneTick_93 hl (k := 0) rfl (nI_add s17 1) (by decide) rfl (fun ls hl => ?_)
                  refine lv_goto (tgt := 33) hx hb dX9_oneTick_96 (by decide) ?_
                  exact ih13 i11 (s17 + 1)  F15 V16 _ _ _ (by omega) (by omega) (hI.mono (by omega)) hU hV (by omega) (by omega) t18 hZ9 hP hD hS (lv_sub hl [0, 1] rfl)
                · replace hZ9 := ite_t hZ9 c61
                  refine lv_aload_n hx hb dX9_oneTick_69 rfl (lv_at hl 1 rfl) ?_
                  refine lv_iload_n hx hb dX9_oneTick_70 rfl (lv_at hl 0 rfl) ?_
                  refine lv_aload_n hx hb dX9_oneTick_71 rfl (lv_at hl 1 rfl) ?_
                  refine va_get (D := (dC, dI)) (ci := 10) (v := .ref (a 2)) (C := RX9) (T := TX9) (N := 46) hx hb hts in_w_oneTick_X9 hown hK hP 0 rfl rfl 2 (by decide) (hts (.fieldLink RX9 16 "ServiceTreeModel" "stop" "[I") (by decide +kernel)) (fun _ h9 => h9) rfl dX9_oneTick_72 ?_
                  refine lv_iload_n hx hb dX9_oneTick_75 rfl (lv_at hl 0 rfl) ?_
                  refine va_iald (n := 40) (f := F15 2) hx hb hK hP 3 2 rfl rfl (vp_in_nI (n := s17) (by omega) (by decide)) dX9_oneTick_76 ?_
                  refine lv_topi (fun x62 ex62 => ?_)
                  replace hZ9 := bnd_s hZ9 ex62
                  refine lv_if_ne (tgt := 84) hx hb dX9_oneTick_77 (by decide) (fun c63 => ?_) (fun c63 => ?_)
                  · replace hZ9 := ite_f hZ9 c63
                    refine lv_iconst (v := 3) hx hb dX9_oneTick_84 (by decide) ?_
                    have hFc := mw_free hD hS hA
                    refine va_callv (va_runV (As := [.int (nI s17), .int 3]) (rest := []) ⟨hx, hb, hml, hown, hts⟩ (c_w_to l dC dI h a k F15 V16 n (b + 6 * i4 + 2 * i11) s17 3 H.size hI.1 (by omega) (by omega)) (cwV 2 hts wc_w_oneTick_w_to_211 rfl rfl rfl (by decide +kernel) ⟨Nat.le_of_ble_eq_true rfl, Nat.le_of_ble_eq_true rfl⟩) ⟨fun a9 U g mk q => by obtain ⟨q0, q1, qP, qK, qD⟩ := q; exact ⟨q0, q1, qP, va_K.moved (u := U) (U := U.calling g mk a9) (Vm.Alike.refl U.vm) qK, qD⟩, va_recv hK hP (ci := 10) (q0 := 0) rfl rfl, fun U hU hW => ⟨rfl, by rw [hU], by rw [hU]; exact hP, va_K.moved hW.alike hK, hD.weaken (fun _ _ _ _ => trivial)⟩⟩ rfl rfl hl.1 rfl (lv_room (Nat.le_of_ble_eq_true rfl)) dX9_oneTick_85 ⟨Nat.le_of_ble_eq_true rfl, Nat.le_of_ble_eq_true rfl⟩) hS (fun q _ h => hFc q h) hFc (fun u t H1 locs ht hvm hw hB hz1 hk1 hS => ?_)
                    obtain ⟨F65, V66⟩ := u
                    replace hP := hB.1
                    rw [ht] at hP
                    replace hD : va_D A (mW h a k F65 V66) := hB.2.weaken (fun _ q _ h9 => hFc q.1 h9)
                    clear hB
                    generalize H1 = H at hP hS ⊢
                    replace hP : va_P (dC, dI) vwCl (mW h a k F65 V66) H := hP
                    obtain ⟨hwI, hwU, hwV, hw⟩ := hw
                    replace hU : ∀ j : Nat, j ∉ ([7, 8, 9, 10, 11, 12, 13, 14, 15, 16, 17, 18, 25, 26, 42, 43, 44] : List Nat) → F65 j = F j := mw_tr (by decide) hwU hU
                    replace hV : ∀ j : Nat, j ∉ ([22, 24, 45] : List Nat) → V66 j = V j := mw_tr (by decide) hwV hV
                    replace hI : StM n (b + 6 * i4 + 2 * i11 + 2) F V F65 V66 := hI.trans hwI
                    replace t18 : F65 18 = F 18 := (hwU 18 (by decide)).trans t18
                    obtain ⟨hw, hwe⟩ := hw
                    replace hw : (F65, V66) = f_w_to n s17 3 F15 V16 := hw
                    replace hZ9 := bn2_s hZ9 hw
                    have hlt : zc (nu (F65 7)) 40 < zc (nu (F15 7)) 40 := by rw [show F65 7 = _ from hwe]; exact nu_lt (Or.inl (ex56.symm.trans c57)) (by decide) (by rw [nI_clamp (by omega)]; omega)
                    refine lv_iconst (v := 0) hx hb dX9_oneTick_88 (by decide) ?_
                    refine lv_istore_n (lv' := [(1, .int 0), (0, .ref h)]) hx hb dX9_oneTick_89 rfl hl (by decide) rfl (fun ls hl => ?_)
                    refine lv_goto (tgt := 33) hx hb dX9_oneTick_90 (by decide) ?_
                    exact ih13 (i11 + 1) 0  F65 V66 _ _ _ (by omega) (by omega) (hI.mono (by omega)) hU hV (by omega) (by omega) t18 hZ9 hP hD hS (lv_sub hl [0, 1] rfl)
                  · replace hZ9 := ite_t hZ9 c63
                    refine lv_iconst (v := 0) hx hb dX9_oneTick_80 (by decide) ?_
                    refine lv_goto (tgt := 85) hx hb dX9_oneTick_81 (by decide) ?_
                    have hFc := mw_free hD hS hA
                    refine va_callv (va_runV (As := [.int (nI s17), .int 0]) (rest := []) ⟨hx, hb, hml, hown, hts⟩ (c_w_to l dC dI h a k F15 V16 n (b + 6 * i4 + 2 * i11) s17 0 H.size hI.1 (by omega) (by omega)) (cwV 2 hts wc_w_oneTick_w_to_211 rfl rfl rfl (by decide +kernel) ⟨Nat.le_of_ble_eq_true rfl, Nat.le_of_ble_eq_true rfl⟩) ⟨fun a9 U g mk q => by obtain ⟨q0, q1, qP, qK, qD⟩ := q; exact ⟨q0, q1, qP, va_K.moved (u := U) (U := U.calling g mk a9) (Vm.Alike.refl U.vm) qK, qD⟩, va_recv hK hP (ci := 10) (q0 := 0) rfl rfl, fun U hU hW => ⟨rfl, by rw [hU], by rw [hU]; exact hP, va_K.moved hW.alike hK, hD.weaken (fun _ _ _ _ => trivial)⟩⟩ rfl rfl hl.1 rfl (lv_room (Nat.le_of_ble_eq_true rfl)) dX9_oneTick_85 ⟨Nat.le_of_ble_eq_true rfl, Nat.le_of_ble_eq_true rfl⟩) hS (fun q _ h => hFc q h) hFc (fun u t H1 locs ht hvm hw hB hz1 hk1 hS => ?_)
                    obtain ⟨F68, V69⟩ := u
                    replace hP := hB.1
                    rw [ht] at hP
                    replace hD : va_D A (mW h a k F68 V69) := hB.2.weaken (fun _ q _ h9 => hFc q.1 h9)
                    clear hB
                    generalize H1 = H at hP hS ⊢
                    replace hP : va_P (dC, dI) vwCl (mW h a k F68 V69) H := hP
                    obtain ⟨hwI, hwU, hwV, hw⟩ := hw
                    replace hU : ∀ j : Nat, j ∉ ([7, 8, 9, 10, 11, 12, 13, 14, 15, 16, 17, 18, 25, 26, 42, 43, 44] : List Nat) → F68 j = F j := mw_tr (by decide) hwU hU
                    replace hV : ∀ j : Nat, j ∉ ([22, 24, 45] : List Nat) → V69 j = V j := mw_tr (by decide) hwV hV
                    replace hI : StM n (b + 6 * i4 + 2 * i11 + 2) F V F68 V69 := hI.trans hwI
                    replace t18 : F68 18 = F 18 := (hwU 18 (by decide)).trans t18
                    obtain ⟨hw, hwe⟩ := hw
                    replace hw : (F68, V69) = f_w_to n s17 0 F15 V16 := hw
                    replace hZ9 := bn2_s hZ9 hw
                    have hlt : zc (nu (F68 7)) 40 < zc (nu (F15 7)) 40 := by rw [show F68 7 = _ from hwe]; exact nu_lt (Or.inl (ex56.symm.trans c57)) (by decide) (by rw [nI_clamp (by omega)]; omega)
                    refine lv_iconst (v := 0) hx hb dX9_oneTick_88 (by decide) ?_
                    refine lv_istore_n (lv' := [(1, .int 0), (0, .ref h)]) hx hb dX9_oneTick_89 rfl hl (by decide) rfl (fun ls hl => ?_)
                    refine lv_goto (tgt := 33) hx hb dX9_oneTick_90 (by decide) ?_
                    exact ih13 (i11 + 1) 0  F68 V69 _ _ _ (by omega) (by omega) (hI.mono (by omega)) hU hV (by omega) (by omega) t18 hZ9 hP hD hS (lv_sub hl [0, 1] rfl)
              · replace hZ9 := ite_f hZ9 c57
                refine lv_aload_n hx hb dX9_oneTick_51 rfl (lv_at hl 1 rfl) ?_
                refine va_get (D := (dC, dI)) (ci := 10) (v := .ref (a 7)) (C := RX9) (T := TX9) (N := 46) hx hb hts in_w_oneTick_X9 hown hK hP 0 rfl rfl 7 (by decide) (hts (.fieldLink RX9 31 "ServiceTreeModel" "state" "[I") (by decide +kernel)) (fun _ h9 => h9) rfl dX9_oneTick_52 ?_
                refine lv_iload_n hx hb dX9_oneTick_55 rfl (lv_at hl 0 rfl) ?_
                refine va_iald (n := 40) (f := F15 7) hx hb hK hP 8 7 rfl rfl (vp_in_nI (n := s17) (by omega) (by decide)) dX9_oneTick_56 ?_
                refine p1_topr (v := .int x56) (congrArg Value.int ex56.symm) ?_
                refine lv_iconst (v := 2) hx hb dX9_oneTick_57 (by decide) ?_
                refine lv_icmp_ne (tgt := 93) hx hb dX9_oneTick_58 (by decide) (fun c71 => ?_) (fun c71 => ?_)
                · replace hZ9 := ite_f hZ9 c71
                  refine lv_iinc (v := nI (s17 + 1)) (lv' := [(1, .int (nI (s17 + 1))), (0, .ref h)]) hx hb dX9_oneTick_93 hl (k := 0) rfl (nI_add s17 1) (by decide) rfl (fun ls hl => ?_)
                  refine lv_goto (tgt := 33) hx hb dX9_oneTick_96 (by decide) ?_
                  exact ih13 i11 (s17 + 1)  F15 V16 _ _ _ (by omega) (by omega) (hI.mono (by omega)) hU hV (by omega) (by omega) t18 hZ9 hP hD hS (lv_sub hl [0, 1] rfl)
                · replace hZ9 := ite_t hZ9 c71
                  refine lv_aload_n hx hb dX9_oneTick_61 rfl (lv_at hl 1 rfl) ?_
                  refine lv_iload_n hx hb dX9_oneTick_62 rfl (lv_at hl 0 rfl) ?_
                  have hFc := mw_free hD hS hA
                  refine va_calli (va_runV (As := [.int (nI s17)]) (rest := []) ⟨hx, hb, hml, hown, hts⟩ (c_w_hasNeeds l dC dI h a k F15 V16 n (b + 6 * i4 + 2 * i11) s17 H.size hI.1 (by omega) (by omega)) (cwV 1 hts wc_w_oneTick_w_hasNeeds_231 rfl rfl rfl (by decide +kernel) ⟨Nat.le_of_ble_eq_true rfl, Nat.le_of_ble_eq_true rfl⟩) ⟨fun a9 U g mk q => by obtain ⟨q0, q1, qP, qK, qD⟩ := q; exact ⟨q0, q1, qP, va_K.moved (u := U) (U := U.calling g mk a9) (Vm.Alike.refl U.vm) qK, qD⟩, va_recv hK hP (ci := 10) (q0 := 0) rfl rfl, fun U hU hW => ⟨rfl, by rw [hU], by rw [hU]; exact hP, va_K.moved hW.alike hK, hD.weaken (fun _ _ _ _ => trivial)⟩⟩ rfl rfl hl.1 rfl (lv_room (Nat.le_of_ble_eq_true rfl)) dX9_oneTick_63 ⟨Nat.le_of_ble_eq_true rfl, Nat.le_of_ble_eq_true rfl⟩) hS (fun q _ h => hFc q h) hFc (fun r72 u t H1 locs ht hvm hw hB hz1 hk1 hS => ?_)
                  obtain ⟨F73, V74⟩ := u
                  replace hP := hB.1
                  rw [ht] at hP
                  replace hD : va_D A (mW h a k F73 V74) := hB.2.weaken (fun _ q _ h9 => hFc q.1 h9)
                  clear hB
                  generalize H1 = H at hP hS ⊢
                  replace hP : va_P (dC, dI) vwCl (mW h a k F73 V74) H := hP
                  obtain ⟨hwF, hwV, hw⟩ : F73 = F15 ∧ V74 = V16 ∧ _ := hw
                  rw [hwF, hwV] at hP hD
                  obtain ⟨hw, hwe⟩ := hw
                  replace hw : r72 = f_w_hasNeeds n s17 F15 := hw
                  replace hZ9 := bnd_s hZ9 hw
                  have br72 := hwe
                  refine lv_if_ne (tgt := 93) hx hb dX9_oneTick_66 (by decide) (fun c75 => ?_) (fun c75 => ?_)
                  · replace hZ9 := ite_f hZ9 c75
                    refine lv_iinc (v := nI (s17 + 1)) (lv' := [(1, .int (nI (s17 + 1))), (0, .ref h)]) hx hb dX9_oneTick_93 hl (k := 0) rfl (nI_add s17 1) (by decide) rfl (fun ls hl => ?_)
                    refine lv_goto (tgt := 33) hx hb dX9_oneTick_96 (by decide) ?_
                    exact ih13 i11 (s17 + 1)  F15 V16 _ _ _ (by omega) (by omega) (hI.mono (by omega)) hU hV (by omega) (by omega) t18 hZ9 hP hD hS (lv_sub hl [0, 1] rfl)
                  · replace hZ9 := ite_t hZ9 c75
                    refine lv_aload_n hx hb dX9_oneTick_69 rfl (lv_at hl 1 rfl) ?_
                    refine lv_iload_n hx hb dX9_oneTick_70 rfl (lv_at hl 0 rfl) ?_
                    refine lv_aload_n hx hb dX9_oneTick_71 rfl (lv_at hl 1 rfl) ?_
                    refine va_get (D := (dC, dI)) (ci := 10) (v := .ref (a 2)) (C := RX9) (T := TX9) (N := 46) hx hb hts in_w_oneTick_X9 hown hK hP 0 rfl rfl 2 (by decide) (hts (.fieldLink RX9 16 "ServiceTreeModel" "stop" "[I") (by decide +kernel)) (fun _ h9 => h9) rfl dX9_oneTick_72 ?_
                    refine lv_iload_n hx hb dX9_oneTick_75 rfl (lv_at hl 0 rfl) ?_
                    refine va_iald (n := 40) (f := F15 2) hx hb hK hP 3 2 rfl rfl (vp_in_nI (n := s17) (by omega) (by decide)) dX9_oneTick_76 ?_
                    refine lv_topi (fun x76 ex76 => ?_)
                    replace hZ9 := bnd_s hZ9 ex76
                    refine lv_if_ne (tgt := 84) hx hb dX9_oneTick_77 (by decide) (fun c77 => ?_) (fun c77 => ?_)
                    · replace hZ9 := ite_f hZ9 c77
                      refine lv_iconst (v := 3) hx hb dX9_oneTick_84 (by decide) ?_
                      have hFc := mw_free hD hS hA
                      refine va_callv (va_runV (As := [.int (nI s17), .int 3]) (rest := []) ⟨hx, hb, hml, hown, hts⟩ (c_w_to l dC dI h a k F15 V16 n (b + 6 * i4 + 2 * i11) s17 3 H.size hI.1 (by omega) (by omega)) (cwV 2 hts wc_w_oneTick_w_to_211 rfl rfl rfl (by decide +kernel) ⟨Nat.le_of_ble_eq_true rfl, Nat.le_of_ble_eq_true rfl⟩) ⟨fun a9 U g mk q => by obtain ⟨q0, q1, qP, qK, qD⟩ := q; exact ⟨q0, q1, qP, va_K.moved (u := U) (U := U.calling g mk a9) (Vm.Alike.refl U.vm) qK, qD⟩, va_recv hK hP (ci := 10) (q0 := 0) rfl rfl, fun U hU hW => ⟨rfl, by rw [hU], by rw [hU]; exact hP, va_K.moved hW.alike hK, hD.weaken (fun _ _ _ _ => trivial)⟩⟩ rfl rfl hl.1 rfl (lv_room (Nat.le_of_ble_eq_true rfl)) dX9_oneTick_85 ⟨Nat.le_of_ble_eq_true rfl, Nat.le_of_ble_eq_true rfl⟩) hS (fun q _ h => hFc q h) hFc (fun u t H1 locs ht hvm hw hB hz1 hk1 hS => ?_)
                      obtain ⟨F79, V80⟩ := u
                      replace hP := hB.1
                      rw [ht] at hP
                      replace hD : va_D A (mW h a k F79 V80) := hB.2.weaken (fun _ q _ h9 => hFc q.1 h9)
                      clear hB
                      generalize H1 = H at hP hS ⊢
                      replace hP : va_P (dC, dI) vwCl (mW h a k F79 V80) H := hP
                      obtain ⟨hwI, hwU, hwV, hw⟩ := hw
                      replace hU : ∀ j : Nat, j ∉ ([7, 8, 9, 10, 11, 12, 13, 14, 15, 16, 17, 18, 25, 26, 42, 43, 44] : List Nat) → F79 j = F j := mw_tr (by decide) hwU hU
                      replace hV : ∀ j : Nat, j ∉ ([22, 24, 45] : List Nat) → V80 j = V j := mw_tr (by decide) hwV hV
                      replace hI : StM n (b + 6 * i4 + 2 * i11 + 2) F V F79 V80 := hI.trans hwI
                      replace t18 : F79 18 = F 18 := (hwU 18 (by decide)).trans t18
                      obtain ⟨hw, hwe⟩ := hw
                      replace hw : (F79, V80) = f_w_to n s17 3 F15 V16 := hw
                      replace hZ9 := bn2_s hZ9 hw
                      have hlt : zc (nu (F79 7)) 40 < zc (nu (F15 7)) 40 := by rw [show F79 7 = _ from hwe]; exact nu_lt (Or.inr (ex56.symm.trans c71)) (by decide) (by rw [nI_clamp (by omega)]; omega)
                      refine lv_iconst (v := 0) hx hb dX9_oneTick_88 (by decide) ?_
                      refine lv_istore_n (lv' := [(1, .int 0), (0, .ref h)]) hx hb dX9_oneTick_89 rfl hl (by decide) rfl (fun ls hl => ?_)
                      refine lv_goto (tgt := 33) hx hb dX9_oneTick_90 (by decide) ?_
                      exact ih13 (i11 + 1) 0  F79 V80 _ _ _ (by omega) (by omega) (hI.mono (by omega)) hU hV (by omega) (by omega) t18 hZ9 hP hD hS (lv_sub hl [0, 1] rfl)
                    · replace hZ9 := ite_t hZ9 c77
                      refine lv_iconst (v := 0) hx hb dX9_oneTick_80 (by decide) ?_
                      refine lv_goto (tgt := 85) hx hb dX9_oneTick_81 (by decide) ?_
                      have hFc := mw_free hD hS hA
                      refine va_callv (va_runV (As := [.int (nI s17), .int 0]) (rest := []) ⟨hx, hb, hml, hown, hts⟩ (c_w_to l dC dI h a k F15 V16 n (b + 6 * i4 + 2 * i11) s17 0 H.size hI.1 (by omega) (by omega)) (cwV 2 hts wc_w_oneTick_w_to_211 rfl rfl rfl (by decide +kernel) ⟨Nat.le_of_ble_eq_true rfl, Nat.le_of_ble_eq_true rfl⟩) ⟨fun a9 U g mk q => by obtain ⟨q0, q1, qP, qK, qD⟩ := q; exact ⟨q0, q1, qP, va_K.moved (u := U) (U := U.calling g mk a9) (Vm.Alike.refl U.vm) qK, qD⟩, va_recv hK hP (ci := 10) (q0 := 0) rfl rfl, fun U hU hW => ⟨rfl, by rw [hU], by rw [hU]; exact hP, va_K.moved hW.alike hK, hD.weaken (fun _ _ _ _ => trivial)⟩⟩ rfl rfl hl.1 rfl (lv_room (Nat.le_of_ble_eq_true rfl)) dX9_oneTick_85 ⟨Nat.le_of_ble_eq_true rfl, Nat.le_of_ble_eq_true rfl⟩) hS (fun q _ h => hFc q h) hFc (fun u t H1 locs ht hvm hw hB hz1 hk1 hS => ?_)
                      obtain ⟨F82, V83⟩ := u
                      replace hP := hB.1
                      rw [ht] at hP
                      replace hD : va_D A (mW h a k F82 V83) := hB.2.weaken (fun _ q _ h9 => hFc q.1 h9)
                      clear hB
                      generalize H1 = H at hP hS ⊢
                      replace hP : va_P (dC, dI) vwCl (mW h a k F82 V83) H := hP
                      obtain ⟨hwI, hwU, hwV, hw⟩ := hw
                      replace hU : ∀ j : Nat, j ∉ ([7, 8, 9, 10, 11, 12, 13, 14, 15, 16, 17, 18, 25, 26, 42, 43, 44] : List Nat) → F82 j = F j := mw_tr (by decide) hwU hU
                      replace hV : ∀ j : Nat, j ∉ ([22, 24, 45] : List Nat) → V83 j = V j := mw_tr (by decide) hwV hV
                      replace hI : StM n (b + 6 * i4 + 2 * i11 + 2) F V F82 V83 := hI.trans hwI
                      replace t18 : F82 18 = F 18 := (hwU 18 (by decide)).trans t18
                      obtain ⟨hw, hwe⟩ := hw
                      replace hw : (F82, V83) = f_w_to n s17 0 F15 V16 := hw
                      replace hZ9 := bn2_s hZ9 hw
                      have hlt : zc (nu (F82 7)) 40 < zc (nu (F15 7)) 40 := by rw [show F82 7 = _ from hwe]; exact nu_lt (Or.inr (ex56.symm.trans c71)) (by decide) (by rw [nI_clamp (by omega)]; omega)
                      refine lv_iconst (v := 0) hx hb dX9_oneTick_88 (by decide) ?_
                      refine lv_istore_n (lv' := [(1, .int 0), (0, .ref h)]) hx hb dX9_oneTick_89 rfl hl (by decide) rfl (fun ls hl => ?_)
                      refine lv_goto (tgt := 33) hx hb dX9_oneTick_90 (by decide) ?_
                      exact ih13 (i11 + 1) 0  F82 V83 _ _ _ (by omega) (by omega) (hI.mono (by omega)) hU hV (by omega) (by omega) t18 hZ9 hP hD hS (lv_sub hl [0, 1] rfl)
        exact lp14 1682 0 0  F8 V9 _ _ _ (show zc (nu (F8 7)) 40 * 41 + (n - 0) < 1682 by have := zc_le (nu (F8 7)) 40; omega) (by omega) (hI.mono (by omega)) hU hV (show 0 + zc (nu (F8 7)) 40 ≤ 40 by have := zc_le (nu (F8 7)) 40; omega) (by omega) t18 hZ9 hP hD hS hl
      · replace c10 : ¬ (n ≤ i4) := fun q9 => c10 ((nI_leI (a := n) (b := i4) (by omega) (by omega)).mpr q9)
        replace hZ9 := ite_f hZ9 c10
        refine lv_aload_n hx hb dX9_oneTick_20 rfl (lv_at hl 1 rfl) ?_
        refine lv_iload_n hx hb dX9_oneTick_21 rfl (lv_at hl 0 rfl) ?_
        have hFc := mw_free hD hS hA
        refine va_callv (va_runV (As := [.int (nI i4)]) (rest := []) ⟨hx, hb, hml, hown, hts⟩ (c_w_step l dC dI h a k F8 V9 n (b + 6 * i4) i4 H.size hI.1 (by omega) (by omega)) (cwV 1 hts wc_w_oneTick_w_step_240 rfl rfl rfl (by decide +kernel) ⟨Nat.le_of_ble_eq_true rfl, Nat.le_of_ble_eq_true rfl⟩) ⟨fun a9 U g mk q => by obtain ⟨q0, q1, qP, qK, qD⟩ := q; exact ⟨q0, q1, qP, va_K.moved (u := U) (U := U.calling g mk a9) (Vm.Alike.refl U.vm) qK, qD⟩, va_recv hK hP (ci := 10) (q0 := 0) rfl rfl, fun U hU hW => ⟨rfl, by rw [hU], by rw [hU]; exact hP, va_K.moved hW.alike hK, hD.weaken (fun _ _ _ _ => trivial)⟩⟩ rfl rfl hl.1 rfl (lv_room (Nat.le_of_ble_eq_true rfl)) dX9_oneTick_22 ⟨Nat.le_of_ble_eq_true rfl, Nat.le_of_ble_eq_true rfl⟩) hS (fun q _ h => hFc q h) hFc (fun u t H1 locs ht hvm hw hB hz1 hk1 hS => ?_)
        obtain ⟨F85, V86⟩ := u
        replace hP := hB.1
        rw [ht] at hP
        replace hD : va_D A (mW h a k F85 V86) := hB.2.weaken (fun _ q _ h9 => hFc q.1 h9)
        clear hB
        generalize H1 = H at hP hS ⊢
        replace hP : va_P (dC, dI) vwCl (mW h a k F85 V86) H := hP
        obtain ⟨hwI, hwU, hwV, hw⟩ := hw
        replace hU : ∀ j : Nat, j ∉ ([7, 8, 9, 10, 11, 12, 13, 14, 15, 16, 17, 18, 25, 26, 42, 43, 44] : List Nat) → F85 j = F j := mw_tr (by decide) hwU hU
        replace hV : ∀ j : Nat, j ∉ ([22, 24, 45] : List Nat) → V86 j = V j := mw_tr (by decide) hwV hV
        replace hI : StM n (b + 6 * i4 + 6) F V F85 V86 := hI.trans hwI
        replace t18 : F85 18 = F 18 := (hwU 18 (by decide)).trans t18
        replace hw : (F85, V86) = f_w_step n i4 F8 V9 := hw
        replace hZ9 := bn2_s hZ9 hw
        refine lv_iinc (v := nI (i4 + 1)) (lv' := [(1, .int (nI (i4 + 1))), (0, .ref h)]) hx hb dX9_oneTick_25 hl (k := 0) rfl (nI_add i4 1) (by decide) rfl (fun ls hl => ?_)
        refine lv_goto (tgt := 12) hx hb dX9_oneTick_28 (by decide) ?_
        exact ih6 (i4 + 1)  F85 V86 _ _ _ (by omega) (by omega) (hI.mono (by omega)) hU hV t18 hZ9 hP hD hS (lv_sub hl [0, 1] rfl)
  exact lp7 (n + 1) 0  F V3 _ _ _ (by omega) (by omega) (hI.mono (by omega)) hU hV t18 hZ9 hP hD hS hl
def f_w_tick_16 (n : Nat) (N : Nat) : Nat → Nat → (Nat → Nat → Int32) → (Nat → Int32) → (Nat → (Nat → Nat → Int32) → (Nat → Int32) → Int32 × (Nat → Nat → Int32) × (Nat → Int32)) → Int32 × (Nat → Nat → Int32) × (Nat → Int32)
  | 0, i3, F7, V8, K9_16 => K9_16 i3 F7 V8
  | fu4 + 1, i3, F7, V8, K9_16 => if N ≤ i3 then (K9_16 i3 F7 V8) else (bn2 (f_w_oneTick n  F7 V8) (fun (F12 : Nat → Nat → Int32) (V13 : Nat → Int32) => f_w_tick_16 n N fu4 (i3 + 1) F12 V13 K9_16))
def f_w_tick (n : Nat) (p0 : Int32) (F : Nat → Nat → Int32) (V : Nat → Int32) : Int32 × (Nat → Nat → Int32) × (Nat → Int32) := if p0 < (1 : Int32) then (((-1 : Int32), F, V)) else (if p0 ≤ (1000 : Int32) then (bnd (p0.toNatClampNeg) (fun (N : Nat) => f_w_tick_16 n N (N + 1) (0 : Nat) F V (fun (i3 : Nat) (F7 : Nat → Nat → Int32) (V8 : Nat → Int32) => bnd (V8 22) (fun (x10 : Int32) => (x10, F7, V8))))) else (((-1 : Int32), F, V)))
def wq_w_tick : List Cond := ([.code yX9_tick cX9_tick 3 (some .int), .fieldLink RX9 129 "ServiceTreeModel" "tick" "I", .methodLink RX9 246 yX9_oneTick, .instanceMethod yX9_oneTick, .selects RX9 yX9_oneTick yX9_oneTick, .initialized RX9] : List Cond) ++ (wsX90 ++ (wq_w_oneTick))
theorem in_w_tick_X9 : ∀ w ∈ wsX90, w ∈ wq_w_tick := fun _ h => List.mem_append_right _ (List.mem_append_left _ (h))
set_option maxRecDepth 20000 in
theorem wi_w_tick : ∀ w ∈ wq_w_tick, w ∈ lw_tbl := List.forall_mem_append.mpr ⟨(wix [1120, 874, 1121, 1123, 54, 69] rfl), List.forall_mem_append.mpr ⟨inKX9, wi_w_oneTick⟩⟩
set_option maxRecDepth 20000 in
theorem wg_w_tick : GoodIn wq_w_tick wq_w_tick := goodIn_sub (fun _ h => h) (by decide +kernel)
set_option maxRecDepth 20000 in
theorem wc_w_tick_w_oneTick_246 : GoodIn wq_w_tick (wsV RX9 246 RX9 yX9_oneTick wq_w_oneTick) := goodIn_app (goodIn_of _ (by decide +kernel)) (fun w h => ⟨List.mem_append_right _ (List.mem_append_right _ (h)), (wg_w_oneTick w h).2⟩)
def rm_w_tick : Room := { frames := 5, cells := 0, slots := 0, locals := 114 }
set_option maxHeartbeats 4000000 in
set_option maxRecDepth 100000 in
theorem c_w_tick (l : Launch) (dC : Nat → ClassId) (dI : Nat → Nat → Nat) (h : Nat) (a : Nat → Nat) (k : Nat → ClassId) (F : Nat → Nat → Int32) (V : Nat → Int32) (n b : Nat) (p0 : Int32) (sz : Nat) (hI0 : InvM n b F V) (hb0 : b + 402000 < 2147483648)  : Met l yX9_tick wq_w_tick rm_w_tick (va_Pc [.ref h, .int p0] (fun U => U.heap.size = sz ∧ va_P (dC, dI) vwCl (mW h a k F V) U.heap ∧ va_K (dC, dI) vwCl (mT k) U ∧ va_D (fun _ => True) (mW h a k F V))) (va_Qi (fun (r : Int32) (u : (Nat → Nat → Int32) × (Nat → Int32)) => StM n (b + 402000) F V u.1 u.2 ∧ (∀ j : Nat, j ∉ ([7, 8, 9, 10, 11, 12, 13, 14, 15, 16, 17, 18, 25, 26, 42, 43, 44] : List Nat) → u.1 j = F j) ∧ (∀ j : Nat, j ∉ ([22, 24, 45] : List Nat) → u.2 j = V j) ∧ ((r, u.1, u.2) = f_w_tick n p0 F V)) (fun (u : (Nat → Nat → Int32) × (Nat → Int32)) (t : State) => va_P (dC, dI) vwCl (mW h a k u.1 u.2) t.heap ∧ va_D (va_A (mW h a k F V) sz) (mW h a k u.1 u.2)) (va_A (mW h a k F V) sz)) 0 0 (va_A (mW h a k F V) sz) := by
  have hn : n ≤ 40 := hI0.1
  have hI : StM n b F V F V := StM.rf hI0
  have hU : ∀ j : Nat, j ∉ ([7, 8, 9, 10, 11, 12, 13, 14, 15, 16, 17, 18, 25, 26, 42, 43, 44] : List Nat) → F j = F j := fun _ _ => rfl
  have hV : ∀ j : Nat, j ∉ ([22, 24, 45] : List Nat) → V j = V j := fun _ _ => rfl
  refine Met.ofW (cc := cX9_tick) (maxL := 3) (ret := (some .int)) (by decide) rfl ?_
  intro p e s m args below meth c s₁ B hml hv
  obtain ⟨rfl, hsz, hP, hK, hD0⟩ := hv
  have hx := B.exec
  have hb := B.bytes
  have hr := B.returns
  have hts := atoms_spec (ws := wq_w_tick) B.pre
  have hown : s.vm.findClass RX9 = some m.cls := findClass_of_methodNamed B.named
  have hlocks := B.notSynchronized
  subst hsz
  have hD := hD0.self (sz := s.heap.size)
  generalize hAe : va_A (mW h a k F V) s.heap.size = A at hD ⊢
  have hA : ∀ q : Nat, s.heap.size ≤ q → A q := fun q h => by rw [← hAe]; exact Or.inr h
  have hS : va_S A s.heap s.heap [] := va_S.rf
  have hl := lv_entry ([.ref h, .int p0]) (n := 3) (Nat.le_of_ble_eq_true rfl)
  rw [lg_entry_eq]
  generalize (lg_sl ([.ref h, .int p0]) ++ List.replicate (3 - (lg_sl ([.ref h, .int p0])).length) Slot.unset).toArray = ls at hl ⊢
  have hl : lv_has ls 3 [(0, .ref h), (1, .int p0)] := hl
  refine mw_Q (fun Q0 hQ => ?_)
  obtain ⟨RES, hR0⟩ : ∃ R9, R9 = f_w_tick n p0 F V := ⟨_, rfl⟩
  have hZ9 := hR0
  unfold f_w_tick at hZ9
  refine lv_iload_n hx hb dX9_tick_0 rfl (lv_at hl 1 rfl) ?_
  refine lv_iconst (v := 1) hx hb dX9_tick_1 (by decide) ?_
  refine lv_icmp_lt (tgt := 12) hx hb dX9_tick_2 (by decide) (fun c1 => ?_) (fun c1 => ?_)
  · replace hZ9 := ite_t hZ9 c1
    refine lv_iconst (v := (-1)) hx hb dX9_tick_12 (by decide) ?_
    rw [hQ]
    exact W.iret (v := (-1)) hx hb hr (fun t ht hW => ⟨⟨(-1), (F, V), rfl, ⟨hI.mono (by omega), hU, hV, hZ9.symm.trans hR0⟩, by rw [ht]; exact hP, hD⟩, hS.F ht⟩) hS.2.2 dX9_tick_13
  · replace hZ9 := ite_f hZ9 c1
    refine lv_iload_n hx hb dX9_tick_5 rfl (lv_at hl 1 rfl) ?_
    refine lv_sipush (v := 1000) hx hb dX9_tick_6 (by decide) ?_
    refine lv_icmp_le (tgt := 14) hx hb dX9_tick_9 (by decide) (fun c2 => ?_) (fun c2 => ?_)
    · replace hZ9 := ite_t hZ9 c2
      have hok : 1 ≤ p0 ∧ p0 ≤ 1000 := by have k0 := c1; have k1 := c2; simp only [p1_le, p1_lt, p1_eq, p1_m6, p1_m1, p1_0, p1_1, p1_2, p1_3, p1_4, p1_5, p1_6, p1_7, p1_8, p1_9, p1_10, p1_11, p1_12, p1_13, p1_14, p1_15, p1_16, p1_17, p1_18, p1_19, p1_20, p1_40, p1_50, p1_200, p1_1000] at k0 k1 ⊢; omega
      obtain ⟨N, hNb, eN⟩ := nI_of2 (x := p0) (M := 1000) (n := 1000) (by decide) (by have k0 := hok; simp only [p1_le, p1_lt, p1_eq, p1_m6, p1_m1, p1_0, p1_1, p1_2, p1_3, p1_4, p1_5, p1_6, p1_7, p1_8, p1_9, p1_10, p1_11, p1_12, p1_13, p1_14, p1_15, p1_16, p1_17, p1_18, p1_19, p1_20, p1_40, p1_50, p1_200, p1_1000] at k0 ⊢; omega) hok.2
      replace hZ9 := bnd_s hZ9 (show N = p0.toNatClampNeg by rw [eN, nI_clamp (by omega)])
      subst eN
      refine lv_iconst (v := 0) hx hb dX9_tick_14 (by decide) ?_
      refine lv_istore_n (lv' := [(2, .int 0), (0, .ref h), (1, .int (nI N))]) hx hb dX9_tick_15 rfl hl (by decide) rfl (fun ls hl => ?_)
      obtain ⟨K9_16, hK9_16, hZ9⟩ := lp_gen hZ9
      have lp6 : ∀ (fu4 i3 : Nat)  (F7 : Nat → Nat → Int32) (V8 : Nat → Int32) (H : Heap) (locs : List Loc) (ls : Array Slot), N < i3 + fu4 → i3 ≤ N → StM n (b + 402 * i3) F V F7 V8 → (∀ j : Nat, j ∉ ([7, 8, 9, 10, 11, 12, 13, 14, 15, 16, 17, 18, 25, 26, 42, 43, 44] : List Nat) → F7 j = F j) → (∀ j : Nat, j ∉ ([22, 24, 45] : List Nat) → V8 j = V j) → RES = f_w_tick_16 n N fu4 i3 F7 V8 K9_16 → va_P (dC, dI) vwCl (mW h a k F7 V8) H → va_D A (mW h a k F7 V8) → va_S A s.heap H locs → lv_has ls 3 [(2, .int (nI i3)), (0, .ref h), (1, .int (nI N))] → W p l e (headSpec wq_w_tick rm_w_tick).room s m ([.ref h, .int (nI N)] : List Value).toArray below meth c H locs 0 0 Q0 (F0 m 16 ls []) := by
        intro fu4
        induction fu4 with
        | zero =>
          intro i3  F7 V8 H locs ls hf hi
          exact absurd hf (by omega)
        | succ fu4 ih5 =>
          intro i3  F7 V8 H locs ls hfi3 hii3 hI hU hV hZ9 hP hD hS hl
          rw [f_w_tick_16] at hZ9
          refine lv_iload_n hx hb dX9_tick_16 rfl (lv_at hl 0 rfl) ?_
          refine lv_iload_n hx hb dX9_tick_17 rfl (lv_at hl 2 rfl) ?_
          refine lv_icmp_ge (tgt := 31) hx hb dX9_tick_18 (by decide) (fun c9 => ?_) (fun c9 => ?_)
          · replace c9 : N ≤ i3 := (nI_leI (a := N) (b := i3) (by omega) (by omega)).mp c9
            replace hZ9 := ite_t hZ9 c9
            replace hZ9 := lp_app3 hK9_16 hZ9
            refine lv_aload_n hx hb dX9_tick_31 rfl (lv_at hl 1 rfl) ?_
            refine va_get (D := (dC, dI)) (ci := 10) (v := .int (V8 22)) (C := RX9) (T := TX9) (N := 46) hx hb hts in_w_tick_X9 hown hK hP 0 rfl rfl 22 (by decide) (hts (.fieldLink RX9 129 "ServiceTreeModel" "tick" "I") (by decide +kernel)) (fun _ h9 => h9) rfl dX9_tick_32 ?_
            refine lv_topi (fun x10 ex10 => ?_)
            replace hZ9 := bnd_s hZ9 ex10
            rw [hQ]
            exact W.iret (v := x10) hx hb hr (fun t ht hW => ⟨⟨x10, (F7, V8), rfl, ⟨hI.mono (by omega), hU, hV, hZ9.symm.trans hR0⟩, by rw [ht]; exact hP, hD⟩, hS.F ht⟩) hS.2.2 dX9_tick_35
          · replace c9 : ¬ (N ≤ i3) := fun q9 => c9 ((nI_leI (a := N) (b := i3) (by omega) (by omega)).mpr q9)
            replace hZ9 := ite_f hZ9 c9
            refine lv_aload_n hx hb dX9_tick_21 rfl (lv_at hl 1 rfl) ?_
            have hFc := mw_free hD hS hA
            refine va_callv (va_runV (As := []) (rest := []) ⟨hx, hb, hml, hown, hts⟩ (c_w_oneTick l dC dI h a k F7 V8 n (b + 402 * i3)  H.size hI.1 (by omega) ) (cwV 0 hts wc_w_tick_w_oneTick_246 rfl rfl rfl (by decide +kernel) ⟨Nat.le_of_ble_eq_true rfl, Nat.le_of_ble_eq_true rfl⟩) ⟨fun a9 U g mk q => by obtain ⟨q0, q1, qP, qK, qD⟩ := q; exact ⟨q0, q1, qP, va_K.moved (u := U) (U := U.calling g mk a9) (Vm.Alike.refl U.vm) qK, qD⟩, va_recv hK hP (ci := 10) (q0 := 0) rfl rfl, fun U hU hW => ⟨rfl, by rw [hU], by rw [hU]; exact hP, va_K.moved hW.alike hK, hD.weaken (fun _ _ _ _ => trivial)⟩⟩ rfl rfl hl.1 rfl (lv_room (Nat.le_of_ble_eq_true rfl)) dX9_tick_22 ⟨Nat.le_of_ble_eq_true rfl, Nat.le_of_ble_eq_true rfl⟩) hS (fun q _ h => hFc q h) hFc (fun u t H1 locs ht hvm hw hB hz1 hk1 hS => ?_)
            obtain ⟨F12, V13⟩ := u
            replace hP := hB.1
            rw [ht] at hP
            replace hD : va_D A (mW h a k F12 V13) := hB.2.weaken (fun _ q _ h9 => hFc q.1 h9)
            clear hB
            generalize H1 = H at hP hS ⊢
            replace hP : va_P (dC, dI) vwCl (mW h a k F12 V13) H := hP
            obtain ⟨hwI, hwU, hwV, hw⟩ := hw
            replace hU : ∀ j : Nat, j ∉ ([7, 8, 9, 10, 11, 12, 13, 14, 15, 16, 17, 18, 25, 26, 42, 43, 44] : List Nat) → F12 j = F j := mw_tr (by decide) hwU hU
            replace hV : ∀ j : Nat, j ∉ ([22, 24, 45] : List Nat) → V13 j = V j := mw_tr (by decide) hwV hV
            replace hI : StM n (b + 402 * i3 + 402) F V F12 V13 := hI.trans hwI
            replace hw : (F12, V13) = f_w_oneTick n  F7 V8 := hw
            replace hZ9 := bn2_s hZ9 hw
            refine lv_iinc (v := nI (i3 + 1)) (lv' := [(2, .int (nI (i3 + 1))), (0, .ref h), (1, .int (nI N))]) hx hb dX9_tick_25 hl (k := 0) rfl (nI_add i3 1) (by decide) rfl (fun ls hl => ?_)
            refine lv_goto (tgt := 16) hx hb dX9_tick_28 (by decide) ?_
            exact ih5 (i3 + 1)  F12 V13 _ _ _ (by omega) (by omega) (hI.mono (by omega)) hU hV  hZ9 hP hD hS (lv_sub hl [0, 1, 2] rfl)
      exact lp6 (N + 1) 0  F V _ _ _ (by omega) (by omega) (hI.mono (by omega)) hU hV  hZ9 hP hD hS hl
    · replace hZ9 := ite_f hZ9 c2
      refine lv_iconst (v := (-1)) hx hb dX9_tick_12 (by decide) ?_
      rw [hQ]
      exact W.iret (v := (-1)) hx hb hr (fun t ht hW => ⟨⟨(-1), (F, V), rfl, ⟨hI.mono (by omega), hU, hV, hZ9.symm.trans hR0⟩, by rw [ht]; exact hP, hD⟩, hS.F ht⟩) hS.2.2 dX9_tick_13

end
