theorem dX6_allow_0 : decode cX6_allow 0 = .ok (.aload_n 0, 1) := by decide +kernel
theorem dX6_allow_1 : decode cX6_allow 1 = .ok (.iload_n 1, 1) := by decide +kernel
theorem dX6_allow_2 : decode cX6_allow 2 = .ok (.putfield 15, 3) := by decide +kernel
theorem dX6_allow_5 : decode cX6_allow 5 = .ok (.aload_n 0, 1) := by decide +kernel
theorem dX6_allow_6 : decode cX6_allow 6 = .ok (.iload_n 2, 1) := by decide +kernel
theorem dX6_allow_7 : decode cX6_allow 7 = .ok (.putfield 22, 3) := by decide +kernel
theorem dX6_allow_10 : decode cX6_allow 10 = .ok (.aload_n 0, 1) := by decide +kernel
theorem dX6_allow_11 : decode cX6_allow 11 = .ok (.iload_n 3, 1) := by decide +kernel
theorem dX6_allow_12 : decode cX6_allow 12 = .ok (.putfield 19, 3) := by decide +kernel
theorem dX6_allow_15 : decode cX6_allow 15 = .ok (.return_, 1) := by decide +kernel
theorem dX6_note_0 : decode cX6_note 0 = .ok (.aload_n 0, 1) := by decide +kernel
theorem dX6_note_1 : decode cX6_note 1 = .ok (.getfield 9, 3) := by decide +kernel
theorem dX6_note_4 : decode cX6_note 4 = .ok (.aload_n 0, 1) := by decide +kernel
theorem dX6_note_5 : decode cX6_note 5 = .ok (.getfield 25, 3) := by decide +kernel
theorem dX6_note_8 : decode cX6_note 8 = .ok (.iload_n 1, 1) := by decide +kernel
theorem dX6_note_9 : decode cX6_note 9 = .ok (.iastore, 1) := by decide +kernel
theorem dX6_note_10 : decode cX6_note 10 = .ok (.aload_n 0, 1) := by decide +kernel
theorem dX6_note_11 : decode cX6_note 11 = .ok (.aload_n 0, 1) := by decide +kernel
theorem dX6_note_12 : decode cX6_note 12 = .ok (.getfield 25, 3) := by decide +kernel
theorem dX6_note_15 : decode cX6_note 15 = .ok (.iconst 1, 1) := by decide +kernel
theorem dX6_note_16 : decode cX6_note 16 = .ok (.iadd, 1) := by decide +kernel
theorem dX6_note_17 : decode cX6_note 17 = .ok (.bipush 10, 2) := by decide +kernel
theorem dX6_note_19 : decode cX6_note 19 = .ok (.irem, 1) := by decide +kernel
theorem dX6_note_20 : decode cX6_note 20 = .ok (.putfield 25, 3) := by decide +kernel
theorem dX6_note_23 : decode cX6_note 23 = .ok (.aload_n 0, 1) := by decide +kernel
theorem dX6_note_24 : decode cX6_note 24 = .ok (.getfield 28, 3) := by decide +kernel
theorem dX6_note_27 : decode cX6_note 27 = .ok (.bipush 10, 2) := by decide +kernel
theorem dX6_note_29 : decode cX6_note 29 = .ok (.if_icmp .ge 13, 3) := by decide +kernel
theorem dX6_note_32 : decode cX6_note 32 = .ok (.aload_n 0, 1) := by decide +kernel
theorem dX6_note_33 : decode cX6_note 33 = .ok (.dup, 1) := by decide +kernel
theorem dX6_note_34 : decode cX6_note 34 = .ok (.getfield 28, 3) := by decide +kernel
theorem dX6_note_37 : decode cX6_note 37 = .ok (.iconst 1, 1) := by decide +kernel
theorem dX6_note_38 : decode cX6_note 38 = .ok (.iadd, 1) := by decide +kernel
theorem dX6_note_39 : decode cX6_note 39 = .ok (.putfield 28, 3) := by decide +kernel
theorem dX6_note_42 : decode cX6_note 42 = .ok (.return_, 1) := by decide +kernel
theorem dX6_allowed_0 : decode cX6_allowed 0 = .ok (.aload_n 0, 1) := by decide +kernel
theorem dX6_allowed_1 : decode cX6_allowed 1 = .ok (.getfield 22, 3) := by decide +kernel
theorem dX6_allowed_4 : decode cX6_allowed 4 = .ok (.ifCond .ne 5, 3) := by decide +kernel
theorem dX6_allowed_7 : decode cX6_allowed 7 = .ok (.iconst 0, 1) := by decide +kernel
theorem dX6_allowed_8 : decode cX6_allowed 8 = .ok (.ireturn, 1) := by decide +kernel
theorem dX6_allowed_9 : decode cX6_allowed 9 = .ok (.aload_n 0, 1) := by decide +kernel
theorem dX6_allowed_10 : decode cX6_allowed 10 = .ok (.getfield 28, 3) := by decide +kernel
theorem dX6_allowed_13 : decode cX6_allowed 13 = .ok (.aload_n 0, 1) := by decide +kernel
theorem dX6_allowed_14 : decode cX6_allowed 14 = .ok (.getfield 22, 3) := by decide +kernel
theorem dX6_allowed_17 : decode cX6_allowed 17 = .ok (.if_icmp .ge 5, 3) := by decide +kernel
theorem dX6_allowed_20 : decode cX6_allowed 20 = .ok (.iconst 1, 1) := by decide +kernel
theorem dX6_allowed_21 : decode cX6_allowed 21 = .ok (.ireturn, 1) := by decide +kernel
theorem dX6_allowed_22 : decode cX6_allowed 22 = .ok (.aload_n 0, 1) := by decide +kernel
theorem dX6_allowed_23 : decode cX6_allowed 23 = .ok (.getfield 9, 3) := by decide +kernel
theorem dX6_allowed_26 : decode cX6_allowed 26 = .ok (.aload_n 0, 1) := by decide +kernel
theorem dX6_allowed_27 : decode cX6_allowed 27 = .ok (.getfield 25, 3) := by decide +kernel
theorem dX6_allowed_30 : decode cX6_allowed 30 = .ok (.bipush 10, 2) := by decide +kernel
theorem dX6_allowed_32 : decode cX6_allowed 32 = .ok (.iadd, 1) := by decide +kernel
theorem dX6_allowed_33 : decode cX6_allowed 33 = .ok (.aload_n 0, 1) := by decide +kernel
theorem dX6_allowed_34 : decode cX6_allowed 34 = .ok (.getfield 22, 3) := by decide +kernel
theorem dX6_allowed_37 : decode cX6_allowed 37 = .ok (.isub, 1) := by decide +kernel
theorem dX6_allowed_38 : decode cX6_allowed 38 = .ok (.bipush 10, 2) := by decide +kernel
theorem dX6_allowed_40 : decode cX6_allowed 40 = .ok (.irem, 1) := by decide +kernel
theorem dX6_allowed_41 : decode cX6_allowed 41 = .ok (.iaload, 1) := by decide +kernel
theorem dX6_allowed_42 : decode cX6_allowed 42 = .ok (.iload_n 1, 1) := by decide +kernel
theorem dX6_allowed_43 : decode cX6_allowed 43 = .ok (.aload_n 0, 1) := by decide +kernel
theorem dX6_allowed_44 : decode cX6_allowed 44 = .ok (.getfield 19, 3) := by decide +kernel
theorem dX6_allowed_47 : decode cX6_allowed 47 = .ok (.isub, 1) := by decide +kernel
theorem dX6_allowed_48 : decode cX6_allowed 48 = .ok (.if_icmp .gt 7, 3) := by decide +kernel
theorem dX6_allowed_51 : decode cX6_allowed 51 = .ok (.iconst 1, 1) := by decide +kernel
theorem dX6_allowed_52 : decode cX6_allowed 52 = .ok (.goto 4, 3) := by decide +kernel
theorem dX6_allowed_55 : decode cX6_allowed 55 = .ok (.iconst 0, 1) := by decide +kernel
theorem dX6_allowed_56 : decode cX6_allowed 56 = .ok (.ireturn, 1) := by decide +kernel
theorem dX7_firstStateOfStart_0 : decode cX7_firstStateOfStart 0 = .ok (.aload_n 0, 1) := by decide +kernel
theorem dX7_firstStateOfStart_1 : decode cX7_firstStateOfStart 1 = .ok (.getfield 29, 3) := by decide +kernel
theorem dX7_firstStateOfStart_4 : decode cX7_firstStateOfStart 4 = .ok (.ifCond .ne 7, 3) := by decide +kernel
theorem dX7_firstStateOfStart_7 : decode cX7_firstStateOfStart 7 = .ok (.iconst 2, 1) := by decide +kernel
theorem dX7_firstStateOfStart_8 : decode cX7_firstStateOfStart 8 = .ok (.goto 4, 3) := by decide +kernel
theorem dX7_firstStateOfStart_11 : decode cX7_firstStateOfStart 11 = .ok (.iconst 1, 1) := by decide +kernel
theorem dX7_firstStateOfStart_12 : decode cX7_firstStateOfStart 12 = .ok (.ireturn, 1) := by decide +kernel
theorem dX7_firstStateOfStop_0 : decode cX7_firstStateOfStop 0 = .ok (.aload_n 0, 1) := by decide +kernel
theorem dX7_firstStateOfStop_1 : decode cX7_firstStateOfStop 1 = .ok (.getfield 32, 3) := by decide +kernel
theorem dX7_firstStateOfStop_4 : decode cX7_firstStateOfStop 4 = .ok (.ifCond .ne 7, 3) := by decide +kernel
theorem dX7_firstStateOfStop_7 : decode cX7_firstStateOfStop 7 = .ok (.iconst 0, 1) := by decide +kernel
theorem dX7_firstStateOfStop_8 : decode cX7_firstStateOfStop 8 = .ok (.goto 4, 3) := by decide +kernel
theorem dX7_firstStateOfStop_11 : decode cX7_firstStateOfStop 11 = .ok (.iconst 3, 1) := by decide +kernel
theorem dX7_firstStateOfStop_12 : decode cX7_firstStateOfStop 12 = .ok (.ireturn, 1) := by decide +kernel
theorem dJx4a65c_elementData_915e3_0 : decode cJx4a65c_elementData_915e3 0 = .ok (.aload_n 0, 1) := by decide +kernel
theorem dJx4a65c_elementData_915e3_1 : decode cJx4a65c_elementData_915e3 1 = .ok (.getfield 9, 3) := by decide +kernel
theorem dJx4a65c_elementData_915e3_4 : decode cJx4a65c_elementData_915e3 4 = .ok (.iload_n 1, 1) := by decide +kernel
theorem dJx4a65c_elementData_915e3_5 : decode cJx4a65c_elementData_915e3 5 = .ok (.aaload, 1) := by decide +kernel
theorem dJx4a65c_elementData_915e3_6 : decode cJx4a65c_elementData_915e3 6 = .ok (.areturn, 1) := by decide +kernel
theorem dJx4a65c_get_915e3_0 : decode cJx4a65c_get_915e3 0 = .ok (.iload_n 1, 1) := by decide +kernel
theorem dJx4a65c_get_915e3_1 : decode cJx4a65c_get_915e3 1 = .ok (.aload_n 0, 1) := by decide +kernel
theorem dJx4a65c_get_915e3_2 : decode cJx4a65c_get_915e3 2 = .ok (.getfield 48, 3) := by decide +kernel
theorem dJx4a65c_get_915e3_5 : decode cJx4a65c_get_915e3 5 = .ok (.invokestatic 118, 3) := by decide +kernel
theorem dJx4a65c_get_915e3_8 : decode cJx4a65c_get_915e3 8 = .ok (.pop, 1) := by decide +kernel
theorem dJx4a65c_get_915e3_9 : decode cJx4a65c_get_915e3 9 = .ok (.aload_n 0, 1) := by decide +kernel
theorem dJx4a65c_get_915e3_10 : decode cJx4a65c_get_915e3 10 = .ok (.iload_n 1, 1) := by decide +kernel
theorem dJx4a65c_get_915e3_11 : decode cJx4a65c_get_915e3 11 = .ok (.invokevirtual 123, 3) := by decide +kernel
theorem dJx4a65c_get_915e3_14 : decode cJx4a65c_get_915e3 14 = .ok (.areturn, 1) := by decide +kernel
theorem dJ15_checkIndex_7cf53_0 : decode cJ15_checkIndex_7cf53 0 = .ok (.iload_n 0, 1) := by decide +kernel
theorem dJ15_checkIndex_7cf53_1 : decode cJ15_checkIndex_7cf53 1 = .ok (.iload_n 1, 1) := by decide +kernel
theorem dJ15_checkIndex_7cf53_2 : decode cJ15_checkIndex_7cf53 2 = .ok (.aconst_null, 1) := by decide +kernel
theorem dJ15_checkIndex_7cf53_3 : decode cJ15_checkIndex_7cf53 3 = .ok (.invokestatic 105, 3) := by decide +kernel
theorem dJ15_checkIndex_7cf53_6 : decode cJ15_checkIndex_7cf53 6 = .ok (.ireturn, 1) := by decide +kernel
theorem dJ3_checkIndex_8e157_0 : decode cJ3_checkIndex_8e157 0 = .ok (.iload_n 0, 1) := by decide +kernel
theorem dJ3_checkIndex_8e157_1 : decode cJ3_checkIndex_8e157 1 = .ok (.ifCond .lt 8, 3) := by decide +kernel
theorem dJ3_checkIndex_8e157_4 : decode cJ3_checkIndex_8e157 4 = .ok (.iload_n 0, 1) := by decide +kernel
theorem dJ3_checkIndex_8e157_5 : decode cJ3_checkIndex_8e157 5 = .ok (.iload_n 1, 1) := by decide +kernel
theorem dJ3_checkIndex_8e157_6 : decode cJ3_checkIndex_8e157 6 = .ok (.if_icmp .lt 10, 3) := by decide +kernel
theorem dJ3_checkIndex_8e157_16 : decode cJ3_checkIndex_8e157 16 = .ok (.iload_n 0, 1) := by decide +kernel
theorem dJ3_checkIndex_8e157_17 : decode cJ3_checkIndex_8e157 17 = .ok (.ireturn, 1) := by decide +kernel
def wq_x_ck3 : List Cond := [.code yJ3_checkIndex_8e157 cJ3_checkIndex_8e157 3 (some .int)]
set_option maxRecDepth 20000 in
theorem wi_x_ck3 : ∀ w ∈ wq_x_ck3, w ∈ lw_tbl := (by decide +kernel)
set_option maxRecDepth 20000 in
theorem wg_x_ck3 : GoodIn wq_x_ck3 wq_x_ck3 := goodIn_sub (fun _ h => h) (by decide +kernel)
def rm_x_ck3 : Room := { frames := 0, cells := 0, slots := 0, locals := 0 }
set_option maxHeartbeats 4000000 in
set_option maxRecDepth 100000 in
theorem c_x_ck3 (l : Launch) (dC : Nat → ClassId) (dI : Nat → Nat → Nat) (h : Nat) (a : Nat → Nat) (e : Nat) (cI cJ cO cE : ClassId) (L : Nat → Int64) (I : Nat → Int32) (M : Nat → Nat → Int64) (J : Nat → Nat → Int32) (n cap : Nat) (fE : Nat → Option Nat) (sd : Nat → Nat → Nat) (si : Nat → Nat → Int32) (sa : Nat → Nat → Nat → Int32) (dl : Nat → Nat) (b : Nat) (iv : Nat) (lv : Nat) (sz : Nat) (hX0 : InvX n cap fE sd dl b I J si) (hb0 : b + 0 < 2147483648) (hp0 : iv < lv) (hp1 : lv < 100) : Met l yJ3_checkIndex_8e157 wq_x_ck3 rm_x_ck3 (va_Pc [.int (nI iv), .int (nI lv), .null] (fun U => U.heap.size = sz ∧ va_P (dC, dI) vwCl (xW h a e cI cJ cO cE L I M J n cap fE sd si sa dl) U.heap ∧ va_K (dC, dI) vwCl (xT cI cJ cO cE) U ∧ va_D (fun _ => True) (xW h a e cI cJ cO cE L I M J n cap fE sd si sa dl) ∧ pw_N U)) (va_Qi (fun (r : Int32) (u : Unit) => (True)) (fun (u : Unit) (t : State) => va_P (dC, dI) vwCl (xW h a e cI cJ cO cE L I M J n cap fE sd si sa dl) t.heap ∧ va_D (va_A (xW h a e cI cJ cO cE L I M J n cap fE sd si sa dl) sz) (xW h a e cI cJ cO cE L I M J n cap fE sd si sa dl)) (va_A (xW h a e cI cJ cO cE L I M J n cap fE sd si sa dl) sz)) 0 0 (va_A (xW h a e cI cJ cO cE L I M J n cap fE sd si sa dl) sz) := by
  have hn : n ≤ 40 := hX0.1.1
  have hX := hX0
  refine Met.ofW (cc := cJ3_checkIndex_8e157) (maxL := 3) (ret := (some .int)) (by decide) rfl ?_
  intro p e9 s m args below meth c s₁ B hml hv
  obtain ⟨rfl, hsz, hP, hK, hD0, hN⟩ := hv
  have hx := B.exec
  have hb := B.bytes
  have hr := B.returns
  have hts := atoms_spec (ws := wq_x_ck3) B.pre
  have hown : s.vm.findClass RJ3 = some m.cls := findClass_of_methodNamed B.named
  have hlocks := B.notSynchronized
  subst hsz
  have hD := hD0.self (sz := s.heap.size)
  generalize hAe : va_A (xW h a e cI cJ cO cE L I M J n cap fE sd si sa dl) s.heap.size = A at hD ⊢
  have hA : ∀ q : Nat, s.heap.size ≤ q → A q := fun q h => by rw [← hAe]; exact Or.inr h
  have hS : va_S A s.heap s.heap [] := va_S.rf
  have hl := lv_entry ([.int (nI iv), .int (nI lv), .null]) (n := 3) (Nat.le_of_ble_eq_true rfl)
  rw [lg_entry_eq]
  generalize (lg_sl ([.int (nI iv), .int (nI lv), .null]) ++ List.replicate (3 - (lg_sl ([.int (nI iv), .int (nI lv), .null])).length) Slot.unset).toArray = ls at hl ⊢
  have hl : lv_has ls 3 [(0, .int (nI iv)), (1, .int (nI lv)), (2, .null)] := hl
  refine lv_iload_n hx hb dJ3_checkIndex_8e157_0 rfl (lv_at hl 0 rfl) ?_
  refine lv_if_lt (tgt := 9) hx hb dJ3_checkIndex_8e157_1 (by decide) (fun c1 => ?_) (fun c1 => ?_)
  · replace c1 : iv < 0 := (nI_ltI (a := iv) (b := 0) (by omega) (by omega)).mp c1
    exact False.elim (by omega)
  · replace c1 : ¬ (iv < 0) := fun q9 => c1 ((nI_ltI (a := iv) (b := 0) (by omega) (by omega)).mpr q9)
    refine lv_iload_n hx hb dJ3_checkIndex_8e157_4 rfl (lv_at hl 0 rfl) ?_
    refine lv_iload_n hx hb dJ3_checkIndex_8e157_5 rfl (lv_at hl 1 rfl) ?_
    refine lv_icmp_lt (tgt := 16) hx hb dJ3_checkIndex_8e157_6 (by decide) (fun c2 => ?_) (fun c2 => ?_)
    · replace c2 : iv < lv := (nI_ltI (a := iv) (b := lv) (by omega) (by omega)).mp c2
      refine lv_iload_n hx hb dJ3_checkIndex_8e157_16 rfl (lv_at hl 0 rfl) ?_
      exact W.iret (v := (nI iv)) hx hb hr (fun t ht hW => ⟨⟨(nI iv), (), rfl, trivial, by rw [ht]; exact hP, hD⟩, hS.F ht⟩) hS.2.2 dJ3_checkIndex_8e157_17
    · replace c2 : ¬ (iv < lv) := fun q9 => c2 ((nI_ltI (a := iv) (b := lv) (by omega) (by omega)).mpr q9)
      exact False.elim (by omega)
def wq_x_ck : List Cond := [.code yJ15_checkIndex_7cf53 cJ15_checkIndex_7cf53 2 (some .int), .methodLink RJ15 105 yJ3_checkIndex_8e157, .static yJ3_checkIndex_8e157, .initialized RJ3] ++ (wq_x_ck3)
set_option maxRecDepth 20000 in
theorem wi_x_ck : ∀ w ∈ wq_x_ck, w ∈ lw_tbl := List.forall_mem_append.mpr ⟨(by decide +kernel), wi_x_ck3⟩
set_option maxRecDepth 20000 in
theorem wg_x_ck : GoodIn wq_x_ck wq_x_ck := goodIn_sub (fun _ h => h) (by decide +kernel)
set_option maxRecDepth 20000 in
theorem wc_x_ck_x_ck3_105 : GoodIn wq_x_ck (va_wsS RJ15 105 yJ3_checkIndex_8e157 wq_x_ck3) := goodIn_app (goodIn_of _ (by decide +kernel)) (fun w h => ⟨List.mem_append_right _ (h), (wg_x_ck3 w h).2⟩)
def rm_x_ck : Room := { frames := 1, cells := 0, slots := 0, locals := 22 }
set_option maxHeartbeats 4000000 in
set_option maxRecDepth 100000 in
theorem c_x_ck (l : Launch) (dC : Nat → ClassId) (dI : Nat → Nat → Nat) (h : Nat) (a : Nat → Nat) (e : Nat) (cI cJ cO cE : ClassId) (L : Nat → Int64) (I : Nat → Int32) (M : Nat → Nat → Int64) (J : Nat → Nat → Int32) (n cap : Nat) (fE : Nat → Option Nat) (sd : Nat → Nat → Nat) (si : Nat → Nat → Int32) (sa : Nat → Nat → Nat → Int32) (dl : Nat → Nat) (b : Nat) (iv : Nat) (lv : Nat) (sz : Nat) (hX0 : InvX n cap fE sd dl b I J si) (hb0 : b + 0 < 2147483648) (hp0 : iv < lv) (hp1 : lv < 100) : Met l yJ15_checkIndex_7cf53 wq_x_ck rm_x_ck (va_Pc [.int (nI iv), .int (nI lv)] (fun U => U.heap.size = sz ∧ va_P (dC, dI) vwCl (xW h a e cI cJ cO cE L I M J n cap fE sd si sa dl) U.heap ∧ va_K (dC, dI) vwCl (xT cI cJ cO cE) U ∧ va_D (fun _ => True) (xW h a e cI cJ cO cE L I M J n cap fE sd si sa dl) ∧ pw_N U)) (va_Qi (fun (r : Int32) (u : Unit) => (True)) (fun (u : Unit) (t : State) => va_P (dC, dI) vwCl (xW h a e cI cJ cO cE L I M J n cap fE sd si sa dl) t.heap ∧ va_D (va_A (xW h a e cI cJ cO cE L I M J n cap fE sd si sa dl) sz) (xW h a e cI cJ cO cE L I M J n cap fE sd si sa dl)) (va_A (xW h a e cI cJ cO cE L I M J n cap fE sd si sa dl) sz)) 0 0 (va_A (xW h a e cI cJ cO cE L I M J n cap fE sd si sa dl) sz) := by
  have hn : n ≤ 40 := hX0.1.1
  have hX := hX0
  refine Met.ofW (cc := cJ15_checkIndex_7cf53) (maxL := 2) (ret := (some .int)) (by decide) rfl ?_
  intro p e9 s m args below meth c s₁ B hml hv
  obtain ⟨rfl, hsz, hP, hK, hD0, hN⟩ := hv
  have hx := B.exec
  have hb := B.bytes
  have hr := B.returns
  have hts := atoms_spec (ws := wq_x_ck) B.pre
  have hown : s.vm.findClass RJ15 = some m.cls := findClass_of_methodNamed B.named
  have hlocks := B.notSynchronized
  subst hsz
  have hD := hD0.self (sz := s.heap.size)
  generalize hAe : va_A (xW h a e cI cJ cO cE L I M J n cap fE sd si sa dl) s.heap.size = A at hD ⊢
  have hA : ∀ q : Nat, s.heap.size ≤ q → A q := fun q h => by rw [← hAe]; exact Or.inr h
  have hS : va_S A s.heap s.heap [] := va_S.rf
  have hl := lv_entry ([.int (nI iv), .int (nI lv)]) (n := 2) (Nat.le_of_ble_eq_true rfl)
  rw [lg_entry_eq]
  generalize (lg_sl ([.int (nI iv), .int (nI lv)]) ++ List.replicate (2 - (lg_sl ([.int (nI iv), .int (nI lv)])).length) Slot.unset).toArray = ls at hl ⊢
  have hl : lv_has ls 2 [(0, .int (nI iv)), (1, .int (nI lv))] := hl
  refine lv_iload_n hx hb dJ15_checkIndex_7cf53_0 rfl (lv_at hl 0 rfl) ?_
  refine lv_iload_n hx hb dJ15_checkIndex_7cf53_1 rfl (lv_at hl 1 rfl) ?_
  refine lv_null hx hb dJ15_checkIndex_7cf53_2 ?_
  have hFc := mw_free hD hS hA
  refine va_calli (va_runS (As := [.int (nI iv), .int (nI lv), .null]) (rest := []) ⟨hx, hb, hml, hown, hts⟩ (c_x_ck3 l dC dI h a e cI cJ cO cE L I M J n cap fE sd si sa dl (b) iv lv s.heap.size hX (by omega) (by omega) (by omega)) (va_cwS 3 hts wc_x_ck_x_ck3_105 rfl rfl rfl (by decide +kernel) ⟨Nat.le_of_ble_eq_true rfl, Nat.le_of_ble_eq_true rfl⟩) ⟨fun a9 U g mk q => by obtain ⟨q0, q1, qP, qK, qD, qN⟩ := q; exact ⟨q0, q1, qP, va_K.moved (u := U) (U := U.calling g mk a9) (Vm.Alike.refl U.vm) qK, qD, pw_N.same (u := U) (U := U.calling g mk a9) rfl qN⟩, fun U hU hW => ⟨rfl, by rw [hU], by rw [hU]; exact hP, va_K.moved hW.alike hK, hD.weaken (fun _ _ _ _ => trivial), pw_N.warm hW hN⟩⟩ rfl rfl hl.1 rfl (lv_room (Nat.le_of_ble_eq_true rfl)) dJ15_checkIndex_7cf53_3 ⟨Nat.le_of_ble_eq_true rfl, Nat.le_of_ble_eq_true rfl⟩) hS (fun q _ h => hFc q h) hFc (fun r1 u t H1 locs ht hvm hw hB hz1 hk1 hS => ?_)
  replace hP := hB.1
  rw [ht] at hP
  replace hD : va_D A (xW h a e cI cJ cO cE L I M J n cap fE sd si sa dl) := hB.2.weaken (fun _ q _ h9 => hFc q.1 h9)
  clear hB
  generalize H1 = H at hP hS ⊢
  replace hP : va_P (dC, dI) vwCl (xW h a e cI cJ cO cE L I M J n cap fE sd si sa dl) H := hP
  exact W.iret (v := r1) hx hb hr (fun t ht hW => ⟨⟨r1, (), rfl, trivial, by rw [ht]; exact hP, hD⟩, hS.F ht⟩) hS.2.2 dJ15_checkIndex_7cf53_6
def wq_x_elementData : List Cond := [.code yJx4a65c_elementData_915e3 cJx4a65c_elementData_915e3 2 (some (.object "java/lang/Object")), .fieldLink RJx4a65c 9 "java/util/ArrayList" "elementData" "[Ljava/lang/Object;"] ++ (wsJx4a65c0)
theorem in_x_elementData_Jx4a65c : ∀ w ∈ wsJx4a65c0, w ∈ wq_x_elementData := fun _ h => List.mem_append_right _ (h)
set_option maxRecDepth 20000 in
theorem wi_x_elementData : ∀ w ∈ wq_x_elementData, w ∈ lw_tbl := List.forall_mem_append.mpr ⟨(by decide +kernel), inKJx4a65c⟩
set_option maxRecDepth 20000 in
theorem wg_x_elementData : GoodIn wq_x_elementData wq_x_elementData := goodIn_sub (fun _ h => h) (by decide +kernel)
def rm_x_elementData : Room := { frames := 0, cells := 0, slots := 0, locals := 0 }
set_option maxHeartbeats 4000000 in
set_option maxRecDepth 100000 in
theorem c_x_elementData (l : Launch) (dC : Nat → ClassId) (dI : Nat → Nat → Nat) (h : Nat) (a : Nat → Nat) (e : Nat) (cI cJ cO cE : ClassId) (L : Nat → Int64) (I : Nat → Int32) (M : Nat → Nat → Int64) (J : Nat → Nat → Int32) (n cap : Nat) (fE : Nat → Option Nat) (sd : Nat → Nat → Nat) (si : Nat → Nat → Int32) (sa : Nat → Nat → Nat → Int32) (dl : Nat → Nat) (b : Nat) (iv : Nat) (sz : Nat) (hX0 : InvX n cap fE sd dl b I J si) (hb0 : b + 0 < 2147483648) (hp0 : iv < n) : Met l yJx4a65c_elementData_915e3 wq_x_elementData rm_x_elementData (va_Pc [.ref (a 0), .int (nI iv)] (fun U => U.heap.size = sz ∧ va_P (dC, dI) vwCl (xW h a e cI cJ cO cE L I M J n cap fE sd si sa dl) U.heap ∧ va_K (dC, dI) vwCl (xT cI cJ cO cE) U ∧ va_D (fun _ => True) (xW h a e cI cJ cO cE L I M J n cap fE sd si sa dl) ∧ pw_N U)) (va_Qr (fun (u : Unit) => (True)) (fun (u : Unit) (ra : Nat) (t : State) => ra = sd iv 0 ∧ va_P (dC, dI) vwCl (xW h a e cI cJ cO cE L I M J n cap fE sd si sa dl) t.heap ∧ va_D (va_A (xW h a e cI cJ cO cE L I M J n cap fE sd si sa dl) sz) (xW h a e cI cJ cO cE L I M J n cap fE sd si sa dl)) (va_A (xW h a e cI cJ cO cE L I M J n cap fE sd si sa dl) sz)) 0 0 (va_A (xW h a e cI cJ cO cE L I M J n cap fE sd si sa dl) sz) := by
  have hn : n ≤ 40 := hX0.1.1
  have hX := hX0
  refine Met.ofW (cc := cJx4a65c_elementData_915e3) (maxL := 2) (ret := (some (.object "java/lang/Object"))) (by decide) rfl ?_
  intro p e9 s m args below meth c s₁ B hml hv
  obtain ⟨rfl, hsz, hP, hK, hD0, hN⟩ := hv
  have hx := B.exec
  have hb := B.bytes
  have hr := B.returns
  have hts := atoms_spec (ws := wq_x_elementData) B.pre
  have hown : s.vm.findClass RJx4a65c = some m.cls := findClass_of_methodNamed B.named
  have hlocks := B.notSynchronized
  subst hsz
  have hD := hD0.self (sz := s.heap.size)
  generalize hAe : va_A (xW h a e cI cJ cO cE L I M J n cap fE sd si sa dl) s.heap.size = A at hD ⊢
  have hA : ∀ q : Nat, s.heap.size ≤ q → A q := fun q h => by rw [← hAe]; exact Or.inr h
  have hS : va_S A s.heap s.heap [] := va_S.rf
  have hl := lv_entry ([.ref (a 0), .int (nI iv)]) (n := 2) (Nat.le_of_ble_eq_true rfl)
  rw [lg_entry_eq]
  generalize (lg_sl ([.ref (a 0), .int (nI iv)]) ++ List.replicate (2 - (lg_sl ([.ref (a 0), .int (nI iv)])).length) Slot.unset).toArray = ls at hl ⊢
  have hl : lv_has ls 2 [(0, .ref (a 0)), (1, .int (nI iv))] := hl
  refine lv_aload_n hx hb dJx4a65c_elementData_915e3_0 rfl (lv_at hl 0 rfl) ?_
  refine va_get (D := (dC, dI)) (ci := 0) (v := .ref e) (C := RJx4a65c) (T := TJx4a65c) (N := 3) hx hb hts in_x_elementData_Jx4a65c hown hK hP 1 rfl rfl 1 (by decide) (hts (.fieldLink RJx4a65c 9 "java/util/ArrayList" "elementData" "[Ljava/lang/Object;") (by decide +kernel)) (fun _ h9 => h9) rfl dJx4a65c_elementData_915e3_1 ?_
  refine lv_iload_n hx hb dJx4a65c_elementData_915e3_4 rfl (lv_at hl 1 rfl) ?_
  refine va_aldq (C := "java/lang/Object") (n := cap) (f := fE) hx hb hK hP (22 + 6 * n) 3 (xAt_E h a e cI cJ cO cE L I M J n cap fE sd si sa dl (by omega)) rfl (vp_in_nI (n := iv) (by have := hX.1.2.1; omega) (by have := hX.1.2.2.1; omega)) dJx4a65c_elementData_915e3_5 ?_
  refine p1_topr (v := .ref (sd iv 0)) (by rw [nI_clamp (by omega), hX.1.2.2.2.2 iv (by omega)]; rfl) ?_
  exact W.aret hx hb hr (Or.inl ⟨_, rfl⟩) (Or.inr ⟨_, rfl⟩) (fun t ht hW => ⟨⟨(), sd iv 0, rfl, trivial, rfl, by rw [ht]; exact hP, hD⟩, hS.F ht⟩) hS.2.2 dJx4a65c_elementData_915e3_6
def wq_x_get : List Cond := [.code yJx4a65c_get_915e3 cJx4a65c_get_915e3 2 (some (.object "java/lang/Object")), .fieldLink RJx4a65c 48 "java/util/ArrayList" "size" "I", .methodLink RJx4a65c 118 yJ15_checkIndex_7cf53, .static yJ15_checkIndex_7cf53, .initialized RJ15, .methodLink RJx4a65c 123 yJx4a65c_elementData_915e3, .instanceMethod yJx4a65c_elementData_915e3, .selects RJx4a65c yJx4a65c_elementData_915e3 yJx4a65c_elementData_915e3, .initialized RJx4a65c] ++ (wsJx4a65c0 ++ (wq_x_ck ++ (wq_x_elementData)))
theorem in_x_get_Jx4a65c : ∀ w ∈ wsJx4a65c0, w ∈ wq_x_get := fun _ h => List.mem_append_right _ (List.mem_append_left _ (h))
set_option maxRecDepth 20000 in
theorem wi_x_get : ∀ w ∈ wq_x_get, w ∈ lw_tbl := List.forall_mem_append.mpr ⟨(by decide +kernel), List.forall_mem_append.mpr ⟨inKJx4a65c, List.forall_mem_append.mpr ⟨wi_x_ck, wi_x_elementData⟩⟩⟩
set_option maxRecDepth 20000 in
theorem wg_x_get : GoodIn wq_x_get wq_x_get := goodIn_sub (fun _ h => h) (by decide +kernel)
set_option maxRecDepth 20000 in
theorem wc_x_get_x_ck_118 : GoodIn wq_x_get (va_wsS RJx4a65c 118 yJ15_checkIndex_7cf53 wq_x_ck) := goodIn_app (goodIn_of _ (by decide +kernel)) (fun w h => ⟨List.mem_append_right _ (List.mem_append_right _ (List.mem_append_left _ (h))), (wg_x_ck w h).2⟩)
set_option maxRecDepth 20000 in
theorem wc_x_get_x_elementData_123 : GoodIn wq_x_get (wsV RJx4a65c 123 RJx4a65c yJx4a65c_elementData_915e3 wq_x_elementData) := goodIn_app (goodIn_of _ (by decide +kernel)) (fun w h => ⟨List.mem_append_right _ (List.mem_append_right _ (List.mem_append_right _ (h))), (wg_x_elementData w h).2⟩)
def rm_x_get : Room := { frames := 2, cells := 0, slots := 0, locals := 43 }
set_option maxHeartbeats 4000000 in
set_option maxRecDepth 100000 in
theorem c_x_get (l : Launch) (dC : Nat → ClassId) (dI : Nat → Nat → Nat) (h : Nat) (a : Nat → Nat) (e : Nat) (cI cJ cO cE : ClassId) (L : Nat → Int64) (I : Nat → Int32) (M : Nat → Nat → Int64) (J : Nat → Nat → Int32) (n cap : Nat) (fE : Nat → Option Nat) (sd : Nat → Nat → Nat) (si : Nat → Nat → Int32) (sa : Nat → Nat → Nat → Int32) (dl : Nat → Nat) (b : Nat) (iv : Nat) (sz : Nat) (hX0 : InvX n cap fE sd dl b I J si) (hb0 : b + 0 < 2147483648) (hp0 : iv < n) : Met l yJx4a65c_get_915e3 wq_x_get rm_x_get (va_Pc [.ref (a 0), .int (nI iv)] (fun U => U.heap.size = sz ∧ va_P (dC, dI) vwCl (xW h a e cI cJ cO cE L I M J n cap fE sd si sa dl) U.heap ∧ va_K (dC, dI) vwCl (xT cI cJ cO cE) U ∧ va_D (fun _ => True) (xW h a e cI cJ cO cE L I M J n cap fE sd si sa dl) ∧ pw_N U)) (va_Qr (fun (u : Unit) => (True)) (fun (u : Unit) (ra : Nat) (t : State) => ra = sd iv 0 ∧ va_P (dC, dI) vwCl (xW h a e cI cJ cO cE L I M J n cap fE sd si sa dl) t.heap ∧ va_D (va_A (xW h a e cI cJ cO cE L I M J n cap fE sd si sa dl) sz) (xW h a e cI cJ cO cE L I M J n cap fE sd si sa dl)) (va_A (xW h a e cI cJ cO cE L I M J n cap fE sd si sa dl) sz)) 0 0 (va_A (xW h a e cI cJ cO cE L I M J n cap fE sd si sa dl) sz) := by
  have hn : n ≤ 40 := hX0.1.1
  have hX := hX0
  refine Met.ofW (cc := cJx4a65c_get_915e3) (maxL := 2) (ret := (some (.object "java/lang/Object"))) (by decide) rfl ?_
  intro p e9 s m args below meth c s₁ B hml hv
  obtain ⟨rfl, hsz, hP, hK, hD0, hN⟩ := hv
  have hx := B.exec
  have hb := B.bytes
  have hr := B.returns
  have hts := atoms_spec (ws := wq_x_get) B.pre
  have hown : s.vm.findClass RJx4a65c = some m.cls := findClass_of_methodNamed B.named
  have hlocks := B.notSynchronized
  subst hsz
  have hD := hD0.self (sz := s.heap.size)
  generalize hAe : va_A (xW h a e cI cJ cO cE L I M J n cap fE sd si sa dl) s.heap.size = A at hD ⊢
  have hA : ∀ q : Nat, s.heap.size ≤ q → A q := fun q h => by rw [← hAe]; exact Or.inr h
  have hS : va_S A s.heap s.heap [] := va_S.rf
  have hl := lv_entry ([.ref (a 0), .int (nI iv)]) (n := 2) (Nat.le_of_ble_eq_true rfl)
  rw [lg_entry_eq]
  generalize (lg_sl ([.ref (a 0), .int (nI iv)]) ++ List.replicate (2 - (lg_sl ([.ref (a 0), .int (nI iv)])).length) Slot.unset).toArray = ls at hl ⊢
  have hl : lv_has ls 2 [(0, .ref (a 0)), (1, .int (nI iv))] := hl
  refine lv_iload_n hx hb dJx4a65c_get_915e3_0 rfl (lv_at hl 1 rfl) ?_
  refine lv_aload_n hx hb dJx4a65c_get_915e3_1 rfl (lv_at hl 0 rfl) ?_
  refine va_get (D := (dC, dI)) (ci := 0) (v := .int (I 6)) (C := RJx4a65c) (T := TJx4a65c) (N := 3) hx hb hts in_x_get_Jx4a65c hown hK hP 1 rfl rfl 2 (by decide) (hts (.fieldLink RJx4a65c 48 "java/util/ArrayList" "size" "I") (by decide +kernel)) (fun _ h9 => h9) rfl dJx4a65c_get_915e3_2 ?_
  refine p1_topr (v := .int (nI n)) (congrArg Value.int hX.1.2.2.2.1) ?_
  have hFc := mw_free hD hS hA
  refine va_calli (va_runS (As := [.int (nI iv), .int (nI n)]) (rest := []) ⟨hx, hb, hml, hown, hts⟩ (c_x_ck l dC dI h a e cI cJ cO cE L I M J n cap fE sd si sa dl (b) iv n s.heap.size hX (by omega) (by omega) (by omega)) (va_cwS 2 hts wc_x_get_x_ck_118 rfl rfl rfl (by decide +kernel) ⟨Nat.le_of_ble_eq_true rfl, Nat.le_of_ble_eq_true rfl⟩) ⟨fun a9 U g mk q => by obtain ⟨q0, q1, qP, qK, qD, qN⟩ := q; exact ⟨q0, q1, qP, va_K.moved (u := U) (U := U.calling g mk a9) (Vm.Alike.refl U.vm) qK, qD, pw_N.same (u := U) (U := U.calling g mk a9) rfl qN⟩, fun U hU hW => ⟨rfl, by rw [hU], by rw [hU]; exact hP, va_K.moved hW.alike hK, hD.weaken (fun _ _ _ _ => trivial), pw_N.warm hW hN⟩⟩ rfl rfl hl.1 rfl (lv_room (Nat.le_of_ble_eq_true rfl)) dJx4a65c_get_915e3_5 ⟨Nat.le_of_ble_eq_true rfl, Nat.le_of_ble_eq_true rfl⟩) hS (fun q _ h => hFc q h) hFc (fun r1 u t H1 locs ht hvm hw hB hz1 hk1 hS => ?_)
  replace hP := hB.1
  rw [ht] at hP
  replace hD : va_D A (xW h a e cI cJ cO cE L I M J n cap fE sd si sa dl) := hB.2.weaken (fun _ q _ h9 => hFc q.1 h9)
  clear hB
  generalize H1 = H at hP hS ⊢
  replace hP : va_P (dC, dI) vwCl (xW h a e cI cJ cO cE L I M J n cap fE sd si sa dl) H := hP
  refine lv_pop hx hb dJx4a65c_get_915e3_8 rfl ?_
  refine lv_aload_n hx hb dJx4a65c_get_915e3_9 rfl (lv_at hl 0 rfl) ?_
  refine lv_iload_n hx hb dJx4a65c_get_915e3_10 rfl (lv_at hl 1 rfl) ?_
  have hFc := mw_free hD hS hA
  refine va_callr (va_runV (As := [.int (nI iv)]) (rest := []) ⟨hx, hb, hml, hown, hts⟩ (c_x_elementData l dC dI h a e cI cJ cO cE L I M J n cap fE sd si sa dl (b) iv H.size hX (by omega) (by omega)) (cwV 1 hts wc_x_get_x_elementData_123 rfl rfl rfl (by decide +kernel) ⟨Nat.le_of_ble_eq_true rfl, Nat.le_of_ble_eq_true rfl⟩) ⟨fun a9 U g mk q => by obtain ⟨q0, q1, qP, qK, qD, qN⟩ := q; exact ⟨q0, q1, qP, va_K.moved (u := U) (U := U.calling g mk a9) (Vm.Alike.refl U.vm) qK, qD, pw_N.same (u := U) (U := U.calling g mk a9) rfl qN⟩, va_recv hK hP (ci := 0) (q0 := 1) rfl rfl, fun U hU hW => ⟨rfl, by rw [hU], by rw [hU]; exact hP, va_K.moved hW.alike hK, hD.weaken (fun _ _ _ _ => trivial), pw_N.warm hW hN⟩⟩ rfl rfl hl.1 rfl (lv_room (Nat.le_of_ble_eq_true rfl)) dJx4a65c_get_915e3_11 ⟨Nat.le_of_ble_eq_true rfl, Nat.le_of_ble_eq_true rfl⟩) hS (fun q _ h => hFc q h) hFc (fun u r2 t H1 locs ht hvm hw hB hz1 hk1 hS => ?_)
  obtain ⟨hra, hB⟩ := hB
  replace hP := hB.1
  rw [ht] at hP
  replace hD : va_D A (xW h a e cI cJ cO cE L I M J n cap fE sd si sa dl) := hB.2.weaken (fun _ q _ h9 => hFc q.1 h9)
  clear hB
  generalize H1 = H at hP hS ⊢
  replace hP : va_P (dC, dI) vwCl (xW h a e cI cJ cO cE L I M J n cap fE sd si sa dl) H := hP
  subst hra
  exact W.aret hx hb hr (Or.inl ⟨_, rfl⟩) (Or.inr ⟨_, rfl⟩) (fun t ht hW => ⟨⟨(), sd iv 0, rfl, trivial, rfl, by rw [ht]; exact hP, hD⟩, hS.F ht⟩) hS.2.2 dJx4a65c_get_915e3_14
def wq_x_allow : List Cond := [.code yX6_allow cX6_allow 4 none, .fieldLink RX6 15 "ServiceTree$Restarts" "delay" "I", .fieldLink RX6 22 "ServiceTree$Restarts" "budget" "I", .fieldLink RX6 19 "ServiceTree$Restarts" "window" "I"] ++ (wsX60)
theorem in_x_allow_X6 : ∀ w ∈ wsX60, w ∈ wq_x_allow := fun _ h => List.mem_append_right _ (h)
set_option maxRecDepth 20000 in
theorem wi_x_allow : ∀ w ∈ wq_x_allow, w ∈ lw_tbl := List.forall_mem_append.mpr ⟨(by decide +kernel), inKX6⟩
set_option maxRecDepth 20000 in
theorem wg_x_allow : GoodIn wq_x_allow wq_x_allow := goodIn_sub (fun _ h => h) (by decide +kernel)
def rm_x_allow : Room := { frames := 0, cells := 0, slots := 0, locals := 0 }
set_option maxHeartbeats 4000000 in
set_option maxRecDepth 100000 in
theorem c_x_allow (l : Launch) (dC : Nat → ClassId) (dI : Nat → Nat → Nat) (h : Nat) (a : Nat → Nat) (e : Nat) (cI cJ cO cE : ClassId) (L : Nat → Int64) (I : Nat → Int32) (M : Nat → Nat → Int64) (J : Nat → Nat → Int32) (n cap : Nat) (fE : Nat → Option Nat) (sd : Nat → Nat → Nat) (si : Nat → Nat → Int32) (sa : Nat → Nat → Nat → Int32) (dl : Nat → Nat) (b : Nat) (sv : Nat) (p0 : Int32) (bv : Nat) (p2 : Int32) (sz : Nat) (hX0 : InvX n cap fE sd dl b I J si) (hb0 : b + 0 < 2147483648) (hp0 : sv < n) (hp1 : bv ≤ 10) : Met l yX6_allow wq_x_allow rm_x_allow (va_Pc [.ref (sd sv 2), .int p0, .int (nI bv), .int p2] (fun U => U.heap.size = sz ∧ va_P (dC, dI) vwCl (xW h a e cI cJ cO cE L I M J n cap fE sd si sa dl) U.heap ∧ va_K (dC, dI) vwCl (xT cI cJ cO cE) U ∧ va_D (fun _ => True) (xW h a e cI cJ cO cE L I M J n cap fE sd si sa dl) ∧ pw_N U)) (va_Qv (fun (u : (Nat → Nat → Int32)) => InvX n cap fE sd dl (b + 0) I J u ∧ (∀ s9 q9 : Nat, q9 ∉ ([23, 24, 25] : List Nat) → u s9 q9 = si s9 q9) ∧ (True)) (fun (u : (Nat → Nat → Int32)) (t : State) => va_P (dC, dI) vwCl (xW h a e cI cJ cO cE L I M J n cap fE sd u sa dl) t.heap ∧ va_D (va_A (xW h a e cI cJ cO cE L I M J n cap fE sd si sa dl) sz) (xW h a e cI cJ cO cE L I M J n cap fE sd u sa dl)) (va_A (xW h a e cI cJ cO cE L I M J n cap fE sd si sa dl) sz)) 0 0 (va_A (xW h a e cI cJ cO cE L I M J n cap fE sd si sa dl) sz) := by
  have hn : n ≤ 40 := hX0.1.1
  have hX := hX0
  have hUsi : ∀ s9 q9 : Nat, q9 ∉ ([23, 24, 25] : List Nat) → si s9 q9 = si s9 q9 := fun _ _ _ => rfl
  refine Met.ofW (cc := cX6_allow) (maxL := 4) (ret := none) (by decide) rfl ?_
  intro p e9 s m args below meth c s₁ B hml hv
  obtain ⟨rfl, hsz, hP, hK, hD0, hN⟩ := hv
  have hx := B.exec
  have hb := B.bytes
  have hr := B.returns
  have hts := atoms_spec (ws := wq_x_allow) B.pre
  have hown : s.vm.findClass RX6 = some m.cls := findClass_of_methodNamed B.named
  have hlocks := B.notSynchronized
  subst hsz
  have hD := hD0.self (sz := s.heap.size)
  generalize hAe : va_A (xW h a e cI cJ cO cE L I M J n cap fE sd si sa dl) s.heap.size = A at hD ⊢
  have hA : ∀ q : Nat, s.heap.size ≤ q → A q := fun q h => by rw [← hAe]; exact Or.inr h
  have hS : va_S A s.heap s.heap [] := va_S.rf
  have hl := lv_entry ([.ref (sd sv 2), .int p0, .int (nI bv), .int p2]) (n := 4) (Nat.le_of_ble_eq_true rfl)
  rw [lg_entry_eq]
  generalize (lg_sl ([.ref (sd sv 2), .int p0, .int (nI bv), .int p2]) ++ List.replicate (4 - (lg_sl ([.ref (sd sv 2), .int p0, .int (nI bv), .int p2])).length) Slot.unset).toArray = ls at hl ⊢
  have hl : lv_has ls 4 [(0, .ref (sd sv 2)), (1, .int p0), (2, .int (nI bv)), (3, .int p2)] := hl
  refine lv_aload_n hx hb dX6_allow_0 rfl (lv_at hl 0 rfl) ?_
  refine lv_iload_n hx hb dX6_allow_1 rfl (lv_at hl 1 rfl) ?_
  refine va_put (D := (dC, dI)) (ci := 7) (fs := [.ref (sd sv 3), .int (si sv 21), .int (si sv 22), .int (si sv 23), .int (si sv 24), .int (si sv 25)]) (v := .int p0) (ty := .int) (C := RX6) (T := TX6) (N := 6) hx hb hts in_x_allow_X6 tyX6 tyX6_ok nmX6 hown hK hP hD hS (22 + (6 * sv + 2)) (xAt_2 h a e cI cJ cO cE L I M J n cap fE sd si sa dl (s := sv) (by omega)) rfl 3 (by decide) (hts (.fieldLink RX6 15 "ServiceTree$Restarts" "delay" "I") (by decide +kernel)) (fun _ h9 => h9) rfl (by decide +kernel) rfl rfl (Nat.le_of_ble_eq_true rfl) dX6_allow_2 (fun H locs hP hD hS => ?_)
  replace hP : va_P (dC, dI) vwCl ((xW h a e cI cJ cO cE L I M J n cap fE sd si sa dl).set (22 + (6 * sv + 2)) (sd sv 2, .inr (7, [.ref (sd sv 3), .int (si sv 21), .int (si sv 22), .int p0, .int (si sv 24), .int (si sv 25)]))) H := hP
  replace hD : va_D A ((xW h a e cI cJ cO cE L I M J n cap fE sd si sa dl).set (22 + (6 * sv + 2)) (sd sv 2, .inr (7, [.ref (sd sv 3), .int (si sv 21), .int (si sv 22), .int p0, .int (si sv 24), .int (si sv 25)]))) := hD
  rw [xSv_23 h a e cI cJ cO cE L I M J n cap fE sd si sa dl (s := sv) (by omega)] at hP hD
  obtain ⟨si1, esi1⟩ : ∃ f9 : Nat → Nat → Int32, f9 = up2 si sv 23 p0 := ⟨_, rfl⟩
  rw [← esi1] at hP hD
  replace hX : InvX n cap fE sd dl (b) I J si1 := by rw [esi1]; exact hX.setsi (by decide)
  replace hUsi : ∀ s9 q9 : Nat, q9 ∉ ([23, 24, 25] : List Nat) → si1 s9 q9 = si s9 q9 := by rw [esi1]; exact xw_up2 (by decide) hUsi
  refine lv_aload_n hx hb dX6_allow_5 rfl (lv_at hl 0 rfl) ?_
  refine lv_iload_n hx hb dX6_allow_6 rfl (lv_at hl 2 rfl) ?_
  refine va_put (D := (dC, dI)) (ci := 7) (fs := [.ref (sd sv 3), .int (si1 sv 21), .int (si1 sv 22), .int (si1 sv 23), .int (si1 sv 24), .int (si1 sv 25)]) (v := .int (nI bv)) (ty := .int) (C := RX6) (T := TX6) (N := 6) hx hb hts in_x_allow_X6 tyX6 tyX6_ok nmX6 hown hK hP hD hS (22 + (6 * sv + 2)) (xAt_2 h a e cI cJ cO cE L I M J n cap fE sd si1 sa dl (s := sv) (by omega)) rfl 4 (by decide) (hts (.fieldLink RX6 22 "ServiceTree$Restarts" "budget" "I") (by decide +kernel)) (fun _ h9 => h9) rfl (by decide +kernel) rfl rfl (Nat.le_of_ble_eq_true rfl) dX6_allow_7 (fun H locs hP hD hS => ?_)
  replace hP : va_P (dC, dI) vwCl ((xW h a e cI cJ cO cE L I M J n cap fE sd si1 sa dl).set (22 + (6 * sv + 2)) (sd sv 2, .inr (7, [.ref (sd sv 3), .int (si1 sv 21), .int (si1 sv 22), .int (si1 sv 23), .int (nI bv), .int (si1 sv 25)]))) H := hP
  replace hD : va_D A ((xW h a e cI cJ cO cE L I M J n cap fE sd si1 sa dl).set (22 + (6 * sv + 2)) (sd sv 2, .inr (7, [.ref (sd sv 3), .int (si1 sv 21), .int (si1 sv 22), .int (si1 sv 23), .int (nI bv), .int (si1 sv 25)]))) := hD
  rw [xSv_24 h a e cI cJ cO cE L I M J n cap fE sd si1 sa dl (s := sv) (by omega)] at hP hD
  obtain ⟨si2, esi2⟩ : ∃ f9 : Nat → Nat → Int32, f9 = up2 si1 sv 24 (nI bv) := ⟨_, rfl⟩
  rw [← esi2] at hP hD
  replace hX : InvX n cap fE sd dl (b) I J si2 := by rw [esi2]; exact hX.set24 (x := bv) (by omega)
  replace hUsi : ∀ s9 q9 : Nat, q9 ∉ ([23, 24, 25] : List Nat) → si2 s9 q9 = si s9 q9 := by rw [esi2]; exact xw_up2 (by decide) hUsi
  refine lv_aload_n hx hb dX6_allow_10 rfl (lv_at hl 0 rfl) ?_
  refine lv_iload_n hx hb dX6_allow_11 rfl (lv_at hl 3 rfl) ?_
  refine va_put (D := (dC, dI)) (ci := 7) (fs := [.ref (sd sv 3), .int (si2 sv 21), .int (si2 sv 22), .int (si2 sv 23), .int (si2 sv 24), .int (si2 sv 25)]) (v := .int p2) (ty := .int) (C := RX6) (T := TX6) (N := 6) hx hb hts in_x_allow_X6 tyX6 tyX6_ok nmX6 hown hK hP hD hS (22 + (6 * sv + 2)) (xAt_2 h a e cI cJ cO cE L I M J n cap fE sd si2 sa dl (s := sv) (by omega)) rfl 5 (by decide) (hts (.fieldLink RX6 19 "ServiceTree$Restarts" "window" "I") (by decide +kernel)) (fun _ h9 => h9) rfl (by decide +kernel) rfl rfl (Nat.le_of_ble_eq_true rfl) dX6_allow_12 (fun H locs hP hD hS => ?_)
  replace hP : va_P (dC, dI) vwCl ((xW h a e cI cJ cO cE L I M J n cap fE sd si2 sa dl).set (22 + (6 * sv + 2)) (sd sv 2, .inr (7, [.ref (sd sv 3), .int (si2 sv 21), .int (si2 sv 22), .int (si2 sv 23), .int (si2 sv 24), .int p2]))) H := hP
  replace hD : va_D A ((xW h a e cI cJ cO cE L I M J n cap fE sd si2 sa dl).set (22 + (6 * sv + 2)) (sd sv 2, .inr (7, [.ref (sd sv 3), .int (si2 sv 21), .int (si2 sv 22), .int (si2 sv 23), .int (si2 sv 24), .int p2]))) := hD
  rw [xSv_25 h a e cI cJ cO cE L I M J n cap fE sd si2 sa dl (s := sv) (by omega)] at hP hD
  obtain ⟨si3, esi3⟩ : ∃ f9 : Nat → Nat → Int32, f9 = up2 si2 sv 25 p2 := ⟨_, rfl⟩
  rw [← esi3] at hP hD
  replace hX : InvX n cap fE sd dl (b) I J si3 := by rw [esi3]; exact hX.setsi (by decide)
  replace hUsi : ∀ s9 q9 : Nat, q9 ∉ ([23, 24, 25] : List Nat) → si3 s9 q9 = si s9 q9 := by rw [esi3]; exact xw_up2 (by decide) hUsi
  exact W.vret hx hb hr (fun t ht hW => ⟨⟨si3, rfl, ⟨hX.mono (by omega), hUsi, trivial⟩, by rw [ht]; exact hP, hD⟩, hS.F ht⟩) hS.2.2 dX6_allow_15
def wq_x_note : List Cond := [.code yX6_note cX6_note 2 none, .fieldLink RX6 9 "ServiceTree$Restarts" "times" "[I", .fieldLink RX6 25 "ServiceTree$Restarts" "next" "I", .fieldLink RX6 28 "ServiceTree$Restarts" "filled" "I"] ++ (wsX60)
theorem in_x_note_X6 : ∀ w ∈ wsX60, w ∈ wq_x_note := fun _ h => List.mem_append_right _ (h)
set_option maxRecDepth 20000 in
theorem wi_x_note : ∀ w ∈ wq_x_note, w ∈ lw_tbl := List.forall_mem_append.mpr ⟨(by decide +kernel), inKX6⟩
set_option maxRecDepth 20000 in
theorem wg_x_note : GoodIn wq_x_note wq_x_note := goodIn_sub (fun _ h => h) (by decide +kernel)
def rm_x_note : Room := { frames := 0, cells := 0, slots := 0, locals := 0 }
set_option maxHeartbeats 4000000 in
set_option maxRecDepth 100000 in
theorem c_x_note (l : Launch) (dC : Nat → ClassId) (dI : Nat → Nat → Nat) (h : Nat) (a : Nat → Nat) (e : Nat) (cI cJ cO cE : ClassId) (L : Nat → Int64) (I : Nat → Int32) (M : Nat → Nat → Int64) (J : Nat → Nat → Int32) (n cap : Nat) (fE : Nat → Option Nat) (sd : Nat → Nat → Nat) (si : Nat → Nat → Int32) (sa : Nat → Nat → Nat → Int32) (dl : Nat → Nat) (b : Nat) (sv : Nat) (p0 : Int32) (sz : Nat) (hX0 : InvX n cap fE sd dl b I J si) (hb0 : b + 0 < 2147483648) (hp0 : sv < n) : Met l yX6_note wq_x_note rm_x_note (va_Pc [.ref (sd sv 2), .int p0] (fun U => U.heap.size = sz ∧ va_P (dC, dI) vwCl (xW h a e cI cJ cO cE L I M J n cap fE sd si sa dl) U.heap ∧ va_K (dC, dI) vwCl (xT cI cJ cO cE) U ∧ va_D (fun _ => True) (xW h a e cI cJ cO cE L I M J n cap fE sd si sa dl) ∧ pw_N U)) (va_Qv (fun (u : (Nat → Nat → Int32) × (Nat → Nat → Nat → Int32)) => InvX n cap fE sd dl (b + 0) I J u.1 ∧ (∀ s9 q9 : Nat, q9 ∉ ([21, 22] : List Nat) → u.1 s9 q9 = si s9 q9) ∧ (∀ s9 q9 : Nat, q9 ∉ ([3] : List Nat) → u.2 s9 q9 = sa s9 q9) ∧ (True)) (fun (u : (Nat → Nat → Int32) × (Nat → Nat → Nat → Int32)) (t : State) => va_P (dC, dI) vwCl (xW h a e cI cJ cO cE L I M J n cap fE sd u.1 u.2 dl) t.heap ∧ va_D (va_A (xW h a e cI cJ cO cE L I M J n cap fE sd si sa dl) sz) (xW h a e cI cJ cO cE L I M J n cap fE sd u.1 u.2 dl)) (va_A (xW h a e cI cJ cO cE L I M J n cap fE sd si sa dl) sz)) 0 0 (va_A (xW h a e cI cJ cO cE L I M J n cap fE sd si sa dl) sz) := by
  have hn : n ≤ 40 := hX0.1.1
  have hX := hX0
  have hUsi : ∀ s9 q9 : Nat, q9 ∉ ([21, 22] : List Nat) → si s9 q9 = si s9 q9 := fun _ _ _ => rfl
  have hUsa : ∀ s9 q9 : Nat, q9 ∉ ([3] : List Nat) → sa s9 q9 = sa s9 q9 := fun _ _ _ => rfl
  refine Met.ofW (cc := cX6_note) (maxL := 2) (ret := none) (by decide) rfl ?_
  intro p e9 s m args below meth c s₁ B hml hv
  obtain ⟨rfl, hsz, hP, hK, hD0, hN⟩ := hv
  have hx := B.exec
  have hb := B.bytes
  have hr := B.returns
  have hts := atoms_spec (ws := wq_x_note) B.pre
  have hown : s.vm.findClass RX6 = some m.cls := findClass_of_methodNamed B.named
  have hlocks := B.notSynchronized
  subst hsz
  have hD := hD0.self (sz := s.heap.size)
  generalize hAe : va_A (xW h a e cI cJ cO cE L I M J n cap fE sd si sa dl) s.heap.size = A at hD ⊢
  have hA : ∀ q : Nat, s.heap.size ≤ q → A q := fun q h => by rw [← hAe]; exact Or.inr h
  have hS : va_S A s.heap s.heap [] := va_S.rf
  have hl := lv_entry ([.ref (sd sv 2), .int p0]) (n := 2) (Nat.le_of_ble_eq_true rfl)
  rw [lg_entry_eq]
  generalize (lg_sl ([.ref (sd sv 2), .int p0]) ++ List.replicate (2 - (lg_sl ([.ref (sd sv 2), .int p0])).length) Slot.unset).toArray = ls at hl ⊢
  have hl : lv_has ls 2 [(0, .ref (sd sv 2)), (1, .int p0)] := hl
  refine lv_aload_n hx hb dX6_note_0 rfl (lv_at hl 0 rfl) ?_
  refine va_get (D := (dC, dI)) (ci := 7) (v := .ref (sd sv 3)) (C := RX6) (T := TX6) (N := 6) hx hb hts in_x_note_X6 hown hK hP (22 + (6 * sv + 2)) (xAt_2 h a e cI cJ cO cE L I M J n cap fE sd si sa dl (s := sv) (by omega)) rfl 0 (by decide) (hts (.fieldLink RX6 9 "ServiceTree$Restarts" "times" "[I") (by decide +kernel)) (fun _ h9 => h9) rfl dX6_note_1 ?_
  refine lv_aload_n hx hb dX6_note_4 rfl (lv_at hl 0 rfl) ?_
  refine va_get (D := (dC, dI)) (ci := 7) (v := .int (si sv 21)) (C := RX6) (T := TX6) (N := 6) hx hb hts in_x_note_X6 hown hK hP (22 + (6 * sv + 2)) (xAt_2 h a e cI cJ cO cE L I M J n cap fE sd si sa dl (s := sv) (by omega)) rfl 1 (by decide) (hts (.fieldLink RX6 25 "ServiceTree$Restarts" "next" "I") (by decide +kernel)) (fun _ h9 => h9) rfl dX6_note_5 ?_
  obtain ⟨z1, hz1, ez1⟩ := hX.2.2.2.2.1 sv
  refine p1_topr (v := .int (nI z1)) (congrArg Value.int ez1) ?_
  refine lv_iload_n hx hb dX6_note_8 rfl (lv_at hl 1 rfl) ?_
  refine va_iast (n := 10) (f := sa sv 3) hx hb hK hP hD hS (22 + (6 * sv + 3)) 0 (xAt_3 h a e cI cJ cO cE L I M J n cap fE sd si sa dl (s := sv) (by omega)) rfl (vp_in_nI (n := z1) (by omega) (by omega)) dX6_note_9 (fun H locs hP hD hS => ?_)
  rw [xSa_3 h a e cI cJ cO cE L I M J n cap fE sd si sa dl (s := sv) (by omega)] at hP hD
  obtain ⟨sa2, esa2⟩ : ∃ f9 : Nat → Nat → Nat → Int32, f9 = up2 sa sv 3 (upd (sa sv 3) (nI z1).toNatClampNeg p0) := ⟨_, rfl⟩
  rw [← esa2] at hP hD
  replace hUsa : ∀ s9 q9 : Nat, q9 ∉ ([3] : List Nat) → sa2 s9 q9 = sa s9 q9 := by rw [esa2]; exact xw_up2 (by decide) hUsa
  refine lv_aload_n hx hb dX6_note_10 rfl (lv_at hl 0 rfl) ?_
  refine lv_aload_n hx hb dX6_note_11 rfl (lv_at hl 0 rfl) ?_
  refine va_get (D := (dC, dI)) (ci := 7) (v := .int (si sv 21)) (C := RX6) (T := TX6) (N := 6) hx hb hts in_x_note_X6 hown hK hP (22 + (6 * sv + 2)) (xAt_2 h a e cI cJ cO cE L I M J n cap fE sd si sa2 dl (s := sv) (by omega)) rfl 1 (by decide) (hts (.fieldLink RX6 25 "ServiceTree$Restarts" "next" "I") (by decide +kernel)) (fun _ h9 => h9) rfl dX6_note_12 ?_
  refine p1_topr (v := .int (nI z1)) (congrArg Value.int ez1) ?_
  refine lv_iconst (v := 1) hx hb dX6_note_15 (by decide) ?_
  refine lv_iadd hx hb dX6_note_16 ?_
  refine p1_topr (v := .int (nI (z1 + 1))) (congrArg Value.int (nI_add z1 1)) ?_
  refine lv_bipush (v := 10) hx hb dX6_note_17 (by decide) ?_
  refine lv_irem hx hb dX6_note_19 (by decide) ?_
  obtain ⟨m3, hm3, em3⟩ : ∃ z9 : Nat, z9 < 10 ∧ z9 = (z1 + 1) % 10 := ⟨_, Nat.mod_lt _ (by omega), rfl⟩
  refine p1_topr (v := .int (nI m3)) (congrArg Value.int (by rw [em3]; exact pk_rem (a := z1 + 1) (d := 10) (by omega) (by omega) (by omega))) ?_
  refine va_put (D := (dC, dI)) (ci := 7) (fs := [.ref (sd sv 3), .int (si sv 21), .int (si sv 22), .int (si sv 23), .int (si sv 24), .int (si sv 25)]) (v := .int (nI m3)) (ty := .int) (C := RX6) (T := TX6) (N := 6) hx hb hts in_x_note_X6 tyX6 tyX6_ok nmX6 hown hK hP hD hS (22 + (6 * sv + 2)) (xAt_2 h a e cI cJ cO cE L I M J n cap fE sd si sa2 dl (s := sv) (by omega)) rfl 1 (by decide) (hts (.fieldLink RX6 25 "ServiceTree$Restarts" "next" "I") (by decide +kernel)) (fun _ h9 => h9) rfl (by decide +kernel) rfl rfl (Nat.le_of_ble_eq_true rfl) dX6_note_20 (fun H locs hP hD hS => ?_)
  replace hP : va_P (dC, dI) vwCl ((xW h a e cI cJ cO cE L I M J n cap fE sd si sa2 dl).set (22 + (6 * sv + 2)) (sd sv 2, .inr (7, [.ref (sd sv 3), .int (nI m3), .int (si sv 22), .int (si sv 23), .int (si sv 24), .int (si sv 25)]))) H := hP
  replace hD : va_D A ((xW h a e cI cJ cO cE L I M J n cap fE sd si sa2 dl).set (22 + (6 * sv + 2)) (sd sv 2, .inr (7, [.ref (sd sv 3), .int (nI m3), .int (si sv 22), .int (si sv 23), .int (si sv 24), .int (si sv 25)]))) := hD
  rw [xSv_21 h a e cI cJ cO cE L I M J n cap fE sd si sa2 dl (s := sv) (by omega)] at hP hD
  obtain ⟨si4, esi4⟩ : ∃ f9 : Nat → Nat → Int32, f9 = up2 si sv 21 (nI m3) := ⟨_, rfl⟩
  rw [← esi4] at hP hD
  replace hX : InvX n cap fE sd dl (b) I J si4 := by rw [esi4]; exact hX.set21 (x := m3) (by omega)
  replace hUsi : ∀ s9 q9 : Nat, q9 ∉ ([21, 22] : List Nat) → si4 s9 q9 = si s9 q9 := by rw [esi4]; exact xw_up2 (by decide) hUsi
  refine lv_aload_n hx hb dX6_note_23 rfl (lv_at hl 0 rfl) ?_
  refine va_get (D := (dC, dI)) (ci := 7) (v := .int (si4 sv 22)) (C := RX6) (T := TX6) (N := 6) hx hb hts in_x_note_X6 hown hK hP (22 + (6 * sv + 2)) (xAt_2 h a e cI cJ cO cE L I M J n cap fE sd si4 sa2 dl (s := sv) (by omega)) rfl 2 (by decide) (hts (.fieldLink RX6 28 "ServiceTree$Restarts" "filled" "I") (by decide +kernel)) (fun _ h9 => h9) rfl dX6_note_24 ?_
  refine lv_topi (fun x5 ex5 => ?_)
  refine lv_bipush (v := 10) hx hb dX6_note_27 (by decide) ?_
  refine lv_icmp_ge (tgt := 42) hx hb dX6_note_29 (by decide) (fun c6 => ?_) (fun c6 => ?_)
  · exact W.vret hx hb hr (fun t ht hW => ⟨⟨(si4, sa2), rfl, ⟨hX.mono (by omega), hUsi, hUsa, trivial⟩, by rw [ht]; exact hP, hD⟩, hS.F ht⟩) hS.2.2 dX6_note_42
  · refine lv_aload_n hx hb dX6_note_32 rfl (lv_at hl 0 rfl) ?_
    refine lv_dup hx hb dX6_note_33 rfl ?_
    refine va_get (D := (dC, dI)) (ci := 7) (v := .int (si4 sv 22)) (C := RX6) (T := TX6) (N := 6) hx hb hts in_x_note_X6 hown hK hP (22 + (6 * sv + 2)) (xAt_2 h a e cI cJ cO cE L I M J n cap fE sd si4 sa2 dl (s := sv) (by omega)) rfl 2 (by decide) (hts (.fieldLink RX6 28 "ServiceTree$Restarts" "filled" "I") (by decide +kernel)) (fun _ h9 => h9) rfl dX6_note_34 ?_
    refine p1_topr (v := .int x5) (congrArg Value.int ex5.symm) ?_
    refine lv_iconst (v := 1) hx hb dX6_note_37 (by decide) ?_
    refine lv_iadd hx hb dX6_note_38 ?_
    refine lv_topi (fun x7 ex7 => ?_)
    refine va_put (D := (dC, dI)) (ci := 7) (fs := [.ref (sd sv 3), .int (si4 sv 21), .int (si4 sv 22), .int (si4 sv 23), .int (si4 sv 24), .int (si4 sv 25)]) (v := .int x7) (ty := .int) (C := RX6) (T := TX6) (N := 6) hx hb hts in_x_note_X6 tyX6 tyX6_ok nmX6 hown hK hP hD hS (22 + (6 * sv + 2)) (xAt_2 h a e cI cJ cO cE L I M J n cap fE sd si4 sa2 dl (s := sv) (by omega)) rfl 2 (by decide) (hts (.fieldLink RX6 28 "ServiceTree$Restarts" "filled" "I") (by decide +kernel)) (fun _ h9 => h9) rfl (by decide +kernel) rfl rfl (Nat.le_of_ble_eq_true rfl) dX6_note_39 (fun H locs hP hD hS => ?_)
    replace hP : va_P (dC, dI) vwCl ((xW h a e cI cJ cO cE L I M J n cap fE sd si4 sa2 dl).set (22 + (6 * sv + 2)) (sd sv 2, .inr (7, [.ref (sd sv 3), .int (si4 sv 21), .int x7, .int (si4 sv 23), .int (si4 sv 24), .int (si4 sv 25)]))) H := hP
    replace hD : va_D A ((xW h a e cI cJ cO cE L I M J n cap fE sd si4 sa2 dl).set (22 + (6 * sv + 2)) (sd sv 2, .inr (7, [.ref (sd sv 3), .int (si4 sv 21), .int x7, .int (si4 sv 23), .int (si4 sv 24), .int (si4 sv 25)]))) := hD
    rw [xSv_22 h a e cI cJ cO cE L I M J n cap fE sd si4 sa2 dl (s := sv) (by omega)] at hP hD
    obtain ⟨si8, esi8⟩ : ∃ f9 : Nat → Nat → Int32, f9 = up2 si4 sv 22 x7 := ⟨_, rfl⟩
    rw [← esi8] at hP hD
    replace hX : InvX n cap fE sd dl (b) I J si8 := by rw [esi8]; exact hX.setsi (by decide)
    replace hUsi : ∀ s9 q9 : Nat, q9 ∉ ([21, 22] : List Nat) → si8 s9 q9 = si s9 q9 := by rw [esi8]; exact xw_up2 (by decide) hUsi
    exact W.vret hx hb hr (fun t ht hW => ⟨⟨(si8, sa2), rfl, ⟨hX.mono (by omega), hUsi, hUsa, trivial⟩, by rw [ht]; exact hP, hD⟩, hS.F ht⟩) hS.2.2 dX6_note_42
def wq_x_allowed : List Cond := [.code yX6_allowed cX6_allowed 2 (some .boolean), .fieldLink RX6 22 "ServiceTree$Restarts" "budget" "I", .fieldLink RX6 28 "ServiceTree$Restarts" "filled" "I", .fieldLink RX6 9 "ServiceTree$Restarts" "times" "[I", .fieldLink RX6 25 "ServiceTree$Restarts" "next" "I", .fieldLink RX6 19 "ServiceTree$Restarts" "window" "I"] ++ (wsX60)
theorem in_x_allowed_X6 : ∀ w ∈ wsX60, w ∈ wq_x_allowed := fun _ h => List.mem_append_right _ (h)
set_option maxRecDepth 20000 in
theorem wi_x_allowed : ∀ w ∈ wq_x_allowed, w ∈ lw_tbl := List.forall_mem_append.mpr ⟨(by decide +kernel), inKX6⟩
set_option maxRecDepth 20000 in
theorem wg_x_allowed : GoodIn wq_x_allowed wq_x_allowed := goodIn_sub (fun _ h => h) (by decide +kernel)
def rm_x_allowed : Room := { frames := 0, cells := 0, slots := 0, locals := 0 }
set_option maxHeartbeats 4000000 in
set_option maxRecDepth 100000 in
theorem c_x_allowed (l : Launch) (dC : Nat → ClassId) (dI : Nat → Nat → Nat) (h : Nat) (a : Nat → Nat) (e : Nat) (cI cJ cO cE : ClassId) (L : Nat → Int64) (I : Nat → Int32) (M : Nat → Nat → Int64) (J : Nat → Nat → Int32) (n cap : Nat) (fE : Nat → Option Nat) (sd : Nat → Nat → Nat) (si : Nat → Nat → Int32) (sa : Nat → Nat → Nat → Int32) (dl : Nat → Nat) (b : Nat) (sv : Nat) (p0 : Int32) (sz : Nat) (hX0 : InvX n cap fE sd dl b I J si) (hb0 : b + 0 < 2147483648) (hp0 : sv < n) : Met l yX6_allowed wq_x_allowed rm_x_allowed (va_Pc [.ref (sd sv 2), .int p0] (fun U => U.heap.size = sz ∧ va_P (dC, dI) vwCl (xW h a e cI cJ cO cE L I M J n cap fE sd si sa dl) U.heap ∧ va_K (dC, dI) vwCl (xT cI cJ cO cE) U ∧ va_D (fun _ => True) (xW h a e cI cJ cO cE L I M J n cap fE sd si sa dl) ∧ pw_N U)) (va_Qi (fun (r : Int32) (u : Unit) => (True)) (fun (u : Unit) (t : State) => va_P (dC, dI) vwCl (xW h a e cI cJ cO cE L I M J n cap fE sd si sa dl) t.heap ∧ va_D (va_A (xW h a e cI cJ cO cE L I M J n cap fE sd si sa dl) sz) (xW h a e cI cJ cO cE L I M J n cap fE sd si sa dl)) (va_A (xW h a e cI cJ cO cE L I M J n cap fE sd si sa dl) sz)) 0 0 (va_A (xW h a e cI cJ cO cE L I M J n cap fE sd si sa dl) sz) := by
  have hn : n ≤ 40 := hX0.1.1
  have hX := hX0
  refine Met.ofW (cc := cX6_allowed) (maxL := 2) (ret := (some .boolean)) (by decide) rfl ?_
  intro p e9 s m args below meth c s₁ B hml hv
  obtain ⟨rfl, hsz, hP, hK, hD0, hN⟩ := hv
  have hx := B.exec
  have hb := B.bytes
  have hr := B.returns
  have hts := atoms_spec (ws := wq_x_allowed) B.pre
  have hown : s.vm.findClass RX6 = some m.cls := findClass_of_methodNamed B.named
  have hlocks := B.notSynchronized
  subst hsz
  have hD := hD0.self (sz := s.heap.size)
  generalize hAe : va_A (xW h a e cI cJ cO cE L I M J n cap fE sd si sa dl) s.heap.size = A at hD ⊢
  have hA : ∀ q : Nat, s.heap.size ≤ q → A q := fun q h => by rw [← hAe]; exact Or.inr h
  have hS : va_S A s.heap s.heap [] := va_S.rf
  have hl := lv_entry ([.ref (sd sv 2), .int p0]) (n := 2) (Nat.le_of_ble_eq_true rfl)
  rw [lg_entry_eq]
  generalize (lg_sl ([.ref (sd sv 2), .int p0]) ++ List.replicate (2 - (lg_sl ([.ref (sd sv 2), .int p0])).length) Slot.unset).toArray = ls at hl ⊢
  have hl : lv_has ls 2 [(0, .ref (sd sv 2)), (1, .int p0)] := hl
  refine lv_aload_n hx hb dX6_allowed_0 rfl (lv_at hl 0 rfl) ?_
  refine va_get (D := (dC, dI)) (ci := 7) (v := .int (si sv 24)) (C := RX6) (T := TX6) (N := 6) hx hb hts in_x_allowed_X6 hown hK hP (22 + (6 * sv + 2)) (xAt_2 h a e cI cJ cO cE L I M J n cap fE sd si sa dl (s := sv) (by omega)) rfl 4 (by decide) (hts (.fieldLink RX6 22 "ServiceTree$Restarts" "budget" "I") (by decide +kernel)) (fun _ h9 => h9) rfl dX6_allowed_1 ?_
  obtain ⟨z1, hz1, ez1⟩ := hX.2.2.2.2.2.1 sv
  refine p1_topr (v := .int (nI z1)) (congrArg Value.int ez1) ?_
  refine lv_if_ne (tgt := 9) hx hb dX6_allowed_4 (by decide) (fun c2 => ?_) (fun c2 => ?_)
  · replace c2 : ¬ (z1 = 0) := fun q9 => c2 ((nI_eq (a := z1) (b := 0) (by omega) (by omega)).mpr q9)
    refine lv_aload_n hx hb dX6_allowed_9 rfl (lv_at hl 0 rfl) ?_
    refine va_get (D := (dC, dI)) (ci := 7) (v := .int (si sv 22)) (C := RX6) (T := TX6) (N := 6) hx hb hts in_x_allowed_X6 hown hK hP (22 + (6 * sv + 2)) (xAt_2 h a e cI cJ cO cE L I M J n cap fE sd si sa dl (s := sv) (by omega)) rfl 2 (by decide) (hts (.fieldLink RX6 28 "ServiceTree$Restarts" "filled" "I") (by decide +kernel)) (fun _ h9 => h9) rfl dX6_allowed_10 ?_
    refine lv_topi (fun x3 ex3 => ?_)
    refine lv_aload_n hx hb dX6_allowed_13 rfl (lv_at hl 0 rfl) ?_
    refine va_get (D := (dC, dI)) (ci := 7) (v := .int (si sv 24)) (C := RX6) (T := TX6) (N := 6) hx hb hts in_x_allowed_X6 hown hK hP (22 + (6 * sv + 2)) (xAt_2 h a e cI cJ cO cE L I M J n cap fE sd si sa dl (s := sv) (by omega)) rfl 4 (by decide) (hts (.fieldLink RX6 22 "ServiceTree$Restarts" "budget" "I") (by decide +kernel)) (fun _ h9 => h9) rfl dX6_allowed_14 ?_
    refine p1_topr (v := .int (nI z1)) (congrArg Value.int ez1) ?_
    refine lv_icmp_ge (tgt := 22) hx hb dX6_allowed_17 (by decide) (fun c4 => ?_) (fun c4 => ?_)
    · refine lv_aload_n hx hb dX6_allowed_22 rfl (lv_at hl 0 rfl) ?_
      refine va_get (D := (dC, dI)) (ci := 7) (v := .ref (sd sv 3)) (C := RX6) (T := TX6) (N := 6) hx hb hts in_x_allowed_X6 hown hK hP (22 + (6 * sv + 2)) (xAt_2 h a e cI cJ cO cE L I M J n cap fE sd si sa dl (s := sv) (by omega)) rfl 0 (by decide) (hts (.fieldLink RX6 9 "ServiceTree$Restarts" "times" "[I") (by decide +kernel)) (fun _ h9 => h9) rfl dX6_allowed_23 ?_
      refine lv_aload_n hx hb dX6_allowed_26 rfl (lv_at hl 0 rfl) ?_
      refine va_get (D := (dC, dI)) (ci := 7) (v := .int (si sv 21)) (C := RX6) (T := TX6) (N := 6) hx hb hts in_x_allowed_X6 hown hK hP (22 + (6 * sv + 2)) (xAt_2 h a e cI cJ cO cE L I M J n cap fE sd si sa dl (s := sv) (by omega)) rfl 1 (by decide) (hts (.fieldLink RX6 25 "ServiceTree$Restarts" "next" "I") (by decide +kernel)) (fun _ h9 => h9) rfl dX6_allowed_27 ?_
      obtain ⟨z5, hz5, ez5⟩ := hX.2.2.2.2.1 sv
      refine p1_topr (v := .int (nI z5)) (congrArg Value.int ez5) ?_
      refine lv_bipush (v := 10) hx hb dX6_allowed_30 (by decide) ?_
      refine lv_iadd hx hb dX6_allowed_32 ?_
      refine p1_topr (v := .int (nI (z5 + 10))) (congrArg Value.int (nI_add z5 10)) ?_
      refine lv_aload_n hx hb dX6_allowed_33 rfl (lv_at hl 0 rfl) ?_
      refine va_get (D := (dC, dI)) (ci := 7) (v := .int (si sv 24)) (C := RX6) (T := TX6) (N := 6) hx hb hts in_x_allowed_X6 hown hK hP (22 + (6 * sv + 2)) (xAt_2 h a e cI cJ cO cE L I M J n cap fE sd si sa dl (s := sv) (by omega)) rfl 4 (by decide) (hts (.fieldLink RX6 22 "ServiceTree$Restarts" "budget" "I") (by decide +kernel)) (fun _ h9 => h9) rfl dX6_allowed_34 ?_
      refine p1_topr (v := .int (nI z1)) (congrArg Value.int ez1) ?_
      refine lv_isub hx hb dX6_allowed_37 ?_
      refine p1_topr (v := .int (nI ((z5 + 10) - z1))) (congrArg Value.int (pk_sub (a := z5 + 10) (b := z1) (by omega))) ?_
      refine lv_bipush (v := 10) hx hb dX6_allowed_38 (by decide) ?_
      refine lv_irem hx hb dX6_allowed_40 (by decide) ?_
      obtain ⟨m6, hm6, em6⟩ : ∃ z9 : Nat, z9 < 10 ∧ z9 = ((z5 + 10) - z1) % 10 := ⟨_, Nat.mod_lt _ (by omega), rfl⟩
      refine p1_topr (v := .int (nI m6)) (congrArg Value.int (by rw [em6]; exact pk_rem (a := (z5 + 10) - z1) (d := 10) (by omega) (by omega) (by omega))) ?_
      refine va_iald (n := 10) (f := sa sv 3) hx hb hK hP (22 + (6 * sv + 3)) 0 (xAt_3 h a e cI cJ cO cE L I M J n cap fE sd si sa dl (s := sv) (by omega)) rfl (vp_in_nI (n := m6) (by omega) (by omega)) dX6_allowed_41 ?_
      refine lv_topi (fun x7 ex7 => ?_)
      refine lv_iload_n hx hb dX6_allowed_42 rfl (lv_at hl 1 rfl) ?_
      refine lv_aload_n hx hb dX6_allowed_43 rfl (lv_at hl 0 rfl) ?_
      refine va_get (D := (dC, dI)) (ci := 7) (v := .int (si sv 25)) (C := RX6) (T := TX6) (N := 6) hx hb hts in_x_allowed_X6 hown hK hP (22 + (6 * sv + 2)) (xAt_2 h a e cI cJ cO cE L I M J n cap fE sd si sa dl (s := sv) (by omega)) rfl 5 (by decide) (hts (.fieldLink RX6 19 "ServiceTree$Restarts" "window" "I") (by decide +kernel)) (fun _ h9 => h9) rfl dX6_allowed_44 ?_
      refine lv_topi (fun x8 ex8 => ?_)
      refine lv_isub hx hb dX6_allowed_47 ?_
      refine lv_topi (fun x9 ex9 => ?_)
      refine lv_icmp_gt (tgt := 55) hx hb dX6_allowed_48 (by decide) (fun c10 => ?_) (fun c10 => ?_)
      · refine lv_iconst (v := 0) hx hb dX6_allowed_55 (by decide) ?_
        exact W.zret (v := 0) hx hb hr (by decide) (fun t ht hW => ⟨⟨0, (), rfl, trivial, by rw [ht]; exact hP, hD⟩, hS.F ht⟩) hS.2.2 dX6_allowed_56
      · refine lv_iconst (v := 1) hx hb dX6_allowed_51 (by decide) ?_
        refine lv_goto (tgt := 56) hx hb dX6_allowed_52 (by decide) ?_
        exact W.zret (v := 1) hx hb hr (by decide) (fun t ht hW => ⟨⟨1, (), rfl, trivial, by rw [ht]; exact hP, hD⟩, hS.F ht⟩) hS.2.2 dX6_allowed_56
    · refine lv_iconst (v := 1) hx hb dX6_allowed_20 (by decide) ?_
      exact W.zret (v := 1) hx hb hr (by decide) (fun t ht hW => ⟨⟨1, (), rfl, trivial, by rw [ht]; exact hP, hD⟩, hS.F ht⟩) hS.2.2 dX6_allowed_21
  · replace c2 : z1 = 0 := (nI_eq (a := z1) (b := 0) (by omega) (by omega)).mp c2
    refine lv_iconst (v := 0) hx hb dX6_allowed_7 (by decide) ?_
    exact W.zret (v := 0) hx hb hr (by decide) (fun t ht hW => ⟨⟨0, (), rfl, trivial, by rw [ht]; exact hP, hD⟩, hS.F ht⟩) hS.2.2 dX6_allowed_8
def wq_x_fss : List Cond := [.code yX7_firstStateOfStart cX7_firstStateOfStart 1 (some .int), .fieldLink RX7 29 "ServiceTree$Service" "startTicks" "I"] ++ (wsX70)
theorem in_x_fss_X7 : ∀ w ∈ wsX70, w ∈ wq_x_fss := fun _ h => List.mem_append_right _ (h)
set_option maxRecDepth 20000 in
theorem wi_x_fss : ∀ w ∈ wq_x_fss, w ∈ lw_tbl := List.forall_mem_append.mpr ⟨(by decide +kernel), inKX7⟩
set_option maxRecDepth 20000 in
theorem wg_x_fss : GoodIn wq_x_fss wq_x_fss := goodIn_sub (fun _ h => h) (by decide +kernel)
def rm_x_fss : Room := { frames := 0, cells := 0, slots := 0, locals := 0 }
set_option maxHeartbeats 4000000 in
set_option maxRecDepth 100000 in
theorem c_x_fss (l : Launch) (dC : Nat → ClassId) (dI : Nat → Nat → Nat) (h : Nat) (a : Nat → Nat) (e : Nat) (cI cJ cO cE : ClassId) (L : Nat → Int64) (I : Nat → Int32) (M : Nat → Nat → Int64) (J : Nat → Nat → Int32) (n cap : Nat) (fE : Nat → Option Nat) (sd : Nat → Nat → Nat) (si : Nat → Nat → Int32) (sa : Nat → Nat → Nat → Int32) (dl : Nat → Nat) (b : Nat) (sv : Nat) (sz : Nat) (hX0 : InvX n cap fE sd dl b I J si) (hb0 : b + 0 < 2147483648) (hp0 : sv < n) : Met l yX7_firstStateOfStart wq_x_fss rm_x_fss (va_Pc [.ref (sd sv 0)] (fun U => U.heap.size = sz ∧ va_P (dC, dI) vwCl (xW h a e cI cJ cO cE L I M J n cap fE sd si sa dl) U.heap ∧ va_K (dC, dI) vwCl (xT cI cJ cO cE) U ∧ va_D (fun _ => True) (xW h a e cI cJ cO cE L I M J n cap fE sd si sa dl) ∧ pw_N U)) (va_Qi (fun (r : Int32) (u : Unit) => (∃ j : Nat, j ≤ 5 ∧ r = nI j)) (fun (u : Unit) (t : State) => va_P (dC, dI) vwCl (xW h a e cI cJ cO cE L I M J n cap fE sd si sa dl) t.heap ∧ va_D (va_A (xW h a e cI cJ cO cE L I M J n cap fE sd si sa dl) sz) (xW h a e cI cJ cO cE L I M J n cap fE sd si sa dl)) (va_A (xW h a e cI cJ cO cE L I M J n cap fE sd si sa dl) sz)) 0 0 (va_A (xW h a e cI cJ cO cE L I M J n cap fE sd si sa dl) sz) := by
  have hn : n ≤ 40 := hX0.1.1
  have hX := hX0
  refine Met.ofW (cc := cX7_firstStateOfStart) (maxL := 1) (ret := (some .int)) (by decide) rfl ?_
  intro p e9 s m args below meth c s₁ B hml hv
  obtain ⟨rfl, hsz, hP, hK, hD0, hN⟩ := hv
  have hx := B.exec
  have hb := B.bytes
  have hr := B.returns
  have hts := atoms_spec (ws := wq_x_fss) B.pre
  have hown : s.vm.findClass RX7 = some m.cls := findClass_of_methodNamed B.named
  have hlocks := B.notSynchronized
  subst hsz
  have hD := hD0.self (sz := s.heap.size)
  generalize hAe : va_A (xW h a e cI cJ cO cE L I M J n cap fE sd si sa dl) s.heap.size = A at hD ⊢
  have hA : ∀ q : Nat, s.heap.size ≤ q → A q := fun q h => by rw [← hAe]; exact Or.inr h
  have hS : va_S A s.heap s.heap [] := va_S.rf
  have hl := lv_entry ([.ref (sd sv 0)]) (n := 1) (Nat.le_of_ble_eq_true rfl)
  rw [lg_entry_eq]
  generalize (lg_sl ([.ref (sd sv 0)]) ++ List.replicate (1 - (lg_sl ([.ref (sd sv 0)])).length) Slot.unset).toArray = ls at hl ⊢
  have hl : lv_has ls 1 [(0, .ref (sd sv 0))] := hl
  refine lv_aload_n hx hb dX7_firstStateOfStart_0 rfl (lv_at hl 0 rfl) ?_
  refine va_get (D := (dC, dI)) (ci := 8) (v := .int (si sv 1)) (C := RX7) (T := TX7) (N := 12) hx hb hts in_x_fss_X7 hown hK hP (22 + (6 * sv + 0)) (xAt_0 h a e cI cJ cO cE L I M J n cap fE sd si sa dl (s := sv) (by omega)) rfl 1 (by decide) (hts (.fieldLink RX7 29 "ServiceTree$Service" "startTicks" "I") (by decide +kernel)) (fun _ h9 => h9) rfl dX7_firstStateOfStart_1 ?_
  refine lv_topi (fun x1 ex1 => ?_)
  refine lv_if_ne (tgt := 11) hx hb dX7_firstStateOfStart_4 (by decide) (fun c2 => ?_) (fun c2 => ?_)
  · refine lv_iconst (v := 1) hx hb dX7_firstStateOfStart_11 (by decide) ?_
    exact W.iret (v := 1) hx hb hr (fun t ht hW => ⟨⟨1, (), rfl, ⟨1, by decide, rfl⟩, by rw [ht]; exact hP, hD⟩, hS.F ht⟩) hS.2.2 dX7_firstStateOfStart_12
  · refine lv_iconst (v := 2) hx hb dX7_firstStateOfStart_7 (by decide) ?_
    refine lv_goto (tgt := 12) hx hb dX7_firstStateOfStart_8 (by decide) ?_
    exact W.iret (v := 2) hx hb hr (fun t ht hW => ⟨⟨2, (), rfl, ⟨2, by decide, rfl⟩, by rw [ht]; exact hP, hD⟩, hS.F ht⟩) hS.2.2 dX7_firstStateOfStart_12
def wq_x_fsp : List Cond := [.code yX7_firstStateOfStop cX7_firstStateOfStop 1 (some .int), .fieldLink RX7 32 "ServiceTree$Service" "stopTicks" "I"] ++ (wsX70)
theorem in_x_fsp_X7 : ∀ w ∈ wsX70, w ∈ wq_x_fsp := fun _ h => List.mem_append_right _ (h)
set_option maxRecDepth 20000 in
theorem wi_x_fsp : ∀ w ∈ wq_x_fsp, w ∈ lw_tbl := List.forall_mem_append.mpr ⟨(by decide +kernel), inKX7⟩
set_option maxRecDepth 20000 in
theorem wg_x_fsp : GoodIn wq_x_fsp wq_x_fsp := goodIn_sub (fun _ h => h) (by decide +kernel)
def rm_x_fsp : Room := { frames := 0, cells := 0, slots := 0, locals := 0 }
set_option maxHeartbeats 4000000 in
set_option maxRecDepth 100000 in
theorem c_x_fsp (l : Launch) (dC : Nat → ClassId) (dI : Nat → Nat → Nat) (h : Nat) (a : Nat → Nat) (e : Nat) (cI cJ cO cE : ClassId) (L : Nat → Int64) (I : Nat → Int32) (M : Nat → Nat → Int64) (J : Nat → Nat → Int32) (n cap : Nat) (fE : Nat → Option Nat) (sd : Nat → Nat → Nat) (si : Nat → Nat → Int32) (sa : Nat → Nat → Nat → Int32) (dl : Nat → Nat) (b : Nat) (sv : Nat) (sz : Nat) (hX0 : InvX n cap fE sd dl b I J si) (hb0 : b + 0 < 2147483648) (hp0 : sv < n) : Met l yX7_firstStateOfStop wq_x_fsp rm_x_fsp (va_Pc [.ref (sd sv 0)] (fun U => U.heap.size = sz ∧ va_P (dC, dI) vwCl (xW h a e cI cJ cO cE L I M J n cap fE sd si sa dl) U.heap ∧ va_K (dC, dI) vwCl (xT cI cJ cO cE) U ∧ va_D (fun _ => True) (xW h a e cI cJ cO cE L I M J n cap fE sd si sa dl) ∧ pw_N U)) (va_Qi (fun (r : Int32) (u : Unit) => (∃ j : Nat, j ≤ 5 ∧ r = nI j)) (fun (u : Unit) (t : State) => va_P (dC, dI) vwCl (xW h a e cI cJ cO cE L I M J n cap fE sd si sa dl) t.heap ∧ va_D (va_A (xW h a e cI cJ cO cE L I M J n cap fE sd si sa dl) sz) (xW h a e cI cJ cO cE L I M J n cap fE sd si sa dl)) (va_A (xW h a e cI cJ cO cE L I M J n cap fE sd si sa dl) sz)) 0 0 (va_A (xW h a e cI cJ cO cE L I M J n cap fE sd si sa dl) sz) := by
  have hn : n ≤ 40 := hX0.1.1
  have hX := hX0
  refine Met.ofW (cc := cX7_firstStateOfStop) (maxL := 1) (ret := (some .int)) (by decide) rfl ?_
  intro p e9 s m args below meth c s₁ B hml hv
  obtain ⟨rfl, hsz, hP, hK, hD0, hN⟩ := hv
  have hx := B.exec
  have hb := B.bytes
  have hr := B.returns
  have hts := atoms_spec (ws := wq_x_fsp) B.pre
  have hown : s.vm.findClass RX7 = some m.cls := findClass_of_methodNamed B.named
  have hlocks := B.notSynchronized
  subst hsz
  have hD := hD0.self (sz := s.heap.size)
  generalize hAe : va_A (xW h a e cI cJ cO cE L I M J n cap fE sd si sa dl) s.heap.size = A at hD ⊢
  have hA : ∀ q : Nat, s.heap.size ≤ q → A q := fun q h => by rw [← hAe]; exact Or.inr h
  have hS : va_S A s.heap s.heap [] := va_S.rf
  have hl := lv_entry ([.ref (sd sv 0)]) (n := 1) (Nat.le_of_ble_eq_true rfl)
  rw [lg_entry_eq]
  generalize (lg_sl ([.ref (sd sv 0)]) ++ List.replicate (1 - (lg_sl ([.ref (sd sv 0)])).length) Slot.unset).toArray = ls at hl ⊢
  have hl : lv_has ls 1 [(0, .ref (sd sv 0))] := hl
  refine lv_aload_n hx hb dX7_firstStateOfStop_0 rfl (lv_at hl 0 rfl) ?_
  refine va_get (D := (dC, dI)) (ci := 8) (v := .int (si sv 2)) (C := RX7) (T := TX7) (N := 12) hx hb hts in_x_fsp_X7 hown hK hP (22 + (6 * sv + 0)) (xAt_0 h a e cI cJ cO cE L I M J n cap fE sd si sa dl (s := sv) (by omega)) rfl 2 (by decide) (hts (.fieldLink RX7 32 "ServiceTree$Service" "stopTicks" "I") (by decide +kernel)) (fun _ h9 => h9) rfl dX7_firstStateOfStop_1 ?_
  refine lv_topi (fun x1 ex1 => ?_)
  refine lv_if_ne (tgt := 11) hx hb dX7_firstStateOfStop_4 (by decide) (fun c2 => ?_) (fun c2 => ?_)
  · refine lv_iconst (v := 3) hx hb dX7_firstStateOfStop_11 (by decide) ?_
    exact W.iret (v := 3) hx hb hr (fun t ht hW => ⟨⟨3, (), rfl, ⟨3, by decide, rfl⟩, by rw [ht]; exact hP, hD⟩, hS.F ht⟩) hS.2.2 dX7_firstStateOfStop_12
  · refine lv_iconst (v := 0) hx hb dX7_firstStateOfStop_7 (by decide) ?_
    refine lv_goto (tgt := 12) hx hb dX7_firstStateOfStop_8 (by decide) ?_
    exact W.iret (v := 0) hx hb hr (fun t ht hW => ⟨⟨0, (), rfl, ⟨0, by decide, rfl⟩, by rw [ht]; exact hP, hD⟩, hS.F ht⟩) hS.2.2 dX7_firstStateOfStop_12
