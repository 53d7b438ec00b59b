def wq_y_within : List Cond := [.code yX8_within cX8_within 3 (some .boolean)]
set_option maxRecDepth 20000 in
theorem wi_y_within : ∀ w ∈ wq_y_within, w ∈ lw_tbl := (by decide +kernel)
set_option maxRecDepth 20000 in
theorem wg_y_within : GoodIn wq_y_within wq_y_within := goodIn_sub (fun _ h => h) (by decide +kernel)
def rm_y_within : Room := { frames := 0, cells := 0, slots := 0, locals := 0 }
set_option maxHeartbeats 4000000 in
set_option maxRecDepth 100000 in
theorem c_y_within (l : Launch) (dC : Nat → ClassId) (dI : Nat → Nat → Nat) (h : Nat) (a : Nat → Nat) (e : Nat) (cI cJ cO cE : ClassId) (L : Nat → Int64) (I : Nat → Int32) (M : Nat → Nat → Int64) (J : Nat → Nat → Int32) (n cap : Nat) (fE : Nat → Option Nat) (sd : Nat → Nat → Nat) (si : Nat → Nat → Int32) (sa : Nat → Nat → Nat → Int32) (dl : Nat → Nat) (b : Nat) (p0 : Int32) (p1 : Int32) (p2 : Int32) (sz : Nat) (hX0 : InvX n cap fE sd dl b I J si) (hb0 : b + 0 < 2147483648)  : Met l yX8_within wq_y_within rm_y_within (va_Pc [.int p0, .int p1, .int p2] (fun U => U.heap.size = sz ∧ va_P (dC, dI) vwCl (xW h a e cI cJ cO cE L I M J n cap fE sd si sa dl) U.heap ∧ va_K (dC, dI) vwCl (xT cI cJ cO cE) U ∧ va_D (fun _ => True) (xW h a e cI cJ cO cE L I M J n cap fE sd si sa dl) ∧ pw_N U)) (va_Qi (fun (r : Int32) (u : Unit) => ((r = 1 ∧ p1 ≤ p0 ∧ p0 ≤ p2) ∨ (r = 0 ∧ ¬ (p1 ≤ p0 ∧ p0 ≤ p2)))) (fun (u : Unit) (t : State) => va_P (dC, dI) vwCl (xW h a e cI cJ cO cE L I M J n cap fE sd si sa dl) t.heap ∧ va_D (va_A (xW h a e cI cJ cO cE L I M J n cap fE sd si sa dl) sz) (xW h a e cI cJ cO cE L I M J n cap fE sd si sa dl)) (va_A (xW h a e cI cJ cO cE L I M J n cap fE sd si sa dl) sz)) 0 0 (va_A (xW h a e cI cJ cO cE L I M J n cap fE sd si sa dl) sz) := by
  have hn : n ≤ 40 := hX0.1.1
  have hX := hX0
  refine Met.ofW (cc := cX8_within) (maxL := 3) (ret := (some .boolean)) (by decide) rfl ?_
  intro p e9 s m args below meth c s₁ B hml hv
  obtain ⟨rfl, hsz, hP, hK, hD0, hN⟩ := hv
  have hx := B.exec
  have hb := B.bytes
  have hr := B.returns
  have hts := atoms_spec (ws := wq_y_within) B.pre
  have hown : s.vm.findClass RX8 = some m.cls := findClass_of_methodNamed B.named
  have hlocks := B.notSynchronized
  subst hsz
  have hD := hD0.self (sz := s.heap.size)
  generalize hAe : va_A (xW h a e cI cJ cO cE L I M J n cap fE sd si sa dl) s.heap.size = A at hD ⊢
  have hA : ∀ q : Nat, s.heap.size ≤ q → A q := fun q h => by rw [← hAe]; exact Or.inr h
  have hS : va_S A s.heap s.heap [] := va_S.rf
  have hl := lv_entry ([.int p0, .int p1, .int p2]) (n := 3) (Nat.le_of_ble_eq_true rfl)
  rw [lg_entry_eq]
  generalize (lg_sl ([.int p0, .int p1, .int p2]) ++ List.replicate (3 - (lg_sl ([.int p0, .int p1, .int p2])).length) Slot.unset).toArray = ls at hl ⊢
  have hl : lv_has ls 3 [(0, .int p0), (1, .int p1), (2, .int p2)] := hl
  obtain ⟨RES, hZ9⟩ : ∃ R9 : Unit, R9 = R9 := ⟨(), rfl⟩
  refine lv_iload_n hx hb dX8_within_0 rfl (lv_at hl 0 rfl) ?_
  refine lv_iload_n hx hb dX8_within_1 rfl (lv_at hl 1 rfl) ?_
  refine lv_icmp_lt (tgt := 14) hx hb dX8_within_2 (by decide) (fun c1 => ?_) (fun c1 => ?_)
  · skip
    refine lv_iconst (v := 0) hx hb dX8_within_14 (by decide) ?_
    exact W.zret (v := 0) hx hb hr (by decide) (fun t ht hW => ⟨⟨0, (), rfl, Or.inr ⟨rfl, fun q9 => absurd c1 (Int32.not_lt.mpr q9.1)⟩, by rw [ht]; exact hP, hD⟩, hS.F ht⟩) hS.2.2 dX8_within_15
  · skip
    refine lv_iload_n hx hb dX8_within_5 rfl (lv_at hl 0 rfl) ?_
    refine lv_iload_n hx hb dX8_within_6 rfl (lv_at hl 2 rfl) ?_
    refine lv_icmp_gt (tgt := 14) hx hb dX8_within_7 (by decide) (fun c2 => ?_) (fun c2 => ?_)
    · skip
      refine lv_iconst (v := 0) hx hb dX8_within_14 (by decide) ?_
      exact W.zret (v := 0) hx hb hr (by decide) (fun t ht hW => ⟨⟨0, (), rfl, Or.inr ⟨rfl, fun q9 => absurd c2 (Int32.not_lt.mpr q9.2)⟩, by rw [ht]; exact hP, hD⟩, hS.F ht⟩) hS.2.2 dX8_within_15
    · skip
      refine lv_iconst (v := 1) hx hb dX8_within_10 (by decide) ?_
      refine lv_goto (tgt := 15) hx hb dX8_within_11 (by decide) ?_
      exact W.zret (v := 1) hx hb hr (by decide) (fun t ht hW => ⟨⟨1, (), rfl, Or.inl ⟨rfl, Int32.not_lt.mp c1, Int32.not_lt.mp c2⟩, by rw [ht]; exact hP, hD⟩, hS.F ht⟩) hS.2.2 dX8_within_15
def f_y_only (n : Nat) (dl : Nat → Nat) (sv : Nat)  : Int64 := bnd ((1 : Int64) <<< ((nI sv).toInt64 &&& 63)) (fun (x1 : Int64) => (x1))
def wq_y_only : List Cond := [.code yX8_only cX8_only 1 (some .long)]
set_option maxRecDepth 20000 in
theorem wi_y_only : ∀ w ∈ wq_y_only, w ∈ lw_tbl := (by decide +kernel)
set_option maxRecDepth 20000 in
theorem wg_y_only : GoodIn wq_y_only wq_y_only := goodIn_sub (fun _ h => h) (by decide +kernel)
def rm_y_only : Room := { frames := 0, cells := 0, slots := 0, locals := 0 }
set_option maxHeartbeats 4000000 in
set_option maxRecDepth 100000 in
theorem c_y_only (l : Launch) (dC : Nat → ClassId) (dI : Nat → Nat → Nat) (h : Nat) (a : Nat → Nat) (e : Nat) (cI cJ cO cE : ClassId) (L : Nat → Int64) (I : Nat → Int32) (M : Nat → Nat → Int64) (J : Nat → Nat → Int32) (n cap : Nat) (fE : Nat → Option Nat) (sd : Nat → Nat → Nat) (si : Nat → Nat → Int32) (sa : Nat → Nat → Nat → Int32) (dl : Nat → Nat) (b : Nat) (sv : Nat) (sz : Nat) (hX0 : InvX n cap fE sd dl b I J si) (hb0 : b + 0 < 2147483648)  : Met l yX8_only wq_y_only rm_y_only (va_Pc [.int (nI sv)] (fun U => U.heap.size = sz ∧ va_P (dC, dI) vwCl (xW h a e cI cJ cO cE L I M J n cap fE sd si sa dl) U.heap ∧ va_K (dC, dI) vwCl (xT cI cJ cO cE) U ∧ va_D (fun _ => True) (xW h a e cI cJ cO cE L I M J n cap fE sd si sa dl) ∧ pw_N U)) (va_Ql (fun (r : Int64) (u : Unit) => (r = f_y_only n dl sv )) (fun (u : Unit) (t : State) => va_P (dC, dI) vwCl (xW h a e cI cJ cO cE L I M J n cap fE sd si sa dl) t.heap ∧ va_D (va_A (xW h a e cI cJ cO cE L I M J n cap fE sd si sa dl) sz) (xW h a e cI cJ cO cE L I M J n cap fE sd si sa dl)) (va_A (xW h a e cI cJ cO cE L I M J n cap fE sd si sa dl) sz)) 0 0 (va_A (xW h a e cI cJ cO cE L I M J n cap fE sd si sa dl) sz) := by
  have hn : n ≤ 40 := hX0.1.1
  have hX := hX0
  refine Met.ofW (cc := cX8_only) (maxL := 1) (ret := (some .long)) (by decide) rfl ?_
  intro p e9 s m args below meth c s₁ B hml hv
  obtain ⟨rfl, hsz, hP, hK, hD0, hN⟩ := hv
  have hx := B.exec
  have hb := B.bytes
  have hr := B.returns
  have hts := atoms_spec (ws := wq_y_only) B.pre
  have hown : s.vm.findClass RX8 = some m.cls := findClass_of_methodNamed B.named
  have hlocks := B.notSynchronized
  subst hsz
  have hD := hD0.self (sz := s.heap.size)
  generalize hAe : va_A (xW h a e cI cJ cO cE L I M J n cap fE sd si sa dl) s.heap.size = A at hD ⊢
  have hA : ∀ q : Nat, s.heap.size ≤ q → A q := fun q h => by rw [← hAe]; exact Or.inr h
  have hS : va_S A s.heap s.heap [] := va_S.rf
  have hl := lv_entry ([.int (nI sv)]) (n := 1) (Nat.le_of_ble_eq_true rfl)
  rw [lg_entry_eq]
  generalize (lg_sl ([.int (nI sv)]) ++ List.replicate (1 - (lg_sl ([.int (nI sv)])).length) Slot.unset).toArray = ls at hl ⊢
  have hl : lv_has ls 1 [(0, .int (nI sv))] := hl
  obtain ⟨RES, hR0⟩ : ∃ R9, R9 = f_y_only n dl sv  := ⟨_, rfl⟩
  have hZ9 := hR0
  unfold f_y_only at hZ9
  refine lv_lconst (v := 1) hx hb dX8_only_0 (by decide) ?_
  refine lv_iload_n hx hb dX8_only_1 rfl (lv_at hl 0 rfl) ?_
  refine lv_lshl hx hb dX8_only_2 rfl ?_
  refine lv_topl (fun x1 ex1 => ?_)
  replace hZ9 := bnd_s hZ9 ex1
  exact W.lret (v := x1) hx hb hr (fun t ht hW => ⟨⟨x1, (), rfl, hZ9.symm.trans hR0, by rw [ht]; exact hP, hD⟩, hS.F ht⟩) hS.2.2 dX8_only_3
def f_y_holds (n : Nat) (dl : Nat → Nat) (p0 : Int64) (sv : Nat)  : Int32 := bnd ((p0.toUInt64 >>> ((nI sv).toInt64.toUInt64 &&& Int64.toUInt64 63)).toInt64) (fun (x1 : Int64) => bnd (x1 &&& (1 : Int64)) (fun (x2 : Int64) => bnd (lg_cmp x2 (0 : Int64)) (fun (x3 : Int32) => if x3 = (0 : Int32) then (((0 : Int32))) else (((1 : Int32))))))
def wq_y_holds : List Cond := [.code yX8_holds cX8_holds 3 (some .boolean)]
set_option maxRecDepth 20000 in
theorem wi_y_holds : ∀ w ∈ wq_y_holds, w ∈ lw_tbl := (by decide +kernel)
set_option maxRecDepth 20000 in
theorem wg_y_holds : GoodIn wq_y_holds wq_y_holds := goodIn_sub (fun _ h => h) (by decide +kernel)
def rm_y_holds : Room := { frames := 0, cells := 0, slots := 0, locals := 0 }
set_option maxHeartbeats 4000000 in
set_option maxRecDepth 100000 in
theorem c_y_holds (l : Launch) (dC : Nat → ClassId) (dI : Nat → Nat → Nat) (h : Nat) (a : Nat → Nat) (e : Nat) (cI cJ cO cE : ClassId) (L : Nat → Int64) (I : Nat → Int32) (M : Nat → Nat → Int64) (J : Nat → Nat → Int32) (n cap : Nat) (fE : Nat → Option Nat) (sd : Nat → Nat → Nat) (si : Nat → Nat → Int32) (sa : Nat → Nat → Nat → Int32) (dl : Nat → Nat) (b : Nat) (p0 : Int64) (sv : Nat) (sz : Nat) (hX0 : InvX n cap fE sd dl b I J si) (hb0 : b + 0 < 2147483648)  : Met l yX8_holds wq_y_holds rm_y_holds (va_Pc [.long p0, .int (nI sv)] (fun U => U.heap.size = sz ∧ va_P (dC, dI) vwCl (xW h a e cI cJ cO cE L I M J n cap fE sd si sa dl) U.heap ∧ va_K (dC, dI) vwCl (xT cI cJ cO cE) U ∧ va_D (fun _ => True) (xW h a e cI cJ cO cE L I M J n cap fE sd si sa dl) ∧ pw_N U)) (va_Qi (fun (r : Int32) (u : Unit) => ((r = f_y_holds n dl p0 sv ) ∧ (r = 0 ∨ r = 1))) (fun (u : Unit) (t : State) => va_P (dC, dI) vwCl (xW h a e cI cJ cO cE L I M J n cap fE sd si sa dl) t.heap ∧ va_D (va_A (xW h a e cI cJ cO cE L I M J n cap fE sd si sa dl) sz) (xW h a e cI cJ cO cE L I M J n cap fE sd si sa dl)) (va_A (xW h a e cI cJ cO cE L I M J n cap fE sd si sa dl) sz)) 0 0 (va_A (xW h a e cI cJ cO cE L I M J n cap fE sd si sa dl) sz) := by
  have hn : n ≤ 40 := hX0.1.1
  have hX := hX0
  refine Met.ofW (cc := cX8_holds) (maxL := 3) (ret := (some .boolean)) (by decide) rfl ?_
  intro p e9 s m args below meth c s₁ B hml hv
  obtain ⟨rfl, hsz, hP, hK, hD0, hN⟩ := hv
  have hx := B.exec
  have hb := B.bytes
  have hr := B.returns
  have hts := atoms_spec (ws := wq_y_holds) B.pre
  have hown : s.vm.findClass RX8 = some m.cls := findClass_of_methodNamed B.named
  have hlocks := B.notSynchronized
  subst hsz
  have hD := hD0.self (sz := s.heap.size)
  generalize hAe : va_A (xW h a e cI cJ cO cE L I M J n cap fE sd si sa dl) s.heap.size = A at hD ⊢
  have hA : ∀ q : Nat, s.heap.size ≤ q → A q := fun q h => by rw [← hAe]; exact Or.inr h
  have hS : va_S A s.heap s.heap [] := va_S.rf
  have hl := lv_entry ([.long p0, .int (nI sv)]) (n := 3) (Nat.le_of_ble_eq_true rfl)
  rw [lg_entry_eq]
  generalize (lg_sl ([.long p0, .int (nI sv)]) ++ List.replicate (3 - (lg_sl ([.long p0, .int (nI sv)])).length) Slot.unset).toArray = ls at hl ⊢
  have hl : lv_has ls 3 [(0, .long p0), (2, .int (nI sv))] := hl
  obtain ⟨RES, hR0⟩ : ∃ R9, R9 = f_y_holds n dl p0 sv  := ⟨_, rfl⟩
  have hZ9 := hR0
  unfold f_y_holds at hZ9
  refine lv_lload_n hx hb dX8_holds_0 rfl (lv_at hl 0 rfl) ?_
  refine lv_iload_n hx hb dX8_holds_1 rfl (lv_at hl 1 rfl) ?_
  refine lv_lushr hx hb dX8_holds_2 rfl ?_
  refine lv_topl (fun x1 ex1 => ?_)
  replace hZ9 := bnd_s hZ9 ex1
  refine lv_lconst (v := 1) hx hb dX8_holds_3 (by decide) ?_
  refine lv_land hx hb dX8_holds_4 ?_
  refine lv_topl (fun x2 ex2 => ?_)
  replace hZ9 := bnd_s hZ9 ex2
  refine lv_lconst (v := 0) hx hb dX8_holds_5 (by decide) ?_
  refine W.lcmp hx hb dX8_holds_6 ?_
  refine lv_topi (fun x3 ex3 => ?_)
  replace hZ9 := bnd_s hZ9 ex3
  refine lv_if_eq (tgt := 14) hx hb dX8_holds_7 (by decide) (fun c4 => ?_) (fun c4 => ?_)
  · replace hZ9 := ite_t hZ9 c4
    refine lv_iconst (v := 0) hx hb dX8_holds_14 (by decide) ?_
    exact W.zret (v := 0) hx hb hr (by decide) (fun t ht hW => ⟨⟨0, (), rfl, ⟨hZ9.symm.trans hR0, Or.inl rfl⟩, by rw [ht]; exact hP, hD⟩, hS.F ht⟩) hS.2.2 dX8_holds_15
  · replace hZ9 := ite_f hZ9 c4
    refine lv_iconst (v := 1) hx hb dX8_holds_10 (by decide) ?_
    refine lv_goto (tgt := 15) hx hb dX8_holds_11 (by decide) ?_
    exact W.zret (v := 1) hx hb hr (by decide) (fun t ht hW => ⟨⟨1, (), rfl, ⟨hZ9.symm.trans hR0, Or.inr rfl⟩, by rw [ht]; exact hP, hD⟩, hS.F ht⟩) hS.2.2 dX8_holds_15
def wq_y_size : List Cond := [.code yJx4a65c_size_8abf5 cJx4a65c_size_8abf5 1 (some .int), .fieldLink RJx4a65c 48 "java/util/ArrayList" "size" "I"] ++ (wsJx4a65c0)
theorem in_y_size_Jx4a65c : ∀ w ∈ wsJx4a65c0, w ∈ wq_y_size := fun _ h => List.mem_append_right _ (h)
set_option maxRecDepth 20000 in
theorem wi_y_size : ∀ w ∈ wq_y_size, w ∈ lw_tbl := List.forall_mem_append.mpr ⟨(by decide +kernel), inKJx4a65c⟩
set_option maxRecDepth 20000 in
theorem wg_y_size : GoodIn wq_y_size wq_y_size := goodIn_sub (fun _ h => h) (by decide +kernel)
def rm_y_size : Room := { frames := 0, cells := 0, slots := 0, locals := 0 }
set_option maxHeartbeats 4000000 in
set_option maxRecDepth 100000 in
theorem c_y_size (l : Launch) (dC : Nat → ClassId) (dI : Nat → Nat → Nat) (h : Nat) (a : Nat → Nat) (e : Nat) (cI cJ cO cE : ClassId) (L : Nat → Int64) (I : Nat → Int32) (M : Nat → Nat → Int64) (J : Nat → Nat → Int32) (n cap : Nat) (fE : Nat → Option Nat) (sd : Nat → Nat → Nat) (si : Nat → Nat → Int32) (sa : Nat → Nat → Nat → Int32) (dl : Nat → Nat) (b : Nat)  (sz : Nat) (hX0 : InvX n cap fE sd dl b I J si) (hb0 : b + 0 < 2147483648)  : Met l yJx4a65c_size_8abf5 wq_y_size rm_y_size (va_Pc [.ref (a 0)] (fun U => U.heap.size = sz ∧ va_P (dC, dI) vwCl (xW h a e cI cJ cO cE L I M J n cap fE sd si sa dl) U.heap ∧ va_K (dC, dI) vwCl (xT cI cJ cO cE) U ∧ va_D (fun _ => True) (xW h a e cI cJ cO cE L I M J n cap fE sd si sa dl) ∧ pw_N U)) (va_Qi (fun (r : Int32) (u : Unit) => (r = nI n)) (fun (u : Unit) (t : State) => va_P (dC, dI) vwCl (xW h a e cI cJ cO cE L I M J n cap fE sd si sa dl) t.heap ∧ va_D (va_A (xW h a e cI cJ cO cE L I M J n cap fE sd si sa dl) sz) (xW h a e cI cJ cO cE L I M J n cap fE sd si sa dl)) (va_A (xW h a e cI cJ cO cE L I M J n cap fE sd si sa dl) sz)) 0 0 (va_A (xW h a e cI cJ cO cE L I M J n cap fE sd si sa dl) sz) := by
  have hn : n ≤ 40 := hX0.1.1
  have hX := hX0
  refine Met.ofW (cc := cJx4a65c_size_8abf5) (maxL := 1) (ret := (some .int)) (by decide) rfl ?_
  intro p e9 s m args below meth c s₁ B hml hv
  obtain ⟨rfl, hsz, hP, hK, hD0, hN⟩ := hv
  have hx := B.exec
  have hb := B.bytes
  have hr := B.returns
  have hts := atoms_spec (ws := wq_y_size) B.pre
  have hown : s.vm.findClass RJx4a65c = some m.cls := findClass_of_methodNamed B.named
  have hlocks := B.notSynchronized
  subst hsz
  have hD := hD0.self (sz := s.heap.size)
  generalize hAe : va_A (xW h a e cI cJ cO cE L I M J n cap fE sd si sa dl) s.heap.size = A at hD ⊢
  have hA : ∀ q : Nat, s.heap.size ≤ q → A q := fun q h => by rw [← hAe]; exact Or.inr h
  have hS : va_S A s.heap s.heap [] := va_S.rf
  have hl := lv_entry ([.ref (a 0)]) (n := 1) (Nat.le_of_ble_eq_true rfl)
  rw [lg_entry_eq]
  generalize (lg_sl ([.ref (a 0)]) ++ List.replicate (1 - (lg_sl ([.ref (a 0)])).length) Slot.unset).toArray = ls at hl ⊢
  have hl : lv_has ls 1 [(0, .ref (a 0))] := hl
  obtain ⟨RES, hZ9⟩ : ∃ R9 : Unit, R9 = R9 := ⟨(), rfl⟩
  refine lv_aload_n hx hb dJx4a65c_size_8abf5_0 rfl (lv_at hl 0 rfl) ?_
  refine va_get (D := (dC, dI)) (ci := 0) (v := .int (I 6)) (C := RJx4a65c) (T := TJx4a65c) (N := 3) hx hb hts in_y_size_Jx4a65c hown hK hP 1 rfl rfl 2 (by decide) (hts (.fieldLink RJx4a65c 48 "java/util/ArrayList" "size" "I") (by decide +kernel)) (fun _ h9 => h9) rfl dJx4a65c_size_8abf5_1 ?_
  refine p1_topr (v := .int (nI n)) (congrArg Value.int hX.1.2.2.2.1) ?_
  exact W.iret (v := (nI n)) hx hb hr (fun t ht hW => ⟨⟨(nI n), (), rfl, rfl, by rw [ht]; exact hP, hD⟩, hS.F ht⟩) hS.2.2 dJx4a65c_size_8abf5_4
def f_y_left (n : Nat) (dl : Nat → Nat)  (L : Nat → Int64) : Int64 := bnd (L 5) (fun (x1 : Int64) => bnd (L 6) (fun (x2 : Int64) => bnd (x1 ||| x2) (fun (x3 : Int64) => (x3))))
def wq_y_left : List Cond := [.code yX3_left cX3_left 1 (some .long), .fieldLink RX3 15 "ServiceTree$Jobs" "starts" "J", .fieldLink RX3 19 "ServiceTree$Jobs" "stops" "J"] ++ (wsX30)
theorem in_y_left_X3 : ∀ w ∈ wsX30, w ∈ wq_y_left := fun _ h => List.mem_append_right _ (h)
set_option maxRecDepth 20000 in
theorem wi_y_left : ∀ w ∈ wq_y_left, w ∈ lw_tbl := List.forall_mem_append.mpr ⟨(by decide +kernel), inKX3⟩
set_option maxRecDepth 20000 in
theorem wg_y_left : GoodIn wq_y_left wq_y_left := goodIn_sub (fun _ h => h) (by decide +kernel)
def rm_y_left : Room := { frames := 0, cells := 0, slots := 0, locals := 0 }
set_option maxHeartbeats 4000000 in
set_option maxRecDepth 100000 in
theorem c_y_left (l : Launch) (dC : Nat → ClassId) (dI : Nat → Nat → Nat) (h : Nat) (a : Nat → Nat) (e : Nat) (cI cJ cO cE : ClassId) (L : Nat → Int64) (I : Nat → Int32) (M : Nat → Nat → Int64) (J : Nat → Nat → Int32) (n cap : Nat) (fE : Nat → Option Nat) (sd : Nat → Nat → Nat) (si : Nat → Nat → Int32) (sa : Nat → Nat → Nat → Int32) (dl : Nat → Nat) (b : Nat)  (sz : Nat) (hX0 : InvX n cap fE sd dl b I J si) (hb0 : b + 0 < 2147483648)  : Met l yX3_left wq_y_left rm_y_left (va_Pc [.ref (a 3)] (fun U => U.heap.size = sz ∧ va_P (dC, dI) vwCl (xW h a e cI cJ cO cE L I M J n cap fE sd si sa dl) U.heap ∧ va_K (dC, dI) vwCl (xT cI cJ cO cE) U ∧ va_D (fun _ => True) (xW h a e cI cJ cO cE L I M J n cap fE sd si sa dl) ∧ pw_N U)) (va_Ql (fun (r : Int64) (u : Unit) => (r = f_y_left n dl  L)) (fun (u : Unit) (t : State) => va_P (dC, dI) vwCl (xW h a e cI cJ cO cE L I M J n cap fE sd si sa dl) t.heap ∧ va_D (va_A (xW h a e cI cJ cO cE L I M J n cap fE sd si sa dl) sz) (xW h a e cI cJ cO cE L I M J n cap fE sd si sa dl)) (va_A (xW h a e cI cJ cO cE L I M J n cap fE sd si sa dl) sz)) 0 0 (va_A (xW h a e cI cJ cO cE L I M J n cap fE sd si sa dl) sz) := by
  have hn : n ≤ 40 := hX0.1.1
  have hX := hX0
  refine Met.ofW (cc := cX3_left) (maxL := 1) (ret := (some .long)) (by decide) rfl ?_
  intro p e9 s m args below meth c s₁ B hml hv
  obtain ⟨rfl, hsz, hP, hK, hD0, hN⟩ := hv
  have hx := B.exec
  have hb := B.bytes
  have hr := B.returns
  have hts := atoms_spec (ws := wq_y_left) B.pre
  have hown : s.vm.findClass RX3 = some m.cls := findClass_of_methodNamed B.named
  have hlocks := B.notSynchronized
  subst hsz
  have hD := hD0.self (sz := s.heap.size)
  generalize hAe : va_A (xW h a e cI cJ cO cE L I M J n cap fE sd si sa dl) s.heap.size = A at hD ⊢
  have hA : ∀ q : Nat, s.heap.size ≤ q → A q := fun q h => by rw [← hAe]; exact Or.inr h
  have hS : va_S A s.heap s.heap [] := va_S.rf
  have hl := lv_entry ([.ref (a 3)]) (n := 1) (Nat.le_of_ble_eq_true rfl)
  rw [lg_entry_eq]
  generalize (lg_sl ([.ref (a 3)]) ++ List.replicate (1 - (lg_sl ([.ref (a 3)])).length) Slot.unset).toArray = ls at hl ⊢
  have hl : lv_has ls 1 [(0, .ref (a 3))] := hl
  obtain ⟨RES, hR0⟩ : ∃ R9, R9 = f_y_left n dl  L := ⟨_, rfl⟩
  have hZ9 := hR0
  unfold f_y_left at hZ9
  refine lv_aload_n hx hb dX3_left_0 rfl (lv_at hl 0 rfl) ?_
  refine va_get (D := (dC, dI)) (ci := 4) (v := .long (L 5)) (C := RX3) (T := TX3) (N := 4) hx hb hts in_y_left_X3 hown hK hP 14 rfl rfl 1 (by decide) (hts (.fieldLink RX3 15 "ServiceTree$Jobs" "starts" "J") (by decide +kernel)) (fun _ h9 => h9) rfl dX3_left_1 ?_
  refine lv_topl (fun x1 ex1 => ?_)
  replace hZ9 := bnd_s hZ9 ex1
  refine lv_aload_n hx hb dX3_left_4 rfl (lv_at hl 0 rfl) ?_
  refine va_get (D := (dC, dI)) (ci := 4) (v := .long (L 6)) (C := RX3) (T := TX3) (N := 4) hx hb hts in_y_left_X3 hown hK hP 14 rfl rfl 2 (by decide) (hts (.fieldLink RX3 19 "ServiceTree$Jobs" "stops" "J") (by decide +kernel)) (fun _ h9 => h9) rfl dX3_left_5 ?_
  refine lv_topl (fun x2 ex2 => ?_)
  replace hZ9 := bnd_s hZ9 ex2
  refine lv_lor hx hb dX3_left_8 ?_
  refine lv_topl (fun x3 ex3 => ?_)
  replace hZ9 := bnd_s hZ9 ex3
  exact W.lret (v := x3) hx hb hr (fun t ht hW => ⟨⟨x3, (), rfl, hZ9.symm.trans hR0, by rw [ht]; exact hP, hD⟩, hS.F ht⟩) hS.2.2 dX3_left_9
def f_y_take (n : Nat) (dl : Nat → Nat) (p0 : Int64) (p1 : Int64) (L : Nat → Int64) : (Nat → Int64) := bnd (va_up L 5 p0) (fun (L1 : Nat → Int64) => bnd (va_up L1 6 p1) (fun (L2 : Nat → Int64) => bnd (va_up L2 7 0) (fun (L3 : Nat → Int64) => (L3))))
def wq_y_take : List Cond := [.code yX3_take cX3_take 5 none, .fieldLink RX3 15 "ServiceTree$Jobs" "starts" "J", .fieldLink RX3 19 "ServiceTree$Jobs" "stops" "J", .fieldLink RX3 22 "ServiceTree$Jobs" "begun" "J"] ++ (wsX30)
theorem in_y_take_X3 : ∀ w ∈ wsX30, w ∈ wq_y_take := fun _ h => List.mem_append_right _ (h)
set_option maxRecDepth 20000 in
theorem wi_y_take : ∀ w ∈ wq_y_take, w ∈ lw_tbl := List.forall_mem_append.mpr ⟨(by decide +kernel), inKX3⟩
set_option maxRecDepth 20000 in
theorem wg_y_take : GoodIn wq_y_take wq_y_take := goodIn_sub (fun _ h => h) (by decide +kernel)
def rm_y_take : Room := { frames := 0, cells := 0, slots := 0, locals := 0 }
set_option maxHeartbeats 4000000 in
set_option maxRecDepth 100000 in
theorem c_y_take (l : Launch) (dC : Nat → ClassId) (dI : Nat → Nat → Nat) (h : Nat) (a : Nat → Nat) (e : Nat) (cI cJ cO cE : ClassId) (L : Nat → Int64) (I : Nat → Int32) (M : Nat → Nat → Int64) (J : Nat → Nat → Int32) (n cap : Nat) (fE : Nat → Option Nat) (sd : Nat → Nat → Nat) (si : Nat → Nat → Int32) (sa : Nat → Nat → Nat → Int32) (dl : Nat → Nat) (b : Nat) (p0 : Int64) (p1 : Int64) (sz : Nat) (hX0 : InvX n cap fE sd dl b I J si) (hb0 : b + 0 < 2147483648)  : Met l yX3_take wq_y_take rm_y_take (va_Pc [.ref (a 3), .long p0, .long p1] (fun U => U.heap.size = sz ∧ va_P (dC, dI) vwCl (xW h a e cI cJ cO cE L I M J n cap fE sd si sa dl) U.heap ∧ va_K (dC, dI) vwCl (xT cI cJ cO cE) U ∧ va_D (fun _ => True) (xW h a e cI cJ cO cE L I M J n cap fE sd si sa dl) ∧ pw_N U)) (va_Qv (fun (u : (Nat → Int64)) => InvX n cap fE sd dl (b + 0) I J si ∧ (∀ j9 : Nat, j9 ∉ ([5, 6, 7] : List Nat) → u j9 = L j9) ∧ (u = f_y_take n dl p0 p1 L)) (fun (u : (Nat → Int64)) (t : State) => va_P (dC, dI) vwCl (xW h a e cI cJ cO cE u I M J n cap fE sd si sa dl) t.heap ∧ va_D (va_A (xW h a e cI cJ cO cE L I M J n cap fE sd si sa dl) sz) (xW h a e cI cJ cO cE u I M J n cap fE sd si sa dl)) (va_A (xW h a e cI cJ cO cE L I M J n cap fE sd si sa dl) sz)) 0 0 (va_A (xW h a e cI cJ cO cE L I M J n cap fE sd si sa dl) sz) := by
  have hn : n ≤ 40 := hX0.1.1
  have hX := hX0
  have hUL : ∀ j9 : Nat, j9 ∉ ([5, 6, 7] : List Nat) → L j9 = L j9 := fun _ _ => rfl
  refine Met.ofW (cc := cX3_take) (maxL := 5) (ret := none) (by decide) rfl ?_
  intro p e9 s m args below meth c s₁ B hml hv
  obtain ⟨rfl, hsz, hP, hK, hD0, hN⟩ := hv
  have hx := B.exec
  have hb := B.bytes
  have hr := B.returns
  have hts := atoms_spec (ws := wq_y_take) B.pre
  have hown : s.vm.findClass RX3 = some m.cls := findClass_of_methodNamed B.named
  have hlocks := B.notSynchronized
  subst hsz
  have hD := hD0.self (sz := s.heap.size)
  generalize hAe : va_A (xW h a e cI cJ cO cE L I M J n cap fE sd si sa dl) s.heap.size = A at hD ⊢
  have hA : ∀ q : Nat, s.heap.size ≤ q → A q := fun q h => by rw [← hAe]; exact Or.inr h
  have hS : va_S A s.heap s.heap [] := va_S.rf
  have hl := lv_entry ([.ref (a 3), .long p0, .long p1]) (n := 5) (Nat.le_of_ble_eq_true rfl)
  rw [lg_entry_eq]
  generalize (lg_sl ([.ref (a 3), .long p0, .long p1]) ++ List.replicate (5 - (lg_sl ([.ref (a 3), .long p0, .long p1])).length) Slot.unset).toArray = ls at hl ⊢
  have hl : lv_has ls 5 [(0, .ref (a 3)), (1, .long p0), (3, .long p1)] := hl
  obtain ⟨RES, hR0⟩ : ∃ R9, R9 = f_y_take n dl p0 p1 L := ⟨_, rfl⟩
  have hZ9 := hR0
  unfold f_y_take at hZ9
  refine lv_aload_n hx hb dX3_take_0 rfl (lv_at hl 0 rfl) ?_
  refine lv_lload_n hx hb dX3_take_1 rfl (lv_at hl 1 rfl) ?_
  refine va_put (D := (dC, dI)) (ci := 4) (fs := [.ref (a 1), .long (L 5), .long (L 6), .long (L 7)]) (v := .long p0) (ty := .long) (C := RX3) (T := TX3) (N := 4) hx hb hts in_y_take_X3 tyX3 tyX3_ok nmX3 hown hK hP hD hS 14 rfl rfl 1 (by decide) (hts (.fieldLink RX3 15 "ServiceTree$Jobs" "starts" "J") (by decide +kernel)) (fun _ h9 => h9) rfl (by decide +kernel) rfl rfl (Nat.le_of_ble_eq_true rfl) dX3_take_2 (fun H locs hP hD hS => ?_)
  replace hP : va_P (dC, dI) vwCl ((xW h a e cI cJ cO cE L I M J n cap fE sd si sa dl).set 14 (a 3, .inr (4, [.ref (a 1), .long p0, .long (L 6), .long (L 7)]))) H := hP
  replace hD : va_D A ((xW h a e cI cJ cO cE L I M J n cap fE sd si sa dl).set 14 (a 3, .inr (4, [.ref (a 1), .long p0, .long (L 6), .long (L 7)]))) := hD
  rw [xF_L5] at hP hD
  obtain ⟨L1, eL1⟩ : ∃ f9 : Nat → Int64, f9 = va_up L 5 p0 := ⟨_, rfl⟩
  rw [← eL1] at hP hD
  replace hZ9 := bnd_s hZ9 eL1
  replace hUL : ∀ j9 : Nat, j9 ∉ ([5, 6, 7] : List Nat) → L1 j9 = L j9 := by rw [eL1]; exact mw_up (by decide) hUL
  refine lv_aload_n hx hb dX3_take_5 rfl (lv_at hl 0 rfl) ?_
  refine lv_lload_n hx hb dX3_take_6 rfl (lv_at hl 2 rfl) ?_
  refine va_put (D := (dC, dI)) (ci := 4) (fs := [.ref (a 1), .long (L1 5), .long (L1 6), .long (L1 7)]) (v := .long p1) (ty := .long) (C := RX3) (T := TX3) (N := 4) hx hb hts in_y_take_X3 tyX3 tyX3_ok nmX3 hown hK hP hD hS 14 rfl rfl 2 (by decide) (hts (.fieldLink RX3 19 "ServiceTree$Jobs" "stops" "J") (by decide +kernel)) (fun _ h9 => h9) rfl (by decide +kernel) rfl rfl (Nat.le_of_ble_eq_true rfl) dX3_take_7 (fun H locs hP hD hS => ?_)
  replace hP : va_P (dC, dI) vwCl ((xW h a e cI cJ cO cE L1 I M J n cap fE sd si sa dl).set 14 (a 3, .inr (4, [.ref (a 1), .long (L1 5), .long p1, .long (L1 7)]))) H := hP
  replace hD : va_D A ((xW h a e cI cJ cO cE L1 I M J n cap fE sd si sa dl).set 14 (a 3, .inr (4, [.ref (a 1), .long (L1 5), .long p1, .long (L1 7)]))) := hD
  rw [xF_L6] at hP hD
  obtain ⟨L2, eL2⟩ : ∃ f9 : Nat → Int64, f9 = va_up L1 6 p1 := ⟨_, rfl⟩
  rw [← eL2] at hP hD
  replace hZ9 := bnd_s hZ9 eL2
  replace hUL : ∀ j9 : Nat, j9 ∉ ([5, 6, 7] : List Nat) → L2 j9 = L j9 := by rw [eL2]; exact mw_up (by decide) hUL
  refine lv_aload_n hx hb dX3_take_10 rfl (lv_at hl 0 rfl) ?_
  refine lv_lconst (v := 0) hx hb dX3_take_11 (by decide) ?_
  refine va_put (D := (dC, dI)) (ci := 4) (fs := [.ref (a 1), .long (L2 5), .long (L2 6), .long (L2 7)]) (v := .long 0) (ty := .long) (C := RX3) (T := TX3) (N := 4) hx hb hts in_y_take_X3 tyX3 tyX3_ok nmX3 hown hK hP hD hS 14 rfl rfl 3 (by decide) (hts (.fieldLink RX3 22 "ServiceTree$Jobs" "begun" "J") (by decide +kernel)) (fun _ h9 => h9) rfl (by decide +kernel) rfl rfl (Nat.le_of_ble_eq_true rfl) dX3_take_12 (fun H locs hP hD hS => ?_)
  replace hP : va_P (dC, dI) vwCl ((xW h a e cI cJ cO cE L2 I M J n cap fE sd si sa dl).set 14 (a 3, .inr (4, [.ref (a 1), .long (L2 5), .long (L2 6), .long 0]))) H := hP
  replace hD : va_D A ((xW h a e cI cJ cO cE L2 I M J n cap fE sd si sa dl).set 14 (a 3, .inr (4, [.ref (a 1), .long (L2 5), .long (L2 6), .long 0]))) := hD
  rw [xF_L7] at hP hD
  obtain ⟨L3, eL3⟩ : ∃ f9 : Nat → Int64, f9 = va_up L2 7 0 := ⟨_, rfl⟩
  rw [← eL3] at hP hD
  replace hZ9 := bnd_s hZ9 eL3
  replace hUL : ∀ j9 : Nat, j9 ∉ ([5, 6, 7] : List Nat) → L3 j9 = L j9 := by rw [eL3]; exact mw_up (by decide) hUL
  exact W.vret hx hb hr (fun t ht hW => ⟨⟨L3, rfl, ⟨hX.mono (by omega), hUL, hZ9.symm.trans hR0⟩, by rw [ht]; exact hP, hD⟩, hS.F ht⟩) hS.2.2 dX3_take_15
def f_y_jbegin (n : Nat) (dl : Nat → Nat) (sv : Nat) (L : Nat → Int64) : (Nat → Int64) := bnd (L 7) (fun (x1 : Int64) => bnd (f_y_only n dl sv ) (fun (r2 : Int64) => bnd (x1 ||| r2) (fun (x3 : Int64) => bnd (va_up L 7 x3) (fun (L4 : Nat → Int64) => (L4)))))
def wq_y_jbegin : List Cond := [.code yX3_begin cX3_begin 2 none, .fieldLink RX3 22 "ServiceTree$Jobs" "begun" "J", .initialized RX8, .static yX8_only] ++ (wsX30 ++ (wq_y_only))
theorem in_y_jbegin_X3 : ∀ w ∈ wsX30, w ∈ wq_y_jbegin := fun _ h => List.mem_append_right _ (List.mem_append_left _ (h))
set_option maxRecDepth 20000 in
theorem wi_y_jbegin : ∀ w ∈ wq_y_jbegin, w ∈ lw_tbl := List.forall_mem_append.mpr ⟨(by decide +kernel), List.forall_mem_append.mpr ⟨inKX3, wi_y_only⟩⟩
set_option maxRecDepth 20000 in
theorem wg_y_jbegin : GoodIn wq_y_jbegin wq_y_jbegin := goodIn_sub (fun _ h => h) (by decide +kernel)
theorem wc_y_jbegin_y_only_38 : GoodIn wq_y_jbegin wq_y_only := (fun w h => ⟨List.mem_append_right _ (List.mem_append_right _ (h)), (wg_y_only w h).2⟩)
def rm_y_jbegin : Room := { frames := 1, cells := 0, slots := 0, locals := 20 }
set_option maxHeartbeats 4000000 in
set_option maxRecDepth 100000 in
theorem c_y_jbegin (l : Launch) (dC : Nat → ClassId) (dI : Nat → Nat → Nat) (h : Nat) (a : Nat → Nat) (e : Nat) (cI cJ cO cE : ClassId) (L : Nat → Int64) (I : Nat → Int32) (M : Nat → Nat → Int64) (J : Nat → Nat → Int32) (n cap : Nat) (fE : Nat → Option Nat) (sd : Nat → Nat → Nat) (si : Nat → Nat → Int32) (sa : Nat → Nat → Nat → Int32) (dl : Nat → Nat) (b : Nat) (sv : Nat) (sz : Nat) (hX0 : InvX n cap fE sd dl b I J si) (hb0 : b + 0 < 2147483648)  : Met l yX3_begin wq_y_jbegin rm_y_jbegin (va_Pc [.ref (a 3), .int (nI sv)] (fun U => U.heap.size = sz ∧ va_P (dC, dI) vwCl (xW h a e cI cJ cO cE L I M J n cap fE sd si sa dl) U.heap ∧ va_K (dC, dI) vwCl (xT cI cJ cO cE) U ∧ va_D (fun _ => True) (xW h a e cI cJ cO cE L I M J n cap fE sd si sa dl) ∧ pw_N U)) (va_Qv (fun (u : (Nat → Int64)) => InvX n cap fE sd dl (b + 0) I J si ∧ (∀ j9 : Nat, j9 ∉ ([7] : List Nat) → u j9 = L j9) ∧ (u = f_y_jbegin n dl sv L)) (fun (u : (Nat → Int64)) (t : State) => va_P (dC, dI) vwCl (xW h a e cI cJ cO cE u I M J n cap fE sd si sa dl) t.heap ∧ va_D (va_A (xW h a e cI cJ cO cE L I M J n cap fE sd si sa dl) sz) (xW h a e cI cJ cO cE u I M J n cap fE sd si sa dl)) (va_A (xW h a e cI cJ cO cE L I M J n cap fE sd si sa dl) sz)) 0 0 (va_A (xW h a e cI cJ cO cE L I M J n cap fE sd si sa dl) sz) := by
  have hn : n ≤ 40 := hX0.1.1
  have hX := hX0
  have hUL : ∀ j9 : Nat, j9 ∉ ([7] : List Nat) → L j9 = L j9 := fun _ _ => rfl
  refine Met.ofW (cc := cX3_begin) (maxL := 2) (ret := none) (by decide) rfl ?_
  intro p e9 s m args below meth c s₁ B hml hv
  obtain ⟨rfl, hsz, hP, hK, hD0, hN⟩ := hv
  have hx := B.exec
  have hb := B.bytes
  have hr := B.returns
  have hts := atoms_spec (ws := wq_y_jbegin) B.pre
  have hown : s.vm.findClass RX3 = some m.cls := findClass_of_methodNamed B.named
  have hlocks := B.notSynchronized
  subst hsz
  have hD := hD0.self (sz := s.heap.size)
  generalize hAe : va_A (xW h a e cI cJ cO cE L I M J n cap fE sd si sa dl) s.heap.size = A at hD ⊢
  have hA : ∀ q : Nat, s.heap.size ≤ q → A q := fun q h => by rw [← hAe]; exact Or.inr h
  have hS : va_S A s.heap s.heap [] := va_S.rf
  have hl := lv_entry ([.ref (a 3), .int (nI sv)]) (n := 2) (Nat.le_of_ble_eq_true rfl)
  rw [lg_entry_eq]
  generalize (lg_sl ([.ref (a 3), .int (nI sv)]) ++ List.replicate (2 - (lg_sl ([.ref (a 3), .int (nI sv)])).length) Slot.unset).toArray = ls at hl ⊢
  have hl : lv_has ls 2 [(0, .ref (a 3)), (1, .int (nI sv))] := hl
  obtain ⟨RES, hR0⟩ : ∃ R9, R9 = f_y_jbegin n dl sv L := ⟨_, rfl⟩
  have hZ9 := hR0
  unfold f_y_jbegin at hZ9
  refine lv_aload_n hx hb dX3_begin_0 rfl (lv_at hl 0 rfl) ?_
  refine lv_dup hx hb dX3_begin_1 rfl ?_
  refine va_get (D := (dC, dI)) (ci := 4) (v := .long (L 7)) (C := RX3) (T := TX3) (N := 4) hx hb hts in_y_jbegin_X3 hown hK hP 14 rfl rfl 3 (by decide) (hts (.fieldLink RX3 22 "ServiceTree$Jobs" "begun" "J") (by decide +kernel)) (fun _ h9 => h9) rfl dX3_begin_2 ?_
  refine lv_topl (fun x1 ex1 => ?_)
  replace hZ9 := bnd_s hZ9 ex1
  refine lv_iload_n hx hb dX3_begin_5 rfl (lv_at hl 1 rfl) ?_
  have hFc := mw_free hD hS hA
  refine va_calll (va_runSN (As := [.int (nI sv)]) (rest := [.long x1, .ref (a 3)]) ⟨hx, hb, hml, hown, hts⟩ (c_y_only l dC dI h a e cI cJ cO cE L I M J n cap fE sd si sa dl (b) sv s.heap.size hX (by omega) ) ⟨va_cnB 1 hts wc_y_jbegin_y_only_38 rfl rfl rfl (hN (.methodLinkNest RX3 38 yX8_only "ServiceTree") (by decide +kernel)) (hts (.initialized RX8) (by decide +kernel)) (by decide +kernel) ⟨Nat.le_of_ble_eq_true rfl, Nat.le_of_ble_eq_true rfl⟩, hts (.static yX8_only) (by decide +kernel), trivial⟩ ⟨fun a9 U g mk q => by obtain ⟨q0, q1, qP, qK, qD, qN⟩ := q; exact ⟨q0, q1, qP, va_K.moved (u := U) (U := U.calling g mk a9) (Vm.Alike.refl U.vm) qK, qD, pw_N.same (u := U) (U := U.calling g mk a9) rfl qN⟩, fun U hU hW => ⟨rfl, by rw [hU], by rw [hU]; exact hP, va_K.moved hW.alike hK, hD.weaken (fun _ _ _ _ => trivial), pw_N.warm hW hN⟩⟩ rfl rfl hl.1 rfl (lv_room (Nat.le_of_ble_eq_true rfl)) dX3_begin_6 ⟨Nat.le_of_ble_eq_true rfl, Nat.le_of_ble_eq_true rfl⟩) hS (fun q _ h => hFc q h) hFc (fun r2 u t H1 locs ht hvm hw hB hz1 hk1 hS => ?_)
  replace hP := hB.1
  rw [ht] at hP
  replace hD : va_D A (xW h a e cI cJ cO cE L I M J n cap fE sd si sa dl) := hB.2.weaken (fun _ q _ h9 => hFc q.1 h9)
  clear hB
  generalize H1 = H at hP hS ⊢
  replace hP : va_P (dC, dI) vwCl (xW h a e cI cJ cO cE L I M J n cap fE sd si sa dl) H := hP
  replace hw : r2 = f_y_only n dl sv  := hw
  replace hZ9 := bnd_s hZ9 hw
  refine lv_lor hx hb dX3_begin_9 ?_
  refine lv_topl (fun x3 ex3 => ?_)
  replace hZ9 := bnd_s hZ9 ex3
  refine va_put (D := (dC, dI)) (ci := 4) (fs := [.ref (a 1), .long (L 5), .long (L 6), .long (L 7)]) (v := .long x3) (ty := .long) (C := RX3) (T := TX3) (N := 4) hx hb hts in_y_jbegin_X3 tyX3 tyX3_ok nmX3 hown hK hP hD hS 14 rfl rfl 3 (by decide) (hts (.fieldLink RX3 22 "ServiceTree$Jobs" "begun" "J") (by decide +kernel)) (fun _ h9 => h9) rfl (by decide +kernel) rfl rfl (Nat.le_of_ble_eq_true rfl) dX3_begin_10 (fun H locs hP hD hS => ?_)
  replace hP : va_P (dC, dI) vwCl ((xW h a e cI cJ cO cE L I M J n cap fE sd si sa dl).set 14 (a 3, .inr (4, [.ref (a 1), .long (L 5), .long (L 6), .long x3]))) H := hP
  replace hD : va_D A ((xW h a e cI cJ cO cE L I M J n cap fE sd si sa dl).set 14 (a 3, .inr (4, [.ref (a 1), .long (L 5), .long (L 6), .long x3]))) := hD
  rw [xF_L7] at hP hD
  obtain ⟨L4, eL4⟩ : ∃ f9 : Nat → Int64, f9 = va_up L 7 x3 := ⟨_, rfl⟩
  rw [← eL4] at hP hD
  replace hZ9 := bnd_s hZ9 eL4
  replace hUL : ∀ j9 : Nat, j9 ∉ ([7] : List Nat) → L4 j9 = L j9 := by rw [eL4]; exact mw_up (by decide) hUL
  exact W.vret hx hb hr (fun t ht hW => ⟨⟨L4, rfl, ⟨hX.mono (by omega), hUL, hZ9.symm.trans hR0⟩, by rw [ht]; exact hP, hD⟩, hS.F ht⟩) hS.2.2 dX3_begin_13
def f_y_jend (n : Nat) (dl : Nat → Nat) (sv : Nat) (L : Nat → Int64) : (Nat → Int64) := bnd ((1 : Int64) <<< ((nI sv).toInt64 &&& 63)) (fun (x1 : Int64) => bnd (x1 ^^^ (-1 : Int64)) (fun (x2 : Int64) => bnd (L 5) (fun (x3 : Int64) => bnd (x3 &&& x2) (fun (x4 : Int64) => bnd (va_up L 5 x4) (fun (L5 : Nat → Int64) => bnd (L5 6) (fun (x6 : Int64) => bnd (x6 &&& x2) (fun (x7 : Int64) => bnd (va_up L5 6 x7) (fun (L8 : Nat → Int64) => bnd (L8 7) (fun (x9 : Int64) => bnd (x9 &&& x2) (fun (x10 : Int64) => bnd (va_up L8 7 x10) (fun (L11 : Nat → Int64) => (L11))))))))))))
def wq_y_jend : List Cond := [.code yX3_end cX3_end 4 none, .constantLong RX3 45 (-1), .fieldLink RX3 15 "ServiceTree$Jobs" "starts" "J", .fieldLink RX3 19 "ServiceTree$Jobs" "stops" "J", .fieldLink RX3 22 "ServiceTree$Jobs" "begun" "J"] ++ (wsX30)
theorem in_y_jend_X3 : ∀ w ∈ wsX30, w ∈ wq_y_jend := fun _ h => List.mem_append_right _ (h)
set_option maxRecDepth 20000 in
theorem wi_y_jend : ∀ w ∈ wq_y_jend, w ∈ lw_tbl := List.forall_mem_append.mpr ⟨(by decide +kernel), inKX3⟩
set_option maxRecDepth 20000 in
theorem wg_y_jend : GoodIn wq_y_jend wq_y_jend := goodIn_sub (fun _ h => h) (by decide +kernel)
def rm_y_jend : Room := { frames := 0, cells := 0, slots := 0, locals := 0 }
set_option maxHeartbeats 4000000 in
set_option maxRecDepth 100000 in
theorem c_y_jend (l : Launch) (dC : Nat → ClassId) (dI : Nat → Nat → Nat) (h : Nat) (a : Nat → Nat) (e : Nat) (cI cJ cO cE : ClassId) (L : Nat → Int64) (I : Nat → Int32) (M : Nat → Nat → Int64) (J : Nat → Nat → Int32) (n cap : Nat) (fE : Nat → Option Nat) (sd : Nat → Nat → Nat) (si : Nat → Nat → Int32) (sa : Nat → Nat → Nat → Int32) (dl : Nat → Nat) (b : Nat) (sv : Nat) (sz : Nat) (hX0 : InvX n cap fE sd dl b I J si) (hb0 : b + 0 < 2147483648)  : Met l yX3_end wq_y_jend rm_y_jend (va_Pc [.ref (a 3), .int (nI sv)] (fun U => U.heap.size = sz ∧ va_P (dC, dI) vwCl (xW h a e cI cJ cO cE L I M J n cap fE sd si sa dl) U.heap ∧ va_K (dC, dI) vwCl (xT cI cJ cO cE) U ∧ va_D (fun _ => True) (xW h a e cI cJ cO cE L I M J n cap fE sd si sa dl) ∧ pw_N U)) (va_Qv (fun (u : (Nat → Int64)) => InvX n cap fE sd dl (b + 0) I J si ∧ (∀ j9 : Nat, j9 ∉ ([5, 6, 7] : List Nat) → u j9 = L j9) ∧ (u = f_y_jend n dl sv L)) (fun (u : (Nat → Int64)) (t : State) => va_P (dC, dI) vwCl (xW h a e cI cJ cO cE u I M J n cap fE sd si sa dl) t.heap ∧ va_D (va_A (xW h a e cI cJ cO cE L I M J n cap fE sd si sa dl) sz) (xW h a e cI cJ cO cE u I M J n cap fE sd si sa dl)) (va_A (xW h a e cI cJ cO cE L I M J n cap fE sd si sa dl) sz)) 0 0 (va_A (xW h a e cI cJ cO cE L I M J n cap fE sd si sa dl) sz) := by
  have hn : n ≤ 40 := hX0.1.1
  have hX := hX0
  have hUL : ∀ j9 : Nat, j9 ∉ ([5, 6, 7] : List Nat) → L j9 = L j9 := fun _ _ => rfl
  refine Met.ofW (cc := cX3_end) (maxL := 4) (ret := none) (by decide) rfl ?_
  intro p e9 s m args below meth c s₁ B hml hv
  obtain ⟨rfl, hsz, hP, hK, hD0, hN⟩ := hv
  have hx := B.exec
  have hb := B.bytes
  have hr := B.returns
  have hts := atoms_spec (ws := wq_y_jend) B.pre
  have hown : s.vm.findClass RX3 = some m.cls := findClass_of_methodNamed B.named
  have hlocks := B.notSynchronized
  subst hsz
  have hD := hD0.self (sz := s.heap.size)
  generalize hAe : va_A (xW h a e cI cJ cO cE L I M J n cap fE sd si sa dl) s.heap.size = A at hD ⊢
  have hA : ∀ q : Nat, s.heap.size ≤ q → A q := fun q h => by rw [← hAe]; exact Or.inr h
  have hS : va_S A s.heap s.heap [] := va_S.rf
  have hl := lv_entry ([.ref (a 3), .int (nI sv)]) (n := 4) (Nat.le_of_ble_eq_true rfl)
  rw [lg_entry_eq]
  generalize (lg_sl ([.ref (a 3), .int (nI sv)]) ++ List.replicate (4 - (lg_sl ([.ref (a 3), .int (nI sv)])).length) Slot.unset).toArray = ls at hl ⊢
  have hl : lv_has ls 4 [(0, .ref (a 3)), (1, .int (nI sv))] := hl
  obtain ⟨RES, hR0⟩ : ∃ R9, R9 = f_y_jend n dl sv L := ⟨_, rfl⟩
  have hZ9 := hR0
  unfold f_y_jend at hZ9
  refine lv_lconst (v := 1) hx hb dX3_end_0 (by decide) ?_
  refine lv_iload_n hx hb dX3_end_1 rfl (lv_at hl 1 rfl) ?_
  refine lv_lshl hx hb dX3_end_2 rfl ?_
  refine lv_topl (fun x1 ex1 => ?_)
  replace hZ9 := bnd_s hZ9 ex1
  refine lv_ldc2 (v := (-1)) hx hb hown (hts (.constantLong RX3 45 (-1)) (by decide +kernel)) dX3_end_3 ?_
  refine lv_lxor hx hb dX3_end_6 ?_
  refine lv_topl (fun x2 ex2 => ?_)
  replace hZ9 := bnd_s hZ9 ex2
  refine lv_lstore_n (lv' := [(2, .long x2), (0, .ref (a 3)), (1, .int (nI sv))]) hx hb dX3_end_7 rfl hl (by decide) rfl (fun ls hl => ?_)
  refine lv_aload_n hx hb dX3_end_8 rfl (lv_at hl 1 rfl) ?_
  refine lv_dup hx hb dX3_end_9 rfl ?_
  refine va_get (D := (dC, dI)) (ci := 4) (v := .long (L 5)) (C := RX3) (T := TX3) (N := 4) hx hb hts in_y_jend_X3 hown hK hP 14 rfl rfl 1 (by decide) (hts (.fieldLink RX3 15 "ServiceTree$Jobs" "starts" "J") (by decide +kernel)) (fun _ h9 => h9) rfl dX3_end_10 ?_
  refine lv_topl (fun x3 ex3 => ?_)
  replace hZ9 := bnd_s hZ9 ex3
  refine lv_lload_n hx hb dX3_end_13 rfl (lv_at hl 0 rfl) ?_
  refine lv_land hx hb dX3_end_14 ?_
  refine lv_topl (fun x4 ex4 => ?_)
  replace hZ9 := bnd_s hZ9 ex4
  refine va_put (D := (dC, dI)) (ci := 4) (fs := [.ref (a 1), .long (L 5), .long (L 6), .long (L 7)]) (v := .long x4) (ty := .long) (C := RX3) (T := TX3) (N := 4) hx hb hts in_y_jend_X3 tyX3 tyX3_ok nmX3 hown hK hP hD hS 14 rfl rfl 1 (by decide) (hts (.fieldLink RX3 15 "ServiceTree$Jobs" "starts" "J") (by decide +kernel)) (fun _ h9 => h9) rfl (by decide +kernel) rfl rfl (Nat.le_of_ble_eq_true rfl) dX3_end_15 (fun H locs hP hD hS => ?_)
  replace hP : va_P (dC, dI) vwCl ((xW h a e cI cJ cO cE L I M J n cap fE sd si sa dl).set 14 (a 3, .inr (4, [.ref (a 1), .long x4, .long (L 6), .long (L 7)]))) H := hP
  replace hD : va_D A ((xW h a e cI cJ cO cE L I M J n cap fE sd si sa dl).set 14 (a 3, .inr (4, [.ref (a 1), .long x4, .long (L 6), .long (L 7)]))) := hD
  rw [xF_L5] at hP hD
  obtain ⟨L5, eL5⟩ : ∃ f9 : Nat → Int64, f9 = va_up L 5 x4 := ⟨_, rfl⟩
  rw [← eL5] at hP hD
  replace hZ9 := bnd_s hZ9 eL5
  replace hUL : ∀ j9 : Nat, j9 ∉ ([5, 6, 7] : List Nat) → L5 j9 = L j9 := by rw [eL5]; exact mw_up (by decide) hUL
  refine lv_aload_n hx hb dX3_end_18 rfl (lv_at hl 1 rfl) ?_
  refine lv_dup hx hb dX3_end_19 rfl ?_
  refine va_get (D := (dC, dI)) (ci := 4) (v := .long (L5 6)) (C := RX3) (T := TX3) (N := 4) hx hb hts in_y_jend_X3 hown hK hP 14 rfl rfl 2 (by decide) (hts (.fieldLink RX3 19 "ServiceTree$Jobs" "stops" "J") (by decide +kernel)) (fun _ h9 => h9) rfl dX3_end_20 ?_
  refine lv_topl (fun x6 ex6 => ?_)
  replace hZ9 := bnd_s hZ9 ex6
  refine lv_lload_n hx hb dX3_end_23 rfl (lv_at hl 0 rfl) ?_
  refine lv_land hx hb dX3_end_24 ?_
  refine lv_topl (fun x7 ex7 => ?_)
  replace hZ9 := bnd_s hZ9 ex7
  refine va_put (D := (dC, dI)) (ci := 4) (fs := [.ref (a 1), .long (L5 5), .long (L5 6), .long (L5 7)]) (v := .long x7) (ty := .long) (C := RX3) (T := TX3) (N := 4) hx hb hts in_y_jend_X3 tyX3 tyX3_ok nmX3 hown hK hP hD hS 14 rfl rfl 2 (by decide) (hts (.fieldLink RX3 19 "ServiceTree$Jobs" "stops" "J") (by decide +kernel)) (fun _ h9 => h9) rfl (by decide +kernel) rfl rfl (Nat.le_of_ble_eq_true rfl) dX3_end_25 (fun H locs hP hD hS => ?_)
  replace hP : va_P (dC, dI) vwCl ((xW h a e cI cJ cO cE L5 I M J n cap fE sd si sa dl).set 14 (a 3, .inr (4, [.ref (a 1), .long (L5 5), .long x7, .long (L5 7)]))) H := hP
  replace hD : va_D A ((xW h a e cI cJ cO cE L5 I M J n cap fE sd si sa dl).set 14 (a 3, .inr (4, [.ref (a 1), .long (L5 5), .long x7, .long (L5 7)]))) := hD
  rw [xF_L6] at hP hD
  obtain ⟨L8, eL8⟩ : ∃ f9 : Nat → Int64, f9 = va_up L5 6 x7 := ⟨_, rfl⟩
  rw [← eL8] at hP hD
  replace hZ9 := bnd_s hZ9 eL8
  replace hUL : ∀ j9 : Nat, j9 ∉ ([5, 6, 7] : List Nat) → L8 j9 = L j9 := by rw [eL8]; exact mw_up (by decide) hUL
  refine lv_aload_n hx hb dX3_end_28 rfl (lv_at hl 1 rfl) ?_
  refine lv_dup hx hb dX3_end_29 rfl ?_
  refine va_get (D := (dC, dI)) (ci := 4) (v := .long (L8 7)) (C := RX3) (T := TX3) (N := 4) hx hb hts in_y_jend_X3 hown hK hP 14 rfl rfl 3 (by decide) (hts (.fieldLink RX3 22 "ServiceTree$Jobs" "begun" "J") (by decide +kernel)) (fun _ h9 => h9) rfl dX3_end_30 ?_
  refine lv_topl (fun x9 ex9 => ?_)
  replace hZ9 := bnd_s hZ9 ex9
  refine lv_lload_n hx hb dX3_end_33 rfl (lv_at hl 0 rfl) ?_
  refine lv_land hx hb dX3_end_34 ?_
  refine lv_topl (fun x10 ex10 => ?_)
  replace hZ9 := bnd_s hZ9 ex10
  refine va_put (D := (dC, dI)) (ci := 4) (fs := [.ref (a 1), .long (L8 5), .long (L8 6), .long (L8 7)]) (v := .long x10) (ty := .long) (C := RX3) (T := TX3) (N := 4) hx hb hts in_y_jend_X3 tyX3 tyX3_ok nmX3 hown hK hP hD hS 14 rfl rfl 3 (by decide) (hts (.fieldLink RX3 22 "ServiceTree$Jobs" "begun" "J") (by decide +kernel)) (fun _ h9 => h9) rfl (by decide +kernel) rfl rfl (Nat.le_of_ble_eq_true rfl) dX3_end_35 (fun H locs hP hD hS => ?_)
  replace hP : va_P (dC, dI) vwCl ((xW h a e cI cJ cO cE L8 I M J n cap fE sd si sa dl).set 14 (a 3, .inr (4, [.ref (a 1), .long (L8 5), .long (L8 6), .long x10]))) H := hP
  replace hD : va_D A ((xW h a e cI cJ cO cE L8 I M J n cap fE sd si sa dl).set 14 (a 3, .inr (4, [.ref (a 1), .long (L8 5), .long (L8 6), .long x10]))) := hD
  rw [xF_L7] at hP hD
  obtain ⟨L11, eL11⟩ : ∃ f9 : Nat → Int64, f9 = va_up L8 7 x10 := ⟨_, rfl⟩
  rw [← eL11] at hP hD
  replace hZ9 := bnd_s hZ9 eL11
  replace hUL : ∀ j9 : Nat, j9 ∉ ([5, 6, 7] : List Nat) → L11 j9 = L j9 := by rw [eL11]; exact mw_up (by decide) hUL
  exact W.vret hx hb hr (fun t ht hW => ⟨⟨L11, rfl, ⟨hX.mono (by omega), hUL, hZ9.symm.trans hR0⟩, by rw [ht]; exact hP, hD⟩, hS.F ht⟩) hS.2.2 dX3_end_38
def f_y_from (n : Nat) (dl : Nat → Nat) (ov : Nat) (av : Nat) (M : Nat → Nat → Int64) : Int64 := bnd (M ov (nI av).toNatClampNeg) (fun (x1 : Int64) => (x1))
def wq_y_from : List Cond := [.code yX5_from cX5_from 3 (some .long), .fieldLink RX5 11 "ServiceTree$Relations" "froms" "[[J"] ++ (wsX50)
theorem in_y_from_X5 : ∀ w ∈ wsX50, w ∈ wq_y_from := fun _ h => List.mem_append_right _ (h)
set_option maxRecDepth 20000 in
theorem wi_y_from : ∀ w ∈ wq_y_from, w ∈ lw_tbl := List.forall_mem_append.mpr ⟨(by decide +kernel), inKX5⟩
set_option maxRecDepth 20000 in
theorem wg_y_from : GoodIn wq_y_from wq_y_from := goodIn_sub (fun _ h => h) (by decide +kernel)
def rm_y_from : Room := { frames := 0, cells := 0, slots := 0, locals := 0 }
set_option maxHeartbeats 4000000 in
set_option maxRecDepth 100000 in
theorem c_y_from (l : Launch) (dC : Nat → ClassId) (dI : Nat → Nat → Nat) (h : Nat) (a : Nat → Nat) (e : Nat) (cI cJ cO cE : ClassId) (L : Nat → Int64) (I : Nat → Int32) (M : Nat → Nat → Int64) (J : Nat → Nat → Int32) (n cap : Nat) (fE : Nat → Option Nat) (sd : Nat → Nat → Nat) (si : Nat → Nat → Int32) (sa : Nat → Nat → Nat → Int32) (dl : Nat → Nat) (b : Nat) (ov : Nat) (av : Nat) (sz : Nat) (hX0 : InvX n cap fE sd dl b I J si) (hb0 : b + 0 < 2147483648) (hp0 : ov < 4) (hp1 : av < 40) : Met l yX5_from wq_y_from rm_y_from (va_Pc [.ref (a 1), .int (nI ov), .int (nI av)] (fun U => U.heap.size = sz ∧ va_P (dC, dI) vwCl (xW h a e cI cJ cO cE L I M J n cap fE sd si sa dl) U.heap ∧ va_K (dC, dI) vwCl (xT cI cJ cO cE) U ∧ va_D (fun _ => True) (xW h a e cI cJ cO cE L I M J n cap fE sd si sa dl) ∧ pw_N U)) (va_Ql (fun (r : Int64) (u : Unit) => (r = f_y_from n dl ov av M)) (fun (u : Unit) (t : State) => va_P (dC, dI) vwCl (xW h a e cI cJ cO cE L I M J n cap fE sd si sa dl) t.heap ∧ va_D (va_A (xW h a e cI cJ cO cE L I M J n cap fE sd si sa dl) sz) (xW h a e cI cJ cO cE L I M J n cap fE sd si sa dl)) (va_A (xW h a e cI cJ cO cE L I M J n cap fE sd si sa dl) sz)) 0 0 (va_A (xW h a e cI cJ cO cE L I M J n cap fE sd si sa dl) sz) := by
  have hn : n ≤ 40 := hX0.1.1
  have hX := hX0
  refine Met.ofW (cc := cX5_from) (maxL := 3) (ret := (some .long)) (by decide) rfl ?_
  intro p e9 s m args below meth c s₁ B hml hv
  obtain ⟨rfl, hsz, hP, hK, hD0, hN⟩ := hv
  have hx := B.exec
  have hb := B.bytes
  have hr := B.returns
  have hts := atoms_spec (ws := wq_y_from) B.pre
  have hown : s.vm.findClass RX5 = some m.cls := findClass_of_methodNamed B.named
  have hlocks := B.notSynchronized
  subst hsz
  have hD := hD0.self (sz := s.heap.size)
  generalize hAe : va_A (xW h a e cI cJ cO cE L I M J n cap fE sd si sa dl) s.heap.size = A at hD ⊢
  have hA : ∀ q : Nat, s.heap.size ≤ q → A q := fun q h => by rw [← hAe]; exact Or.inr h
  have hS : va_S A s.heap s.heap [] := va_S.rf
  have hl := lv_entry ([.ref (a 1), .int (nI ov), .int (nI av)]) (n := 3) (Nat.le_of_ble_eq_true rfl)
  rw [lg_entry_eq]
  generalize (lg_sl ([.ref (a 1), .int (nI ov), .int (nI av)]) ++ List.replicate (3 - (lg_sl ([.ref (a 1), .int (nI ov), .int (nI av)])).length) Slot.unset).toArray = ls at hl ⊢
  have hl : lv_has ls 3 [(0, .ref (a 1)), (1, .int (nI ov)), (2, .int (nI av))] := hl
  obtain ⟨RES, hR0⟩ : ∃ R9, R9 = f_y_from n dl ov av M := ⟨_, rfl⟩
  have hZ9 := hR0
  unfold f_y_from at hZ9
  refine lv_aload_n hx hb dX5_from_0 rfl (lv_at hl 0 rfl) ?_
  refine va_get (D := (dC, dI)) (ci := 6) (v := .ref (a 10)) (C := RX5) (T := TX5) (N := 3) hx hb hts in_y_from_X5 hown hK hP 2 rfl rfl 0 (by decide) (hts (.fieldLink RX5 11 "ServiceTree$Relations" "froms" "[[J") (by decide +kernel)) (fun _ h9 => h9) rfl dX5_from_1 ?_
  refine lv_iload_n hx hb dX5_from_4 rfl (lv_at hl 1 rfl) ?_
  refine p1_aldA (n := 4) (f := fun i => if i < 4 then some (a (20 + i)) else none) hx hb hK hP 3 2 rfl rfl (vp_in_nI (n := ov) (by omega) (by decide)) dX5_from_5 ?_
  refine p1_topr (v := .ref (a (20 + ov))) (by rw [nI_clamp (by omega), if_pos (by omega)]; rfl) ?_
  refine lv_iload_n hx hb dX5_from_6 rfl (lv_at hl 2 rfl) ?_
  refine va_lald (n := 40) (f := M ov) hx hb hK hP (5 + ov) 1 (xAt_fr h a e cI cJ cO cE L I M J n cap fE sd si sa dl (o := ov) (by omega)) rfl (vp_in_nI (n := av) (by omega) (by omega)) dX5_from_7 ?_
  refine lv_topl (fun x1 ex1 => ?_)
  replace hZ9 := bnd_s hZ9 ex1
  exact W.lret (v := x1) hx hb hr (fun t ht hW => ⟨⟨x1, (), rfl, hZ9.symm.trans hR0, by rw [ht]; exact hP, hD⟩, hS.F ht⟩) hS.2.2 dX5_from_8
def f_y_told (n : Nat) (dl : Nat → Nat) (ov : Nat) (av : Nat) (bv : Nat) (M : Nat → Nat → Int64) : Int32 := bnd (M ov (nI av).toNatClampNeg) (fun (x1 : Int64) => bnd (f_y_holds n dl x1 bv ) (fun (r2 : Int32) => (r2)))
def wq_y_told : List Cond := [.code yX5_told cX5_told 4 (some .boolean), .fieldLink RX5 11 "ServiceTree$Relations" "froms" "[[J", .initialized RX8, .static yX8_holds] ++ (wsX50 ++ (wq_y_holds))
theorem in_y_told_X5 : ∀ w ∈ wsX50, w ∈ wq_y_told := fun _ h => List.mem_append_right _ (List.mem_append_left _ (h))
set_option maxRecDepth 20000 in
theorem wi_y_told : ∀ w ∈ wq_y_told, w ∈ lw_tbl := List.forall_mem_append.mpr ⟨(by decide +kernel), List.forall_mem_append.mpr ⟨inKX5, wi_y_holds⟩⟩
set_option maxRecDepth 20000 in
theorem wg_y_told : GoodIn wq_y_told wq_y_told := goodIn_sub (fun _ h => h) (by decide +kernel)
theorem wc_y_told_y_holds_19 : GoodIn wq_y_told wq_y_holds := (fun w h => ⟨List.mem_append_right _ (List.mem_append_right _ (h)), (wg_y_holds w h).2⟩)
def rm_y_told : Room := { frames := 1, cells := 0, slots := 0, locals := 22 }
set_option maxHeartbeats 4000000 in
set_option maxRecDepth 100000 in
theorem c_y_told (l : Launch) (dC : Nat → ClassId) (dI : Nat → Nat → Nat) (h : Nat) (a : Nat → Nat) (e : Nat) (cI cJ cO cE : ClassId) (L : Nat → Int64) (I : Nat → Int32) (M : Nat → Nat → Int64) (J : Nat → Nat → Int32) (n cap : Nat) (fE : Nat → Option Nat) (sd : Nat → Nat → Nat) (si : Nat → Nat → Int32) (sa : Nat → Nat → Nat → Int32) (dl : Nat → Nat) (b : Nat) (ov : Nat) (av : Nat) (bv : Nat) (sz : Nat) (hX0 : InvX n cap fE sd dl b I J si) (hb0 : b + 0 < 2147483648) (hp0 : ov < 4) (hp1 : av < 40) : Met l yX5_told wq_y_told rm_y_told (va_Pc [.ref (a 1), .int (nI ov), .int (nI av), .int (nI bv)] (fun U => U.heap.size = sz ∧ va_P (dC, dI) vwCl (xW h a e cI cJ cO cE L I M J n cap fE sd si sa dl) U.heap ∧ va_K (dC, dI) vwCl (xT cI cJ cO cE) U ∧ va_D (fun _ => True) (xW h a e cI cJ cO cE L I M J n cap fE sd si sa dl) ∧ pw_N U)) (va_Qi (fun (r : Int32) (u : Unit) => ((r = f_y_told n dl ov av bv M) ∧ (r = 0 ∨ r = 1))) (fun (u : Unit) (t : State) => va_P (dC, dI) vwCl (xW h a e cI cJ cO cE L I M J n cap fE sd si sa dl) t.heap ∧ va_D (va_A (xW h a e cI cJ cO cE L I M J n cap fE sd si sa dl) sz) (xW h a e cI cJ cO cE L I M J n cap fE sd si sa dl)) (va_A (xW h a e cI cJ cO cE L I M J n cap fE sd si sa dl) sz)) 0 0 (va_A (xW h a e cI cJ cO cE L I M J n cap fE sd si sa dl) sz) := by
  have hn : n ≤ 40 := hX0.1.1
  have hX := hX0
  refine Met.ofW (cc := cX5_told) (maxL := 4) (ret := (some .boolean)) (by decide) rfl ?_
  intro p e9 s m args below meth c s₁ B hml hv
  obtain ⟨rfl, hsz, hP, hK, hD0, hN⟩ := hv
  have hx := B.exec
  have hb := B.bytes
  have hr := B.returns
  have hts := atoms_spec (ws := wq_y_told) B.pre
  have hown : s.vm.findClass RX5 = some m.cls := findClass_of_methodNamed B.named
  have hlocks := B.notSynchronized
  subst hsz
  have hD := hD0.self (sz := s.heap.size)
  generalize hAe : va_A (xW h a e cI cJ cO cE L I M J n cap fE sd si sa dl) s.heap.size = A at hD ⊢
  have hA : ∀ q : Nat, s.heap.size ≤ q → A q := fun q h => by rw [← hAe]; exact Or.inr h
  have hS : va_S A s.heap s.heap [] := va_S.rf
  have hl := lv_entry ([.ref (a 1), .int (nI ov), .int (nI av), .int (nI bv)]) (n := 4) (Nat.le_of_ble_eq_true rfl)
  rw [lg_entry_eq]
  generalize (lg_sl ([.ref (a 1), .int (nI ov), .int (nI av), .int (nI bv)]) ++ List.replicate (4 - (lg_sl ([.ref (a 1), .int (nI ov), .int (nI av), .int (nI bv)])).length) Slot.unset).toArray = ls at hl ⊢
  have hl : lv_has ls 4 [(0, .ref (a 1)), (1, .int (nI ov)), (2, .int (nI av)), (3, .int (nI bv))] := hl
  obtain ⟨RES, hR0⟩ : ∃ R9, R9 = f_y_told n dl ov av bv M := ⟨_, rfl⟩
  have hZ9 := hR0
  unfold f_y_told at hZ9
  refine lv_aload_n hx hb dX5_told_0 rfl (lv_at hl 0 rfl) ?_
  refine va_get (D := (dC, dI)) (ci := 6) (v := .ref (a 10)) (C := RX5) (T := TX5) (N := 3) hx hb hts in_y_told_X5 hown hK hP 2 rfl rfl 0 (by decide) (hts (.fieldLink RX5 11 "ServiceTree$Relations" "froms" "[[J") (by decide +kernel)) (fun _ h9 => h9) rfl dX5_told_1 ?_
  refine lv_iload_n hx hb dX5_told_4 rfl (lv_at hl 1 rfl) ?_
  refine p1_aldA (n := 4) (f := fun i => if i < 4 then some (a (20 + i)) else none) hx hb hK hP 3 2 rfl rfl (vp_in_nI (n := ov) (by omega) (by decide)) dX5_told_5 ?_
  refine p1_topr (v := .ref (a (20 + ov))) (by rw [nI_clamp (by omega), if_pos (by omega)]; rfl) ?_
  refine lv_iload_n hx hb dX5_told_6 rfl (lv_at hl 2 rfl) ?_
  refine va_lald (n := 40) (f := M ov) hx hb hK hP (5 + ov) 1 (xAt_fr h a e cI cJ cO cE L I M J n cap fE sd si sa dl (o := ov) (by omega)) rfl (vp_in_nI (n := av) (by omega) (by omega)) dX5_told_7 ?_
  refine lv_topl (fun x1 ex1 => ?_)
  replace hZ9 := bnd_s hZ9 ex1
  refine lv_iload_n hx hb dX5_told_8 rfl (lv_at hl 3 rfl) ?_
  have hFc := mw_free hD hS hA
  refine va_calli (va_runSN (As := [.long x1, .int (nI bv)]) (rest := []) ⟨hx, hb, hml, hown, hts⟩ (c_y_holds l dC dI h a e cI cJ cO cE L I M J n cap fE sd si sa dl (b) x1 bv s.heap.size hX (by omega) ) ⟨va_cnB 2 hts wc_y_told_y_holds_19 rfl rfl rfl (hN (.methodLinkNest RX5 19 yX8_holds "ServiceTree") (by decide +kernel)) (hts (.initialized RX8) (by decide +kernel)) (by decide +kernel) ⟨Nat.le_of_ble_eq_true rfl, Nat.le_of_ble_eq_true rfl⟩, hts (.static yX8_holds) (by decide +kernel), trivial⟩ ⟨fun a9 U g mk q => by obtain ⟨q0, q1, qP, qK, qD, qN⟩ := q; exact ⟨q0, q1, qP, va_K.moved (u := U) (U := U.calling g mk a9) (Vm.Alike.refl U.vm) qK, qD, pw_N.same (u := U) (U := U.calling g mk a9) rfl qN⟩, fun U hU hW => ⟨rfl, by rw [hU], by rw [hU]; exact hP, va_K.moved hW.alike hK, hD.weaken (fun _ _ _ _ => trivial), pw_N.warm hW hN⟩⟩ rfl rfl hl.1 rfl (lv_room (Nat.le_of_ble_eq_true rfl)) dX5_told_9 ⟨Nat.le_of_ble_eq_true rfl, Nat.le_of_ble_eq_true rfl⟩) hS (fun q _ h => hFc q h) hFc (fun r2 u t H1 locs ht hvm hw hB hz1 hk1 hS => ?_)
  replace hP := hB.1
  rw [ht] at hP
  replace hD : va_D A (xW h a e cI cJ cO cE L I M J n cap fE sd si sa dl) := hB.2.weaken (fun _ q _ h9 => hFc q.1 h9)
  clear hB
  generalize H1 = H at hP hS ⊢
  replace hP : va_P (dC, dI) vwCl (xW h a e cI cJ cO cE L I M J n cap fE sd si sa dl) H := hP
  obtain ⟨hw, hwe⟩ := hw
  replace hw : r2 = f_y_holds n dl x1 bv  := hw
  replace hZ9 := bnd_s hZ9 hw
  have br2 := hwe
  exact W.zret (v := r2) hx hb hr (mw_nb br2) (fun t ht hW => ⟨⟨r2, (), rfl, ⟨hZ9.symm.trans hR0, br2⟩, by rw [ht]; exact hP, hD⟩, hS.F ht⟩) hS.2.2 dX5_told_12
def f_y_wow1 (n : Nat) (dl : Nat → Nat) (ov : Nat) (av : Nat) (bv : Nat) (M : Nat → Nat → Int64) : (Nat → Nat → Int64) := bnd (M ov (nI av).toNatClampNeg) (fun (x1 : Int64) => bnd (f_y_only n dl bv ) (fun (r2 : Int64) => bnd (x1 ||| r2) (fun (x3 : Int64) => bnd (va_up M ov (vp_updL (M ov) (nI av).toNatClampNeg x3)) (fun (M4 : Nat → Nat → Int64) => bnd (M4 (4 + ov) (nI bv).toNatClampNeg) (fun (x5 : Int64) => bnd (f_y_only n dl av ) (fun (r6 : Int64) => bnd (x5 ||| r6) (fun (x7 : Int64) => bnd (va_up M4 (4 + ov) (vp_updL (M4 (4 + ov)) (nI bv).toNatClampNeg x7)) (fun (M8 : Nat → Nat → Int64) => (M8)))))))))
def wq_y_wow1 : List Cond := [.code yX5_writeOneWay cX5_writeOneWay 5 none, .fieldLink RX5 11 "ServiceTree$Relations" "froms" "[[J", .initialized RX8, .static yX8_only, .fieldLink RX5 16 "ServiceTree$Relations" "tos" "[[J"] ++ (wsX50 ++ (wq_y_only))
theorem in_y_wow1_X5 : ∀ w ∈ wsX50, w ∈ wq_y_wow1 := fun _ h => List.mem_append_right _ (List.mem_append_left _ (h))
set_option maxRecDepth 20000 in
theorem wi_y_wow1 : ∀ w ∈ wq_y_wow1, w ∈ lw_tbl := List.forall_mem_append.mpr ⟨(by decide +kernel), List.forall_mem_append.mpr ⟨inKX5, wi_y_only⟩⟩
set_option maxRecDepth 20000 in
theorem wg_y_wow1 : GoodIn wq_y_wow1 wq_y_wow1 := goodIn_sub (fun _ h => h) (by decide +kernel)
theorem wc_y_wow1_y_only_34 : GoodIn wq_y_wow1 wq_y_only := (fun w h => ⟨List.mem_append_right _ (List.mem_append_right _ (h)), (wg_y_only w h).2⟩)
def rm_y_wow1 : Room := { frames := 1, cells := 0, slots := 0, locals := 20 }
set_option maxHeartbeats 4000000 in
set_option maxRecDepth 100000 in
theorem c_y_wow1 (l : Launch) (dC : Nat → ClassId) (dI : Nat → Nat → Nat) (h : Nat) (a : Nat → Nat) (e : Nat) (cI cJ cO cE : ClassId) (L : Nat → Int64) (I : Nat → Int32) (M : Nat → Nat → Int64) (J : Nat → Nat → Int32) (n cap : Nat) (fE : Nat → Option Nat) (sd : Nat → Nat → Nat) (si : Nat → Nat → Int32) (sa : Nat → Nat → Nat → Int32) (dl : Nat → Nat) (b : Nat) (ov : Nat) (av : Nat) (bv : Nat) (sz : Nat) (hX0 : InvX n cap fE sd dl b I J si) (hb0 : b + 0 < 2147483648) (hp0 : ov < 4) (hp1 : av < 40) (hp2 : bv < 40) : Met l yX5_writeOneWay wq_y_wow1 rm_y_wow1 (va_Pc [.ref (a 1), .int (nI ov), .int (nI av), .int (nI bv), .int 1] (fun U => U.heap.size = sz ∧ va_P (dC, dI) vwCl (xW h a e cI cJ cO cE L I M J n cap fE sd si sa dl) U.heap ∧ va_K (dC, dI) vwCl (xT cI cJ cO cE) U ∧ va_D (fun _ => True) (xW h a e cI cJ cO cE L I M J n cap fE sd si sa dl) ∧ pw_N U)) (va_Qv (fun (u : (Nat → Nat → Int64)) => InvX n cap fE sd dl (b + 0) I J si ∧ (∀ j9 : Nat, j9 ∉ ([0, 1, 2, 3, 4, 5, 6, 7] : List Nat) → u j9 = M j9) ∧ (u = f_y_wow1 n dl ov av bv M)) (fun (u : (Nat → Nat → Int64)) (t : State) => va_P (dC, dI) vwCl (xW h a e cI cJ cO cE L I u J n cap fE sd si sa dl) t.heap ∧ va_D (va_A (xW h a e cI cJ cO cE L I M J n cap fE sd si sa dl) sz) (xW h a e cI cJ cO cE L I u J n cap fE sd si sa dl)) (va_A (xW h a e cI cJ cO cE L I M J n cap fE sd si sa dl) sz)) 0 0 (va_A (xW h a e cI cJ cO cE L I M J n cap fE sd si sa dl) sz) := by
  have hn : n ≤ 40 := hX0.1.1
  have hX := hX0
  have hUM : ∀ j9 : Nat, j9 ∉ ([0, 1, 2, 3, 4, 5, 6, 7] : List Nat) → M j9 = M j9 := fun _ _ => rfl
  refine Met.ofW (cc := cX5_writeOneWay) (maxL := 5) (ret := none) (by decide) rfl ?_
  intro p e9 s m args below meth c s₁ B hml hv
  obtain ⟨rfl, hsz, hP, hK, hD0, hN⟩ := hv
  have hx := B.exec
  have hb := B.bytes
  have hr := B.returns
  have hts := atoms_spec (ws := wq_y_wow1) B.pre
  have hown : s.vm.findClass RX5 = some m.cls := findClass_of_methodNamed B.named
  have hlocks := B.notSynchronized
  subst hsz
  have hD := hD0.self (sz := s.heap.size)
  generalize hAe : va_A (xW h a e cI cJ cO cE L I M J n cap fE sd si sa dl) s.heap.size = A at hD ⊢
  have hA : ∀ q : Nat, s.heap.size ≤ q → A q := fun q h => by rw [← hAe]; exact Or.inr h
  have hS : va_S A s.heap s.heap [] := va_S.rf
  have hl := lv_entry ([.ref (a 1), .int (nI ov), .int (nI av), .int (nI bv), .int 1]) (n := 5) (Nat.le_of_ble_eq_true rfl)
  rw [lg_entry_eq]
  generalize (lg_sl ([.ref (a 1), .int (nI ov), .int (nI av), .int (nI bv), .int 1]) ++ List.replicate (5 - (lg_sl ([.ref (a 1), .int (nI ov), .int (nI av), .int (nI bv), .int 1])).length) Slot.unset).toArray = ls at hl ⊢
  have hl : lv_has ls 5 [(0, .ref (a 1)), (1, .int (nI ov)), (2, .int (nI av)), (3, .int (nI bv)), (4, .int 1)] := hl
  obtain ⟨RES, hR0⟩ : ∃ R9, R9 = f_y_wow1 n dl ov av bv M := ⟨_, rfl⟩
  have hZ9 := hR0
  unfold f_y_wow1 at hZ9
  refine lv_aload_n hx hb dX5_writeOneWay_0 rfl (lv_at hl 0 rfl) ?_
  refine va_get (D := (dC, dI)) (ci := 6) (v := .ref (a 10)) (C := RX5) (T := TX5) (N := 3) hx hb hts in_y_wow1_X5 hown hK hP 2 rfl rfl 0 (by decide) (hts (.fieldLink RX5 11 "ServiceTree$Relations" "froms" "[[J") (by decide +kernel)) (fun _ h9 => h9) rfl dX5_writeOneWay_1 ?_
  refine lv_iload_n hx hb dX5_writeOneWay_4 rfl (lv_at hl 1 rfl) ?_
  refine p1_aldA (n := 4) (f := fun i => if i < 4 then some (a (20 + i)) else none) hx hb hK hP 3 2 rfl rfl (vp_in_nI (n := ov) (by omega) (by decide)) dX5_writeOneWay_5 ?_
  refine p1_topr (v := .ref (a (20 + ov))) (by rw [nI_clamp (by omega), if_pos (by omega)]; rfl) ?_
  refine lv_iload_n hx hb dX5_writeOneWay_6 rfl (lv_at hl 2 rfl) ?_
  refine lv_iload hx hb dX5_writeOneWay_7 (lv_at hl 4 rfl) ?_
  refine lv_if_eq (tgt := 28) hx hb dX5_writeOneWay_9 (by decide) (fun c9 => absurd c9 (by decide)) (fun _ => ?_)
  refine lv_aload_n hx hb dX5_writeOneWay_12 rfl (lv_at hl 0 rfl) ?_
  refine va_get (D := (dC, dI)) (ci := 6) (v := .ref (a 10)) (C := RX5) (T := TX5) (N := 3) hx hb hts in_y_wow1_X5 hown hK hP 2 rfl rfl 0 (by decide) (hts (.fieldLink RX5 11 "ServiceTree$Relations" "froms" "[[J") (by decide +kernel)) (fun _ h9 => h9) rfl dX5_writeOneWay_13 ?_
  refine lv_iload_n hx hb dX5_writeOneWay_16 rfl (lv_at hl 1 rfl) ?_
  refine p1_aldA (n := 4) (f := fun i => if i < 4 then some (a (20 + i)) else none) hx hb hK hP 3 2 rfl rfl (vp_in_nI (n := ov) (by omega) (by decide)) dX5_writeOneWay_17 ?_
  refine p1_topr (v := .ref (a (20 + ov))) (by rw [nI_clamp (by omega), if_pos (by omega)]; rfl) ?_
  refine lv_iload_n hx hb dX5_writeOneWay_18 rfl (lv_at hl 2 rfl) ?_
  refine va_lald (n := 40) (f := M ov) hx hb hK hP (5 + ov) 1 (xAt_fr h a e cI cJ cO cE L I M J n cap fE sd si sa dl (o := ov) (by omega)) rfl (vp_in_nI (n := av) (by omega) (by omega)) dX5_writeOneWay_19 ?_
  refine lv_topl (fun x1 ex1 => ?_)
  replace hZ9 := bnd_s hZ9 ex1
  refine lv_iload_n hx hb dX5_writeOneWay_20 rfl (lv_at hl 3 rfl) ?_
  have hFc := mw_free hD hS hA
  refine va_calll (va_runSN (As := [.int (nI bv)]) (rest := [.long x1, .int (nI av), .ref (a (20 + ov))]) ⟨hx, hb, hml, hown, hts⟩ (c_y_only l dC dI h a e cI cJ cO cE L I M J n cap fE sd si sa dl (b) bv s.heap.size hX (by omega) ) ⟨va_cnB 1 hts wc_y_wow1_y_only_34 rfl rfl rfl (hN (.methodLinkNest RX5 34 yX8_only "ServiceTree") (by decide +kernel)) (hts (.initialized RX8) (by decide +kernel)) (by decide +kernel) ⟨Nat.le_of_ble_eq_true rfl, Nat.le_of_ble_eq_true rfl⟩, hts (.static yX8_only) (by decide +kernel), trivial⟩ ⟨fun a9 U g mk q => by obtain ⟨q0, q1, qP, qK, qD, qN⟩ := q; exact ⟨q0, q1, qP, va_K.moved (u := U) (U := U.calling g mk a9) (Vm.Alike.refl U.vm) qK, qD, pw_N.same (u := U) (U := U.calling g mk a9) rfl qN⟩, fun U hU hW => ⟨rfl, by rw [hU], by rw [hU]; exact hP, va_K.moved hW.alike hK, hD.weaken (fun _ _ _ _ => trivial), pw_N.warm hW hN⟩⟩ rfl rfl hl.1 rfl (lv_room (Nat.le_of_ble_eq_true rfl)) dX5_writeOneWay_21 ⟨Nat.le_of_ble_eq_true rfl, Nat.le_of_ble_eq_true rfl⟩) hS (fun q _ h => hFc q h) hFc (fun r2 u t H1 locs ht hvm hw hB hz1 hk1 hS => ?_)
  replace hP := hB.1
  rw [ht] at hP
  replace hD : va_D A (xW h a e cI cJ cO cE L I M J n cap fE sd si sa dl) := hB.2.weaken (fun _ q _ h9 => hFc q.1 h9)
  clear hB
  generalize H1 = H at hP hS ⊢
  replace hP : va_P (dC, dI) vwCl (xW h a e cI cJ cO cE L I M J n cap fE sd si sa dl) H := hP
  replace hw : r2 = f_y_only n dl bv  := hw
  replace hZ9 := bnd_s hZ9 hw
  refine lv_lor hx hb dX5_writeOneWay_24 ?_
  refine lv_topl (fun x3 ex3 => ?_)
  replace hZ9 := bnd_s hZ9 ex3
  refine lv_goto (tgt := 45) hx hb dX5_writeOneWay_25 (by decide) ?_
  refine va_last (n := 40) (f := M ov) hx hb hK hP hD hS (5 + ov) 1 (xAt_fr h a e cI cJ cO cE L I M J n cap fE sd si sa dl (o := ov) (by omega)) rfl (vp_in_nI (n := av) (by omega) (by omega)) dX5_writeOneWay_45 (fun H locs hP hD hS => ?_)
  rw [xM_fr h a e cI cJ cO cE L I M J n cap fE sd si sa dl (o := ov) (by omega)] at hP hD
  obtain ⟨M4, eM4⟩ : ∃ f9 : Nat → Nat → Int64, f9 = va_up M ov (vp_updL (M ov) (nI av).toNatClampNeg x3) := ⟨_, rfl⟩
  rw [← eM4] at hP hD
  replace hZ9 := bnd_s hZ9 eM4
  replace hUM : ∀ j9 : Nat, j9 ∉ ([0, 1, 2, 3, 4, 5, 6, 7] : List Nat) → M4 j9 = M j9 := by rw [eM4]; exact mw_up (by simp only [List.mem_cons, List.mem_nil_iff, or_false]; omega) hUM
  refine lv_aload_n hx hb dX5_writeOneWay_46 rfl (lv_at hl 0 rfl) ?_
  refine va_get (D := (dC, dI)) (ci := 6) (v := .ref (a 11)) (C := RX5) (T := TX5) (N := 3) hx hb hts in_y_wow1_X5 hown hK hP 2 rfl rfl 1 (by decide) (hts (.fieldLink RX5 16 "ServiceTree$Relations" "tos" "[[J") (by decide +kernel)) (fun _ h9 => h9) rfl dX5_writeOneWay_47 ?_
  refine lv_iload_n hx hb dX5_writeOneWay_50 rfl (lv_at hl 1 rfl) ?_
  refine p1_aldA (n := 4) (f := fun i => if i < 4 then some (a (24 + i)) else none) hx hb hK hP 4 2 rfl rfl (vp_in_nI (n := ov) (by omega) (by decide)) dX5_writeOneWay_51 ?_
  refine p1_topr (v := .ref (a (24 + ov))) (by rw [nI_clamp (by omega), if_pos (by omega)]; rfl) ?_
  refine lv_iload_n hx hb dX5_writeOneWay_52 rfl (lv_at hl 3 rfl) ?_
  refine lv_iload hx hb dX5_writeOneWay_53 (lv_at hl 4 rfl) ?_
  refine lv_if_eq (tgt := 74) hx hb dX5_writeOneWay_55 (by decide) (fun c9 => absurd c9 (by decide)) (fun _ => ?_)
  refine lv_aload_n hx hb dX5_writeOneWay_58 rfl (lv_at hl 0 rfl) ?_
  refine va_get (D := (dC, dI)) (ci := 6) (v := .ref (a 11)) (C := RX5) (T := TX5) (N := 3) hx hb hts in_y_wow1_X5 hown hK hP 2 rfl rfl 1 (by decide) (hts (.fieldLink RX5 16 "ServiceTree$Relations" "tos" "[[J") (by decide +kernel)) (fun _ h9 => h9) rfl dX5_writeOneWay_59 ?_
  refine lv_iload_n hx hb dX5_writeOneWay_62 rfl (lv_at hl 1 rfl) ?_
  refine p1_aldA (n := 4) (f := fun i => if i < 4 then some (a (24 + i)) else none) hx hb hK hP 4 2 rfl rfl (vp_in_nI (n := ov) (by omega) (by decide)) dX5_writeOneWay_63 ?_
  refine p1_topr (v := .ref (a (24 + ov))) (by rw [nI_clamp (by omega), if_pos (by omega)]; rfl) ?_
  refine lv_iload_n hx hb dX5_writeOneWay_64 rfl (lv_at hl 3 rfl) ?_
  refine va_lald (n := 40) (f := M4 (4 + ov)) hx hb hK hP (9 + ov) 1 (xAt_to h a e cI cJ cO cE L I M4 J n cap fE sd si sa dl (o := ov) (by omega)) rfl (vp_in_nI (n := bv) (by omega) (by omega)) dX5_writeOneWay_65 ?_
  refine lv_topl (fun x5 ex5 => ?_)
  replace hZ9 := bnd_s hZ9 ex5
  refine lv_iload_n hx hb dX5_writeOneWay_66 rfl (lv_at hl 2 rfl) ?_
  have hFc := mw_free hD hS hA
  refine va_calll (va_runSN (As := [.int (nI av)]) (rest := [.long x5, .int (nI bv), .ref (a (24 + ov))]) ⟨hx, hb, hml, hown, hts⟩ (c_y_only l dC dI h a e cI cJ cO cE L I M4 J n cap fE sd si sa dl (b) av H.size hX (by omega) ) ⟨va_cnB 1 hts wc_y_wow1_y_only_34 rfl rfl rfl (hN (.methodLinkNest RX5 34 yX8_only "ServiceTree") (by decide +kernel)) (hts (.initialized RX8) (by decide +kernel)) (by decide +kernel) ⟨Nat.le_of_ble_eq_true rfl, Nat.le_of_ble_eq_true rfl⟩, hts (.static yX8_only) (by decide +kernel), trivial⟩ ⟨fun a9 U g mk q => by obtain ⟨q0, q1, qP, qK, qD, qN⟩ := q; exact ⟨q0, q1, qP, va_K.moved (u := U) (U := U.calling g mk a9) (Vm.Alike.refl U.vm) qK, qD, pw_N.same (u := U) (U := U.calling g mk a9) rfl qN⟩, fun U hU hW => ⟨rfl, by rw [hU], by rw [hU]; exact hP, va_K.moved hW.alike hK, hD.weaken (fun _ _ _ _ => trivial), pw_N.warm hW hN⟩⟩ rfl rfl hl.1 rfl (lv_room (Nat.le_of_ble_eq_true rfl)) dX5_writeOneWay_67 ⟨Nat.le_of_ble_eq_true rfl, Nat.le_of_ble_eq_true rfl⟩) hS (fun q _ h => hFc q h) hFc (fun r6 u t H1 locs ht hvm hw hB hz1 hk1 hS => ?_)
  replace hP := hB.1
  rw [ht] at hP
  replace hD : va_D A (xW h a e cI cJ cO cE L I M4 J n cap fE sd si sa dl) := hB.2.weaken (fun _ q _ h9 => hFc q.1 h9)
  clear hB
  generalize H1 = H at hP hS ⊢
  replace hP : va_P (dC, dI) vwCl (xW h a e cI cJ cO cE L I M4 J n cap fE sd si sa dl) H := hP
  replace hw : r6 = f_y_only n dl av  := hw
  replace hZ9 := bnd_s hZ9 hw
  refine lv_lor hx hb dX5_writeOneWay_70 ?_
  refine lv_topl (fun x7 ex7 => ?_)
  replace hZ9 := bnd_s hZ9 ex7
  refine lv_goto (tgt := 91) hx hb dX5_writeOneWay_71 (by decide) ?_
  refine va_last (n := 40) (f := M4 (4 + ov)) hx hb hK hP hD hS (9 + ov) 1 (xAt_to h a e cI cJ cO cE L I M4 J n cap fE sd si sa dl (o := ov) (by omega)) rfl (vp_in_nI (n := bv) (by omega) (by omega)) dX5_writeOneWay_91 (fun H locs hP hD hS => ?_)
  rw [xM_to h a e cI cJ cO cE L I M4 J n cap fE sd si sa dl (o := ov) (by omega)] at hP hD
  obtain ⟨M8, eM8⟩ : ∃ f9 : Nat → Nat → Int64, f9 = va_up M4 (4 + ov) (vp_updL (M4 (4 + ov)) (nI bv).toNatClampNeg x7) := ⟨_, rfl⟩
  rw [← eM8] at hP hD
  replace hZ9 := bnd_s hZ9 eM8
  replace hUM : ∀ j9 : Nat, j9 ∉ ([0, 1, 2, 3, 4, 5, 6, 7] : List Nat) → M8 j9 = M j9 := by rw [eM8]; exact mw_up (by simp only [List.mem_cons, List.mem_nil_iff, or_false]; omega) hUM
  exact W.vret hx hb hr (fun t ht hW => ⟨⟨M8, rfl, ⟨hX.mono (by omega), hUM, hZ9.symm.trans hR0⟩, by rw [ht]; exact hP, hD⟩, hS.F ht⟩) hS.2.2 dX5_writeOneWay_92
def f_y_wow0 (n : Nat) (dl : Nat → Nat) (ov : Nat) (av : Nat) (bv : Nat) (M : Nat → Nat → Int64) : (Nat → Nat → Int64) := bnd (M ov (nI av).toNatClampNeg) (fun (x1 : Int64) => bnd (f_y_only n dl bv ) (fun (r2 : Int64) => bnd (r2 ^^^ (-1 : Int64)) (fun (x3 : Int64) => bnd (x1 &&& x3) (fun (x4 : Int64) => bnd (va_up M ov (vp_updL (M ov) (nI av).toNatClampNeg x4)) (fun (M5 : Nat → Nat → Int64) => bnd (M5 (4 + ov) (nI bv).toNatClampNeg) (fun (x6 : Int64) => bnd (f_y_only n dl av ) (fun (r7 : Int64) => bnd (r7 ^^^ (-1 : Int64)) (fun (x8 : Int64) => bnd (x6 &&& x8) (fun (x9 : Int64) => bnd (va_up M5 (4 + ov) (vp_updL (M5 (4 + ov)) (nI bv).toNatClampNeg x9)) (fun (M10 : Nat → Nat → Int64) => (M10)))))))))))
def wq_y_wow0 : List Cond := [.code yX5_writeOneWay cX5_writeOneWay 5 none, .fieldLink RX5 11 "ServiceTree$Relations" "froms" "[[J", .initialized RX8, .static yX8_only, .constantLong RX5 38 (-1), .fieldLink RX5 16 "ServiceTree$Relations" "tos" "[[J"] ++ (wsX50 ++ (wq_y_only))
theorem in_y_wow0_X5 : ∀ w ∈ wsX50, w ∈ wq_y_wow0 := fun _ h => List.mem_append_right _ (List.mem_append_left _ (h))
set_option maxRecDepth 20000 in
theorem wi_y_wow0 : ∀ w ∈ wq_y_wow0, w ∈ lw_tbl := List.forall_mem_append.mpr ⟨(by decide +kernel), List.forall_mem_append.mpr ⟨inKX5, wi_y_only⟩⟩
set_option maxRecDepth 20000 in
theorem wg_y_wow0 : GoodIn wq_y_wow0 wq_y_wow0 := goodIn_sub (fun _ h => h) (by decide +kernel)
theorem wc_y_wow0_y_only_34 : GoodIn wq_y_wow0 wq_y_only := (fun w h => ⟨List.mem_append_right _ (List.mem_append_right _ (h)), (wg_y_only w h).2⟩)
def rm_y_wow0 : Room := { frames := 1, cells := 0, slots := 0, locals := 20 }
set_option maxHeartbeats 4000000 in
set_option maxRecDepth 100000 in
theorem c_y_wow0 (l : Launch) (dC : Nat → ClassId) (dI : Nat → Nat → Nat) (h : Nat) (a : Nat → Nat) (e : Nat) (cI cJ cO cE : ClassId) (L : Nat → Int64) (I : Nat → Int32) (M : Nat → Nat → Int64) (J : Nat → Nat → Int32) (n cap : Nat) (fE : Nat → Option Nat) (sd : Nat → Nat → Nat) (si : Nat → Nat → Int32) (sa : Nat → Nat → Nat → Int32) (dl : Nat → Nat) (b : Nat) (ov : Nat) (av : Nat) (bv : Nat) (sz : Nat) (hX0 : InvX n cap fE sd dl b I J si) (hb0 : b + 0 < 2147483648) (hp0 : ov < 4) (hp1 : av < 40) (hp2 : bv < 40) : Met l yX5_writeOneWay wq_y_wow0 rm_y_wow0 (va_Pc [.ref (a 1), .int (nI ov), .int (nI av), .int (nI bv), .int 0] (fun U => U.heap.size = sz ∧ va_P (dC, dI) vwCl (xW h a e cI cJ cO cE L I M J n cap fE sd si sa dl) U.heap ∧ va_K (dC, dI) vwCl (xT cI cJ cO cE) U ∧ va_D (fun _ => True) (xW h a e cI cJ cO cE L I M J n cap fE sd si sa dl) ∧ pw_N U)) (va_Qv (fun (u : (Nat → Nat → Int64)) => InvX n cap fE sd dl (b + 0) I J si ∧ (∀ j9 : Nat, j9 ∉ ([0, 1, 2, 3, 4, 5, 6, 7] : List Nat) → u j9 = M j9) ∧ (u = f_y_wow0 n dl ov av bv M)) (fun (u : (Nat → Nat → Int64)) (t : State) => va_P (dC, dI) vwCl (xW h a e cI cJ cO cE L I u J n cap fE sd si sa dl) t.heap ∧ va_D (va_A (xW h a e cI cJ cO cE L I M J n cap fE sd si sa dl) sz) (xW h a e cI cJ cO cE L I u J n cap fE sd si sa dl)) (va_A (xW h a e cI cJ cO cE L I M J n cap fE sd si sa dl) sz)) 0 0 (va_A (xW h a e cI cJ cO cE L I M J n cap fE sd si sa dl) sz) := by
  have hn : n ≤ 40 := hX0.1.1
  have hX := hX0
  have hUM : ∀ j9 : Nat, j9 ∉ ([0, 1, 2, 3, 4, 5, 6, 7] : List Nat) → M j9 = M j9 := fun _ _ => rfl
  refine Met.ofW (cc := cX5_writeOneWay) (maxL := 5) (ret := none) (by decide) rfl ?_
  intro p e9 s m args below meth c s₁ B hml hv
  obtain ⟨rfl, hsz, hP, hK, hD0, hN⟩ := hv
  have hx := B.exec
  have hb := B.bytes
  have hr := B.returns
  have hts := atoms_spec (ws := wq_y_wow0) B.pre
  have hown : s.vm.findClass RX5 = some m.cls := findClass_of_methodNamed B.named
  have hlocks := B.notSynchronized
  subst hsz
  have hD := hD0.self (sz := s.heap.size)
  generalize hAe : va_A (xW h a e cI cJ cO cE L I M J n cap fE sd si sa dl) s.heap.size = A at hD ⊢
  have hA : ∀ q : Nat, s.heap.size ≤ q → A q := fun q h => by rw [← hAe]; exact Or.inr h
  have hS : va_S A s.heap s.heap [] := va_S.rf
  have hl := lv_entry ([.ref (a 1), .int (nI ov), .int (nI av), .int (nI bv), .int 0]) (n := 5) (Nat.le_of_ble_eq_true rfl)
  rw [lg_entry_eq]
  generalize (lg_sl ([.ref (a 1), .int (nI ov), .int (nI av), .int (nI bv), .int 0]) ++ List.replicate (5 - (lg_sl ([.ref (a 1), .int (nI ov), .int (nI av), .int (nI bv), .int 0])).length) Slot.unset).toArray = ls at hl ⊢
  have hl : lv_has ls 5 [(0, .ref (a 1)), (1, .int (nI ov)), (2, .int (nI av)), (3, .int (nI bv)), (4, .int 0)] := hl
  obtain ⟨RES, hR0⟩ : ∃ R9, R9 = f_y_wow0 n dl ov av bv M := ⟨_, rfl⟩
  have hZ9 := hR0
  unfold f_y_wow0 at hZ9
  refine lv_aload_n hx hb dX5_writeOneWay_0 rfl (lv_at hl 0 rfl) ?_
  refine va_get (D := (dC, dI)) (ci := 6) (v := .ref (a 10)) (C := RX5) (T := TX5) (N := 3) hx hb hts in_y_wow0_X5 hown hK hP 2 rfl rfl 0 (by decide) (hts (.fieldLink RX5 11 "ServiceTree$Relations" "froms" "[[J") (by decide +kernel)) (fun _ h9 => h9) rfl dX5_writeOneWay_1 ?_
  refine lv_iload_n hx hb dX5_writeOneWay_4 rfl (lv_at hl 1 rfl) ?_
  refine p1_aldA (n := 4) (f := fun i => if i < 4 then some (a (20 + i)) else none) hx hb hK hP 3 2 rfl rfl (vp_in_nI (n := ov) (by omega) (by decide)) dX5_writeOneWay_5 ?_
  refine p1_topr (v := .ref (a (20 + ov))) (by rw [nI_clamp (by omega), if_pos (by omega)]; rfl) ?_
  refine lv_iload_n hx hb dX5_writeOneWay_6 rfl (lv_at hl 2 rfl) ?_
  refine lv_iload hx hb dX5_writeOneWay_7 (lv_at hl 4 rfl) ?_
  refine lv_if_eq (tgt := 28) hx hb dX5_writeOneWay_9 (by decide) (fun _ => ?_) (fun c9 => absurd (by decide) c9)
  refine lv_aload_n hx hb dX5_writeOneWay_28 rfl (lv_at hl 0 rfl) ?_
  refine va_get (D := (dC, dI)) (ci := 6) (v := .ref (a 10)) (C := RX5) (T := TX5) (N := 3) hx hb hts in_y_wow0_X5 hown hK hP 2 rfl rfl 0 (by decide) (hts (.fieldLink RX5 11 "ServiceTree$Relations" "froms" "[[J") (by decide +kernel)) (fun _ h9 => h9) rfl dX5_writeOneWay_29 ?_
  refine lv_iload_n hx hb dX5_writeOneWay_32 rfl (lv_at hl 1 rfl) ?_
  refine p1_aldA (n := 4) (f := fun i => if i < 4 then some (a (20 + i)) else none) hx hb hK hP 3 2 rfl rfl (vp_in_nI (n := ov) (by omega) (by decide)) dX5_writeOneWay_33 ?_
  refine p1_topr (v := .ref (a (20 + ov))) (by rw [nI_clamp (by omega), if_pos (by omega)]; rfl) ?_
  refine lv_iload_n hx hb dX5_writeOneWay_34 rfl (lv_at hl 2 rfl) ?_
  refine va_lald (n := 40) (f := M ov) hx hb hK hP (5 + ov) 1 (xAt_fr h a e cI cJ cO cE L I M J n cap fE sd si sa dl (o := ov) (by omega)) rfl (vp_in_nI (n := av) (by omega) (by omega)) dX5_writeOneWay_35 ?_
  refine lv_topl (fun x1 ex1 => ?_)
  replace hZ9 := bnd_s hZ9 ex1
  refine lv_iload_n hx hb dX5_writeOneWay_36 rfl (lv_at hl 3 rfl) ?_
  have hFc := mw_free hD hS hA
  refine va_calll (va_runSN (As := [.int (nI bv)]) (rest := [.long x1, .int (nI av), .ref (a (20 + ov))]) ⟨hx, hb, hml, hown, hts⟩ (c_y_only l dC dI h a e cI cJ cO cE L I M J n cap fE sd si sa dl (b) bv s.heap.size hX (by omega) ) ⟨va_cnB 1 hts wc_y_wow0_y_only_34 rfl rfl rfl (hN (.methodLinkNest RX5 34 yX8_only "ServiceTree") (by decide +kernel)) (hts (.initialized RX8) (by decide +kernel)) (by decide +kernel) ⟨Nat.le_of_ble_eq_true rfl, Nat.le_of_ble_eq_true rfl⟩, hts (.static yX8_only) (by decide +kernel), trivial⟩ ⟨fun a9 U g mk q => by obtain ⟨q0, q1, qP, qK, qD, qN⟩ := q; exact ⟨q0, q1, qP, va_K.moved (u := U) (U := U.calling g mk a9) (Vm.Alike.refl U.vm) qK, qD, pw_N.same (u := U) (U := U.calling g mk a9) rfl qN⟩, fun U hU hW => ⟨rfl, by rw [hU], by rw [hU]; exact hP, va_K.moved hW.alike hK, hD.weaken (fun _ _ _ _ => trivial), pw_N.warm hW hN⟩⟩ rfl rfl hl.1 rfl (lv_room (Nat.le_of_ble_eq_true rfl)) dX5_writeOneWay_37 ⟨Nat.le_of_ble_eq_true rfl, Nat.le_of_ble_eq_true rfl⟩) hS (fun q _ h => hFc q h) hFc (fun r2 u t H1 locs ht hvm hw hB hz1 hk1 hS => ?_)
  replace hP := hB.1
  rw [ht] at hP
  replace hD : va_D A (xW h a e cI cJ cO cE L I M J n cap fE sd si sa dl) := hB.2.weaken (fun _ q _ h9 => hFc q.1 h9)
  clear hB
  generalize H1 = H at hP hS ⊢
  replace hP : va_P (dC, dI) vwCl (xW h a e cI cJ cO cE L I M J n cap fE sd si sa dl) H := hP
  replace hw : r2 = f_y_only n dl bv  := hw
  replace hZ9 := bnd_s hZ9 hw
  refine lv_ldc2 (v := (-1)) hx hb hown (hts (.constantLong RX5 38 (-1)) (by decide +kernel)) dX5_writeOneWay_40 ?_
  refine lv_lxor hx hb dX5_writeOneWay_43 ?_
  refine lv_topl (fun x3 ex3 => ?_)
  replace hZ9 := bnd_s hZ9 ex3
  refine lv_land hx hb dX5_writeOneWay_44 ?_
  refine lv_topl (fun x4 ex4 => ?_)
  replace hZ9 := bnd_s hZ9 ex4
  refine va_last (n := 40) (f := M ov) hx hb hK hP hD hS (5 + ov) 1 (xAt_fr h a e cI cJ cO cE L I M J n cap fE sd si sa dl (o := ov) (by omega)) rfl (vp_in_nI (n := av) (by omega) (by omega)) dX5_writeOneWay_45 (fun H locs hP hD hS => ?_)
  rw [xM_fr h a e cI cJ cO cE L I M J n cap fE sd si sa dl (o := ov) (by omega)] at hP hD
  obtain ⟨M5, eM5⟩ : ∃ f9 : Nat → Nat → Int64, f9 = va_up M ov (vp_updL (M ov) (nI av).toNatClampNeg x4) := ⟨_, rfl⟩
  rw [← eM5] at hP hD
  replace hZ9 := bnd_s hZ9 eM5
  replace hUM : ∀ j9 : Nat, j9 ∉ ([0, 1, 2, 3, 4, 5, 6, 7] : List Nat) → M5 j9 = M j9 := by rw [eM5]; exact mw_up (by simp only [List.mem_cons, List.mem_nil_iff, or_false]; omega) hUM
  refine lv_aload_n hx hb dX5_writeOneWay_46 rfl (lv_at hl 0 rfl) ?_
  refine va_get (D := (dC, dI)) (ci := 6) (v := .ref (a 11)) (C := RX5) (T := TX5) (N := 3) hx hb hts in_y_wow0_X5 hown hK hP 2 rfl rfl 1 (by decide) (hts (.fieldLink RX5 16 "ServiceTree$Relations" "tos" "[[J") (by decide +kernel)) (fun _ h9 => h9) rfl dX5_writeOneWay_47 ?_
  refine lv_iload_n hx hb dX5_writeOneWay_50 rfl (lv_at hl 1 rfl) ?_
  refine p1_aldA (n := 4) (f := fun i => if i < 4 then some (a (24 + i)) else none) hx hb hK hP 4 2 rfl rfl (vp_in_nI (n := ov) (by omega) (by decide)) dX5_writeOneWay_51 ?_
  refine p1_topr (v := .ref (a (24 + ov))) (by rw [nI_clamp (by omega), if_pos (by omega)]; rfl) ?_
  refine lv_iload_n hx hb dX5_writeOneWay_52 rfl (lv_at hl 3 rfl) ?_
  refine lv_iload hx hb dX5_writeOneWay_53 (lv_at hl 4 rfl) ?_
  refine lv_if_eq (tgt := 74) hx hb dX5_writeOneWay_55 (by decide) (fun _ => ?_) (fun c9 => absurd (by decide) c9)
  refine lv_aload_n hx hb dX5_writeOneWay_74 rfl (lv_at hl 0 rfl) ?_
  refine va_get (D := (dC, dI)) (ci := 6) (v := .ref (a 11)) (C := RX5) (T := TX5) (N := 3) hx hb hts in_y_wow0_X5 hown hK hP 2 rfl rfl 1 (by decide) (hts (.fieldLink RX5 16 "ServiceTree$Relations" "tos" "[[J") (by decide +kernel)) (fun _ h9 => h9) rfl dX5_writeOneWay_75 ?_
  refine lv_iload_n hx hb dX5_writeOneWay_78 rfl (lv_at hl 1 rfl) ?_
  refine p1_aldA (n := 4) (f := fun i => if i < 4 then some (a (24 + i)) else none) hx hb hK hP 4 2 rfl rfl (vp_in_nI (n := ov) (by omega) (by decide)) dX5_writeOneWay_79 ?_
  refine p1_topr (v := .ref (a (24 + ov))) (by rw [nI_clamp (by omega), if_pos (by omega)]; rfl) ?_
  refine lv_iload_n hx hb dX5_writeOneWay_80 rfl (lv_at hl 3 rfl) ?_
  refine va_lald (n := 40) (f := M5 (4 + ov)) hx hb hK hP (9 + ov) 1 (xAt_to h a e cI cJ cO cE L I M5 J n cap fE sd si sa dl (o := ov) (by omega)) rfl (vp_in_nI (n := bv) (by omega) (by omega)) dX5_writeOneWay_81 ?_
  refine lv_topl (fun x6 ex6 => ?_)
  replace hZ9 := bnd_s hZ9 ex6
  refine lv_iload_n hx hb dX5_writeOneWay_82 rfl (lv_at hl 2 rfl) ?_
  have hFc := mw_free hD hS hA
  refine va_calll (va_runSN (As := [.int (nI av)]) (rest := [.long x6, .int (nI bv), .ref (a (24 + ov))]) ⟨hx, hb, hml, hown, hts⟩ (c_y_only l dC dI h a e cI cJ cO cE L I M5 J n cap fE sd si sa dl (b) av H.size hX (by omega) ) ⟨va_cnB 1 hts wc_y_wow0_y_only_34 rfl rfl rfl (hN (.methodLinkNest RX5 34 yX8_only "ServiceTree") (by decide +kernel)) (hts (.initialized RX8) (by decide +kernel)) (by decide +kernel) ⟨Nat.le_of_ble_eq_true rfl, Nat.le_of_ble_eq_true rfl⟩, hts (.static yX8_only) (by decide +kernel), trivial⟩ ⟨fun a9 U g mk q => by obtain ⟨q0, q1, qP, qK, qD, qN⟩ := q; exact ⟨q0, q1, qP, va_K.moved (u := U) (U := U.calling g mk a9) (Vm.Alike.refl U.vm) qK, qD, pw_N.same (u := U) (U := U.calling g mk a9) rfl qN⟩, fun U hU hW => ⟨rfl, by rw [hU], by rw [hU]; exact hP, va_K.moved hW.alike hK, hD.weaken (fun _ _ _ _ => trivial), pw_N.warm hW hN⟩⟩ rfl rfl hl.1 rfl (lv_room (Nat.le_of_ble_eq_true rfl)) dX5_writeOneWay_83 ⟨Nat.le_of_ble_eq_true rfl, Nat.le_of_ble_eq_true rfl⟩) hS (fun q _ h => hFc q h) hFc (fun r7 u t H1 locs ht hvm hw hB hz1 hk1 hS => ?_)
  replace hP := hB.1
  rw [ht] at hP
  replace hD : va_D A (xW h a e cI cJ cO cE L I M5 J n cap fE sd si sa dl) := hB.2.weaken (fun _ q _ h9 => hFc q.1 h9)
  clear hB
  generalize H1 = H at hP hS ⊢
  replace hP : va_P (dC, dI) vwCl (xW h a e cI cJ cO cE L I M5 J n cap fE sd si sa dl) H := hP
  replace hw : r7 = f_y_only n dl av  := hw
  replace hZ9 := bnd_s hZ9 hw
  refine lv_ldc2 (v := (-1)) hx hb hown (hts (.constantLong RX5 38 (-1)) (by decide +kernel)) dX5_writeOneWay_86 ?_
  refine lv_lxor hx hb dX5_writeOneWay_89 ?_
  refine lv_topl (fun x8 ex8 => ?_)
  replace hZ9 := bnd_s hZ9 ex8
  refine lv_land hx hb dX5_writeOneWay_90 ?_
  refine lv_topl (fun x9 ex9 => ?_)
  replace hZ9 := bnd_s hZ9 ex9
  refine va_last (n := 40) (f := M5 (4 + ov)) hx hb hK hP hD hS (9 + ov) 1 (xAt_to h a e cI cJ cO cE L I M5 J n cap fE sd si sa dl (o := ov) (by omega)) rfl (vp_in_nI (n := bv) (by omega) (by omega)) dX5_writeOneWay_91 (fun H locs hP hD hS => ?_)
  rw [xM_to h a e cI cJ cO cE L I M5 J n cap fE sd si sa dl (o := ov) (by omega)] at hP hD
  obtain ⟨M10, eM10⟩ : ∃ f9 : Nat → Nat → Int64, f9 = va_up M5 (4 + ov) (vp_updL (M5 (4 + ov)) (nI bv).toNatClampNeg x9) := ⟨_, rfl⟩
  rw [← eM10] at hP hD
  replace hZ9 := bnd_s hZ9 eM10
  replace hUM : ∀ j9 : Nat, j9 ∉ ([0, 1, 2, 3, 4, 5, 6, 7] : List Nat) → M10 j9 = M j9 := by rw [eM10]; exact mw_up (by simp only [List.mem_cons, List.mem_nil_iff, or_false]; omega) hUM
  exact W.vret hx hb hr (fun t ht hW => ⟨⟨M10, rfl, ⟨hX.mono (by omega), hUM, hZ9.symm.trans hR0⟩, by rw [ht]; exact hP, hD⟩, hS.F ht⟩) hS.2.2 dX5_writeOneWay_92
def f_y_write1 (n : Nat) (dl : Nat → Nat) (ov : Nat) (av : Nat) (bv : Nat) (M : Nat → Nat → Int64) : (Nat → Nat → Int64) := bnd (f_y_wow1 n dl ov av bv M) (fun (M2 : Nat → Nat → Int64) => if ov = 3 then (bnd (f_y_wow1 n dl ov bv av M2) (fun (M5 : Nat → Nat → Int64) => (M5))) else ((M2)))
def wq_y_write1 : List Cond := [.code yX5_write cX5_write 5 none, .methodLink RX5 31 yX5_writeOneWay, .instanceMethod yX5_writeOneWay, .selects RX5 yX5_writeOneWay yX5_writeOneWay, .initialized RX5] ++ (wq_y_wow1)
set_option maxRecDepth 20000 in
theorem wi_y_write1 : ∀ w ∈ wq_y_write1, w ∈ lw_tbl := List.forall_mem_append.mpr ⟨(by decide +kernel), wi_y_wow1⟩
set_option maxRecDepth 20000 in
theorem wg_y_write1 : GoodIn wq_y_write1 wq_y_write1 := goodIn_sub (fun _ h => h) (by decide +kernel)
set_option maxRecDepth 20000 in
theorem wc_y_write1_y_wow1_31 : GoodIn wq_y_write1 (wsV RX5 31 RX5 yX5_writeOneWay wq_y_wow1) := goodIn_app (goodIn_of _ (by decide +kernel)) (fun w h => ⟨List.mem_append_right _ (h), (wg_y_wow1 w h).2⟩)
def rm_y_write1 : Room := { frames := 2, cells := 0, slots := 0, locals := 44 }
set_option maxHeartbeats 4000000 in
set_option maxRecDepth 100000 in
theorem c_y_write1 (l : Launch) (dC : Nat → ClassId) (dI : Nat → Nat → Nat) (h : Nat) (a : Nat → Nat) (e : Nat) (cI cJ cO cE : ClassId) (L : Nat → Int64) (I : Nat → Int32) (M : Nat → Nat → Int64) (J : Nat → Nat → Int32) (n cap : Nat) (fE : Nat → Option Nat) (sd : Nat → Nat → Nat) (si : Nat → Nat → Int32) (sa : Nat → Nat → Nat → Int32) (dl : Nat → Nat) (b : Nat) (ov : Nat) (av : Nat) (bv : Nat) (sz : Nat) (hX0 : InvX n cap fE sd dl b I J si) (hb0 : b + 0 < 2147483648) (hp0 : ov < 4) (hp1 : av < 40) (hp2 : bv < 40) : Met l yX5_write wq_y_write1 rm_y_write1 (va_Pc [.ref (a 1), .int (nI ov), .int (nI av), .int (nI bv), .int 1] (fun U => U.heap.size = sz ∧ va_P (dC, dI) vwCl (xW h a e cI cJ cO cE L I M J n cap fE sd si sa dl) U.heap ∧ va_K (dC, dI) vwCl (xT cI cJ cO cE) U ∧ va_D (fun _ => True) (xW h a e cI cJ cO cE L I M J n cap fE sd si sa dl) ∧ pw_N U)) (va_Qv (fun (u : (Nat → Nat → Int64)) => InvX n cap fE sd dl (b + 0) I J si ∧ (∀ j9 : Nat, j9 ∉ ([0, 1, 2, 3, 4, 5, 6, 7] : List Nat) → u j9 = M j9) ∧ (u = f_y_write1 n dl ov av bv M)) (fun (u : (Nat → Nat → Int64)) (t : State) => va_P (dC, dI) vwCl (xW h a e cI cJ cO cE L I u J n cap fE sd si sa dl) t.heap ∧ va_D (va_A (xW h a e cI cJ cO cE L I M J n cap fE sd si sa dl) sz) (xW h a e cI cJ cO cE L I u J n cap fE sd si sa dl)) (va_A (xW h a e cI cJ cO cE L I M J n cap fE sd si sa dl) sz)) 0 0 (va_A (xW h a e cI cJ cO cE L I M J n cap fE sd si sa dl) sz) := by
  have hn : n ≤ 40 := hX0.1.1
  have hX := hX0
  have hUM : ∀ j9 : Nat, j9 ∉ ([0, 1, 2, 3, 4, 5, 6, 7] : List Nat) → M j9 = M j9 := fun _ _ => rfl
  refine Met.ofW (cc := cX5_write) (maxL := 5) (ret := none) (by decide) rfl ?_
  intro p e9 s m args below meth c s₁ B hml hv
  obtain ⟨rfl, hsz, hP, hK, hD0, hN⟩ := hv
  have hx := B.exec
  have hb := B.bytes
  have hr := B.returns
  have hts := atoms_spec (ws := wq_y_write1) B.pre
  have hown : s.vm.findClass RX5 = some m.cls := findClass_of_methodNamed B.named
  have hlocks := B.notSynchronized
  subst hsz
  have hD := hD0.self (sz := s.heap.size)
  generalize hAe : va_A (xW h a e cI cJ cO cE L I M J n cap fE sd si sa dl) s.heap.size = A at hD ⊢
  have hA : ∀ q : Nat, s.heap.size ≤ q → A q := fun q h => by rw [← hAe]; exact Or.inr h
  have hS : va_S A s.heap s.heap [] := va_S.rf
  have hl := lv_entry ([.ref (a 1), .int (nI ov), .int (nI av), .int (nI bv), .int 1]) (n := 5) (Nat.le_of_ble_eq_true rfl)
  rw [lg_entry_eq]
  generalize (lg_sl ([.ref (a 1), .int (nI ov), .int (nI av), .int (nI bv), .int 1]) ++ List.replicate (5 - (lg_sl ([.ref (a 1), .int (nI ov), .int (nI av), .int (nI bv), .int 1])).length) Slot.unset).toArray = ls at hl ⊢
  have hl : lv_has ls 5 [(0, .ref (a 1)), (1, .int (nI ov)), (2, .int (nI av)), (3, .int (nI bv)), (4, .int 1)] := hl
  obtain ⟨RES, hR0⟩ : ∃ R9, R9 = f_y_write1 n dl ov av bv M := ⟨_, rfl⟩
  have hZ9 := hR0
  unfold f_y_write1 at hZ9
  refine lv_aload_n hx hb dX5_write_0 rfl (lv_at hl 0 rfl) ?_
  refine lv_iload_n hx hb dX5_write_1 rfl (lv_at hl 1 rfl) ?_
  refine lv_iload_n hx hb dX5_write_2 rfl (lv_at hl 2 rfl) ?_
  refine lv_iload_n hx hb dX5_write_3 rfl (lv_at hl 3 rfl) ?_
  refine lv_iload hx hb dX5_write_4 (lv_at hl 4 rfl) ?_
  have hFc := mw_free hD hS hA
  refine va_callv (va_runV (As := [.int (nI ov), .int (nI av), .int (nI bv), .int 1]) (rest := []) ⟨hx, hb, hml, hown, hts⟩ (c_y_wow1 l dC dI h a e cI cJ cO cE L I M J n cap fE sd si sa dl (b) ov av bv s.heap.size hX (by omega) (by omega) (by omega) (by omega)) (cwV 4 hts wc_y_write1_y_wow1_31 rfl rfl rfl (by decide +kernel) ⟨Nat.le_of_ble_eq_true rfl, Nat.le_of_ble_eq_true rfl⟩) ⟨fun a9 U g mk q => by obtain ⟨q0, q1, qP, qK, qD, qN⟩ := q; exact ⟨q0, q1, qP, va_K.moved (u := U) (U := U.calling g mk a9) (Vm.Alike.refl U.vm) qK, qD, pw_N.same (u := U) (U := U.calling g mk a9) rfl qN⟩, va_recv hK hP (ci := 6) (q0 := 2) rfl rfl, fun U hU hW => ⟨rfl, by rw [hU], by rw [hU]; exact hP, va_K.moved hW.alike hK, hD.weaken (fun _ _ _ _ => trivial), pw_N.warm hW hN⟩⟩ rfl rfl hl.1 rfl (lv_room (Nat.le_of_ble_eq_true rfl)) dX5_write_6 ⟨Nat.le_of_ble_eq_true rfl, Nat.le_of_ble_eq_true rfl⟩) hS (fun q _ h => hFc q h) hFc (fun u t H1 locs ht hvm hw hB hz1 hk1 hS => ?_)
  obtain ⟨M2, rfl⟩ : ∃ z9, z9 = u := ⟨_, rfl⟩
  replace hP := hB.1
  rw [ht] at hP
  replace hD : va_D A (xW h a e cI cJ cO cE L I M2 J n cap fE sd si sa dl) := hB.2.weaken (fun _ q _ h9 => hFc q.1 h9)
  clear hB
  generalize H1 = H at hP hS ⊢
  replace hP : va_P (dC, dI) vwCl (xW h a e cI cJ cO cE L I M2 J n cap fE sd si sa dl) H := hP
  obtain ⟨hwX, whUM, hw⟩ := hw
  replace hX : InvX n cap fE sd dl (b) I J si := hwX
  replace hUM : ∀ j9 : Nat, j9 ∉ ([0, 1, 2, 3, 4, 5, 6, 7] : List Nat) → M2 j9 = M j9 := mw_tr (by decide) whUM hUM
  replace hw : M2 = f_y_wow1 n dl ov av bv M := hw
  replace hZ9 := bnd_s hZ9 hw
  refine lv_iload_n hx hb dX5_write_9 rfl (lv_at hl 1 rfl) ?_
  refine lv_iconst (v := 3) hx hb dX5_write_10 (by decide) ?_
  refine lv_icmp_ne (tgt := 23) hx hb dX5_write_11 (by decide) (fun c3 => ?_) (fun c3 => ?_)
  · replace c3 : ¬ (ov = 3) := fun q9 => c3 ((nI_eq (a := ov) (b := 3) (by omega) (by omega)).mpr q9)
    replace hZ9 := ite_f hZ9 c3
    exact W.vret hx hb hr (fun t ht hW => ⟨⟨M2, rfl, ⟨hX.mono (by omega), hUM, hZ9.symm.trans hR0⟩, by rw [ht]; exact hP, hD⟩, hS.F ht⟩) hS.2.2 dX5_write_23
  · replace c3 : ov = 3 := (nI_eq (a := ov) (b := 3) (by omega) (by omega)).mp c3
    replace hZ9 := ite_t hZ9 c3
    refine lv_aload_n hx hb dX5_write_14 rfl (lv_at hl 0 rfl) ?_
    refine lv_iload_n hx hb dX5_write_15 rfl (lv_at hl 1 rfl) ?_
    refine lv_iload_n hx hb dX5_write_16 rfl (lv_at hl 3 rfl) ?_
    refine lv_iload_n hx hb dX5_write_17 rfl (lv_at hl 2 rfl) ?_
    refine lv_iload hx hb dX5_write_18 (lv_at hl 4 rfl) ?_
    have hFc := mw_free hD hS hA
    refine va_callv (va_runV (As := [.int (nI ov), .int (nI bv), .int (nI av), .int 1]) (rest := []) ⟨hx, hb, hml, hown, hts⟩ (c_y_wow1 l dC dI h a e cI cJ cO cE L I M2 J n cap fE sd si sa dl (b) ov bv av H.size hX (by omega) (by omega) (by omega) (by omega)) (cwV 4 hts wc_y_write1_y_wow1_31 rfl rfl rfl (by decide +kernel) ⟨Nat.le_of_ble_eq_true rfl, Nat.le_of_ble_eq_true rfl⟩) ⟨fun a9 U g mk q => by obtain ⟨q0, q1, qP, qK, qD, qN⟩ := q; exact ⟨q0, q1, qP, va_K.moved (u := U) (U := U.calling g mk a9) (Vm.Alike.refl U.vm) qK, qD, pw_N.same (u := U) (U := U.calling g mk a9) rfl qN⟩, va_recv hK hP (ci := 6) (q0 := 2) rfl rfl, fun U hU hW => ⟨rfl, by rw [hU], by rw [hU]; exact hP, va_K.moved hW.alike hK, hD.weaken (fun _ _ _ _ => trivial), pw_N.warm hW hN⟩⟩ rfl rfl hl.1 rfl (lv_room (Nat.le_of_ble_eq_true rfl)) dX5_write_20 ⟨Nat.le_of_ble_eq_true rfl, Nat.le_of_ble_eq_true rfl⟩) hS (fun q _ h => hFc q h) hFc (fun u t H1 locs ht hvm hw hB hz1 hk1 hS => ?_)
    obtain ⟨M5, rfl⟩ : ∃ z9, z9 = u := ⟨_, rfl⟩
    replace hP := hB.1
    rw [ht] at hP
    replace hD : va_D A (xW h a e cI cJ cO cE L I M5 J n cap fE sd si sa dl) := hB.2.weaken (fun _ q _ h9 => hFc q.1 h9)
    clear hB
    generalize H1 = H at hP hS ⊢
    replace hP : va_P (dC, dI) vwCl (xW h a e cI cJ cO cE L I M5 J n cap fE sd si sa dl) H := hP
    obtain ⟨hwX, whUM, hw⟩ := hw
    replace hX : InvX n cap fE sd dl (b) I J si := hwX
    replace hUM : ∀ j9 : Nat, j9 ∉ ([0, 1, 2, 3, 4, 5, 6, 7] : List Nat) → M5 j9 = M j9 := mw_tr (by decide) whUM hUM
    replace hw : M5 = f_y_wow1 n dl ov bv av M2 := hw
    replace hZ9 := bnd_s hZ9 hw
    exact W.vret hx hb hr (fun t ht hW => ⟨⟨M5, rfl, ⟨hX.mono (by omega), hUM, hZ9.symm.trans hR0⟩, by rw [ht]; exact hP, hD⟩, hS.F ht⟩) hS.2.2 dX5_write_23
def f_y_write0 (n : Nat) (dl : Nat → Nat) (ov : Nat) (av : Nat) (bv : Nat) (M : Nat → Nat → Int64) : (Nat → Nat → Int64) := bnd (f_y_wow0 n dl ov av bv M) (fun (M2 : Nat → Nat → Int64) => if ov = 3 then (bnd (f_y_wow0 n dl ov bv av M2) (fun (M5 : Nat → Nat → Int64) => (M5))) else ((M2)))
def wq_y_write0 : List Cond := [.code yX5_write cX5_write 5 none, .methodLink RX5 31 yX5_writeOneWay, .instanceMethod yX5_writeOneWay, .selects RX5 yX5_writeOneWay yX5_writeOneWay, .initialized RX5] ++ (wq_y_wow0)
set_option maxRecDepth 20000 in
theorem wi_y_write0 : ∀ w ∈ wq_y_write0, w ∈ lw_tbl := List.forall_mem_append.mpr ⟨(by decide +kernel), wi_y_wow0⟩
set_option maxRecDepth 20000 in
theorem wg_y_write0 : GoodIn wq_y_write0 wq_y_write0 := goodIn_sub (fun _ h => h) (by decide +kernel)
set_option maxRecDepth 20000 in
theorem wc_y_write0_y_wow0_31 : GoodIn wq_y_write0 (wsV RX5 31 RX5 yX5_writeOneWay wq_y_wow0) := goodIn_app (goodIn_of _ (by decide +kernel)) (fun w h => ⟨List.mem_append_right _ (h), (wg_y_wow0 w h).2⟩)
def rm_y_write0 : Room := { frames := 2, cells := 0, slots := 0, locals := 44 }
set_option maxHeartbeats 4000000 in
set_option maxRecDepth 100000 in
theorem c_y_write0 (l : Launch) (dC : Nat → ClassId) (dI : Nat → Nat → Nat) (h : Nat) (a : Nat → Nat) (e : Nat) (cI cJ cO cE : ClassId) (L : Nat → Int64) (I : Nat → Int32) (M : Nat → Nat → Int64) (J : Nat → Nat → Int32) (n cap : Nat) (fE : Nat → Option Nat) (sd : Nat → Nat → Nat) (si : Nat → Nat → Int32) (sa : Nat → Nat → Nat → Int32) (dl : Nat → Nat) (b : Nat) (ov : Nat) (av : Nat) (bv : Nat) (sz : Nat) (hX0 : InvX n cap fE sd dl b I J si) (hb0 : b + 0 < 2147483648) (hp0 : ov < 4) (hp1 : av < 40) (hp2 : bv < 40) : Met l yX5_write wq_y_write0 rm_y_write0 (va_Pc [.ref (a 1), .int (nI ov), .int (nI av), .int (nI bv), .int 0] (fun U => U.heap.size = sz ∧ va_P (dC, dI) vwCl (xW h a e cI cJ cO cE L I M J n cap fE sd si sa dl) U.heap ∧ va_K (dC, dI) vwCl (xT cI cJ cO cE) U ∧ va_D (fun _ => True) (xW h a e cI cJ cO cE L I M J n cap fE sd si sa dl) ∧ pw_N U)) (va_Qv (fun (u : (Nat → Nat → Int64)) => InvX n cap fE sd dl (b + 0) I J si ∧ (∀ j9 : Nat, j9 ∉ ([0, 1, 2, 3, 4, 5, 6, 7] : List Nat) → u j9 = M j9) ∧ (u = f_y_write0 n dl ov av bv M)) (fun (u : (Nat → Nat → Int64)) (t : State) => va_P (dC, dI) vwCl (xW h a e cI cJ cO cE L I u J n cap fE sd si sa dl) t.heap ∧ va_D (va_A (xW h a e cI cJ cO cE L I M J n cap fE sd si sa dl) sz) (xW h a e cI cJ cO cE L I u J n cap fE sd si sa dl)) (va_A (xW h a e cI cJ cO cE L I M J n cap fE sd si sa dl) sz)) 0 0 (va_A (xW h a e cI cJ cO cE L I M J n cap fE sd si sa dl) sz) := by
  have hn : n ≤ 40 := hX0.1.1
  have hX := hX0
  have hUM : ∀ j9 : Nat, j9 ∉ ([0, 1, 2, 3, 4, 5, 6, 7] : List Nat) → M j9 = M j9 := fun _ _ => rfl
  refine Met.ofW (cc := cX5_write) (maxL := 5) (ret := none) (by decide) rfl ?_
  intro p e9 s m args below meth c s₁ B hml hv
  obtain ⟨rfl, hsz, hP, hK, hD0, hN⟩ := hv
  have hx := B.exec
  have hb := B.bytes
  have hr := B.returns
  have hts := atoms_spec (ws := wq_y_write0) B.pre
  have hown : s.vm.findClass RX5 = some m.cls := findClass_of_methodNamed B.named
  have hlocks := B.notSynchronized
  subst hsz
  have hD := hD0.self (sz := s.heap.size)
  generalize hAe : va_A (xW h a e cI cJ cO cE L I M J n cap fE sd si sa dl) s.heap.size = A at hD ⊢
  have hA : ∀ q : Nat, s.heap.size ≤ q → A q := fun q h => by rw [← hAe]; exact Or.inr h
  have hS : va_S A s.heap s.heap [] := va_S.rf
  have hl := lv_entry ([.ref (a 1), .int (nI ov), .int (nI av), .int (nI bv), .int 0]) (n := 5) (Nat.le_of_ble_eq_true rfl)
  rw [lg_entry_eq]
  generalize (lg_sl ([.ref (a 1), .int (nI ov), .int (nI av), .int (nI bv), .int 0]) ++ List.replicate (5 - (lg_sl ([.ref (a 1), .int (nI ov), .int (nI av), .int (nI bv), .int 0])).length) Slot.unset).toArray = ls at hl ⊢
  have hl : lv_has ls 5 [(0, .ref (a 1)), (1, .int (nI ov)), (2, .int (nI av)), (3, .int (nI bv)), (4, .int 0)] := hl
  obtain ⟨RES, hR0⟩ : ∃ R9, R9 = f_y_write0 n dl ov av bv M := ⟨_, rfl⟩
  have hZ9 := hR0
  unfold f_y_write0 at hZ9
  refine lv_aload_n hx hb dX5_write_0 rfl (lv_at hl 0 rfl) ?_
  refine lv_iload_n hx hb dX5_write_1 rfl (lv_at hl 1 rfl) ?_
  refine lv_iload_n hx hb dX5_write_2 rfl (lv_at hl 2 rfl) ?_
  refine lv_iload_n hx hb dX5_write_3 rfl (lv_at hl 3 rfl) ?_
  refine lv_iload hx hb dX5_write_4 (lv_at hl 4 rfl) ?_
  have hFc := mw_free hD hS hA
  refine va_callv (va_runV (As := [.int (nI ov), .int (nI av), .int (nI bv), .int 0]) (rest := []) ⟨hx, hb, hml, hown, hts⟩ (c_y_wow0 l dC dI h a e cI cJ cO cE L I M J n cap fE sd si sa dl (b) ov av bv s.heap.size hX (by omega) (by omega) (by omega) (by omega)) (cwV 4 hts wc_y_write0_y_wow0_31 rfl rfl rfl (by decide +kernel) ⟨Nat.le_of_ble_eq_true rfl, Nat.le_of_ble_eq_true rfl⟩) ⟨fun a9 U g mk q => by obtain ⟨q0, q1, qP, qK, qD, qN⟩ := q; exact ⟨q0, q1, qP, va_K.moved (u := U) (U := U.calling g mk a9) (Vm.Alike.refl U.vm) qK, qD, pw_N.same (u := U) (U := U.calling g mk a9) rfl qN⟩, va_recv hK hP (ci := 6) (q0 := 2) rfl rfl, fun U hU hW => ⟨rfl, by rw [hU], by rw [hU]; exact hP, va_K.moved hW.alike hK, hD.weaken (fun _ _ _ _ => trivial), pw_N.warm hW hN⟩⟩ rfl rfl hl.1 rfl (lv_room (Nat.le_of_ble_eq_true rfl)) dX5_write_6 ⟨Nat.le_of_ble_eq_true rfl, Nat.le_of_ble_eq_true rfl⟩) hS (fun q _ h => hFc q h) hFc (fun u t H1 locs ht hvm hw hB hz1 hk1 hS => ?_)
  obtain ⟨M2, rfl⟩ : ∃ z9, z9 = u := ⟨_, rfl⟩
  replace hP := hB.1
  rw [ht] at hP
  replace hD : va_D A (xW h a e cI cJ cO cE L I M2 J n cap fE sd si sa dl) := hB.2.weaken (fun _ q _ h9 => hFc q.1 h9)
  clear hB
  generalize H1 = H at hP hS ⊢
  replace hP : va_P (dC, dI) vwCl (xW h a e cI cJ cO cE L I M2 J n cap fE sd si sa dl) H := hP
  obtain ⟨hwX, whUM, hw⟩ := hw
  replace hX : InvX n cap fE sd dl (b) I J si := hwX
  replace hUM : ∀ j9 : Nat, j9 ∉ ([0, 1, 2, 3, 4, 5, 6, 7] : List Nat) → M2 j9 = M j9 := mw_tr (by decide) whUM hUM
  replace hw : M2 = f_y_wow0 n dl ov av bv M := hw
  replace hZ9 := bnd_s hZ9 hw
  refine lv_iload_n hx hb dX5_write_9 rfl (lv_at hl 1 rfl) ?_
  refine lv_iconst (v := 3) hx hb dX5_write_10 (by decide) ?_
  refine lv_icmp_ne (tgt := 23) hx hb dX5_write_11 (by decide) (fun c3 => ?_) (fun c3 => ?_)
  · replace c3 : ¬ (ov = 3) := fun q9 => c3 ((nI_eq (a := ov) (b := 3) (by omega) (by omega)).mpr q9)
    replace hZ9 := ite_f hZ9 c3
    exact W.vret hx hb hr (fun t ht hW => ⟨⟨M2, rfl, ⟨hX.mono (by omega), hUM, hZ9.symm.trans hR0⟩, by rw [ht]; exact hP, hD⟩, hS.F ht⟩) hS.2.2 dX5_write_23
  · replace c3 : ov = 3 := (nI_eq (a := ov) (b := 3) (by omega) (by omega)).mp c3
    replace hZ9 := ite_t hZ9 c3
    refine lv_aload_n hx hb dX5_write_14 rfl (lv_at hl 0 rfl) ?_
    refine lv_iload_n hx hb dX5_write_15 rfl (lv_at hl 1 rfl) ?_
    refine lv_iload_n hx hb dX5_write_16 rfl (lv_at hl 3 rfl) ?_
    refine lv_iload_n hx hb dX5_write_17 rfl (lv_at hl 2 rfl) ?_
    refine lv_iload hx hb dX5_write_18 (lv_at hl 4 rfl) ?_
    have hFc := mw_free hD hS hA
    refine va_callv (va_runV (As := [.int (nI ov), .int (nI bv), .int (nI av), .int 0]) (rest := []) ⟨hx, hb, hml, hown, hts⟩ (c_y_wow0 l dC dI h a e cI cJ cO cE L I M2 J n cap fE sd si sa dl (b) ov bv av H.size hX (by omega) (by omega) (by omega) (by omega)) (cwV 4 hts wc_y_write0_y_wow0_31 rfl rfl rfl (by decide +kernel) ⟨Nat.le_of_ble_eq_true rfl, Nat.le_of_ble_eq_true rfl⟩) ⟨fun a9 U g mk q => by obtain ⟨q0, q1, qP, qK, qD, qN⟩ := q; exact ⟨q0, q1, qP, va_K.moved (u := U) (U := U.calling g mk a9) (Vm.Alike.refl U.vm) qK, qD, pw_N.same (u := U) (U := U.calling g mk a9) rfl qN⟩, va_recv hK hP (ci := 6) (q0 := 2) rfl rfl, fun U hU hW => ⟨rfl, by rw [hU], by rw [hU]; exact hP, va_K.moved hW.alike hK, hD.weaken (fun _ _ _ _ => trivial), pw_N.warm hW hN⟩⟩ rfl rfl hl.1 rfl (lv_room (Nat.le_of_ble_eq_true rfl)) dX5_write_20 ⟨Nat.le_of_ble_eq_true rfl, Nat.le_of_ble_eq_true rfl⟩) hS (fun q _ h => hFc q h) hFc (fun u t H1 locs ht hvm hw hB hz1 hk1 hS => ?_)
    obtain ⟨M5, rfl⟩ : ∃ z9, z9 = u := ⟨_, rfl⟩
    replace hP := hB.1
    rw [ht] at hP
    replace hD : va_D A (xW h a e cI cJ cO cE L I M5 J n cap fE sd si sa dl) := hB.2.weaken (fun _ q _ h9 => hFc q.1 h9)
    clear hB
    generalize H1 = H at hP hS ⊢
    replace hP : va_P (dC, dI) vwCl (xW h a e cI cJ cO cE L I M5 J n cap fE sd si sa dl) H := hP
    obtain ⟨hwX, whUM, hw⟩ := hw
    replace hX : InvX n cap fE sd dl (b) I J si := hwX
    replace hUM : ∀ j9 : Nat, j9 ∉ ([0, 1, 2, 3, 4, 5, 6, 7] : List Nat) → M5 j9 = M j9 := mw_tr (by decide) whUM hUM
    replace hw : M5 = f_y_wow0 n dl ov bv av M2 := hw
    replace hZ9 := bnd_s hZ9 hw
    exact W.vret hx hb hr (fun t ht hW => ⟨⟨M5, rfl, ⟨hX.mono (by omega), hUM, hZ9.symm.trans hR0⟩, by rw [ht]; exact hP, hD⟩, hS.F ht⟩) hS.2.2 dX5_write_23
def f_y_radd (n : Nat) (dl : Nat → Nat) (ov : Nat) (av : Nat) (bv : Nat) (I : Nat → Int32) (M : Nat → Nat → Int64) : (Nat → Int32) × (Nat → Nat → Int64) := bnd (f_y_write1 n dl ov av bv M) (fun (M2 : Nat → Nat → Int64) => bnd (I 7) (fun (x3 : Int32) => bnd (x3 + (1 : Int32)) (fun (x4 : Int32) => bnd (va_up I 7 x4) (fun (I5 : Nat → Int32) => (I5, M2)))))
def wq_y_radd : List Cond := [.code yX5_add cX5_add 4 none, .fieldLink RX5 27 "ServiceTree$Relations" "size" "I", .methodLink RX5 23 yX5_write, .instanceMethod yX5_write, .selects RX5 yX5_write yX5_write, .initialized RX5] ++ (wsX50 ++ (wq_y_write1))
theorem in_y_radd_X5 : ∀ w ∈ wsX50, w ∈ wq_y_radd := fun _ h => List.mem_append_right _ (List.mem_append_left _ (h))
set_option maxRecDepth 20000 in
theorem wi_y_radd : ∀ w ∈ wq_y_radd, w ∈ lw_tbl := List.forall_mem_append.mpr ⟨(by decide +kernel), List.forall_mem_append.mpr ⟨inKX5, wi_y_write1⟩⟩
set_option maxRecDepth 20000 in
theorem wg_y_radd : GoodIn wq_y_radd wq_y_radd := goodIn_sub (fun _ h => h) (by decide +kernel)
set_option maxRecDepth 20000 in
theorem wc_y_radd_y_write1_23 : GoodIn wq_y_radd (wsV RX5 23 RX5 yX5_write wq_y_write1) := goodIn_app (goodIn_of _ (by decide +kernel)) (fun w h => ⟨List.mem_append_right _ (List.mem_append_right _ (h)), (wg_y_write1 w h).2⟩)
def rm_y_radd : Room := { frames := 3, cells := 0, slots := 0, locals := 68 }
set_option maxHeartbeats 4000000 in
set_option maxRecDepth 100000 in
theorem c_y_radd (l : Launch) (dC : Nat → ClassId) (dI : Nat → Nat → Nat) (h : Nat) (a : Nat → Nat) (e : Nat) (cI cJ cO cE : ClassId) (L : Nat → Int64) (I : Nat → Int32) (M : Nat → Nat → Int64) (J : Nat → Nat → Int32) (n cap : Nat) (fE : Nat → Option Nat) (sd : Nat → Nat → Nat) (si : Nat → Nat → Int32) (sa : Nat → Nat → Nat → Int32) (dl : Nat → Nat) (b : Nat) (ov : Nat) (av : Nat) (bv : Nat) (sz : Nat) (hX0 : InvX n cap fE sd dl b I J si) (hb0 : b + 0 < 2147483648) (hp0 : ov < 4) (hp1 : av < 40) (hp2 : bv < 40) : Met l yX5_add wq_y_radd rm_y_radd (va_Pc [.ref (a 1), .int (nI ov), .int (nI av), .int (nI bv)] (fun U => U.heap.size = sz ∧ va_P (dC, dI) vwCl (xW h a e cI cJ cO cE L I M J n cap fE sd si sa dl) U.heap ∧ va_K (dC, dI) vwCl (xT cI cJ cO cE) U ∧ va_D (fun _ => True) (xW h a e cI cJ cO cE L I M J n cap fE sd si sa dl) ∧ pw_N U)) (va_Qv (fun (u : (Nat → Int32) × (Nat → Nat → Int64)) => InvX n cap fE sd dl (b + 0) u.1 J si ∧ (∀ j9 : Nat, j9 ∉ ([7] : List Nat) → u.1 j9 = I j9) ∧ (∀ j9 : Nat, j9 ∉ ([0, 1, 2, 3, 4, 5, 6, 7] : List Nat) → u.2 j9 = M j9) ∧ (u = f_y_radd n dl ov av bv I M)) (fun (u : (Nat → Int32) × (Nat → Nat → Int64)) (t : State) => va_P (dC, dI) vwCl (xW h a e cI cJ cO cE L u.1 u.2 J n cap fE sd si sa dl) t.heap ∧ va_D (va_A (xW h a e cI cJ cO cE L I M J n cap fE sd si sa dl) sz) (xW h a e cI cJ cO cE L u.1 u.2 J n cap fE sd si sa dl)) (va_A (xW h a e cI cJ cO cE L I M J n cap fE sd si sa dl) sz)) 0 0 (va_A (xW h a e cI cJ cO cE L I M J n cap fE sd si sa dl) sz) := by
  have hn : n ≤ 40 := hX0.1.1
  have hX := hX0
  have hUI : ∀ j9 : Nat, j9 ∉ ([7] : List Nat) → I j9 = I j9 := fun _ _ => rfl
  have hUM : ∀ j9 : Nat, j9 ∉ ([0, 1, 2, 3, 4, 5, 6, 7] : List Nat) → M j9 = M j9 := fun _ _ => rfl
  refine Met.ofW (cc := cX5_add) (maxL := 4) (ret := none) (by decide) rfl ?_
  intro p e9 s m args below meth c s₁ B hml hv
  obtain ⟨rfl, hsz, hP, hK, hD0, hN⟩ := hv
  have hx := B.exec
  have hb := B.bytes
  have hr := B.returns
  have hts := atoms_spec (ws := wq_y_radd) B.pre
  have hown : s.vm.findClass RX5 = some m.cls := findClass_of_methodNamed B.named
  have hlocks := B.notSynchronized
  subst hsz
  have hD := hD0.self (sz := s.heap.size)
  generalize hAe : va_A (xW h a e cI cJ cO cE L I M J n cap fE sd si sa dl) s.heap.size = A at hD ⊢
  have hA : ∀ q : Nat, s.heap.size ≤ q → A q := fun q h => by rw [← hAe]; exact Or.inr h
  have hS : va_S A s.heap s.heap [] := va_S.rf
  have hl := lv_entry ([.ref (a 1), .int (nI ov), .int (nI av), .int (nI bv)]) (n := 4) (Nat.le_of_ble_eq_true rfl)
  rw [lg_entry_eq]
  generalize (lg_sl ([.ref (a 1), .int (nI ov), .int (nI av), .int (nI bv)]) ++ List.replicate (4 - (lg_sl ([.ref (a 1), .int (nI ov), .int (nI av), .int (nI bv)])).length) Slot.unset).toArray = ls at hl ⊢
  have hl : lv_has ls 4 [(0, .ref (a 1)), (1, .int (nI ov)), (2, .int (nI av)), (3, .int (nI bv))] := hl
  obtain ⟨RES, hR0⟩ : ∃ R9, R9 = f_y_radd n dl ov av bv I M := ⟨_, rfl⟩
  have hZ9 := hR0
  unfold f_y_radd at hZ9
  refine lv_aload_n hx hb dX5_add_0 rfl (lv_at hl 0 rfl) ?_
  refine lv_iload_n hx hb dX5_add_1 rfl (lv_at hl 1 rfl) ?_
  refine lv_iload_n hx hb dX5_add_2 rfl (lv_at hl 2 rfl) ?_
  refine lv_iload_n hx hb dX5_add_3 rfl (lv_at hl 3 rfl) ?_
  refine lv_iconst (v := 1) hx hb dX5_add_4 (by decide) ?_
  have hFc := mw_free hD hS hA
  refine va_callv (va_runV (As := [.int (nI ov), .int (nI av), .int (nI bv), .int 1]) (rest := []) ⟨hx, hb, hml, hown, hts⟩ (c_y_write1 l dC dI h a e cI cJ cO cE L I M J n cap fE sd si sa dl (b) ov av bv s.heap.size hX (by omega) (by omega) (by omega) (by omega)) (cwV 4 hts wc_y_radd_y_write1_23 rfl rfl rfl (by decide +kernel) ⟨Nat.le_of_ble_eq_true rfl, Nat.le_of_ble_eq_true rfl⟩) ⟨fun a9 U g mk q => by obtain ⟨q0, q1, qP, qK, qD, qN⟩ := q; exact ⟨q0, q1, qP, va_K.moved (u := U) (U := U.calling g mk a9) (Vm.Alike.refl U.vm) qK, qD, pw_N.same (u := U) (U := U.calling g mk a9) rfl qN⟩, va_recv hK hP (ci := 6) (q0 := 2) rfl rfl, fun U hU hW => ⟨rfl, by rw [hU], by rw [hU]; exact hP, va_K.moved hW.alike hK, hD.weaken (fun _ _ _ _ => trivial), pw_N.warm hW hN⟩⟩ rfl rfl hl.1 rfl (lv_room (Nat.le_of_ble_eq_true rfl)) dX5_add_5 ⟨Nat.le_of_ble_eq_true rfl, Nat.le_of_ble_eq_true rfl⟩) hS (fun q _ h => hFc q h) hFc (fun u t H1 locs ht hvm hw hB hz1 hk1 hS => ?_)
  obtain ⟨M2, rfl⟩ : ∃ z9, z9 = u := ⟨_, rfl⟩
  replace hP := hB.1
  rw [ht] at hP
  replace hD : va_D A (xW h a e cI cJ cO cE L I M2 J n cap fE sd si sa dl) := hB.2.weaken (fun _ q _ h9 => hFc q.1 h9)
  clear hB
  generalize H1 = H at hP hS ⊢
  replace hP : va_P (dC, dI) vwCl (xW h a e cI cJ cO cE L I M2 J n cap fE sd si sa dl) H := hP
  obtain ⟨hwX, whUM, hw⟩ := hw
  replace hX : InvX n cap fE sd dl (b) I J si := hwX
  replace hUM : ∀ j9 : Nat, j9 ∉ ([0, 1, 2, 3, 4, 5, 6, 7] : List Nat) → M2 j9 = M j9 := mw_tr (by decide) whUM hUM
  replace hw : M2 = f_y_write1 n dl ov av bv M := hw
  replace hZ9 := bnd_s hZ9 hw
  refine lv_aload_n hx hb dX5_add_8 rfl (lv_at hl 0 rfl) ?_
  refine lv_dup hx hb dX5_add_9 rfl ?_
  refine va_get (D := (dC, dI)) (ci := 6) (v := .int (I 7)) (C := RX5) (T := TX5) (N := 3) hx hb hts in_y_radd_X5 hown hK hP 2 rfl rfl 2 (by decide) (hts (.fieldLink RX5 27 "ServiceTree$Relations" "size" "I") (by decide +kernel)) (fun _ h9 => h9) rfl dX5_add_10 ?_
  refine lv_topi (fun x3 ex3 => ?_)
  replace hZ9 := bnd_s hZ9 ex3
  refine lv_iconst (v := 1) hx hb dX5_add_13 (by decide) ?_
  refine lv_iadd hx hb dX5_add_14 ?_
  refine lv_topi (fun x4 ex4 => ?_)
  replace hZ9 := bnd_s hZ9 ex4
  refine va_put (D := (dC, dI)) (ci := 6) (fs := [.ref (a 10), .ref (a 11), .int (I 7)]) (v := .int x4) (ty := .int) (C := RX5) (T := TX5) (N := 3) hx hb hts in_y_radd_X5 tyX5 tyX5_ok nmX5 hown hK hP hD hS 2 rfl rfl 2 (by decide) (hts (.fieldLink RX5 27 "ServiceTree$Relations" "size" "I") (by decide +kernel)) (fun _ h9 => h9) rfl (by decide +kernel) rfl rfl (Nat.le_of_ble_eq_true rfl) dX5_add_15 (fun H locs hP hD hS => ?_)
  replace hP : va_P (dC, dI) vwCl ((xW h a e cI cJ cO cE L I M2 J n cap fE sd si sa dl).set 2 (a 1, .inr (6, [.ref (a 10), .ref (a 11), .int x4]))) H := hP
  replace hD : va_D A ((xW h a e cI cJ cO cE L I M2 J n cap fE sd si sa dl).set 2 (a 1, .inr (6, [.ref (a 10), .ref (a 11), .int x4]))) := hD
  rw [xF_I7] at hP hD
  obtain ⟨I5, eI5⟩ : ∃ f9 : Nat → Int32, f9 = va_up I 7 x4 := ⟨_, rfl⟩
  rw [← eI5] at hP hD
  replace hZ9 := bnd_s hZ9 eI5
  replace hX : InvX n cap fE sd dl (b) I5 J si := by rw [eI5]; exact hX.setI (by decide)
  replace hUI : ∀ j9 : Nat, j9 ∉ ([7] : List Nat) → I5 j9 = I j9 := by rw [eI5]; exact mw_up (by decide) hUI
  exact W.vret hx hb hr (fun t ht hW => ⟨⟨(I5, M2), rfl, ⟨hX.mono (by omega), hUI, hUM, hZ9.symm.trans hR0⟩, by rw [ht]; exact hP, hD⟩, hS.F ht⟩) hS.2.2 dX5_add_18
def f_y_rremove (n : Nat) (dl : Nat → Nat) (ov : Nat) (av : Nat) (bv : Nat) (I : Nat → Int32) (M : Nat → Nat → Int64) : (Nat → Int32) × (Nat → Nat → Int64) := bnd (f_y_write0 n dl ov av bv M) (fun (M2 : Nat → Nat → Int64) => bnd (I 7) (fun (x3 : Int32) => bnd (x3 - (1 : Int32)) (fun (x4 : Int32) => bnd (va_up I 7 x4) (fun (I5 : Nat → Int32) => (I5, M2)))))
def wq_y_rremove : List Cond := [.code yX5_remove cX5_remove 4 none, .fieldLink RX5 27 "ServiceTree$Relations" "size" "I", .methodLink RX5 23 yX5_write, .instanceMethod yX5_write, .selects RX5 yX5_write yX5_write, .initialized RX5] ++ (wsX50 ++ (wq_y_write0))
theorem in_y_rremove_X5 : ∀ w ∈ wsX50, w ∈ wq_y_rremove := fun _ h => List.mem_append_right _ (List.mem_append_left _ (h))
set_option maxRecDepth 20000 in
theorem wi_y_rremove : ∀ w ∈ wq_y_rremove, w ∈ lw_tbl := List.forall_mem_append.mpr ⟨(by decide +kernel), List.forall_mem_append.mpr ⟨inKX5, wi_y_write0⟩⟩
set_option maxRecDepth 20000 in
theorem wg_y_rremove : GoodIn wq_y_rremove wq_y_rremove := goodIn_sub (fun _ h => h) (by decide +kernel)
set_option maxRecDepth 20000 in
theorem wc_y_rremove_y_write0_23 : GoodIn wq_y_rremove (wsV RX5 23 RX5 yX5_write wq_y_write0) := goodIn_app (goodIn_of _ (by decide +kernel)) (fun w h => ⟨List.mem_append_right _ (List.mem_append_right _ (h)), (wg_y_write0 w h).2⟩)
def rm_y_rremove : Room := { frames := 3, cells := 0, slots := 0, locals := 68 }
set_option maxHeartbeats 4000000 in
set_option maxRecDepth 100000 in
theorem c_y_rremove (l : Launch) (dC : Nat → ClassId) (dI : Nat → Nat → Nat) (h : Nat) (a : Nat → Nat) (e : Nat) (cI cJ cO cE : ClassId) (L : Nat → Int64) (I : Nat → Int32) (M : Nat → Nat → Int64) (J : Nat → Nat → Int32) (n cap : Nat) (fE : Nat → Option Nat) (sd : Nat → Nat → Nat) (si : Nat → Nat → Int32) (sa : Nat → Nat → Nat → Int32) (dl : Nat → Nat) (b : Nat) (ov : Nat) (av : Nat) (bv : Nat) (sz : Nat) (hX0 : InvX n cap fE sd dl b I J si) (hb0 : b + 0 < 2147483648) (hp0 : ov < 4) (hp1 : av < 40) (hp2 : bv < 40) : Met l yX5_remove wq_y_rremove rm_y_rremove (va_Pc [.ref (a 1), .int (nI ov), .int (nI av), .int (nI bv)] (fun U => U.heap.size = sz ∧ va_P (dC, dI) vwCl (xW h a e cI cJ cO cE L I M J n cap fE sd si sa dl) U.heap ∧ va_K (dC, dI) vwCl (xT cI cJ cO cE) U ∧ va_D (fun _ => True) (xW h a e cI cJ cO cE L I M J n cap fE sd si sa dl) ∧ pw_N U)) (va_Qv (fun (u : (Nat → Int32) × (Nat → Nat → Int64)) => InvX n cap fE sd dl (b + 0) u.1 J si ∧ (∀ j9 : Nat, j9 ∉ ([7] : List Nat) → u.1 j9 = I j9) ∧ (∀ j9 : Nat, j9 ∉ ([0, 1, 2, 3, 4, 5, 6, 7] : List Nat) → u.2 j9 = M j9) ∧ (u = f_y_rremove n dl ov av bv I M)) (fun (u : (Nat → Int32) × (Nat → Nat → Int64)) (t : State) => va_P (dC, dI) vwCl (xW h a e cI cJ cO cE L u.1 u.2 J n cap fE sd si sa dl) t.heap ∧ va_D (va_A (xW h a e cI cJ cO cE L I M J n cap fE sd si sa dl) sz) (xW h a e cI cJ cO cE L u.1 u.2 J n cap fE sd si sa dl)) (va_A (xW h a e cI cJ cO cE L I M J n cap fE sd si sa dl) sz)) 0 0 (va_A (xW h a e cI cJ cO cE L I M J n cap fE sd si sa dl) sz) := by
  have hn : n ≤ 40 := hX0.1.1
  have hX := hX0
  have hUI : ∀ j9 : Nat, j9 ∉ ([7] : List Nat) → I j9 = I j9 := fun _ _ => rfl
  have hUM : ∀ j9 : Nat, j9 ∉ ([0, 1, 2, 3, 4, 5, 6, 7] : List Nat) → M j9 = M j9 := fun _ _ => rfl
  refine Met.ofW (cc := cX5_remove) (maxL := 4) (ret := none) (by decide) rfl ?_
  intro p e9 s m args below meth c s₁ B hml hv
  obtain ⟨rfl, hsz, hP, hK, hD0, hN⟩ := hv
  have hx := B.exec
  have hb := B.bytes
  have hr := B.returns
  have hts := atoms_spec (ws := wq_y_rremove) B.pre
  have hown : s.vm.findClass RX5 = some m.cls := findClass_of_methodNamed B.named
  have hlocks := B.notSynchronized
  subst hsz
  have hD := hD0.self (sz := s.heap.size)
  generalize hAe : va_A (xW h a e cI cJ cO cE L I M J n cap fE sd si sa dl) s.heap.size = A at hD ⊢
  have hA : ∀ q : Nat, s.heap.size ≤ q → A q := fun q h => by rw [← hAe]; exact Or.inr h
  have hS : va_S A s.heap s.heap [] := va_S.rf
  have hl := lv_entry ([.ref (a 1), .int (nI ov), .int (nI av), .int (nI bv)]) (n := 4) (Nat.le_of_ble_eq_true rfl)
  rw [lg_entry_eq]
  generalize (lg_sl ([.ref (a 1), .int (nI ov), .int (nI av), .int (nI bv)]) ++ List.replicate (4 - (lg_sl ([.ref (a 1), .int (nI ov), .int (nI av), .int (nI bv)])).length) Slot.unset).toArray = ls at hl ⊢
  have hl : lv_has ls 4 [(0, .ref (a 1)), (1, .int (nI ov)), (2, .int (nI av)), (3, .int (nI bv))] := hl
  obtain ⟨RES, hR0⟩ : ∃ R9, R9 = f_y_rremove n dl ov av bv I M := ⟨_, rfl⟩
  have hZ9 := hR0
  unfold f_y_rremove at hZ9
  refine lv_aload_n hx hb dX5_remove_0 rfl (lv_at hl 0 rfl) ?_
  refine lv_iload_n hx hb dX5_remove_1 rfl (lv_at hl 1 rfl) ?_
  refine lv_iload_n hx hb dX5_remove_2 rfl (lv_at hl 2 rfl) ?_
  refine lv_iload_n hx hb dX5_remove_3 rfl (lv_at hl 3 rfl) ?_
  refine lv_iconst (v := 0) hx hb dX5_remove_4 (by decide) ?_
  have hFc := mw_free hD hS hA
  refine va_callv (va_runV (As := [.int (nI ov), .int (nI av), .int (nI bv), .int 0]) (rest := []) ⟨hx, hb, hml, hown, hts⟩ (c_y_write0 l dC dI h a e cI cJ cO cE L I M J n cap fE sd si sa dl (b) ov av bv s.heap.size hX (by omega) (by omega) (by omega) (by omega)) (cwV 4 hts wc_y_rremove_y_write0_23 rfl rfl rfl (by decide +kernel) ⟨Nat.le_of_ble_eq_true rfl, Nat.le_of_ble_eq_true rfl⟩) ⟨fun a9 U g mk q => by obtain ⟨q0, q1, qP, qK, qD, qN⟩ := q; exact ⟨q0, q1, qP, va_K.moved (u := U) (U := U.calling g mk a9) (Vm.Alike.refl U.vm) qK, qD, pw_N.same (u := U) (U := U.calling g mk a9) rfl qN⟩, va_recv hK hP (ci := 6) (q0 := 2) rfl rfl, fun U hU hW => ⟨rfl, by rw [hU], by rw [hU]; exact hP, va_K.moved hW.alike hK, hD.weaken (fun _ _ _ _ => trivial), pw_N.warm hW hN⟩⟩ rfl rfl hl.1 rfl (lv_room (Nat.le_of_ble_eq_true rfl)) dX5_remove_5 ⟨Nat.le_of_ble_eq_true rfl, Nat.le_of_ble_eq_true rfl⟩) hS (fun q _ h => hFc q h) hFc (fun u t H1 locs ht hvm hw hB hz1 hk1 hS => ?_)
  obtain ⟨M2, rfl⟩ : ∃ z9, z9 = u := ⟨_, rfl⟩
  replace hP := hB.1
  rw [ht] at hP
  replace hD : va_D A (xW h a e cI cJ cO cE L I M2 J n cap fE sd si sa dl) := hB.2.weaken (fun _ q _ h9 => hFc q.1 h9)
  clear hB
  generalize H1 = H at hP hS ⊢
  replace hP : va_P (dC, dI) vwCl (xW h a e cI cJ cO cE L I M2 J n cap fE sd si sa dl) H := hP
  obtain ⟨hwX, whUM, hw⟩ := hw
  replace hX : InvX n cap fE sd dl (b) I J si := hwX
  replace hUM : ∀ j9 : Nat, j9 ∉ ([0, 1, 2, 3, 4, 5, 6, 7] : List Nat) → M2 j9 = M j9 := mw_tr (by decide) whUM hUM
  replace hw : M2 = f_y_write0 n dl ov av bv M := hw
  replace hZ9 := bnd_s hZ9 hw
  refine lv_aload_n hx hb dX5_remove_8 rfl (lv_at hl 0 rfl) ?_
  refine lv_dup hx hb dX5_remove_9 rfl ?_
  refine va_get (D := (dC, dI)) (ci := 6) (v := .int (I 7)) (C := RX5) (T := TX5) (N := 3) hx hb hts in_y_rremove_X5 hown hK hP 2 rfl rfl 2 (by decide) (hts (.fieldLink RX5 27 "ServiceTree$Relations" "size" "I") (by decide +kernel)) (fun _ h9 => h9) rfl dX5_remove_10 ?_
  refine lv_topi (fun x3 ex3 => ?_)
  replace hZ9 := bnd_s hZ9 ex3
  refine lv_iconst (v := 1) hx hb dX5_remove_13 (by decide) ?_
  refine lv_isub hx hb dX5_remove_14 ?_
  refine lv_topi (fun x4 ex4 => ?_)
  replace hZ9 := bnd_s hZ9 ex4
  refine va_put (D := (dC, dI)) (ci := 6) (fs := [.ref (a 10), .ref (a 11), .int (I 7)]) (v := .int x4) (ty := .int) (C := RX5) (T := TX5) (N := 3) hx hb hts in_y_rremove_X5 tyX5 tyX5_ok nmX5 hown hK hP hD hS 2 rfl rfl 2 (by decide) (hts (.fieldLink RX5 27 "ServiceTree$Relations" "size" "I") (by decide +kernel)) (fun _ h9 => h9) rfl (by decide +kernel) rfl rfl (Nat.le_of_ble_eq_true rfl) dX5_remove_15 (fun H locs hP hD hS => ?_)
  replace hP : va_P (dC, dI) vwCl ((xW h a e cI cJ cO cE L I M2 J n cap fE sd si sa dl).set 2 (a 1, .inr (6, [.ref (a 10), .ref (a 11), .int x4]))) H := hP
  replace hD : va_D A ((xW h a e cI cJ cO cE L I M2 J n cap fE sd si sa dl).set 2 (a 1, .inr (6, [.ref (a 10), .ref (a 11), .int x4]))) := hD
  rw [xF_I7] at hP hD
  obtain ⟨I5, eI5⟩ : ∃ f9 : Nat → Int32, f9 = va_up I 7 x4 := ⟨_, rfl⟩
  rw [← eI5] at hP hD
  replace hZ9 := bnd_s hZ9 eI5
  replace hX : InvX n cap fE sd dl (b) I5 J si := by rw [eI5]; exact hX.setI (by decide)
  replace hUI : ∀ j9 : Nat, j9 ∉ ([7] : List Nat) → I5 j9 = I j9 := by rw [eI5]; exact mw_up (by decide) hUI
  exact W.vret hx hb hr (fun t ht hW => ⟨⟨(I5, M2), rfl, ⟨hX.mono (by omega), hUI, hUM, hZ9.symm.trans hR0⟩, by rw [ht]; exact hP, hD⟩, hS.F ht⟩) hS.2.2 dX5_remove_18
