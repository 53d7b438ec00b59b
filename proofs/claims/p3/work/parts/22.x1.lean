theorem dX3_left_0 : decode cX3_left 0 = .ok (.aload_n 0, 1) := by decide +kernel
theorem dX3_left_1 : decode cX3_left 1 = .ok (.getfield 15, 3) := by decide +kernel
theorem dX3_left_4 : decode cX3_left 4 = .ok (.aload_n 0, 1) := by decide +kernel
theorem dX3_left_5 : decode cX3_left 5 = .ok (.getfield 19, 3) := by decide +kernel
theorem dX3_left_8 : decode cX3_left 8 = .ok (.lor, 1) := by decide +kernel
theorem dX3_left_9 : decode cX3_left 9 = .ok (.lreturn, 1) := by decide +kernel
theorem dX3_take_0 : decode cX3_take 0 = .ok (.aload_n 0, 1) := by decide +kernel
theorem dX3_take_1 : decode cX3_take 1 = .ok (.lload_n 1, 1) := by decide +kernel
theorem dX3_take_2 : decode cX3_take 2 = .ok (.putfield 15, 3) := by decide +kernel
theorem dX3_take_5 : decode cX3_take 5 = .ok (.aload_n 0, 1) := by decide +kernel
theorem dX3_take_6 : decode cX3_take 6 = .ok (.lload_n 3, 1) := by decide +kernel
theorem dX3_take_7 : decode cX3_take 7 = .ok (.putfield 19, 3) := by decide +kernel
theorem dX3_take_10 : decode cX3_take 10 = .ok (.aload_n 0, 1) := by decide +kernel
theorem dX3_take_11 : decode cX3_take 11 = .ok (.lconst 0, 1) := by decide +kernel
theorem dX3_take_12 : decode cX3_take 12 = .ok (.putfield 22, 3) := by decide +kernel
theorem dX3_take_15 : decode cX3_take 15 = .ok (.return_, 1) := by decide +kernel
theorem dX3_begin_0 : decode cX3_begin 0 = .ok (.aload_n 0, 1) := by decide +kernel
theorem dX3_begin_1 : decode cX3_begin 1 = .ok (.dup, 1) := by decide +kernel
theorem dX3_begin_2 : decode cX3_begin 2 = .ok (.getfield 22, 3) := by decide +kernel
theorem dX3_begin_5 : decode cX3_begin 5 = .ok (.iload_n 1, 1) := by decide +kernel
theorem dX3_begin_6 : decode cX3_begin 6 = .ok (.invokestatic 38, 3) := by decide +kernel
theorem dX3_begin_9 : decode cX3_begin 9 = .ok (.lor, 1) := by decide +kernel
theorem dX3_begin_10 : decode cX3_begin 10 = .ok (.putfield 22, 3) := by decide +kernel
theorem dX3_begin_13 : decode cX3_begin 13 = .ok (.return_, 1) := by decide +kernel
theorem dX3_end_0 : decode cX3_end 0 = .ok (.lconst 1, 1) := by decide +kernel
theorem dX3_end_1 : decode cX3_end 1 = .ok (.iload_n 1, 1) := by decide +kernel
theorem dX3_end_2 : decode cX3_end 2 = .ok (.lshl, 1) := by decide +kernel
theorem dX3_end_3 : decode cX3_end 3 = .ok (.ldc2_w 45, 3) := by decide +kernel
theorem dX3_end_6 : decode cX3_end 6 = .ok (.lxor, 1) := by decide +kernel
theorem dX3_end_7 : decode cX3_end 7 = .ok (.lstore_n 2, 1) := by decide +kernel
theorem dX3_end_8 : decode cX3_end 8 = .ok (.aload_n 0, 1) := by decide +kernel
theorem dX3_end_9 : decode cX3_end 9 = .ok (.dup, 1) := by decide +kernel
theorem dX3_end_10 : decode cX3_end 10 = .ok (.getfield 15, 3) := by decide +kernel
theorem dX3_end_13 : decode cX3_end 13 = .ok (.lload_n 2, 1) := by decide +kernel
theorem dX3_end_14 : decode cX3_end 14 = .ok (.land, 1) := by decide +kernel
theorem dX3_end_15 : decode cX3_end 15 = .ok (.putfield 15, 3) := by decide +kernel
theorem dX3_end_18 : decode cX3_end 18 = .ok (.aload_n 0, 1) := by decide +kernel
theorem dX3_end_19 : decode cX3_end 19 = .ok (.dup, 1) := by decide +kernel
theorem dX3_end_20 : decode cX3_end 20 = .ok (.getfield 19, 3) := by decide +kernel
theorem dX3_end_23 : decode cX3_end 23 = .ok (.lload_n 2, 1) := by decide +kernel
theorem dX3_end_24 : decode cX3_end 24 = .ok (.land, 1) := by decide +kernel
theorem dX3_end_25 : decode cX3_end 25 = .ok (.putfield 19, 3) := by decide +kernel
theorem dX3_end_28 : decode cX3_end 28 = .ok (.aload_n 0, 1) := by decide +kernel
theorem dX3_end_29 : decode cX3_end 29 = .ok (.dup, 1) := by decide +kernel
theorem dX3_end_30 : decode cX3_end 30 = .ok (.getfield 22, 3) := by decide +kernel
theorem dX3_end_33 : decode cX3_end 33 = .ok (.lload_n 2, 1) := by decide +kernel
theorem dX3_end_34 : decode cX3_end 34 = .ok (.land, 1) := by decide +kernel
theorem dX3_end_35 : decode cX3_end 35 = .ok (.putfield 22, 3) := by decide +kernel
theorem dX3_end_38 : decode cX3_end 38 = .ok (.return_, 1) := by decide +kernel
theorem dX4_clear_0 : decode cX4_clear 0 = .ok (.aload_n 0, 1) := by decide +kernel
theorem dX4_clear_1 : decode cX4_clear 1 = .ok (.lload_n 1, 1) := by decide +kernel
theorem dX4_clear_2 : decode cX4_clear 2 = .ok (.putfield 21, 3) := by decide +kernel
theorem dX4_clear_5 : decode cX4_clear 5 = .ok (.aload_n 0, 1) := by decide +kernel
theorem dX4_clear_6 : decode cX4_clear 6 = .ok (.iconst 0, 1) := by decide +kernel
theorem dX4_clear_7 : decode cX4_clear 7 = .ok (.putfield 25, 3) := by decide +kernel
theorem dX4_clear_10 : decode cX4_clear 10 = .ok (.aload_n 0, 1) := by decide +kernel
theorem dX4_clear_11 : decode cX4_clear 11 = .ok (.iconst 0, 1) := by decide +kernel
theorem dX4_clear_12 : decode cX4_clear 12 = .ok (.putfield 29, 3) := by decide +kernel
theorem dX4_clear_15 : decode cX4_clear 15 = .ok (.aload_n 0, 1) := by decide +kernel
theorem dX4_clear_16 : decode cX4_clear 16 = .ok (.iconst 1, 1) := by decide +kernel
theorem dX4_clear_17 : decode cX4_clear 17 = .ok (.putfield 32, 3) := by decide +kernel
theorem dX4_clear_20 : decode cX4_clear 20 = .ok (.return_, 1) := by decide +kernel
theorem dX8_within_0 : decode cX8_within 0 = .ok (.iload_n 0, 1) := by decide +kernel
theorem dX8_within_1 : decode cX8_within 1 = .ok (.iload_n 1, 1) := by decide +kernel
theorem dX8_within_2 : decode cX8_within 2 = .ok (.if_icmp .lt 12, 3) := by decide +kernel
theorem dX8_within_5 : decode cX8_within 5 = .ok (.iload_n 0, 1) := by decide +kernel
theorem dX8_within_6 : decode cX8_within 6 = .ok (.iload_n 2, 1) := by decide +kernel
theorem dX8_within_7 : decode cX8_within 7 = .ok (.if_icmp .gt 7, 3) := by decide +kernel
theorem dX8_within_10 : decode cX8_within 10 = .ok (.iconst 1, 1) := by decide +kernel
theorem dX8_within_11 : decode cX8_within 11 = .ok (.goto 4, 3) := by decide +kernel
theorem dX8_within_14 : decode cX8_within 14 = .ok (.iconst 0, 1) := by decide +kernel
theorem dX8_within_15 : decode cX8_within 15 = .ok (.ireturn, 1) := by decide +kernel
theorem dX8_only_0 : decode cX8_only 0 = .ok (.lconst 1, 1) := by decide +kernel
theorem dX8_only_1 : decode cX8_only 1 = .ok (.iload_n 0, 1) := by decide +kernel
theorem dX8_only_2 : decode cX8_only 2 = .ok (.lshl, 1) := by decide +kernel
theorem dX8_only_3 : decode cX8_only 3 = .ok (.lreturn, 1) := by decide +kernel
theorem dX8_holds_0 : decode cX8_holds 0 = .ok (.lload_n 0, 1) := by decide +kernel
theorem dX8_holds_1 : decode cX8_holds 1 = .ok (.iload_n 2, 1) := by decide +kernel
theorem dX8_holds_2 : decode cX8_holds 2 = .ok (.lushr, 1) := by decide +kernel
theorem dX8_holds_3 : decode cX8_holds 3 = .ok (.lconst 1, 1) := by decide +kernel
theorem dX8_holds_4 : decode cX8_holds 4 = .ok (.land, 1) := by decide +kernel
theorem dX8_holds_5 : decode cX8_holds 5 = .ok (.lconst 0, 1) := by decide +kernel
theorem dX8_holds_6 : decode cX8_holds 6 = .ok (.lcmp, 1) := by decide +kernel
theorem dX8_holds_7 : decode cX8_holds 7 = .ok (.ifCond .eq 7, 3) := by decide +kernel
theorem dX8_holds_10 : decode cX8_holds 10 = .ok (.iconst 1, 1) := by decide +kernel
theorem dX8_holds_11 : decode cX8_holds 11 = .ok (.goto 4, 3) := by decide +kernel
theorem dX8_holds_14 : decode cX8_holds 14 = .ok (.iconst 0, 1) := by decide +kernel
theorem dX8_holds_15 : decode cX8_holds 15 = .ok (.ireturn, 1) := by decide +kernel
theorem dJx4a65c_size_8abf5_0 : decode cJx4a65c_size_8abf5 0 = .ok (.aload_n 0, 1) := by decide +kernel
theorem dJx4a65c_size_8abf5_1 : decode cJx4a65c_size_8abf5 1 = .ok (.getfield 48, 3) := by decide +kernel
theorem dJx4a65c_size_8abf5_4 : decode cJx4a65c_size_8abf5 4 = .ok (.ireturn, 1) := by decide +kernel
def wq_x_within : List Cond := [.code yX8_within cX8_within 3 (some .boolean)]
set_option maxRecDepth 20000 in
theorem wi_x_within : ∀ w ∈ wq_x_within, w ∈ lw_tbl := (by decide +kernel)
set_option maxRecDepth 20000 in
theorem wg_x_within : GoodIn wq_x_within wq_x_within := goodIn_sub (fun _ h => h) (by decide +kernel)
def rm_x_within : Room := { frames := 0, cells := 0, slots := 0, locals := 0 }
set_option maxHeartbeats 4000000 in
set_option maxRecDepth 100000 in
theorem c_x_within (l : Launch) (dC : Nat → ClassId) (dI : Nat → Nat → Nat) (h : Nat) (a : Nat → Nat) (e : Nat) (cI cJ cO cE : ClassId) (L : Nat → Int64) (I : Nat → Int32) (M : Nat → Nat → Int64) (J : Nat → Nat → Int32) (n cap : Nat) (fE : Nat → Option Nat) (sd : Nat → Nat → Nat) (si : Nat → Nat → Int32) (sa : Nat → Nat → Nat → Int32) (dl : Nat → Nat) (b : Nat) (p0 : Int32) (p1 : Int32) (p2 : Int32) (sz : Nat) (hX0 : InvX n cap fE sd dl b I J si) (hb0 : b + 0 < 2147483648)  : Met l yX8_within wq_x_within rm_x_within (va_Pc [.int p0, .int p1, .int p2] (fun U => U.heap.size = sz ∧ va_P (dC, dI) vwCl (xW h a e cI cJ cO cE L I M J n cap fE sd si sa dl) U.heap ∧ va_K (dC, dI) vwCl (xT cI cJ cO cE) U ∧ va_D (fun _ => True) (xW h a e cI cJ cO cE L I M J n cap fE sd si sa dl) ∧ pw_N U)) (va_Qi (fun (r : Int32) (u : Unit) => ((r = 1 ∧ p1 ≤ p0 ∧ p0 ≤ p2) ∨ (r = 0 ∧ (p0 < p1 ∨ p2 < p0)))) (fun (u : Unit) (t : State) => va_P (dC, dI) vwCl (xW h a e cI cJ cO cE L I M J n cap fE sd si sa dl) t.heap ∧ va_D (va_A (xW h a e cI cJ cO cE L I M J n cap fE sd si sa dl) sz) (xW h a e cI cJ cO cE L I M J n cap fE sd si sa dl)) (va_A (xW h a e cI cJ cO cE L I M J n cap fE sd si sa dl) sz)) 0 0 (va_A (xW h a e cI cJ cO cE L I M J n cap fE sd si sa dl) sz) := by
  have hn : n ≤ 40 := hX0.1.1
  have hX := hX0
  refine Met.ofW (cc := cX8_within) (maxL := 3) (ret := (some .boolean)) (by decide) rfl ?_
  intro p e9 s m args below meth c s₁ B hml hv
  obtain ⟨rfl, hsz, hP, hK, hD0, hN⟩ := hv
  have hx := B.exec
  have hb := B.bytes
  have hr := B.returns
  have hts := atoms_spec (ws := wq_x_within) B.pre
  have hown : s.vm.findClass RX8 = some m.cls := findClass_of_methodNamed B.named
  have hlocks := B.notSynchronized
  subst hsz
  have hD := hD0.self (sz := s.heap.size)
  generalize hAe : va_A (xW h a e cI cJ cO cE L I M J n cap fE sd si sa dl) s.heap.size = A at hD ⊢
  have hA : ∀ q : Nat, s.heap.size ≤ q → A q := fun q h => by rw [← hAe]; exact Or.inr h
  have hS : va_S A s.heap s.heap [] := va_S.rf
  have hl := lv_entry ([.int p0, .int p1, .int p2]) (n := 3) (Nat.le_of_ble_eq_true rfl)
  rw [lg_entry_eq]
  generalize (lg_sl ([.int p0, .int p1, .int p2]) ++ List.replicate (3 - (lg_sl ([.int p0, .int p1, .int p2])).length) Slot.unset).toArray = ls at hl ⊢
  have hl : lv_has ls 3 [(0, .int p0), (1, .int p1), (2, .int p2)] := hl
  refine lv_iload_n hx hb dX8_within_0 rfl (lv_at hl 0 rfl) ?_
  refine lv_iload_n hx hb dX8_within_1 rfl (lv_at hl 1 rfl) ?_
  refine lv_icmp_lt (tgt := 14) hx hb dX8_within_2 (by decide) (fun c1 => ?_) (fun c1 => ?_)
  · refine lv_iconst (v := 0) hx hb dX8_within_14 (by decide) ?_
    exact W.zret (v := 0) hx hb hr (by decide) (fun t ht hW => ⟨⟨0, (), rfl, Or.inr ⟨rfl, Or.inl c1⟩, by rw [ht]; exact hP, hD⟩, hS.F ht⟩) hS.2.2 dX8_within_15
  · refine lv_iload_n hx hb dX8_within_5 rfl (lv_at hl 0 rfl) ?_
    refine lv_iload_n hx hb dX8_within_6 rfl (lv_at hl 2 rfl) ?_
    refine lv_icmp_gt (tgt := 14) hx hb dX8_within_7 (by decide) (fun c2 => ?_) (fun c2 => ?_)
    · refine lv_iconst (v := 0) hx hb dX8_within_14 (by decide) ?_
      exact W.zret (v := 0) hx hb hr (by decide) (fun t ht hW => ⟨⟨0, (), rfl, Or.inr ⟨rfl, Or.inr c2⟩, by rw [ht]; exact hP, hD⟩, hS.F ht⟩) hS.2.2 dX8_within_15
    · refine lv_iconst (v := 1) hx hb dX8_within_10 (by decide) ?_
      refine lv_goto (tgt := 15) hx hb dX8_within_11 (by decide) ?_
      exact W.zret (v := 1) hx hb hr (by decide) (fun t ht hW => ⟨⟨1, (), rfl, Or.inl ⟨rfl, Int32.not_lt.mp c1, Int32.not_lt.mp c2⟩, by rw [ht]; exact hP, hD⟩, hS.F ht⟩) hS.2.2 dX8_within_15
def wq_x_only : List Cond := [.code yX8_only cX8_only 1 (some .long)]
set_option maxRecDepth 20000 in
theorem wi_x_only : ∀ w ∈ wq_x_only, w ∈ lw_tbl := (by decide +kernel)
set_option maxRecDepth 20000 in
theorem wg_x_only : GoodIn wq_x_only wq_x_only := goodIn_sub (fun _ h => h) (by decide +kernel)
def rm_x_only : Room := { frames := 0, cells := 0, slots := 0, locals := 0 }
set_option maxHeartbeats 4000000 in
set_option maxRecDepth 100000 in
theorem c_x_only (l : Launch) (dC : Nat → ClassId) (dI : Nat → Nat → Nat) (h : Nat) (a : Nat → Nat) (e : Nat) (cI cJ cO cE : ClassId) (L : Nat → Int64) (I : Nat → Int32) (M : Nat → Nat → Int64) (J : Nat → Nat → Int32) (n cap : Nat) (fE : Nat → Option Nat) (sd : Nat → Nat → Nat) (si : Nat → Nat → Int32) (sa : Nat → Nat → Nat → Int32) (dl : Nat → Nat) (b : Nat) (p0 : Int32) (sz : Nat) (hX0 : InvX n cap fE sd dl b I J si) (hb0 : b + 0 < 2147483648)  : Met l yX8_only wq_x_only rm_x_only (va_Pc [.int p0] (fun U => U.heap.size = sz ∧ va_P (dC, dI) vwCl (xW h a e cI cJ cO cE L I M J n cap fE sd si sa dl) U.heap ∧ va_K (dC, dI) vwCl (xT cI cJ cO cE) U ∧ va_D (fun _ => True) (xW h a e cI cJ cO cE L I M J n cap fE sd si sa dl) ∧ pw_N U)) (va_Ql (fun (r : Int64) (u : Unit) => (True)) (fun (u : Unit) (t : State) => va_P (dC, dI) vwCl (xW h a e cI cJ cO cE L I M J n cap fE sd si sa dl) t.heap ∧ va_D (va_A (xW h a e cI cJ cO cE L I M J n cap fE sd si sa dl) sz) (xW h a e cI cJ cO cE L I M J n cap fE sd si sa dl)) (va_A (xW h a e cI cJ cO cE L I M J n cap fE sd si sa dl) sz)) 0 0 (va_A (xW h a e cI cJ cO cE L I M J n cap fE sd si sa dl) sz) := by
  have hn : n ≤ 40 := hX0.1.1
  have hX := hX0
  refine Met.ofW (cc := cX8_only) (maxL := 1) (ret := (some .long)) (by decide) rfl ?_
  intro p e9 s m args below meth c s₁ B hml hv
  obtain ⟨rfl, hsz, hP, hK, hD0, hN⟩ := hv
  have hx := B.exec
  have hb := B.bytes
  have hr := B.returns
  have hts := atoms_spec (ws := wq_x_only) B.pre
  have hown : s.vm.findClass RX8 = some m.cls := findClass_of_methodNamed B.named
  have hlocks := B.notSynchronized
  subst hsz
  have hD := hD0.self (sz := s.heap.size)
  generalize hAe : va_A (xW h a e cI cJ cO cE L I M J n cap fE sd si sa dl) s.heap.size = A at hD ⊢
  have hA : ∀ q : Nat, s.heap.size ≤ q → A q := fun q h => by rw [← hAe]; exact Or.inr h
  have hS : va_S A s.heap s.heap [] := va_S.rf
  have hl := lv_entry ([.int p0]) (n := 1) (Nat.le_of_ble_eq_true rfl)
  rw [lg_entry_eq]
  generalize (lg_sl ([.int p0]) ++ List.replicate (1 - (lg_sl ([.int p0])).length) Slot.unset).toArray = ls at hl ⊢
  have hl : lv_has ls 1 [(0, .int p0)] := hl
  refine lv_lconst (v := 1) hx hb dX8_only_0 (by decide) ?_
  refine lv_iload_n hx hb dX8_only_1 rfl (lv_at hl 0 rfl) ?_
  refine lv_lshl hx hb dX8_only_2 rfl ?_
  refine lv_topl (fun x1 ex1 => ?_)
  exact W.lret (v := x1) hx hb hr (fun t ht hW => ⟨⟨x1, (), rfl, trivial, by rw [ht]; exact hP, hD⟩, hS.F ht⟩) hS.2.2 dX8_only_3
def wq_x_holds : List Cond := [.code yX8_holds cX8_holds 3 (some .boolean)]
set_option maxRecDepth 20000 in
theorem wi_x_holds : ∀ w ∈ wq_x_holds, w ∈ lw_tbl := (by decide +kernel)
set_option maxRecDepth 20000 in
theorem wg_x_holds : GoodIn wq_x_holds wq_x_holds := goodIn_sub (fun _ h => h) (by decide +kernel)
def rm_x_holds : Room := { frames := 0, cells := 0, slots := 0, locals := 0 }
set_option maxHeartbeats 4000000 in
set_option maxRecDepth 100000 in
theorem c_x_holds (l : Launch) (dC : Nat → ClassId) (dI : Nat → Nat → Nat) (h : Nat) (a : Nat → Nat) (e : Nat) (cI cJ cO cE : ClassId) (L : Nat → Int64) (I : Nat → Int32) (M : Nat → Nat → Int64) (J : Nat → Nat → Int32) (n cap : Nat) (fE : Nat → Option Nat) (sd : Nat → Nat → Nat) (si : Nat → Nat → Int32) (sa : Nat → Nat → Nat → Int32) (dl : Nat → Nat) (b : Nat) (p0 : Int64) (p1 : Int32) (sz : Nat) (hX0 : InvX n cap fE sd dl b I J si) (hb0 : b + 0 < 2147483648)  : Met l yX8_holds wq_x_holds rm_x_holds (va_Pc [.long p0, .int p1] (fun U => U.heap.size = sz ∧ va_P (dC, dI) vwCl (xW h a e cI cJ cO cE L I M J n cap fE sd si sa dl) U.heap ∧ va_K (dC, dI) vwCl (xT cI cJ cO cE) U ∧ va_D (fun _ => True) (xW h a e cI cJ cO cE L I M J n cap fE sd si sa dl) ∧ pw_N U)) (va_Qi (fun (r : Int32) (u : Unit) => (r = 0 ∨ r = 1)) (fun (u : Unit) (t : State) => va_P (dC, dI) vwCl (xW h a e cI cJ cO cE L I M J n cap fE sd si sa dl) t.heap ∧ va_D (va_A (xW h a e cI cJ cO cE L I M J n cap fE sd si sa dl) sz) (xW h a e cI cJ cO cE L I M J n cap fE sd si sa dl)) (va_A (xW h a e cI cJ cO cE L I M J n cap fE sd si sa dl) sz)) 0 0 (va_A (xW h a e cI cJ cO cE L I M J n cap fE sd si sa dl) sz) := by
  have hn : n ≤ 40 := hX0.1.1
  have hX := hX0
  refine Met.ofW (cc := cX8_holds) (maxL := 3) (ret := (some .boolean)) (by decide) rfl ?_
  intro p e9 s m args below meth c s₁ B hml hv
  obtain ⟨rfl, hsz, hP, hK, hD0, hN⟩ := hv
  have hx := B.exec
  have hb := B.bytes
  have hr := B.returns
  have hts := atoms_spec (ws := wq_x_holds) B.pre
  have hown : s.vm.findClass RX8 = some m.cls := findClass_of_methodNamed B.named
  have hlocks := B.notSynchronized
  subst hsz
  have hD := hD0.self (sz := s.heap.size)
  generalize hAe : va_A (xW h a e cI cJ cO cE L I M J n cap fE sd si sa dl) s.heap.size = A at hD ⊢
  have hA : ∀ q : Nat, s.heap.size ≤ q → A q := fun q h => by rw [← hAe]; exact Or.inr h
  have hS : va_S A s.heap s.heap [] := va_S.rf
  have hl := lv_entry ([.long p0, .int p1]) (n := 3) (Nat.le_of_ble_eq_true rfl)
  rw [lg_entry_eq]
  generalize (lg_sl ([.long p0, .int p1]) ++ List.replicate (3 - (lg_sl ([.long p0, .int p1])).length) Slot.unset).toArray = ls at hl ⊢
  have hl : lv_has ls 3 [(0, .long p0), (2, .int p1)] := hl
  refine lv_lload_n hx hb dX8_holds_0 rfl (lv_at hl 0 rfl) ?_
  refine lv_iload_n hx hb dX8_holds_1 rfl (lv_at hl 1 rfl) ?_
  refine lv_lushr hx hb dX8_holds_2 rfl ?_
  refine lv_topl (fun x1 ex1 => ?_)
  refine lv_lconst (v := 1) hx hb dX8_holds_3 (by decide) ?_
  refine lv_land hx hb dX8_holds_4 ?_
  refine lv_topl (fun x2 ex2 => ?_)
  refine lv_lconst (v := 0) hx hb dX8_holds_5 (by decide) ?_
  refine W.lcmp hx hb dX8_holds_6 ?_
  refine lv_topi (fun x3 ex3 => ?_)
  refine lv_if_eq (tgt := 14) hx hb dX8_holds_7 (by decide) (fun c4 => ?_) (fun c4 => ?_)
  · refine lv_iconst (v := 0) hx hb dX8_holds_14 (by decide) ?_
    exact W.zret (v := 0) hx hb hr (by decide) (fun t ht hW => ⟨⟨0, (), rfl, Or.inl rfl, by rw [ht]; exact hP, hD⟩, hS.F ht⟩) hS.2.2 dX8_holds_15
  · refine lv_iconst (v := 1) hx hb dX8_holds_10 (by decide) ?_
    refine lv_goto (tgt := 15) hx hb dX8_holds_11 (by decide) ?_
    exact W.zret (v := 1) hx hb hr (by decide) (fun t ht hW => ⟨⟨1, (), rfl, Or.inr rfl, by rw [ht]; exact hP, hD⟩, hS.F ht⟩) hS.2.2 dX8_holds_15
def wq_x_size : List Cond := [.code yJx4a65c_size_8abf5 cJx4a65c_size_8abf5 1 (some .int), .fieldLink RJx4a65c 48 "java/util/ArrayList" "size" "I"] ++ (wsJx4a65c0)
theorem in_x_size_Jx4a65c : ∀ w ∈ wsJx4a65c0, w ∈ wq_x_size := fun _ h => List.mem_append_right _ (h)
set_option maxRecDepth 20000 in
theorem wi_x_size : ∀ w ∈ wq_x_size, w ∈ lw_tbl := List.forall_mem_append.mpr ⟨(by decide +kernel), inKJx4a65c⟩
set_option maxRecDepth 20000 in
theorem wg_x_size : GoodIn wq_x_size wq_x_size := goodIn_sub (fun _ h => h) (by decide +kernel)
def rm_x_size : Room := { frames := 0, cells := 0, slots := 0, locals := 0 }
set_option maxHeartbeats 4000000 in
set_option maxRecDepth 100000 in
theorem c_x_size (l : Launch) (dC : Nat → ClassId) (dI : Nat → Nat → Nat) (h : Nat) (a : Nat → Nat) (e : Nat) (cI cJ cO cE : ClassId) (L : Nat → Int64) (I : Nat → Int32) (M : Nat → Nat → Int64) (J : Nat → Nat → Int32) (n cap : Nat) (fE : Nat → Option Nat) (sd : Nat → Nat → Nat) (si : Nat → Nat → Int32) (sa : Nat → Nat → Nat → Int32) (dl : Nat → Nat) (b : Nat)  (sz : Nat) (hX0 : InvX n cap fE sd dl b I J si) (hb0 : b + 0 < 2147483648)  : Met l yJx4a65c_size_8abf5 wq_x_size rm_x_size (va_Pc [.ref (a 0)] (fun U => U.heap.size = sz ∧ va_P (dC, dI) vwCl (xW h a e cI cJ cO cE L I M J n cap fE sd si sa dl) U.heap ∧ va_K (dC, dI) vwCl (xT cI cJ cO cE) U ∧ va_D (fun _ => True) (xW h a e cI cJ cO cE L I M J n cap fE sd si sa dl) ∧ pw_N U)) (va_Qi (fun (r : Int32) (u : Unit) => (r = nI n)) (fun (u : Unit) (t : State) => va_P (dC, dI) vwCl (xW h a e cI cJ cO cE L I M J n cap fE sd si sa dl) t.heap ∧ va_D (va_A (xW h a e cI cJ cO cE L I M J n cap fE sd si sa dl) sz) (xW h a e cI cJ cO cE L I M J n cap fE sd si sa dl)) (va_A (xW h a e cI cJ cO cE L I M J n cap fE sd si sa dl) sz)) 0 0 (va_A (xW h a e cI cJ cO cE L I M J n cap fE sd si sa dl) sz) := by
  have hn : n ≤ 40 := hX0.1.1
  have hX := hX0
  refine Met.ofW (cc := cJx4a65c_size_8abf5) (maxL := 1) (ret := (some .int)) (by decide) rfl ?_
  intro p e9 s m args below meth c s₁ B hml hv
  obtain ⟨rfl, hsz, hP, hK, hD0, hN⟩ := hv
  have hx := B.exec
  have hb := B.bytes
  have hr := B.returns
  have hts := atoms_spec (ws := wq_x_size) B.pre
  have hown : s.vm.findClass RJx4a65c = some m.cls := findClass_of_methodNamed B.named
  have hlocks := B.notSynchronized
  subst hsz
  have hD := hD0.self (sz := s.heap.size)
  generalize hAe : va_A (xW h a e cI cJ cO cE L I M J n cap fE sd si sa dl) s.heap.size = A at hD ⊢
  have hA : ∀ q : Nat, s.heap.size ≤ q → A q := fun q h => by rw [← hAe]; exact Or.inr h
  have hS : va_S A s.heap s.heap [] := va_S.rf
  have hl := lv_entry ([.ref (a 0)]) (n := 1) (Nat.le_of_ble_eq_true rfl)
  rw [lg_entry_eq]
  generalize (lg_sl ([.ref (a 0)]) ++ List.replicate (1 - (lg_sl ([.ref (a 0)])).length) Slot.unset).toArray = ls at hl ⊢
  have hl : lv_has ls 1 [(0, .ref (a 0))] := hl
  refine lv_aload_n hx hb dJx4a65c_size_8abf5_0 rfl (lv_at hl 0 rfl) ?_
  refine va_get (D := (dC, dI)) (ci := 0) (v := .int (I 6)) (C := RJx4a65c) (T := TJx4a65c) (N := 3) hx hb hts in_x_size_Jx4a65c hown hK hP 1 rfl rfl 2 (by decide) (hts (.fieldLink RJx4a65c 48 "java/util/ArrayList" "size" "I") (by decide +kernel)) (fun _ h9 => h9) rfl dJx4a65c_size_8abf5_1 ?_
  refine p1_topr (v := .int (nI n)) (congrArg Value.int hX.1.2.2.2.1) ?_
  exact W.iret (v := (nI n)) hx hb hr (fun t ht hW => ⟨⟨(nI n), (), rfl, rfl, by rw [ht]; exact hP, hD⟩, hS.F ht⟩) hS.2.2 dJx4a65c_size_8abf5_4
def wq_x_left : List Cond := [.code yX3_left cX3_left 1 (some .long), .fieldLink RX3 15 "ServiceTree$Jobs" "starts" "J", .fieldLink RX3 19 "ServiceTree$Jobs" "stops" "J"] ++ (wsX30)
theorem in_x_left_X3 : ∀ w ∈ wsX30, w ∈ wq_x_left := fun _ h => List.mem_append_right _ (h)
set_option maxRecDepth 20000 in
theorem wi_x_left : ∀ w ∈ wq_x_left, w ∈ lw_tbl := List.forall_mem_append.mpr ⟨(by decide +kernel), inKX3⟩
set_option maxRecDepth 20000 in
theorem wg_x_left : GoodIn wq_x_left wq_x_left := goodIn_sub (fun _ h => h) (by decide +kernel)
def rm_x_left : Room := { frames := 0, cells := 0, slots := 0, locals := 0 }
set_option maxHeartbeats 4000000 in
set_option maxRecDepth 100000 in
theorem c_x_left (l : Launch) (dC : Nat → ClassId) (dI : Nat → Nat → Nat) (h : Nat) (a : Nat → Nat) (e : Nat) (cI cJ cO cE : ClassId) (L : Nat → Int64) (I : Nat → Int32) (M : Nat → Nat → Int64) (J : Nat → Nat → Int32) (n cap : Nat) (fE : Nat → Option Nat) (sd : Nat → Nat → Nat) (si : Nat → Nat → Int32) (sa : Nat → Nat → Nat → Int32) (dl : Nat → Nat) (b : Nat)  (sz : Nat) (hX0 : InvX n cap fE sd dl b I J si) (hb0 : b + 0 < 2147483648)  : Met l yX3_left wq_x_left rm_x_left (va_Pc [.ref (a 3)] (fun U => U.heap.size = sz ∧ va_P (dC, dI) vwCl (xW h a e cI cJ cO cE L I M J n cap fE sd si sa dl) U.heap ∧ va_K (dC, dI) vwCl (xT cI cJ cO cE) U ∧ va_D (fun _ => True) (xW h a e cI cJ cO cE L I M J n cap fE sd si sa dl) ∧ pw_N U)) (va_Ql (fun (r : Int64) (u : Unit) => (True)) (fun (u : Unit) (t : State) => va_P (dC, dI) vwCl (xW h a e cI cJ cO cE L I M J n cap fE sd si sa dl) t.heap ∧ va_D (va_A (xW h a e cI cJ cO cE L I M J n cap fE sd si sa dl) sz) (xW h a e cI cJ cO cE L I M J n cap fE sd si sa dl)) (va_A (xW h a e cI cJ cO cE L I M J n cap fE sd si sa dl) sz)) 0 0 (va_A (xW h a e cI cJ cO cE L I M J n cap fE sd si sa dl) sz) := by
  have hn : n ≤ 40 := hX0.1.1
  have hX := hX0
  refine Met.ofW (cc := cX3_left) (maxL := 1) (ret := (some .long)) (by decide) rfl ?_
  intro p e9 s m args below meth c s₁ B hml hv
  obtain ⟨rfl, hsz, hP, hK, hD0, hN⟩ := hv
  have hx := B.exec
  have hb := B.bytes
  have hr := B.returns
  have hts := atoms_spec (ws := wq_x_left) B.pre
  have hown : s.vm.findClass RX3 = some m.cls := findClass_of_methodNamed B.named
  have hlocks := B.notSynchronized
  subst hsz
  have hD := hD0.self (sz := s.heap.size)
  generalize hAe : va_A (xW h a e cI cJ cO cE L I M J n cap fE sd si sa dl) s.heap.size = A at hD ⊢
  have hA : ∀ q : Nat, s.heap.size ≤ q → A q := fun q h => by rw [← hAe]; exact Or.inr h
  have hS : va_S A s.heap s.heap [] := va_S.rf
  have hl := lv_entry ([.ref (a 3)]) (n := 1) (Nat.le_of_ble_eq_true rfl)
  rw [lg_entry_eq]
  generalize (lg_sl ([.ref (a 3)]) ++ List.replicate (1 - (lg_sl ([.ref (a 3)])).length) Slot.unset).toArray = ls at hl ⊢
  have hl : lv_has ls 1 [(0, .ref (a 3))] := hl
  refine lv_aload_n hx hb dX3_left_0 rfl (lv_at hl 0 rfl) ?_
  refine va_get (D := (dC, dI)) (ci := 4) (v := .long (L 5)) (C := RX3) (T := TX3) (N := 4) hx hb hts in_x_left_X3 hown hK hP 14 rfl rfl 1 (by decide) (hts (.fieldLink RX3 15 "ServiceTree$Jobs" "starts" "J") (by decide +kernel)) (fun _ h9 => h9) rfl dX3_left_1 ?_
  refine lv_topl (fun x1 ex1 => ?_)
  refine lv_aload_n hx hb dX3_left_4 rfl (lv_at hl 0 rfl) ?_
  refine va_get (D := (dC, dI)) (ci := 4) (v := .long (L 6)) (C := RX3) (T := TX3) (N := 4) hx hb hts in_x_left_X3 hown hK hP 14 rfl rfl 2 (by decide) (hts (.fieldLink RX3 19 "ServiceTree$Jobs" "stops" "J") (by decide +kernel)) (fun _ h9 => h9) rfl dX3_left_5 ?_
  refine lv_topl (fun x2 ex2 => ?_)
  refine lv_lor hx hb dX3_left_8 ?_
  refine lv_topl (fun x3 ex3 => ?_)
  exact W.lret (v := x3) hx hb hr (fun t ht hW => ⟨⟨x3, (), rfl, trivial, by rw [ht]; exact hP, hD⟩, hS.F ht⟩) hS.2.2 dX3_left_9
def wq_x_take : List Cond := [.code yX3_take cX3_take 5 none, .fieldLink RX3 15 "ServiceTree$Jobs" "starts" "J", .fieldLink RX3 19 "ServiceTree$Jobs" "stops" "J", .fieldLink RX3 22 "ServiceTree$Jobs" "begun" "J"] ++ (wsX30)
theorem in_x_take_X3 : ∀ w ∈ wsX30, w ∈ wq_x_take := fun _ h => List.mem_append_right _ (h)
set_option maxRecDepth 20000 in
theorem wi_x_take : ∀ w ∈ wq_x_take, w ∈ lw_tbl := List.forall_mem_append.mpr ⟨(by decide +kernel), inKX3⟩
set_option maxRecDepth 20000 in
theorem wg_x_take : GoodIn wq_x_take wq_x_take := goodIn_sub (fun _ h => h) (by decide +kernel)
def rm_x_take : Room := { frames := 0, cells := 0, slots := 0, locals := 0 }
set_option maxHeartbeats 4000000 in
set_option maxRecDepth 100000 in
theorem c_x_take (l : Launch) (dC : Nat → ClassId) (dI : Nat → Nat → Nat) (h : Nat) (a : Nat → Nat) (e : Nat) (cI cJ cO cE : ClassId) (L : Nat → Int64) (I : Nat → Int32) (M : Nat → Nat → Int64) (J : Nat → Nat → Int32) (n cap : Nat) (fE : Nat → Option Nat) (sd : Nat → Nat → Nat) (si : Nat → Nat → Int32) (sa : Nat → Nat → Nat → Int32) (dl : Nat → Nat) (b : Nat) (p0 : Int64) (p1 : Int64) (sz : Nat) (hX0 : InvX n cap fE sd dl b I J si) (hb0 : b + 0 < 2147483648)  : Met l yX3_take wq_x_take rm_x_take (va_Pc [.ref (a 3), .long p0, .long p1] (fun U => U.heap.size = sz ∧ va_P (dC, dI) vwCl (xW h a e cI cJ cO cE L I M J n cap fE sd si sa dl) U.heap ∧ va_K (dC, dI) vwCl (xT cI cJ cO cE) U ∧ va_D (fun _ => True) (xW h a e cI cJ cO cE L I M J n cap fE sd si sa dl) ∧ pw_N U)) (va_Qv (fun (u : (Nat → Int64)) => InvX n cap fE sd dl (b + 0) I J si ∧ (∀ j9 : Nat, j9 ∉ ([5, 6, 7] : List Nat) → u j9 = L j9) ∧ (True)) (fun (u : (Nat → Int64)) (t : State) => va_P (dC, dI) vwCl (xW h a e cI cJ cO cE u I M J n cap fE sd si sa dl) t.heap ∧ va_D (va_A (xW h a e cI cJ cO cE L I M J n cap fE sd si sa dl) sz) (xW h a e cI cJ cO cE u I M J n cap fE sd si sa dl)) (va_A (xW h a e cI cJ cO cE L I M J n cap fE sd si sa dl) sz)) 0 0 (va_A (xW h a e cI cJ cO cE L I M J n cap fE sd si sa dl) sz) := by
  have hn : n ≤ 40 := hX0.1.1
  have hX := hX0
  have hUL : ∀ j9 : Nat, j9 ∉ ([5, 6, 7] : List Nat) → L j9 = L j9 := fun _ _ => rfl
  refine Met.ofW (cc := cX3_take) (maxL := 5) (ret := none) (by decide) rfl ?_
  intro p e9 s m args below meth c s₁ B hml hv
  obtain ⟨rfl, hsz, hP, hK, hD0, hN⟩ := hv
  have hx := B.exec
  have hb := B.bytes
  have hr := B.returns
  have hts := atoms_spec (ws := wq_x_take) B.pre
  have hown : s.vm.findClass RX3 = some m.cls := findClass_of_methodNamed B.named
  have hlocks := B.notSynchronized
  subst hsz
  have hD := hD0.self (sz := s.heap.size)
  generalize hAe : va_A (xW h a e cI cJ cO cE L I M J n cap fE sd si sa dl) s.heap.size = A at hD ⊢
  have hA : ∀ q : Nat, s.heap.size ≤ q → A q := fun q h => by rw [← hAe]; exact Or.inr h
  have hS : va_S A s.heap s.heap [] := va_S.rf
  have hl := lv_entry ([.ref (a 3), .long p0, .long p1]) (n := 5) (Nat.le_of_ble_eq_true rfl)
  rw [lg_entry_eq]
  generalize (lg_sl ([.ref (a 3), .long p0, .long p1]) ++ List.replicate (5 - (lg_sl ([.ref (a 3), .long p0, .long p1])).length) Slot.unset).toArray = ls at hl ⊢
  have hl : lv_has ls 5 [(0, .ref (a 3)), (1, .long p0), (3, .long p1)] := hl
  refine lv_aload_n hx hb dX3_take_0 rfl (lv_at hl 0 rfl) ?_
  refine lv_lload_n hx hb dX3_take_1 rfl (lv_at hl 1 rfl) ?_
  refine va_put (D := (dC, dI)) (ci := 4) (fs := [.ref (a 1), .long (L 5), .long (L 6), .long (L 7)]) (v := .long p0) (ty := .long) (C := RX3) (T := TX3) (N := 4) hx hb hts in_x_take_X3 tyX3 tyX3_ok nmX3 hown hK hP hD hS 14 rfl rfl 1 (by decide) (hts (.fieldLink RX3 15 "ServiceTree$Jobs" "starts" "J") (by decide +kernel)) (fun _ h9 => h9) rfl (by decide +kernel) rfl rfl (Nat.le_of_ble_eq_true rfl) dX3_take_2 (fun H locs hP hD hS => ?_)
  replace hP : va_P (dC, dI) vwCl ((xW h a e cI cJ cO cE L I M J n cap fE sd si sa dl).set 14 (a 3, .inr (4, [.ref (a 1), .long p0, .long (L 6), .long (L 7)]))) H := hP
  replace hD : va_D A ((xW h a e cI cJ cO cE L I M J n cap fE sd si sa dl).set 14 (a 3, .inr (4, [.ref (a 1), .long p0, .long (L 6), .long (L 7)]))) := hD
  rw [xF_L5] at hP hD
  obtain ⟨L1, eL1⟩ : ∃ f9 : Nat → Int64, f9 = va_up L 5 p0 := ⟨_, rfl⟩
  rw [← eL1] at hP hD
  replace hUL : ∀ j9 : Nat, j9 ∉ ([5, 6, 7] : List Nat) → L1 j9 = L j9 := by rw [eL1]; exact mw_up (by decide) hUL
  refine lv_aload_n hx hb dX3_take_5 rfl (lv_at hl 0 rfl) ?_
  refine lv_lload_n hx hb dX3_take_6 rfl (lv_at hl 2 rfl) ?_
  refine va_put (D := (dC, dI)) (ci := 4) (fs := [.ref (a 1), .long (L1 5), .long (L1 6), .long (L1 7)]) (v := .long p1) (ty := .long) (C := RX3) (T := TX3) (N := 4) hx hb hts in_x_take_X3 tyX3 tyX3_ok nmX3 hown hK hP hD hS 14 rfl rfl 2 (by decide) (hts (.fieldLink RX3 19 "ServiceTree$Jobs" "stops" "J") (by decide +kernel)) (fun _ h9 => h9) rfl (by decide +kernel) rfl rfl (Nat.le_of_ble_eq_true rfl) dX3_take_7 (fun H locs hP hD hS => ?_)
  replace hP : va_P (dC, dI) vwCl ((xW h a e cI cJ cO cE L1 I M J n cap fE sd si sa dl).set 14 (a 3, .inr (4, [.ref (a 1), .long (L1 5), .long p1, .long (L1 7)]))) H := hP
  replace hD : va_D A ((xW h a e cI cJ cO cE L1 I M J n cap fE sd si sa dl).set 14 (a 3, .inr (4, [.ref (a 1), .long (L1 5), .long p1, .long (L1 7)]))) := hD
  rw [xF_L6] at hP hD
  obtain ⟨L2, eL2⟩ : ∃ f9 : Nat → Int64, f9 = va_up L1 6 p1 := ⟨_, rfl⟩
  rw [← eL2] at hP hD
  replace hUL : ∀ j9 : Nat, j9 ∉ ([5, 6, 7] : List Nat) → L2 j9 = L j9 := by rw [eL2]; exact mw_up (by decide) hUL
  refine lv_aload_n hx hb dX3_take_10 rfl (lv_at hl 0 rfl) ?_
  refine lv_lconst (v := 0) hx hb dX3_take_11 (by decide) ?_
  refine va_put (D := (dC, dI)) (ci := 4) (fs := [.ref (a 1), .long (L2 5), .long (L2 6), .long (L2 7)]) (v := .long 0) (ty := .long) (C := RX3) (T := TX3) (N := 4) hx hb hts in_x_take_X3 tyX3 tyX3_ok nmX3 hown hK hP hD hS 14 rfl rfl 3 (by decide) (hts (.fieldLink RX3 22 "ServiceTree$Jobs" "begun" "J") (by decide +kernel)) (fun _ h9 => h9) rfl (by decide +kernel) rfl rfl (Nat.le_of_ble_eq_true rfl) dX3_take_12 (fun H locs hP hD hS => ?_)
  replace hP : va_P (dC, dI) vwCl ((xW h a e cI cJ cO cE L2 I M J n cap fE sd si sa dl).set 14 (a 3, .inr (4, [.ref (a 1), .long (L2 5), .long (L2 6), .long 0]))) H := hP
  replace hD : va_D A ((xW h a e cI cJ cO cE L2 I M J n cap fE sd si sa dl).set 14 (a 3, .inr (4, [.ref (a 1), .long (L2 5), .long (L2 6), .long 0]))) := hD
  rw [xF_L7] at hP hD
  obtain ⟨L3, eL3⟩ : ∃ f9 : Nat → Int64, f9 = va_up L2 7 0 := ⟨_, rfl⟩
  rw [← eL3] at hP hD
  replace hUL : ∀ j9 : Nat, j9 ∉ ([5, 6, 7] : List Nat) → L3 j9 = L j9 := by rw [eL3]; exact mw_up (by decide) hUL
  exact W.vret hx hb hr (fun t ht hW => ⟨⟨L3, rfl, ⟨hX.mono (by omega), hUL, trivial⟩, by rw [ht]; exact hP, hD⟩, hS.F ht⟩) hS.2.2 dX3_take_15
def wq_x_jbegin : List Cond := [.code yX3_begin cX3_begin 2 none, .fieldLink RX3 22 "ServiceTree$Jobs" "begun" "J", .initialized RX8, .static yX8_only] ++ (wsX30 ++ (wq_x_only))
theorem in_x_jbegin_X3 : ∀ w ∈ wsX30, w ∈ wq_x_jbegin := fun _ h => List.mem_append_right _ (List.mem_append_left _ (h))
set_option maxRecDepth 20000 in
theorem wi_x_jbegin : ∀ w ∈ wq_x_jbegin, w ∈ lw_tbl := List.forall_mem_append.mpr ⟨(by decide +kernel), List.forall_mem_append.mpr ⟨inKX3, wi_x_only⟩⟩
set_option maxRecDepth 20000 in
theorem wg_x_jbegin : GoodIn wq_x_jbegin wq_x_jbegin := goodIn_sub (fun _ h => h) (by decide +kernel)
theorem wc_x_jbegin_x_only_38 : GoodIn wq_x_jbegin wq_x_only := (fun w h => ⟨List.mem_append_right _ (List.mem_append_right _ (h)), (wg_x_only w h).2⟩)
def rm_x_jbegin : Room := { frames := 1, cells := 0, slots := 0, locals := 20 }
set_option maxHeartbeats 4000000 in
set_option maxRecDepth 100000 in
theorem c_x_jbegin (l : Launch) (dC : Nat → ClassId) (dI : Nat → Nat → Nat) (h : Nat) (a : Nat → Nat) (e : Nat) (cI cJ cO cE : ClassId) (L : Nat → Int64) (I : Nat → Int32) (M : Nat → Nat → Int64) (J : Nat → Nat → Int32) (n cap : Nat) (fE : Nat → Option Nat) (sd : Nat → Nat → Nat) (si : Nat → Nat → Int32) (sa : Nat → Nat → Nat → Int32) (dl : Nat → Nat) (b : Nat) (p0 : Int32) (sz : Nat) (hX0 : InvX n cap fE sd dl b I J si) (hb0 : b + 0 < 2147483648)  : Met l yX3_begin wq_x_jbegin rm_x_jbegin (va_Pc [.ref (a 3), .int p0] (fun U => U.heap.size = sz ∧ va_P (dC, dI) vwCl (xW h a e cI cJ cO cE L I M J n cap fE sd si sa dl) U.heap ∧ va_K (dC, dI) vwCl (xT cI cJ cO cE) U ∧ va_D (fun _ => True) (xW h a e cI cJ cO cE L I M J n cap fE sd si sa dl) ∧ pw_N U)) (va_Qv (fun (u : (Nat → Int64)) => InvX n cap fE sd dl (b + 0) I J si ∧ (∀ j9 : Nat, j9 ∉ ([7] : List Nat) → u j9 = L j9) ∧ (True)) (fun (u : (Nat → Int64)) (t : State) => va_P (dC, dI) vwCl (xW h a e cI cJ cO cE u I M J n cap fE sd si sa dl) t.heap ∧ va_D (va_A (xW h a e cI cJ cO cE L I M J n cap fE sd si sa dl) sz) (xW h a e cI cJ cO cE u I M J n cap fE sd si sa dl)) (va_A (xW h a e cI cJ cO cE L I M J n cap fE sd si sa dl) sz)) 0 0 (va_A (xW h a e cI cJ cO cE L I M J n cap fE sd si sa dl) sz) := by
  have hn : n ≤ 40 := hX0.1.1
  have hX := hX0
  have hUL : ∀ j9 : Nat, j9 ∉ ([7] : List Nat) → L j9 = L j9 := fun _ _ => rfl
  refine Met.ofW (cc := cX3_begin) (maxL := 2) (ret := none) (by decide) rfl ?_
  intro p e9 s m args below meth c s₁ B hml hv
  obtain ⟨rfl, hsz, hP, hK, hD0, hN⟩ := hv
  have hx := B.exec
  have hb := B.bytes
  have hr := B.returns
  have hts := atoms_spec (ws := wq_x_jbegin) B.pre
  have hown : s.vm.findClass RX3 = some m.cls := findClass_of_methodNamed B.named
  have hlocks := B.notSynchronized
  subst hsz
  have hD := hD0.self (sz := s.heap.size)
  generalize hAe : va_A (xW h a e cI cJ cO cE L I M J n cap fE sd si sa dl) s.heap.size = A at hD ⊢
  have hA : ∀ q : Nat, s.heap.size ≤ q → A q := fun q h => by rw [← hAe]; exact Or.inr h
  have hS : va_S A s.heap s.heap [] := va_S.rf
  have hl := lv_entry ([.ref (a 3), .int p0]) (n := 2) (Nat.le_of_ble_eq_true rfl)
  rw [lg_entry_eq]
  generalize (lg_sl ([.ref (a 3), .int p0]) ++ List.replicate (2 - (lg_sl ([.ref (a 3), .int p0])).length) Slot.unset).toArray = ls at hl ⊢
  have hl : lv_has ls 2 [(0, .ref (a 3)), (1, .int p0)] := hl
  refine lv_aload_n hx hb dX3_begin_0 rfl (lv_at hl 0 rfl) ?_
  refine lv_dup hx hb dX3_begin_1 rfl ?_
  refine va_get (D := (dC, dI)) (ci := 4) (v := .long (L 7)) (C := RX3) (T := TX3) (N := 4) hx hb hts in_x_jbegin_X3 hown hK hP 14 rfl rfl 3 (by decide) (hts (.fieldLink RX3 22 "ServiceTree$Jobs" "begun" "J") (by decide +kernel)) (fun _ h9 => h9) rfl dX3_begin_2 ?_
  refine lv_topl (fun x1 ex1 => ?_)
  refine lv_iload_n hx hb dX3_begin_5 rfl (lv_at hl 1 rfl) ?_
  have hFc := mw_free hD hS hA
  refine va_calll (va_runSN (As := [.int p0]) (rest := [.long x1, .ref (a 3)]) ⟨hx, hb, hml, hown, hts⟩ (c_x_only l dC dI h a e cI cJ cO cE L I M J n cap fE sd si sa dl (b) p0 s.heap.size hX (by omega) ) ⟨va_cnB 1 hts wc_x_jbegin_x_only_38 rfl rfl rfl (hN (.methodLinkNest RX3 38 yX8_only "ServiceTree") (by decide +kernel)) (hts (.initialized RX8) (by decide +kernel)) (by decide +kernel) ⟨Nat.le_of_ble_eq_true rfl, Nat.le_of_ble_eq_true rfl⟩, hts (.static yX8_only) (by decide +kernel), trivial⟩ ⟨fun a9 U g mk q => by obtain ⟨q0, q1, qP, qK, qD, qN⟩ := q; exact ⟨q0, q1, qP, va_K.moved (u := U) (U := U.calling g mk a9) (Vm.Alike.refl U.vm) qK, qD, pw_N.same (u := U) (U := U.calling g mk a9) rfl qN⟩, fun U hU hW => ⟨rfl, by rw [hU], by rw [hU]; exact hP, va_K.moved hW.alike hK, hD.weaken (fun _ _ _ _ => trivial), pw_N.warm hW hN⟩⟩ rfl rfl hl.1 rfl (lv_room (Nat.le_of_ble_eq_true rfl)) dX3_begin_6 ⟨Nat.le_of_ble_eq_true rfl, Nat.le_of_ble_eq_true rfl⟩) hS (fun q _ h => hFc q h) hFc (fun r2 u t H1 locs ht hvm hw hB hz1 hk1 hS => ?_)
  replace hP := hB.1
  rw [ht] at hP
  replace hD : va_D A (xW h a e cI cJ cO cE L I M J n cap fE sd si sa dl) := hB.2.weaken (fun _ q _ h9 => hFc q.1 h9)
  clear hB
  generalize H1 = H at hP hS ⊢
  replace hP : va_P (dC, dI) vwCl (xW h a e cI cJ cO cE L I M J n cap fE sd si sa dl) H := hP
  refine lv_lor hx hb dX3_begin_9 ?_
  refine lv_topl (fun x3 ex3 => ?_)
  refine va_put (D := (dC, dI)) (ci := 4) (fs := [.ref (a 1), .long (L 5), .long (L 6), .long (L 7)]) (v := .long x3) (ty := .long) (C := RX3) (T := TX3) (N := 4) hx hb hts in_x_jbegin_X3 tyX3 tyX3_ok nmX3 hown hK hP hD hS 14 rfl rfl 3 (by decide) (hts (.fieldLink RX3 22 "ServiceTree$Jobs" "begun" "J") (by decide +kernel)) (fun _ h9 => h9) rfl (by decide +kernel) rfl rfl (Nat.le_of_ble_eq_true rfl) dX3_begin_10 (fun H locs hP hD hS => ?_)
  replace hP : va_P (dC, dI) vwCl ((xW h a e cI cJ cO cE L I M J n cap fE sd si sa dl).set 14 (a 3, .inr (4, [.ref (a 1), .long (L 5), .long (L 6), .long x3]))) H := hP
  replace hD : va_D A ((xW h a e cI cJ cO cE L I M J n cap fE sd si sa dl).set 14 (a 3, .inr (4, [.ref (a 1), .long (L 5), .long (L 6), .long x3]))) := hD
  rw [xF_L7] at hP hD
  obtain ⟨L4, eL4⟩ : ∃ f9 : Nat → Int64, f9 = va_up L 7 x3 := ⟨_, rfl⟩
  rw [← eL4] at hP hD
  replace hUL : ∀ j9 : Nat, j9 ∉ ([7] : List Nat) → L4 j9 = L j9 := by rw [eL4]; exact mw_up (by decide) hUL
  exact W.vret hx hb hr (fun t ht hW => ⟨⟨L4, rfl, ⟨hX.mono (by omega), hUL, trivial⟩, by rw [ht]; exact hP, hD⟩, hS.F ht⟩) hS.2.2 dX3_begin_13
def wq_x_jend : List Cond := [.code yX3_end cX3_end 4 none, .constantLong RX3 45 (-1), .fieldLink RX3 15 "ServiceTree$Jobs" "starts" "J", .fieldLink RX3 19 "ServiceTree$Jobs" "stops" "J", .fieldLink RX3 22 "ServiceTree$Jobs" "begun" "J"] ++ (wsX30)
theorem in_x_jend_X3 : ∀ w ∈ wsX30, w ∈ wq_x_jend := fun _ h => List.mem_append_right _ (h)
set_option maxRecDepth 20000 in
theorem wi_x_jend : ∀ w ∈ wq_x_jend, w ∈ lw_tbl := List.forall_mem_append.mpr ⟨(by decide +kernel), inKX3⟩
set_option maxRecDepth 20000 in
theorem wg_x_jend : GoodIn wq_x_jend wq_x_jend := goodIn_sub (fun _ h => h) (by decide +kernel)
def rm_x_jend : Room := { frames := 0, cells := 0, slots := 0, locals := 0 }
set_option maxHeartbeats 4000000 in
set_option maxRecDepth 100000 in
theorem c_x_jend (l : Launch) (dC : Nat → ClassId) (dI : Nat → Nat → Nat) (h : Nat) (a : Nat → Nat) (e : Nat) (cI cJ cO cE : ClassId) (L : Nat → Int64) (I : Nat → Int32) (M : Nat → Nat → Int64) (J : Nat → Nat → Int32) (n cap : Nat) (fE : Nat → Option Nat) (sd : Nat → Nat → Nat) (si : Nat → Nat → Int32) (sa : Nat → Nat → Nat → Int32) (dl : Nat → Nat) (b : Nat) (p0 : Int32) (sz : Nat) (hX0 : InvX n cap fE sd dl b I J si) (hb0 : b + 0 < 2147483648)  : Met l yX3_end wq_x_jend rm_x_jend (va_Pc [.ref (a 3), .int p0] (fun U => U.heap.size = sz ∧ va_P (dC, dI) vwCl (xW h a e cI cJ cO cE L I M J n cap fE sd si sa dl) U.heap ∧ va_K (dC, dI) vwCl (xT cI cJ cO cE) U ∧ va_D (fun _ => True) (xW h a e cI cJ cO cE L I M J n cap fE sd si sa dl) ∧ pw_N U)) (va_Qv (fun (u : (Nat → Int64)) => InvX n cap fE sd dl (b + 0) I J si ∧ (∀ j9 : Nat, j9 ∉ ([5, 6, 7] : List Nat) → u j9 = L j9) ∧ (True)) (fun (u : (Nat → Int64)) (t : State) => va_P (dC, dI) vwCl (xW h a e cI cJ cO cE u I M J n cap fE sd si sa dl) t.heap ∧ va_D (va_A (xW h a e cI cJ cO cE L I M J n cap fE sd si sa dl) sz) (xW h a e cI cJ cO cE u I M J n cap fE sd si sa dl)) (va_A (xW h a e cI cJ cO cE L I M J n cap fE sd si sa dl) sz)) 0 0 (va_A (xW h a e cI cJ cO cE L I M J n cap fE sd si sa dl) sz) := by
  have hn : n ≤ 40 := hX0.1.1
  have hX := hX0
  have hUL : ∀ j9 : Nat, j9 ∉ ([5, 6, 7] : List Nat) → L j9 = L j9 := fun _ _ => rfl
  refine Met.ofW (cc := cX3_end) (maxL := 4) (ret := none) (by decide) rfl ?_
  intro p e9 s m args below meth c s₁ B hml hv
  obtain ⟨rfl, hsz, hP, hK, hD0, hN⟩ := hv
  have hx := B.exec
  have hb := B.bytes
  have hr := B.returns
  have hts := atoms_spec (ws := wq_x_jend) B.pre
  have hown : s.vm.findClass RX3 = some m.cls := findClass_of_methodNamed B.named
  have hlocks := B.notSynchronized
  subst hsz
  have hD := hD0.self (sz := s.heap.size)
  generalize hAe : va_A (xW h a e cI cJ cO cE L I M J n cap fE sd si sa dl) s.heap.size = A at hD ⊢
  have hA : ∀ q : Nat, s.heap.size ≤ q → A q := fun q h => by rw [← hAe]; exact Or.inr h
  have hS : va_S A s.heap s.heap [] := va_S.rf
  have hl := lv_entry ([.ref (a 3), .int p0]) (n := 4) (Nat.le_of_ble_eq_true rfl)
  rw [lg_entry_eq]
  generalize (lg_sl ([.ref (a 3), .int p0]) ++ List.replicate (4 - (lg_sl ([.ref (a 3), .int p0])).length) Slot.unset).toArray = ls at hl ⊢
  have hl : lv_has ls 4 [(0, .ref (a 3)), (1, .int p0)] := hl
  refine lv_lconst (v := 1) hx hb dX3_end_0 (by decide) ?_
  refine lv_iload_n hx hb dX3_end_1 rfl (lv_at hl 1 rfl) ?_
  refine lv_lshl hx hb dX3_end_2 rfl ?_
  refine lv_topl (fun x1 ex1 => ?_)
  refine lv_ldc2 (v := (-1)) hx hb hown (hts (.constantLong RX3 45 (-1)) (by decide +kernel)) dX3_end_3 ?_
  refine lv_lxor hx hb dX3_end_6 ?_
  refine lv_topl (fun x2 ex2 => ?_)
  refine lv_lstore_n (lv' := [(2, .long x2), (0, .ref (a 3)), (1, .int p0)]) hx hb dX3_end_7 rfl hl (by decide) rfl (fun ls hl => ?_)
  refine lv_aload_n hx hb dX3_end_8 rfl (lv_at hl 1 rfl) ?_
  refine lv_dup hx hb dX3_end_9 rfl ?_
  refine va_get (D := (dC, dI)) (ci := 4) (v := .long (L 5)) (C := RX3) (T := TX3) (N := 4) hx hb hts in_x_jend_X3 hown hK hP 14 rfl rfl 1 (by decide) (hts (.fieldLink RX3 15 "ServiceTree$Jobs" "starts" "J") (by decide +kernel)) (fun _ h9 => h9) rfl dX3_end_10 ?_
  refine lv_topl (fun x3 ex3 => ?_)
  refine lv_lload_n hx hb dX3_end_13 rfl (lv_at hl 0 rfl) ?_
  refine lv_land hx hb dX3_end_14 ?_
  refine lv_topl (fun x4 ex4 => ?_)
  refine va_put (D := (dC, dI)) (ci := 4) (fs := [.ref (a 1), .long (L 5), .long (L 6), .long (L 7)]) (v := .long x4) (ty := .long) (C := RX3) (T := TX3) (N := 4) hx hb hts in_x_jend_X3 tyX3 tyX3_ok nmX3 hown hK hP hD hS 14 rfl rfl 1 (by decide) (hts (.fieldLink RX3 15 "ServiceTree$Jobs" "starts" "J") (by decide +kernel)) (fun _ h9 => h9) rfl (by decide +kernel) rfl rfl (Nat.le_of_ble_eq_true rfl) dX3_end_15 (fun H locs hP hD hS => ?_)
  replace hP : va_P (dC, dI) vwCl ((xW h a e cI cJ cO cE L I M J n cap fE sd si sa dl).set 14 (a 3, .inr (4, [.ref (a 1), .long x4, .long (L 6), .long (L 7)]))) H := hP
  replace hD : va_D A ((xW h a e cI cJ cO cE L I M J n cap fE sd si sa dl).set 14 (a 3, .inr (4, [.ref (a 1), .long x4, .long (L 6), .long (L 7)]))) := hD
  rw [xF_L5] at hP hD
  obtain ⟨L5, eL5⟩ : ∃ f9 : Nat → Int64, f9 = va_up L 5 x4 := ⟨_, rfl⟩
  rw [← eL5] at hP hD
  replace hUL : ∀ j9 : Nat, j9 ∉ ([5, 6, 7] : List Nat) → L5 j9 = L j9 := by rw [eL5]; exact mw_up (by decide) hUL
  refine lv_aload_n hx hb dX3_end_18 rfl (lv_at hl 1 rfl) ?_
  refine lv_dup hx hb dX3_end_19 rfl ?_
  refine va_get (D := (dC, dI)) (ci := 4) (v := .long (L5 6)) (C := RX3) (T := TX3) (N := 4) hx hb hts in_x_jend_X3 hown hK hP 14 rfl rfl 2 (by decide) (hts (.fieldLink RX3 19 "ServiceTree$Jobs" "stops" "J") (by decide +kernel)) (fun _ h9 => h9) rfl dX3_end_20 ?_
  refine lv_topl (fun x6 ex6 => ?_)
  refine lv_lload_n hx hb dX3_end_23 rfl (lv_at hl 0 rfl) ?_
  refine lv_land hx hb dX3_end_24 ?_
  refine lv_topl (fun x7 ex7 => ?_)
  refine va_put (D := (dC, dI)) (ci := 4) (fs := [.ref (a 1), .long (L5 5), .long (L5 6), .long (L5 7)]) (v := .long x7) (ty := .long) (C := RX3) (T := TX3) (N := 4) hx hb hts in_x_jend_X3 tyX3 tyX3_ok nmX3 hown hK hP hD hS 14 rfl rfl 2 (by decide) (hts (.fieldLink RX3 19 "ServiceTree$Jobs" "stops" "J") (by decide +kernel)) (fun _ h9 => h9) rfl (by decide +kernel) rfl rfl (Nat.le_of_ble_eq_true rfl) dX3_end_25 (fun H locs hP hD hS => ?_)
  replace hP : va_P (dC, dI) vwCl ((xW h a e cI cJ cO cE L5 I M J n cap fE sd si sa dl).set 14 (a 3, .inr (4, [.ref (a 1), .long (L5 5), .long x7, .long (L5 7)]))) H := hP
  replace hD : va_D A ((xW h a e cI cJ cO cE L5 I M J n cap fE sd si sa dl).set 14 (a 3, .inr (4, [.ref (a 1), .long (L5 5), .long x7, .long (L5 7)]))) := hD
  rw [xF_L6] at hP hD
  obtain ⟨L8, eL8⟩ : ∃ f9 : Nat → Int64, f9 = va_up L5 6 x7 := ⟨_, rfl⟩
  rw [← eL8] at hP hD
  replace hUL : ∀ j9 : Nat, j9 ∉ ([5, 6, 7] : List Nat) → L8 j9 = L j9 := by rw [eL8]; exact mw_up (by decide) hUL
  refine lv_aload_n hx hb dX3_end_28 rfl (lv_at hl 1 rfl) ?_
  refine lv_dup hx hb dX3_end_29 rfl ?_
  refine va_get (D := (dC, dI)) (ci := 4) (v := .long (L8 7)) (C := RX3) (T := TX3) (N := 4) hx hb hts in_x_jend_X3 hown hK hP 14 rfl rfl 3 (by decide) (hts (.fieldLink RX3 22 "ServiceTree$Jobs" "begun" "J") (by decide +kernel)) (fun _ h9 => h9) rfl dX3_end_30 ?_
  refine lv_topl (fun x9 ex9 => ?_)
  refine lv_lload_n hx hb dX3_end_33 rfl (lv_at hl 0 rfl) ?_
  refine lv_land hx hb dX3_end_34 ?_
  refine lv_topl (fun x10 ex10 => ?_)
  refine va_put (D := (dC, dI)) (ci := 4) (fs := [.ref (a 1), .long (L8 5), .long (L8 6), .long (L8 7)]) (v := .long x10) (ty := .long) (C := RX3) (T := TX3) (N := 4) hx hb hts in_x_jend_X3 tyX3 tyX3_ok nmX3 hown hK hP hD hS 14 rfl rfl 3 (by decide) (hts (.fieldLink RX3 22 "ServiceTree$Jobs" "begun" "J") (by decide +kernel)) (fun _ h9 => h9) rfl (by decide +kernel) rfl rfl (Nat.le_of_ble_eq_true rfl) dX3_end_35 (fun H locs hP hD hS => ?_)
  replace hP : va_P (dC, dI) vwCl ((xW h a e cI cJ cO cE L8 I M J n cap fE sd si sa dl).set 14 (a 3, .inr (4, [.ref (a 1), .long (L8 5), .long (L8 6), .long x10]))) H := hP
  replace hD : va_D A ((xW h a e cI cJ cO cE L8 I M J n cap fE sd si sa dl).set 14 (a 3, .inr (4, [.ref (a 1), .long (L8 5), .long (L8 6), .long x10]))) := hD
  rw [xF_L7] at hP hD
  obtain ⟨L11, eL11⟩ : ∃ f9 : Nat → Int64, f9 = va_up L8 7 x10 := ⟨_, rfl⟩
  rw [← eL11] at hP hD
  replace hUL : ∀ j9 : Nat, j9 ∉ ([5, 6, 7] : List Nat) → L11 j9 = L j9 := by rw [eL11]; exact mw_up (by decide) hUL
  exact W.vret hx hb hr (fun t ht hW => ⟨⟨L11, rfl, ⟨hX.mono (by omega), hUL, trivial⟩, by rw [ht]; exact hP, hD⟩, hS.F ht⟩) hS.2.2 dX3_end_38
def wq_x_planClear : List Cond := [.code yX4_clear cX4_clear 3 none, .fieldLink RX4 21 "ServiceTree$Plan" "starts" "J", .fieldLink RX4 25 "ServiceTree$Plan" "size" "I", .fieldLink RX4 29 "ServiceTree$Plan" "lastEnd" "I", .fieldLink RX4 32 "ServiceTree$Plan" "laidOut" "Z"] ++ (wsX40)
theorem in_x_planClear_X4 : ∀ w ∈ wsX40, w ∈ wq_x_planClear := fun _ h => List.mem_append_right _ (h)
set_option maxRecDepth 20000 in
theorem wi_x_planClear : ∀ w ∈ wq_x_planClear, w ∈ lw_tbl := List.forall_mem_append.mpr ⟨(by decide +kernel), inKX4⟩
set_option maxRecDepth 20000 in
theorem wg_x_planClear : GoodIn wq_x_planClear wq_x_planClear := goodIn_sub (fun _ h => h) (by decide +kernel)
def rm_x_planClear : Room := { frames := 0, cells := 0, slots := 0, locals := 0 }
set_option maxHeartbeats 4000000 in
set_option maxRecDepth 100000 in
theorem c_x_planClear (l : Launch) (dC : Nat → ClassId) (dI : Nat → Nat → Nat) (h : Nat) (a : Nat → Nat) (e : Nat) (cI cJ cO cE : ClassId) (L : Nat → Int64) (I : Nat → Int32) (M : Nat → Nat → Int64) (J : Nat → Nat → Int32) (n cap : Nat) (fE : Nat → Option Nat) (sd : Nat → Nat → Nat) (si : Nat → Nat → Int32) (sa : Nat → Nat → Nat → Int32) (dl : Nat → Nat) (b : Nat) (p0 : Int64) (sz : Nat) (hX0 : InvX n cap fE sd dl b I J si) (hb0 : b + 0 < 2147483648)  : Met l yX4_clear wq_x_planClear rm_x_planClear (va_Pc [.ref (a 4), .long p0] (fun U => U.heap.size = sz ∧ va_P (dC, dI) vwCl (xW h a e cI cJ cO cE L I M J n cap fE sd si sa dl) U.heap ∧ va_K (dC, dI) vwCl (xT cI cJ cO cE) U ∧ va_D (fun _ => True) (xW h a e cI cJ cO cE L I M J n cap fE sd si sa dl) ∧ pw_N U)) (va_Qv (fun (u : (Nat → Int64) × (Nat → Int32)) => InvX n cap fE sd dl (b + 0) u.2 J si ∧ (∀ j9 : Nat, j9 ∉ ([8] : List Nat) → u.1 j9 = L j9) ∧ (∀ j9 : Nat, j9 ∉ ([9, 10, 11] : List Nat) → u.2 j9 = I j9) ∧ (True)) (fun (u : (Nat → Int64) × (Nat → Int32)) (t : State) => va_P (dC, dI) vwCl (xW h a e cI cJ cO cE u.1 u.2 M J n cap fE sd si sa dl) t.heap ∧ va_D (va_A (xW h a e cI cJ cO cE L I M J n cap fE sd si sa dl) sz) (xW h a e cI cJ cO cE u.1 u.2 M J n cap fE sd si sa dl)) (va_A (xW h a e cI cJ cO cE L I M J n cap fE sd si sa dl) sz)) 0 0 (va_A (xW h a e cI cJ cO cE L I M J n cap fE sd si sa dl) sz) := by
  have hn : n ≤ 40 := hX0.1.1
  have hX := hX0
  have hUL : ∀ j9 : Nat, j9 ∉ ([8] : List Nat) → L j9 = L j9 := fun _ _ => rfl
  have hUI : ∀ j9 : Nat, j9 ∉ ([9, 10, 11] : List Nat) → I j9 = I j9 := fun _ _ => rfl
  refine Met.ofW (cc := cX4_clear) (maxL := 3) (ret := none) (by decide) rfl ?_
  intro p e9 s m args below meth c s₁ B hml hv
  obtain ⟨rfl, hsz, hP, hK, hD0, hN⟩ := hv
  have hx := B.exec
  have hb := B.bytes
  have hr := B.returns
  have hts := atoms_spec (ws := wq_x_planClear) B.pre
  have hown : s.vm.findClass RX4 = some m.cls := findClass_of_methodNamed B.named
  have hlocks := B.notSynchronized
  subst hsz
  have hD := hD0.self (sz := s.heap.size)
  generalize hAe : va_A (xW h a e cI cJ cO cE L I M J n cap fE sd si sa dl) s.heap.size = A at hD ⊢
  have hA : ∀ q : Nat, s.heap.size ≤ q → A q := fun q h => by rw [← hAe]; exact Or.inr h
  have hS : va_S A s.heap s.heap [] := va_S.rf
  have hl := lv_entry ([.ref (a 4), .long p0]) (n := 3) (Nat.le_of_ble_eq_true rfl)
  rw [lg_entry_eq]
  generalize (lg_sl ([.ref (a 4), .long p0]) ++ List.replicate (3 - (lg_sl ([.ref (a 4), .long p0])).length) Slot.unset).toArray = ls at hl ⊢
  have hl : lv_has ls 3 [(0, .ref (a 4)), (1, .long p0)] := hl
  refine lv_aload_n hx hb dX4_clear_0 rfl (lv_at hl 0 rfl) ?_
  refine lv_lload_n hx hb dX4_clear_1 rfl (lv_at hl 1 rfl) ?_
  refine va_put (D := (dC, dI)) (ci := 5) (fs := [.ref (a 12), .ref (a 13), .ref (a 14), .long (L 8), .int (I 9), .int (I 10), .int (I 11)]) (v := .long p0) (ty := .long) (C := RX4) (T := TX4) (N := 7) hx hb hts in_x_planClear_X4 tyX4 tyX4_ok nmX4 hown hK hP hD hS 15 rfl rfl 3 (by decide) (hts (.fieldLink RX4 21 "ServiceTree$Plan" "starts" "J") (by decide +kernel)) (fun _ h9 => h9) rfl (by decide +kernel) rfl rfl (Nat.le_of_ble_eq_true rfl) dX4_clear_2 (fun H locs hP hD hS => ?_)
  replace hP : va_P (dC, dI) vwCl ((xW h a e cI cJ cO cE L I M J n cap fE sd si sa dl).set 15 (a 4, .inr (5, [.ref (a 12), .ref (a 13), .ref (a 14), .long p0, .int (I 9), .int (I 10), .int (I 11)]))) H := hP
  replace hD : va_D A ((xW h a e cI cJ cO cE L I M J n cap fE sd si sa dl).set 15 (a 4, .inr (5, [.ref (a 12), .ref (a 13), .ref (a 14), .long p0, .int (I 9), .int (I 10), .int (I 11)]))) := hD
  rw [xF_L8] at hP hD
  obtain ⟨L1, eL1⟩ : ∃ f9 : Nat → Int64, f9 = va_up L 8 p0 := ⟨_, rfl⟩
  rw [← eL1] at hP hD
  replace hUL : ∀ j9 : Nat, j9 ∉ ([8] : List Nat) → L1 j9 = L j9 := by rw [eL1]; exact mw_up (by decide) hUL
  refine lv_aload_n hx hb dX4_clear_5 rfl (lv_at hl 0 rfl) ?_
  refine lv_iconst (v := 0) hx hb dX4_clear_6 (by decide) ?_
  refine va_put (D := (dC, dI)) (ci := 5) (fs := [.ref (a 12), .ref (a 13), .ref (a 14), .long (L1 8), .int (I 9), .int (I 10), .int (I 11)]) (v := .int 0) (ty := .int) (C := RX4) (T := TX4) (N := 7) hx hb hts in_x_planClear_X4 tyX4 tyX4_ok nmX4 hown hK hP hD hS 15 rfl rfl 4 (by decide) (hts (.fieldLink RX4 25 "ServiceTree$Plan" "size" "I") (by decide +kernel)) (fun _ h9 => h9) rfl (by decide +kernel) rfl rfl (Nat.le_of_ble_eq_true rfl) dX4_clear_7 (fun H locs hP hD hS => ?_)
  replace hP : va_P (dC, dI) vwCl ((xW h a e cI cJ cO cE L1 I M J n cap fE sd si sa dl).set 15 (a 4, .inr (5, [.ref (a 12), .ref (a 13), .ref (a 14), .long (L1 8), .int 0, .int (I 10), .int (I 11)]))) H := hP
  replace hD : va_D A ((xW h a e cI cJ cO cE L1 I M J n cap fE sd si sa dl).set 15 (a 4, .inr (5, [.ref (a 12), .ref (a 13), .ref (a 14), .long (L1 8), .int 0, .int (I 10), .int (I 11)]))) := hD
  rw [xF_I9] at hP hD
  obtain ⟨I2, eI2⟩ : ∃ f9 : Nat → Int32, f9 = va_up I 9 0 := ⟨_, rfl⟩
  rw [← eI2] at hP hD
  replace hX : InvX n cap fE sd dl (b) I2 J si := by rw [eI2]; exact hX.set9 (x := 0) (by omega)
  replace hUI : ∀ j9 : Nat, j9 ∉ ([9, 10, 11] : List Nat) → I2 j9 = I j9 := by rw [eI2]; exact mw_up (by decide) hUI
  refine lv_aload_n hx hb dX4_clear_10 rfl (lv_at hl 0 rfl) ?_
  refine lv_iconst (v := 0) hx hb dX4_clear_11 (by decide) ?_
  refine va_put (D := (dC, dI)) (ci := 5) (fs := [.ref (a 12), .ref (a 13), .ref (a 14), .long (L1 8), .int (I2 9), .int (I2 10), .int (I2 11)]) (v := .int 0) (ty := .int) (C := RX4) (T := TX4) (N := 7) hx hb hts in_x_planClear_X4 tyX4 tyX4_ok nmX4 hown hK hP hD hS 15 rfl rfl 5 (by decide) (hts (.fieldLink RX4 29 "ServiceTree$Plan" "lastEnd" "I") (by decide +kernel)) (fun _ h9 => h9) rfl (by decide +kernel) rfl rfl (Nat.le_of_ble_eq_true rfl) dX4_clear_12 (fun H locs hP hD hS => ?_)
  replace hP : va_P (dC, dI) vwCl ((xW h a e cI cJ cO cE L1 I2 M J n cap fE sd si sa dl).set 15 (a 4, .inr (5, [.ref (a 12), .ref (a 13), .ref (a 14), .long (L1 8), .int (I2 9), .int 0, .int (I2 11)]))) H := hP
  replace hD : va_D A ((xW h a e cI cJ cO cE L1 I2 M J n cap fE sd si sa dl).set 15 (a 4, .inr (5, [.ref (a 12), .ref (a 13), .ref (a 14), .long (L1 8), .int (I2 9), .int 0, .int (I2 11)]))) := hD
  rw [xF_I10] at hP hD
  obtain ⟨I3, eI3⟩ : ∃ f9 : Nat → Int32, f9 = va_up I2 10 0 := ⟨_, rfl⟩
  rw [← eI3] at hP hD
  replace hX : InvX n cap fE sd dl (b) I3 J si := by rw [eI3]; exact hX.setI (by decide)
  replace hUI : ∀ j9 : Nat, j9 ∉ ([9, 10, 11] : List Nat) → I3 j9 = I j9 := by rw [eI3]; exact mw_up (by decide) hUI
  refine lv_aload_n hx hb dX4_clear_15 rfl (lv_at hl 0 rfl) ?_
  refine lv_iconst (v := 1) hx hb dX4_clear_16 (by decide) ?_
  refine va_put (D := (dC, dI)) (ci := 5) (fs := [.ref (a 12), .ref (a 13), .ref (a 14), .long (L1 8), .int (I3 9), .int (I3 10), .int (I3 11)]) (v := .int 1) (ty := .boolean) (C := RX4) (T := TX4) (N := 7) hx hb hts in_x_planClear_X4 tyX4 tyX4_ok nmX4 hown hK hP hD hS 15 rfl rfl 6 (by decide) (hts (.fieldLink RX4 32 "ServiceTree$Plan" "laidOut" "Z") (by decide +kernel)) (fun _ h9 => h9) rfl (by decide +kernel) rfl rfl (Nat.le_of_ble_eq_true rfl) dX4_clear_17 (fun H locs hP hD hS => ?_)
  replace hP : va_P (dC, dI) vwCl ((xW h a e cI cJ cO cE L1 I3 M J n cap fE sd si sa dl).set 15 (a 4, .inr (5, [.ref (a 12), .ref (a 13), .ref (a 14), .long (L1 8), .int (I3 9), .int (I3 10), .int 1]))) H := hP
  replace hD : va_D A ((xW h a e cI cJ cO cE L1 I3 M J n cap fE sd si sa dl).set 15 (a 4, .inr (5, [.ref (a 12), .ref (a 13), .ref (a 14), .long (L1 8), .int (I3 9), .int (I3 10), .int 1]))) := hD
  rw [xF_I11] at hP hD
  obtain ⟨I4, eI4⟩ : ∃ f9 : Nat → Int32, f9 = va_up I3 11 1 := ⟨_, rfl⟩
  rw [← eI4] at hP hD
  replace hX : InvX n cap fE sd dl (b) I4 J si := by rw [eI4]; exact hX.setI (by decide)
  replace hUI : ∀ j9 : Nat, j9 ∉ ([9, 10, 11] : List Nat) → I4 j9 = I j9 := by rw [eI4]; exact mw_up (by decide) hUI
  exact W.vret hx hb hr (fun t ht hW => ⟨⟨(L1, I4), rfl, ⟨hX.mono (by omega), hUL, hUI, trivial⟩, by rw [ht]; exact hP, hD⟩, hS.F ht⟩) hS.2.2 dX4_clear_20
