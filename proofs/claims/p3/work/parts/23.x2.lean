theorem dX5_from_0 : decode cX5_from 0 = .ok (.aload_n 0, 1) := by decide +kernel
theorem dX5_from_1 : decode cX5_from 1 = .ok (.getfield 11, 3) := by decide +kernel
theorem dX5_from_4 : decode cX5_from 4 = .ok (.iload_n 1, 1) := by decide +kernel
theorem dX5_from_5 : decode cX5_from 5 = .ok (.aaload, 1) := by decide +kernel
theorem dX5_from_6 : decode cX5_from 6 = .ok (.iload_n 2, 1) := by decide +kernel
theorem dX5_from_7 : decode cX5_from 7 = .ok (.laload, 1) := by decide +kernel
theorem dX5_from_8 : decode cX5_from 8 = .ok (.lreturn, 1) := by decide +kernel
theorem dX5_told_0 : decode cX5_told 0 = .ok (.aload_n 0, 1) := by decide +kernel
theorem dX5_told_1 : decode cX5_told 1 = .ok (.getfield 11, 3) := by decide +kernel
theorem dX5_told_4 : decode cX5_told 4 = .ok (.iload_n 1, 1) := by decide +kernel
theorem dX5_told_5 : decode cX5_told 5 = .ok (.aaload, 1) := by decide +kernel
theorem dX5_told_6 : decode cX5_told 6 = .ok (.iload_n 2, 1) := by decide +kernel
theorem dX5_told_7 : decode cX5_told 7 = .ok (.laload, 1) := by decide +kernel
theorem dX5_told_8 : decode cX5_told 8 = .ok (.iload_n 3, 1) := by decide +kernel
theorem dX5_told_9 : decode cX5_told 9 = .ok (.invokestatic 19, 3) := by decide +kernel
theorem dX5_told_12 : decode cX5_told 12 = .ok (.ireturn, 1) := by decide +kernel
theorem dX5_add_0 : decode cX5_add 0 = .ok (.aload_n 0, 1) := by decide +kernel
theorem dX5_add_1 : decode cX5_add 1 = .ok (.iload_n 1, 1) := by decide +kernel
theorem dX5_add_2 : decode cX5_add 2 = .ok (.iload_n 2, 1) := by decide +kernel
theorem dX5_add_3 : decode cX5_add 3 = .ok (.iload_n 3, 1) := by decide +kernel
theorem dX5_add_4 : decode cX5_add 4 = .ok (.iconst 1, 1) := by decide +kernel
theorem dX5_add_5 : decode cX5_add 5 = .ok (.invokevirtual 23, 3) := by decide +kernel
theorem dX5_add_8 : decode cX5_add 8 = .ok (.aload_n 0, 1) := by decide +kernel
theorem dX5_add_9 : decode cX5_add 9 = .ok (.dup, 1) := by decide +kernel
theorem dX5_add_10 : decode cX5_add 10 = .ok (.getfield 27, 3) := by decide +kernel
theorem dX5_add_13 : decode cX5_add 13 = .ok (.iconst 1, 1) := by decide +kernel
theorem dX5_add_14 : decode cX5_add 14 = .ok (.iadd, 1) := by decide +kernel
theorem dX5_add_15 : decode cX5_add 15 = .ok (.putfield 27, 3) := by decide +kernel
theorem dX5_add_18 : decode cX5_add 18 = .ok (.return_, 1) := by decide +kernel
theorem dX5_remove_0 : decode cX5_remove 0 = .ok (.aload_n 0, 1) := by decide +kernel
theorem dX5_remove_1 : decode cX5_remove 1 = .ok (.iload_n 1, 1) := by decide +kernel
theorem dX5_remove_2 : decode cX5_remove 2 = .ok (.iload_n 2, 1) := by decide +kernel
theorem dX5_remove_3 : decode cX5_remove 3 = .ok (.iload_n 3, 1) := by decide +kernel
theorem dX5_remove_4 : decode cX5_remove 4 = .ok (.iconst 0, 1) := by decide +kernel
theorem dX5_remove_5 : decode cX5_remove 5 = .ok (.invokevirtual 23, 3) := by decide +kernel
theorem dX5_remove_8 : decode cX5_remove 8 = .ok (.aload_n 0, 1) := by decide +kernel
theorem dX5_remove_9 : decode cX5_remove 9 = .ok (.dup, 1) := by decide +kernel
theorem dX5_remove_10 : decode cX5_remove 10 = .ok (.getfield 27, 3) := by decide +kernel
theorem dX5_remove_13 : decode cX5_remove 13 = .ok (.iconst 1, 1) := by decide +kernel
theorem dX5_remove_14 : decode cX5_remove 14 = .ok (.isub, 1) := by decide +kernel
theorem dX5_remove_15 : decode cX5_remove 15 = .ok (.putfield 27, 3) := by decide +kernel
theorem dX5_remove_18 : decode cX5_remove 18 = .ok (.return_, 1) := by decide +kernel
theorem dX5_write_0 : decode cX5_write 0 = .ok (.aload_n 0, 1) := by decide +kernel
theorem dX5_write_1 : decode cX5_write 1 = .ok (.iload_n 1, 1) := by decide +kernel
theorem dX5_write_2 : decode cX5_write 2 = .ok (.iload_n 2, 1) := by decide +kernel
theorem dX5_write_3 : decode cX5_write 3 = .ok (.iload_n 3, 1) := by decide +kernel
theorem dX5_write_4 : decode cX5_write 4 = .ok (.iload 4, 2) := by decide +kernel
theorem dX5_write_6 : decode cX5_write 6 = .ok (.invokevirtual 31, 3) := by decide +kernel
theorem dX5_write_9 : decode cX5_write 9 = .ok (.iload_n 1, 1) := by decide +kernel
theorem dX5_write_10 : decode cX5_write 10 = .ok (.iconst 3, 1) := by decide +kernel
theorem dX5_write_11 : decode cX5_write 11 = .ok (.if_icmp .ne 12, 3) := by decide +kernel
theorem dX5_write_14 : decode cX5_write 14 = .ok (.aload_n 0, 1) := by decide +kernel
theorem dX5_write_15 : decode cX5_write 15 = .ok (.iload_n 1, 1) := by decide +kernel
theorem dX5_write_16 : decode cX5_write 16 = .ok (.iload_n 3, 1) := by decide +kernel
theorem dX5_write_17 : decode cX5_write 17 = .ok (.iload_n 2, 1) := by decide +kernel
theorem dX5_write_18 : decode cX5_write 18 = .ok (.iload 4, 2) := by decide +kernel
theorem dX5_write_20 : decode cX5_write 20 = .ok (.invokevirtual 31, 3) := by decide +kernel
theorem dX5_write_23 : decode cX5_write 23 = .ok (.return_, 1) := by decide +kernel
theorem dX5_writeOneWay_0 : decode cX5_writeOneWay 0 = .ok (.aload_n 0, 1) := by decide +kernel
theorem dX5_writeOneWay_1 : decode cX5_writeOneWay 1 = .ok (.getfield 11, 3) := by decide +kernel
theorem dX5_writeOneWay_4 : decode cX5_writeOneWay 4 = .ok (.iload_n 1, 1) := by decide +kernel
theorem dX5_writeOneWay_5 : decode cX5_writeOneWay 5 = .ok (.aaload, 1) := by decide +kernel
theorem dX5_writeOneWay_6 : decode cX5_writeOneWay 6 = .ok (.iload_n 2, 1) := by decide +kernel
theorem dX5_writeOneWay_7 : decode cX5_writeOneWay 7 = .ok (.iload 4, 2) := by decide +kernel
theorem dX5_writeOneWay_9 : decode cX5_writeOneWay 9 = .ok (.ifCond .eq 19, 3) := by decide +kernel
theorem dX5_writeOneWay_12 : decode cX5_writeOneWay 12 = .ok (.aload_n 0, 1) := by decide +kernel
theorem dX5_writeOneWay_13 : decode cX5_writeOneWay 13 = .ok (.getfield 11, 3) := by decide +kernel
theorem dX5_writeOneWay_16 : decode cX5_writeOneWay 16 = .ok (.iload_n 1, 1) := by decide +kernel
theorem dX5_writeOneWay_17 : decode cX5_writeOneWay 17 = .ok (.aaload, 1) := by decide +kernel
theorem dX5_writeOneWay_18 : decode cX5_writeOneWay 18 = .ok (.iload_n 2, 1) := by decide +kernel
theorem dX5_writeOneWay_19 : decode cX5_writeOneWay 19 = .ok (.laload, 1) := by decide +kernel
theorem dX5_writeOneWay_20 : decode cX5_writeOneWay 20 = .ok (.iload_n 3, 1) := by decide +kernel
theorem dX5_writeOneWay_21 : decode cX5_writeOneWay 21 = .ok (.invokestatic 34, 3) := by decide +kernel
theorem dX5_writeOneWay_24 : decode cX5_writeOneWay 24 = .ok (.lor, 1) := by decide +kernel
theorem dX5_writeOneWay_25 : decode cX5_writeOneWay 25 = .ok (.goto 20, 3) := by decide +kernel
theorem dX5_writeOneWay_28 : decode cX5_writeOneWay 28 = .ok (.aload_n 0, 1) := by decide +kernel
theorem dX5_writeOneWay_29 : decode cX5_writeOneWay 29 = .ok (.getfield 11, 3) := by decide +kernel
theorem dX5_writeOneWay_32 : decode cX5_writeOneWay 32 = .ok (.iload_n 1, 1) := by decide +kernel
theorem dX5_writeOneWay_33 : decode cX5_writeOneWay 33 = .ok (.aaload, 1) := by decide +kernel
theorem dX5_writeOneWay_34 : decode cX5_writeOneWay 34 = .ok (.iload_n 2, 1) := by decide +kernel
theorem dX5_writeOneWay_35 : decode cX5_writeOneWay 35 = .ok (.laload, 1) := by decide +kernel
theorem dX5_writeOneWay_36 : decode cX5_writeOneWay 36 = .ok (.iload_n 3, 1) := by decide +kernel
theorem dX5_writeOneWay_37 : decode cX5_writeOneWay 37 = .ok (.invokestatic 34, 3) := by decide +kernel
theorem dX5_writeOneWay_40 : decode cX5_writeOneWay 40 = .ok (.ldc2_w 38, 3) := by decide +kernel
theorem dX5_writeOneWay_43 : decode cX5_writeOneWay 43 = .ok (.lxor, 1) := by decide +kernel
theorem dX5_writeOneWay_44 : decode cX5_writeOneWay 44 = .ok (.land, 1) := by decide +kernel
theorem dX5_writeOneWay_45 : decode cX5_writeOneWay 45 = .ok (.lastore, 1) := by decide +kernel
theorem dX5_writeOneWay_46 : decode cX5_writeOneWay 46 = .ok (.aload_n 0, 1) := by decide +kernel
theorem dX5_writeOneWay_47 : decode cX5_writeOneWay 47 = .ok (.getfield 16, 3) := by decide +kernel
theorem dX5_writeOneWay_50 : decode cX5_writeOneWay 50 = .ok (.iload_n 1, 1) := by decide +kernel
theorem dX5_writeOneWay_51 : decode cX5_writeOneWay 51 = .ok (.aaload, 1) := by decide +kernel
theorem dX5_writeOneWay_52 : decode cX5_writeOneWay 52 = .ok (.iload_n 3, 1) := by decide +kernel
theorem dX5_writeOneWay_53 : decode cX5_writeOneWay 53 = .ok (.iload 4, 2) := by decide +kernel
theorem dX5_writeOneWay_55 : decode cX5_writeOneWay 55 = .ok (.ifCond .eq 19, 3) := by decide +kernel
theorem dX5_writeOneWay_58 : decode cX5_writeOneWay 58 = .ok (.aload_n 0, 1) := by decide +kernel
theorem dX5_writeOneWay_59 : decode cX5_writeOneWay 59 = .ok (.getfield 16, 3) := by decide +kernel
theorem dX5_writeOneWay_62 : decode cX5_writeOneWay 62 = .ok (.iload_n 1, 1) := by decide +kernel
theorem dX5_writeOneWay_63 : decode cX5_writeOneWay 63 = .ok (.aaload, 1) := by decide +kernel
theorem dX5_writeOneWay_64 : decode cX5_writeOneWay 64 = .ok (.iload_n 3, 1) := by decide +kernel
theorem dX5_writeOneWay_65 : decode cX5_writeOneWay 65 = .ok (.laload, 1) := by decide +kernel
theorem dX5_writeOneWay_66 : decode cX5_writeOneWay 66 = .ok (.iload_n 2, 1) := by decide +kernel
theorem dX5_writeOneWay_67 : decode cX5_writeOneWay 67 = .ok (.invokestatic 34, 3) := by decide +kernel
theorem dX5_writeOneWay_70 : decode cX5_writeOneWay 70 = .ok (.lor, 1) := by decide +kernel
theorem dX5_writeOneWay_71 : decode cX5_writeOneWay 71 = .ok (.goto 20, 3) := by decide +kernel
theorem dX5_writeOneWay_74 : decode cX5_writeOneWay 74 = .ok (.aload_n 0, 1) := by decide +kernel
theorem dX5_writeOneWay_75 : decode cX5_writeOneWay 75 = .ok (.getfield 16, 3) := by decide +kernel
theorem dX5_writeOneWay_78 : decode cX5_writeOneWay 78 = .ok (.iload_n 1, 1) := by decide +kernel
theorem dX5_writeOneWay_79 : decode cX5_writeOneWay 79 = .ok (.aaload, 1) := by decide +kernel
theorem dX5_writeOneWay_80 : decode cX5_writeOneWay 80 = .ok (.iload_n 3, 1) := by decide +kernel
theorem dX5_writeOneWay_81 : decode cX5_writeOneWay 81 = .ok (.laload, 1) := by decide +kernel
theorem dX5_writeOneWay_82 : decode cX5_writeOneWay 82 = .ok (.iload_n 2, 1) := by decide +kernel
theorem dX5_writeOneWay_83 : decode cX5_writeOneWay 83 = .ok (.invokestatic 34, 3) := by decide +kernel
theorem dX5_writeOneWay_86 : decode cX5_writeOneWay 86 = .ok (.ldc2_w 38, 3) := by decide +kernel
theorem dX5_writeOneWay_89 : decode cX5_writeOneWay 89 = .ok (.lxor, 1) := by decide +kernel
theorem dX5_writeOneWay_90 : decode cX5_writeOneWay 90 = .ok (.land, 1) := by decide +kernel
theorem dX5_writeOneWay_91 : decode cX5_writeOneWay 91 = .ok (.lastore, 1) := by decide +kernel
theorem dX5_writeOneWay_92 : decode cX5_writeOneWay 92 = .ok (.return_, 1) := by decide +kernel
def wq_x_from : List Cond := [.code yX5_from cX5_from 3 (some .long), .fieldLink RX5 11 "ServiceTree$Relations" "froms" "[[J"] ++ (wsX50)
theorem in_x_from_X5 : ∀ w ∈ wsX50, w ∈ wq_x_from := fun _ h => List.mem_append_right _ (h)
set_option maxRecDepth 20000 in
theorem wi_x_from : ∀ w ∈ wq_x_from, w ∈ lw_tbl := List.forall_mem_append.mpr ⟨(by decide +kernel), inKX5⟩
set_option maxRecDepth 20000 in
theorem wg_x_from : GoodIn wq_x_from wq_x_from := goodIn_sub (fun _ h => h) (by decide +kernel)
def rm_x_from : Room := { frames := 0, cells := 0, slots := 0, locals := 0 }
set_option maxHeartbeats 4000000 in
set_option maxRecDepth 100000 in
theorem c_x_from (l : Launch) (dC : Nat → ClassId) (dI : Nat → Nat → Nat) (h : Nat) (a : Nat → Nat) (e : Nat) (cI cJ cO cE : ClassId) (L : Nat → Int64) (I : Nat → Int32) (M : Nat → Nat → Int64) (J : Nat → Nat → Int32) (n cap : Nat) (fE : Nat → Option Nat) (sd : Nat → Nat → Nat) (si : Nat → Nat → Int32) (sa : Nat → Nat → Nat → Int32) (dl : Nat → Nat) (b : Nat) (ov : Nat) (av : Nat) (sz : Nat) (hX0 : InvX n cap fE sd dl b I J si) (hb0 : b + 0 < 2147483648) (hp0 : ov < 4) (hp1 : av < 40) : Met l yX5_from wq_x_from rm_x_from (va_Pc [.ref (a 1), .int (nI ov), .int (nI av)] (fun U => U.heap.size = sz ∧ va_P (dC, dI) vwCl (xW h a e cI cJ cO cE L I M J n cap fE sd si sa dl) U.heap ∧ va_K (dC, dI) vwCl (xT cI cJ cO cE) U ∧ va_D (fun _ => True) (xW h a e cI cJ cO cE L I M J n cap fE sd si sa dl) ∧ pw_N U)) (va_Ql (fun (r : Int64) (u : Unit) => (True)) (fun (u : Unit) (t : State) => va_P (dC, dI) vwCl (xW h a e cI cJ cO cE L I M J n cap fE sd si sa dl) t.heap ∧ va_D (va_A (xW h a e cI cJ cO cE L I M J n cap fE sd si sa dl) sz) (xW h a e cI cJ cO cE L I M J n cap fE sd si sa dl)) (va_A (xW h a e cI cJ cO cE L I M J n cap fE sd si sa dl) sz)) 0 0 (va_A (xW h a e cI cJ cO cE L I M J n cap fE sd si sa dl) sz) := by
  have hn : n ≤ 40 := hX0.1.1
  have hX := hX0
  refine Met.ofW (cc := cX5_from) (maxL := 3) (ret := (some .long)) (by decide) rfl ?_
  intro p e9 s m args below meth c s₁ B hml hv
  obtain ⟨rfl, hsz, hP, hK, hD0, hN⟩ := hv
  have hx := B.exec
  have hb := B.bytes
  have hr := B.returns
  have hts := atoms_spec (ws := wq_x_from) B.pre
  have hown : s.vm.findClass RX5 = some m.cls := findClass_of_methodNamed B.named
  have hlocks := B.notSynchronized
  subst hsz
  have hD := hD0.self (sz := s.heap.size)
  generalize hAe : va_A (xW h a e cI cJ cO cE L I M J n cap fE sd si sa dl) s.heap.size = A at hD ⊢
  have hA : ∀ q : Nat, s.heap.size ≤ q → A q := fun q h => by rw [← hAe]; exact Or.inr h
  have hS : va_S A s.heap s.heap [] := va_S.rf
  have hl := lv_entry ([.ref (a 1), .int (nI ov), .int (nI av)]) (n := 3) (Nat.le_of_ble_eq_true rfl)
  rw [lg_entry_eq]
  generalize (lg_sl ([.ref (a 1), .int (nI ov), .int (nI av)]) ++ List.replicate (3 - (lg_sl ([.ref (a 1), .int (nI ov), .int (nI av)])).length) Slot.unset).toArray = ls at hl ⊢
  have hl : lv_has ls 3 [(0, .ref (a 1)), (1, .int (nI ov)), (2, .int (nI av))] := hl
  refine lv_aload_n hx hb dX5_from_0 rfl (lv_at hl 0 rfl) ?_
  refine va_get (D := (dC, dI)) (ci := 6) (v := .ref (a 10)) (C := RX5) (T := TX5) (N := 3) hx hb hts in_x_from_X5 hown hK hP 2 rfl rfl 0 (by decide) (hts (.fieldLink RX5 11 "ServiceTree$Relations" "froms" "[[J") (by decide +kernel)) (fun _ h9 => h9) rfl dX5_from_1 ?_
  refine lv_iload_n hx hb dX5_from_4 rfl (lv_at hl 1 rfl) ?_
  refine p1_aldA (n := 4) (f := fun i => if i < 4 then some (a (20 + i)) else none) hx hb hK hP 3 2 rfl rfl (vp_in_nI (n := ov) (by omega) (by decide)) dX5_from_5 ?_
  refine p1_topr (v := .ref (a (20 + ov))) (by rw [nI_clamp (by omega), if_pos (by omega)]; rfl) ?_
  refine lv_iload_n hx hb dX5_from_6 rfl (lv_at hl 2 rfl) ?_
  refine va_lald (n := 40) (f := M ov) hx hb hK hP (5 + ov) 1 (xAt_fr h a e cI cJ cO cE L I M J n cap fE sd si sa dl (o := ov) (by omega)) rfl (vp_in_nI (n := av) (by omega) (by omega)) dX5_from_7 ?_
  refine lv_topl (fun x1 ex1 => ?_)
  exact W.lret (v := x1) hx hb hr (fun t ht hW => ⟨⟨x1, (), rfl, trivial, by rw [ht]; exact hP, hD⟩, hS.F ht⟩) hS.2.2 dX5_from_8
def wq_x_told : List Cond := [.code yX5_told cX5_told 4 (some .boolean), .fieldLink RX5 11 "ServiceTree$Relations" "froms" "[[J", .initialized RX8, .static yX8_holds] ++ (wsX50 ++ (wq_x_holds))
theorem in_x_told_X5 : ∀ w ∈ wsX50, w ∈ wq_x_told := fun _ h => List.mem_append_right _ (List.mem_append_left _ (h))
set_option maxRecDepth 20000 in
theorem wi_x_told : ∀ w ∈ wq_x_told, w ∈ lw_tbl := List.forall_mem_append.mpr ⟨(by decide +kernel), List.forall_mem_append.mpr ⟨inKX5, wi_x_holds⟩⟩
set_option maxRecDepth 20000 in
theorem wg_x_told : GoodIn wq_x_told wq_x_told := goodIn_sub (fun _ h => h) (by decide +kernel)
theorem wc_x_told_x_holds_19 : GoodIn wq_x_told wq_x_holds := (fun w h => ⟨List.mem_append_right _ (List.mem_append_right _ (h)), (wg_x_holds w h).2⟩)
def rm_x_told : Room := { frames := 1, cells := 0, slots := 0, locals := 22 }
set_option maxHeartbeats 4000000 in
set_option maxRecDepth 100000 in
theorem c_x_told (l : Launch) (dC : Nat → ClassId) (dI : Nat → Nat → Nat) (h : Nat) (a : Nat → Nat) (e : Nat) (cI cJ cO cE : ClassId) (L : Nat → Int64) (I : Nat → Int32) (M : Nat → Nat → Int64) (J : Nat → Nat → Int32) (n cap : Nat) (fE : Nat → Option Nat) (sd : Nat → Nat → Nat) (si : Nat → Nat → Int32) (sa : Nat → Nat → Nat → Int32) (dl : Nat → Nat) (b : Nat) (ov : Nat) (av : Nat) (p2 : Int32) (sz : Nat) (hX0 : InvX n cap fE sd dl b I J si) (hb0 : b + 0 < 2147483648) (hp0 : ov < 4) (hp1 : av < 40) : Met l yX5_told wq_x_told rm_x_told (va_Pc [.ref (a 1), .int (nI ov), .int (nI av), .int p2] (fun U => U.heap.size = sz ∧ va_P (dC, dI) vwCl (xW h a e cI cJ cO cE L I M J n cap fE sd si sa dl) U.heap ∧ va_K (dC, dI) vwCl (xT cI cJ cO cE) U ∧ va_D (fun _ => True) (xW h a e cI cJ cO cE L I M J n cap fE sd si sa dl) ∧ pw_N U)) (va_Qi (fun (r : Int32) (u : Unit) => (r = 0 ∨ r = 1)) (fun (u : Unit) (t : State) => va_P (dC, dI) vwCl (xW h a e cI cJ cO cE L I M J n cap fE sd si sa dl) t.heap ∧ va_D (va_A (xW h a e cI cJ cO cE L I M J n cap fE sd si sa dl) sz) (xW h a e cI cJ cO cE L I M J n cap fE sd si sa dl)) (va_A (xW h a e cI cJ cO cE L I M J n cap fE sd si sa dl) sz)) 0 0 (va_A (xW h a e cI cJ cO cE L I M J n cap fE sd si sa dl) sz) := by
  have hn : n ≤ 40 := hX0.1.1
  have hX := hX0
  refine Met.ofW (cc := cX5_told) (maxL := 4) (ret := (some .boolean)) (by decide) rfl ?_
  intro p e9 s m args below meth c s₁ B hml hv
  obtain ⟨rfl, hsz, hP, hK, hD0, hN⟩ := hv
  have hx := B.exec
  have hb := B.bytes
  have hr := B.returns
  have hts := atoms_spec (ws := wq_x_told) B.pre
  have hown : s.vm.findClass RX5 = some m.cls := findClass_of_methodNamed B.named
  have hlocks := B.notSynchronized
  subst hsz
  have hD := hD0.self (sz := s.heap.size)
  generalize hAe : va_A (xW h a e cI cJ cO cE L I M J n cap fE sd si sa dl) s.heap.size = A at hD ⊢
  have hA : ∀ q : Nat, s.heap.size ≤ q → A q := fun q h => by rw [← hAe]; exact Or.inr h
  have hS : va_S A s.heap s.heap [] := va_S.rf
  have hl := lv_entry ([.ref (a 1), .int (nI ov), .int (nI av), .int p2]) (n := 4) (Nat.le_of_ble_eq_true rfl)
  rw [lg_entry_eq]
  generalize (lg_sl ([.ref (a 1), .int (nI ov), .int (nI av), .int p2]) ++ List.replicate (4 - (lg_sl ([.ref (a 1), .int (nI ov), .int (nI av), .int p2])).length) Slot.unset).toArray = ls at hl ⊢
  have hl : lv_has ls 4 [(0, .ref (a 1)), (1, .int (nI ov)), (2, .int (nI av)), (3, .int p2)] := hl
  refine lv_aload_n hx hb dX5_told_0 rfl (lv_at hl 0 rfl) ?_
  refine va_get (D := (dC, dI)) (ci := 6) (v := .ref (a 10)) (C := RX5) (T := TX5) (N := 3) hx hb hts in_x_told_X5 hown hK hP 2 rfl rfl 0 (by decide) (hts (.fieldLink RX5 11 "ServiceTree$Relations" "froms" "[[J") (by decide +kernel)) (fun _ h9 => h9) rfl dX5_told_1 ?_
  refine lv_iload_n hx hb dX5_told_4 rfl (lv_at hl 1 rfl) ?_
  refine p1_aldA (n := 4) (f := fun i => if i < 4 then some (a (20 + i)) else none) hx hb hK hP 3 2 rfl rfl (vp_in_nI (n := ov) (by omega) (by decide)) dX5_told_5 ?_
  refine p1_topr (v := .ref (a (20 + ov))) (by rw [nI_clamp (by omega), if_pos (by omega)]; rfl) ?_
  refine lv_iload_n hx hb dX5_told_6 rfl (lv_at hl 2 rfl) ?_
  refine va_lald (n := 40) (f := M ov) hx hb hK hP (5 + ov) 1 (xAt_fr h a e cI cJ cO cE L I M J n cap fE sd si sa dl (o := ov) (by omega)) rfl (vp_in_nI (n := av) (by omega) (by omega)) dX5_told_7 ?_
  refine lv_topl (fun x1 ex1 => ?_)
  refine lv_iload_n hx hb dX5_told_8 rfl (lv_at hl 3 rfl) ?_
  have hFc := mw_free hD hS hA
  refine va_calli (va_runSN (As := [.long x1, .int p2]) (rest := []) ⟨hx, hb, hml, hown, hts⟩ (c_x_holds l dC dI h a e cI cJ cO cE L I M J n cap fE sd si sa dl (b) x1 p2 s.heap.size hX (by omega) ) ⟨va_cnB 2 hts wc_x_told_x_holds_19 rfl rfl rfl (hN (.methodLinkNest RX5 19 yX8_holds "ServiceTree") (by decide +kernel)) (hts (.initialized RX8) (by decide +kernel)) (by decide +kernel) ⟨Nat.le_of_ble_eq_true rfl, Nat.le_of_ble_eq_true rfl⟩, hts (.static yX8_holds) (by decide +kernel), trivial⟩ ⟨fun a9 U g mk q => by obtain ⟨q0, q1, qP, qK, qD, qN⟩ := q; exact ⟨q0, q1, qP, va_K.moved (u := U) (U := U.calling g mk a9) (Vm.Alike.refl U.vm) qK, qD, pw_N.same (u := U) (U := U.calling g mk a9) rfl qN⟩, fun U hU hW => ⟨rfl, by rw [hU], by rw [hU]; exact hP, va_K.moved hW.alike hK, hD.weaken (fun _ _ _ _ => trivial), pw_N.warm hW hN⟩⟩ rfl rfl hl.1 rfl (lv_room (Nat.le_of_ble_eq_true rfl)) dX5_told_9 ⟨Nat.le_of_ble_eq_true rfl, Nat.le_of_ble_eq_true rfl⟩) hS (fun q _ h => hFc q h) hFc (fun r2 u t H1 locs ht hvm hw hB hz1 hk1 hS => ?_)
  replace hP := hB.1
  rw [ht] at hP
  replace hD : va_D A (xW h a e cI cJ cO cE L I M J n cap fE sd si sa dl) := hB.2.weaken (fun _ q _ h9 => hFc q.1 h9)
  clear hB
  generalize H1 = H at hP hS ⊢
  replace hP : va_P (dC, dI) vwCl (xW h a e cI cJ cO cE L I M J n cap fE sd si sa dl) H := hP
  have br2 := hw
  exact W.zret (v := r2) hx hb hr (mw_nb br2) (fun t ht hW => ⟨⟨r2, (), rfl, br2, by rw [ht]; exact hP, hD⟩, hS.F ht⟩) hS.2.2 dX5_told_12
def wq_x_wow1 : List Cond := [.code yX5_writeOneWay cX5_writeOneWay 5 none, .fieldLink RX5 11 "ServiceTree$Relations" "froms" "[[J", .initialized RX8, .static yX8_only, .fieldLink RX5 16 "ServiceTree$Relations" "tos" "[[J"] ++ (wsX50 ++ (wq_x_only))
theorem in_x_wow1_X5 : ∀ w ∈ wsX50, w ∈ wq_x_wow1 := fun _ h => List.mem_append_right _ (List.mem_append_left _ (h))
set_option maxRecDepth 20000 in
theorem wi_x_wow1 : ∀ w ∈ wq_x_wow1, w ∈ lw_tbl := List.forall_mem_append.mpr ⟨(by decide +kernel), List.forall_mem_append.mpr ⟨inKX5, wi_x_only⟩⟩
set_option maxRecDepth 20000 in
theorem wg_x_wow1 : GoodIn wq_x_wow1 wq_x_wow1 := goodIn_sub (fun _ h => h) (by decide +kernel)
theorem wc_x_wow1_x_only_34 : GoodIn wq_x_wow1 wq_x_only := (fun w h => ⟨List.mem_append_right _ (List.mem_append_right _ (h)), (wg_x_only w h).2⟩)
def rm_x_wow1 : Room := { frames := 1, cells := 0, slots := 0, locals := 20 }
set_option maxHeartbeats 4000000 in
set_option maxRecDepth 100000 in
theorem c_x_wow1 (l : Launch) (dC : Nat → ClassId) (dI : Nat → Nat → Nat) (h : Nat) (a : Nat → Nat) (e : Nat) (cI cJ cO cE : ClassId) (L : Nat → Int64) (I : Nat → Int32) (M : Nat → Nat → Int64) (J : Nat → Nat → Int32) (n cap : Nat) (fE : Nat → Option Nat) (sd : Nat → Nat → Nat) (si : Nat → Nat → Int32) (sa : Nat → Nat → Nat → Int32) (dl : Nat → Nat) (b : Nat) (ov : Nat) (av : Nat) (bv : Nat) (sz : Nat) (hX0 : InvX n cap fE sd dl b I J si) (hb0 : b + 0 < 2147483648) (hp0 : ov < 4) (hp1 : av < 40) (hp2 : bv < 40) : Met l yX5_writeOneWay wq_x_wow1 rm_x_wow1 (va_Pc [.ref (a 1), .int (nI ov), .int (nI av), .int (nI bv), .int 1] (fun U => U.heap.size = sz ∧ va_P (dC, dI) vwCl (xW h a e cI cJ cO cE L I M J n cap fE sd si sa dl) U.heap ∧ va_K (dC, dI) vwCl (xT cI cJ cO cE) U ∧ va_D (fun _ => True) (xW h a e cI cJ cO cE L I M J n cap fE sd si sa dl) ∧ pw_N U)) (va_Qv (fun (u : (Nat → Nat → Int64)) => InvX n cap fE sd dl (b + 0) I J si ∧ (∀ j9 : Nat, j9 ∉ ([0, 1, 2, 3, 4, 5, 6, 7] : List Nat) → u j9 = M j9) ∧ (True)) (fun (u : (Nat → Nat → Int64)) (t : State) => va_P (dC, dI) vwCl (xW h a e cI cJ cO cE L I u J n cap fE sd si sa dl) t.heap ∧ va_D (va_A (xW h a e cI cJ cO cE L I M J n cap fE sd si sa dl) sz) (xW h a e cI cJ cO cE L I u J n cap fE sd si sa dl)) (va_A (xW h a e cI cJ cO cE L I M J n cap fE sd si sa dl) sz)) 0 0 (va_A (xW h a e cI cJ cO cE L I M J n cap fE sd si sa dl) sz) := by
  have hn : n ≤ 40 := hX0.1.1
  have hX := hX0
  have hUM : ∀ j9 : Nat, j9 ∉ ([0, 1, 2, 3, 4, 5, 6, 7] : List Nat) → M j9 = M j9 := fun _ _ => rfl
  refine Met.ofW (cc := cX5_writeOneWay) (maxL := 5) (ret := none) (by decide) rfl ?_
  intro p e9 s m args below meth c s₁ B hml hv
  obtain ⟨rfl, hsz, hP, hK, hD0, hN⟩ := hv
  have hx := B.exec
  have hb := B.bytes
  have hr := B.returns
  have hts := atoms_spec (ws := wq_x_wow1) B.pre
  have hown : s.vm.findClass RX5 = some m.cls := findClass_of_methodNamed B.named
  have hlocks := B.notSynchronized
  subst hsz
  have hD := hD0.self (sz := s.heap.size)
  generalize hAe : va_A (xW h a e cI cJ cO cE L I M J n cap fE sd si sa dl) s.heap.size = A at hD ⊢
  have hA : ∀ q : Nat, s.heap.size ≤ q → A q := fun q h => by rw [← hAe]; exact Or.inr h
  have hS : va_S A s.heap s.heap [] := va_S.rf
  have hl := lv_entry ([.ref (a 1), .int (nI ov), .int (nI av), .int (nI bv), .int 1]) (n := 5) (Nat.le_of_ble_eq_true rfl)
  rw [lg_entry_eq]
  generalize (lg_sl ([.ref (a 1), .int (nI ov), .int (nI av), .int (nI bv), .int 1]) ++ List.replicate (5 - (lg_sl ([.ref (a 1), .int (nI ov), .int (nI av), .int (nI bv), .int 1])).length) Slot.unset).toArray = ls at hl ⊢
  have hl : lv_has ls 5 [(0, .ref (a 1)), (1, .int (nI ov)), (2, .int (nI av)), (3, .int (nI bv)), (4, .int 1)] := hl
  refine lv_aload_n hx hb dX5_writeOneWay_0 rfl (lv_at hl 0 rfl) ?_
  refine va_get (D := (dC, dI)) (ci := 6) (v := .ref (a 10)) (C := RX5) (T := TX5) (N := 3) hx hb hts in_x_wow1_X5 hown hK hP 2 rfl rfl 0 (by decide) (hts (.fieldLink RX5 11 "ServiceTree$Relations" "froms" "[[J") (by decide +kernel)) (fun _ h9 => h9) rfl dX5_writeOneWay_1 ?_
  refine lv_iload_n hx hb dX5_writeOneWay_4 rfl (lv_at hl 1 rfl) ?_
  refine p1_aldA (n := 4) (f := fun i => if i < 4 then some (a (20 + i)) else none) hx hb hK hP 3 2 rfl rfl (vp_in_nI (n := ov) (by omega) (by decide)) dX5_writeOneWay_5 ?_
  refine p1_topr (v := .ref (a (20 + ov))) (by rw [nI_clamp (by omega), if_pos (by omega)]; rfl) ?_
  refine lv_iload_n hx hb dX5_writeOneWay_6 rfl (lv_at hl 2 rfl) ?_
  refine lv_iload hx hb dX5_writeOneWay_7 (lv_at hl 4 rfl) ?_
  refine lv_if_eq (tgt := 28) hx hb dX5_writeOneWay_9 (by decide) (fun c9 => absurd c9 (by decide)) (fun _ => ?_)
  refine lv_aload_n hx hb dX5_writeOneWay_12 rfl (lv_at hl 0 rfl) ?_
  refine va_get (D := (dC, dI)) (ci := 6) (v := .ref (a 10)) (C := RX5) (T := TX5) (N := 3) hx hb hts in_x_wow1_X5 hown hK hP 2 rfl rfl 0 (by decide) (hts (.fieldLink RX5 11 "ServiceTree$Relations" "froms" "[[J") (by decide +kernel)) (fun _ h9 => h9) rfl dX5_writeOneWay_13 ?_
  refine lv_iload_n hx hb dX5_writeOneWay_16 rfl (lv_at hl 1 rfl) ?_
  refine p1_aldA (n := 4) (f := fun i => if i < 4 then some (a (20 + i)) else none) hx hb hK hP 3 2 rfl rfl (vp_in_nI (n := ov) (by omega) (by decide)) dX5_writeOneWay_17 ?_
  refine p1_topr (v := .ref (a (20 + ov))) (by rw [nI_clamp (by omega), if_pos (by omega)]; rfl) ?_
  refine lv_iload_n hx hb dX5_writeOneWay_18 rfl (lv_at hl 2 rfl) ?_
  refine va_lald (n := 40) (f := M ov) hx hb hK hP (5 + ov) 1 (xAt_fr h a e cI cJ cO cE L I M J n cap fE sd si sa dl (o := ov) (by omega)) rfl (vp_in_nI (n := av) (by omega) (by omega)) dX5_writeOneWay_19 ?_
  refine lv_topl (fun x1 ex1 => ?_)
  refine lv_iload_n hx hb dX5_writeOneWay_20 rfl (lv_at hl 3 rfl) ?_
  have hFc := mw_free hD hS hA
  refine va_calll (va_runSN (As := [.int (nI bv)]) (rest := [.long x1, .int (nI av), .ref (a (20 + ov))]) ⟨hx, hb, hml, hown, hts⟩ (c_x_only l dC dI h a e cI cJ cO cE L I M J n cap fE sd si sa dl (b) (nI bv) s.heap.size hX (by omega) ) ⟨va_cnB 1 hts wc_x_wow1_x_only_34 rfl rfl rfl (hN (.methodLinkNest RX5 34 yX8_only "ServiceTree") (by decide +kernel)) (hts (.initialized RX8) (by decide +kernel)) (by decide +kernel) ⟨Nat.le_of_ble_eq_true rfl, Nat.le_of_ble_eq_true rfl⟩, hts (.static yX8_only) (by decide +kernel), trivial⟩ ⟨fun a9 U g mk q => by obtain ⟨q0, q1, qP, qK, qD, qN⟩ := q; exact ⟨q0, q1, qP, va_K.moved (u := U) (U := U.calling g mk a9) (Vm.Alike.refl U.vm) qK, qD, pw_N.same (u := U) (U := U.calling g mk a9) rfl qN⟩, fun U hU hW => ⟨rfl, by rw [hU], by rw [hU]; exact hP, va_K.moved hW.alike hK, hD.weaken (fun _ _ _ _ => trivial), pw_N.warm hW hN⟩⟩ rfl rfl hl.1 rfl (lv_room (Nat.le_of_ble_eq_true rfl)) dX5_writeOneWay_21 ⟨Nat.le_of_ble_eq_true rfl, Nat.le_of_ble_eq_true rfl⟩) hS (fun q _ h => hFc q h) hFc (fun r2 u t H1 locs ht hvm hw hB hz1 hk1 hS => ?_)
  replace hP := hB.1
  rw [ht] at hP
  replace hD : va_D A (xW h a e cI cJ cO cE L I M J n cap fE sd si sa dl) := hB.2.weaken (fun _ q _ h9 => hFc q.1 h9)
  clear hB
  generalize H1 = H at hP hS ⊢
  replace hP : va_P (dC, dI) vwCl (xW h a e cI cJ cO cE L I M J n cap fE sd si sa dl) H := hP
  refine lv_lor hx hb dX5_writeOneWay_24 ?_
  refine lv_topl (fun x3 ex3 => ?_)
  refine lv_goto (tgt := 45) hx hb dX5_writeOneWay_25 (by decide) ?_
  refine va_last (n := 40) (f := M ov) hx hb hK hP hD hS (5 + ov) 1 (xAt_fr h a e cI cJ cO cE L I M J n cap fE sd si sa dl (o := ov) (by omega)) rfl (vp_in_nI (n := av) (by omega) (by omega)) dX5_writeOneWay_45 (fun H locs hP hD hS => ?_)
  rw [xM_fr h a e cI cJ cO cE L I M J n cap fE sd si sa dl (o := ov) (by omega)] at hP hD
  obtain ⟨M4, eM4⟩ : ∃ f9 : Nat → Nat → Int64, f9 = va_up M ov (vp_updL (M ov) (nI av).toNatClampNeg x3) := ⟨_, rfl⟩
  rw [← eM4] at hP hD
  replace hUM : ∀ j9 : Nat, j9 ∉ ([0, 1, 2, 3, 4, 5, 6, 7] : List Nat) → M4 j9 = M j9 := by rw [eM4]; exact mw_up (by simp only [List.mem_cons, List.mem_nil_iff, or_false]; omega) hUM
  refine lv_aload_n hx hb dX5_writeOneWay_46 rfl (lv_at hl 0 rfl) ?_
  refine va_get (D := (dC, dI)) (ci := 6) (v := .ref (a 11)) (C := RX5) (T := TX5) (N := 3) hx hb hts in_x_wow1_X5 hown hK hP 2 rfl rfl 1 (by decide) (hts (.fieldLink RX5 16 "ServiceTree$Relations" "tos" "[[J") (by decide +kernel)) (fun _ h9 => h9) rfl dX5_writeOneWay_47 ?_
  refine lv_iload_n hx hb dX5_writeOneWay_50 rfl (lv_at hl 1 rfl) ?_
  refine p1_aldA (n := 4) (f := fun i => if i < 4 then some (a (24 + i)) else none) hx hb hK hP 4 2 rfl rfl (vp_in_nI (n := ov) (by omega) (by decide)) dX5_writeOneWay_51 ?_
  refine p1_topr (v := .ref (a (24 + ov))) (by rw [nI_clamp (by omega), if_pos (by omega)]; rfl) ?_
  refine lv_iload_n hx hb dX5_writeOneWay_52 rfl (lv_at hl 3 rfl) ?_
  refine lv_iload hx hb dX5_writeOneWay_53 (lv_at hl 4 rfl) ?_
  refine lv_if_eq (tgt := 74) hx hb dX5_writeOneWay_55 (by decide) (fun c9 => absurd c9 (by decide)) (fun _ => ?_)
  refine lv_aload_n hx hb dX5_writeOneWay_58 rfl (lv_at hl 0 rfl) ?_
  refine va_get (D := (dC, dI)) (ci := 6) (v := .ref (a 11)) (C := RX5) (T := TX5) (N := 3) hx hb hts in_x_wow1_X5 hown hK hP 2 rfl rfl 1 (by decide) (hts (.fieldLink RX5 16 "ServiceTree$Relations" "tos" "[[J") (by decide +kernel)) (fun _ h9 => h9) rfl dX5_writeOneWay_59 ?_
  refine lv_iload_n hx hb dX5_writeOneWay_62 rfl (lv_at hl 1 rfl) ?_
  refine p1_aldA (n := 4) (f := fun i => if i < 4 then some (a (24 + i)) else none) hx hb hK hP 4 2 rfl rfl (vp_in_nI (n := ov) (by omega) (by decide)) dX5_writeOneWay_63 ?_
  refine p1_topr (v := .ref (a (24 + ov))) (by rw [nI_clamp (by omega), if_pos (by omega)]; rfl) ?_
  refine lv_iload_n hx hb dX5_writeOneWay_64 rfl (lv_at hl 3 rfl) ?_
  refine va_lald (n := 40) (f := M4 (4 + ov)) hx hb hK hP (9 + ov) 1 (xAt_to h a e cI cJ cO cE L I M4 J n cap fE sd si sa dl (o := ov) (by omega)) rfl (vp_in_nI (n := bv) (by omega) (by omega)) dX5_writeOneWay_65 ?_
  refine lv_topl (fun x5 ex5 => ?_)
  refine lv_iload_n hx hb dX5_writeOneWay_66 rfl (lv_at hl 2 rfl) ?_
  have hFc := mw_free hD hS hA
  refine va_calll (va_runSN (As := [.int (nI av)]) (rest := [.long x5, .int (nI bv), .ref (a (24 + ov))]) ⟨hx, hb, hml, hown, hts⟩ (c_x_only l dC dI h a e cI cJ cO cE L I M4 J n cap fE sd si sa dl (b) (nI av) H.size hX (by omega) ) ⟨va_cnB 1 hts wc_x_wow1_x_only_34 rfl rfl rfl (hN (.methodLinkNest RX5 34 yX8_only "ServiceTree") (by decide +kernel)) (hts (.initialized RX8) (by decide +kernel)) (by decide +kernel) ⟨Nat.le_of_ble_eq_true rfl, Nat.le_of_ble_eq_true rfl⟩, hts (.static yX8_only) (by decide +kernel), trivial⟩ ⟨fun a9 U g mk q => by obtain ⟨q0, q1, qP, qK, qD, qN⟩ := q; exact ⟨q0, q1, qP, va_K.moved (u := U) (U := U.calling g mk a9) (Vm.Alike.refl U.vm) qK, qD, pw_N.same (u := U) (U := U.calling g mk a9) rfl qN⟩, fun U hU hW => ⟨rfl, by rw [hU], by rw [hU]; exact hP, va_K.moved hW.alike hK, hD.weaken (fun _ _ _ _ => trivial), pw_N.warm hW hN⟩⟩ rfl rfl hl.1 rfl (lv_room (Nat.le_of_ble_eq_true rfl)) dX5_writeOneWay_67 ⟨Nat.le_of_ble_eq_true rfl, Nat.le_of_ble_eq_true rfl⟩) hS (fun q _ h => hFc q h) hFc (fun r6 u t H1 locs ht hvm hw hB hz1 hk1 hS => ?_)
  replace hP := hB.1
  rw [ht] at hP
  replace hD : va_D A (xW h a e cI cJ cO cE L I M4 J n cap fE sd si sa dl) := hB.2.weaken (fun _ q _ h9 => hFc q.1 h9)
  clear hB
  generalize H1 = H at hP hS ⊢
  replace hP : va_P (dC, dI) vwCl (xW h a e cI cJ cO cE L I M4 J n cap fE sd si sa dl) H := hP
  refine lv_lor hx hb dX5_writeOneWay_70 ?_
  refine lv_topl (fun x7 ex7 => ?_)
  refine lv_goto (tgt := 91) hx hb dX5_writeOneWay_71 (by decide) ?_
  refine va_last (n := 40) (f := M4 (4 + ov)) hx hb hK hP hD hS (9 + ov) 1 (xAt_to h a e cI cJ cO cE L I M4 J n cap fE sd si sa dl (o := ov) (by omega)) rfl (vp_in_nI (n := bv) (by omega) (by omega)) dX5_writeOneWay_91 (fun H locs hP hD hS => ?_)
  rw [xM_to h a e cI cJ cO cE L I M4 J n cap fE sd si sa dl (o := ov) (by omega)] at hP hD
  obtain ⟨M8, eM8⟩ : ∃ f9 : Nat → Nat → Int64, f9 = va_up M4 (4 + ov) (vp_updL (M4 (4 + ov)) (nI bv).toNatClampNeg x7) := ⟨_, rfl⟩
  rw [← eM8] at hP hD
  replace hUM : ∀ j9 : Nat, j9 ∉ ([0, 1, 2, 3, 4, 5, 6, 7] : List Nat) → M8 j9 = M j9 := by rw [eM8]; exact mw_up (by simp only [List.mem_cons, List.mem_nil_iff, or_false]; omega) hUM
  exact W.vret hx hb hr (fun t ht hW => ⟨⟨M8, rfl, ⟨hX.mono (by omega), hUM, trivial⟩, by rw [ht]; exact hP, hD⟩, hS.F ht⟩) hS.2.2 dX5_writeOneWay_92
def wq_x_wow0 : List Cond := [.code yX5_writeOneWay cX5_writeOneWay 5 none, .fieldLink RX5 11 "ServiceTree$Relations" "froms" "[[J", .initialized RX8, .static yX8_only, .constantLong RX5 38 (-1), .fieldLink RX5 16 "ServiceTree$Relations" "tos" "[[J"] ++ (wsX50 ++ (wq_x_only))
theorem in_x_wow0_X5 : ∀ w ∈ wsX50, w ∈ wq_x_wow0 := fun _ h => List.mem_append_right _ (List.mem_append_left _ (h))
set_option maxRecDepth 20000 in
theorem wi_x_wow0 : ∀ w ∈ wq_x_wow0, w ∈ lw_tbl := List.forall_mem_append.mpr ⟨(by decide +kernel), List.forall_mem_append.mpr ⟨inKX5, wi_x_only⟩⟩
set_option maxRecDepth 20000 in
theorem wg_x_wow0 : GoodIn wq_x_wow0 wq_x_wow0 := goodIn_sub (fun _ h => h) (by decide +kernel)
theorem wc_x_wow0_x_only_34 : GoodIn wq_x_wow0 wq_x_only := (fun w h => ⟨List.mem_append_right _ (List.mem_append_right _ (h)), (wg_x_only w h).2⟩)
def rm_x_wow0 : Room := { frames := 1, cells := 0, slots := 0, locals := 20 }
set_option maxHeartbeats 4000000 in
set_option maxRecDepth 100000 in
theorem c_x_wow0 (l : Launch) (dC : Nat → ClassId) (dI : Nat → Nat → Nat) (h : Nat) (a : Nat → Nat) (e : Nat) (cI cJ cO cE : ClassId) (L : Nat → Int64) (I : Nat → Int32) (M : Nat → Nat → Int64) (J : Nat → Nat → Int32) (n cap : Nat) (fE : Nat → Option Nat) (sd : Nat → Nat → Nat) (si : Nat → Nat → Int32) (sa : Nat → Nat → Nat → Int32) (dl : Nat → Nat) (b : Nat) (ov : Nat) (av : Nat) (bv : Nat) (sz : Nat) (hX0 : InvX n cap fE sd dl b I J si) (hb0 : b + 0 < 2147483648) (hp0 : ov < 4) (hp1 : av < 40) (hp2 : bv < 40) : Met l yX5_writeOneWay wq_x_wow0 rm_x_wow0 (va_Pc [.ref (a 1), .int (nI ov), .int (nI av), .int (nI bv), .int 0] (fun U => U.heap.size = sz ∧ va_P (dC, dI) vwCl (xW h a e cI cJ cO cE L I M J n cap fE sd si sa dl) U.heap ∧ va_K (dC, dI) vwCl (xT cI cJ cO cE) U ∧ va_D (fun _ => True) (xW h a e cI cJ cO cE L I M J n cap fE sd si sa dl) ∧ pw_N U)) (va_Qv (fun (u : (Nat → Nat → Int64)) => InvX n cap fE sd dl (b + 0) I J si ∧ (∀ j9 : Nat, j9 ∉ ([0, 1, 2, 3, 4, 5, 6, 7] : List Nat) → u j9 = M j9) ∧ (True)) (fun (u : (Nat → Nat → Int64)) (t : State) => va_P (dC, dI) vwCl (xW h a e cI cJ cO cE L I u J n cap fE sd si sa dl) t.heap ∧ va_D (va_A (xW h a e cI cJ cO cE L I M J n cap fE sd si sa dl) sz) (xW h a e cI cJ cO cE L I u J n cap fE sd si sa dl)) (va_A (xW h a e cI cJ cO cE L I M J n cap fE sd si sa dl) sz)) 0 0 (va_A (xW h a e cI cJ cO cE L I M J n cap fE sd si sa dl) sz) := by
  have hn : n ≤ 40 := hX0.1.1
  have hX := hX0
  have hUM : ∀ j9 : Nat, j9 ∉ ([0, 1, 2, 3, 4, 5, 6, 7] : List Nat) → M j9 = M j9 := fun _ _ => rfl
  refine Met.ofW (cc := cX5_writeOneWay) (maxL := 5) (ret := none) (by decide) rfl ?_
  intro p e9 s m args below meth c s₁ B hml hv
  obtain ⟨rfl, hsz, hP, hK, hD0, hN⟩ := hv
  have hx := B.exec
  have hb := B.bytes
  have hr := B.returns
  have hts := atoms_spec (ws := wq_x_wow0) B.pre
  have hown : s.vm.findClass RX5 = some m.cls := findClass_of_methodNamed B.named
  have hlocks := B.notSynchronized
  subst hsz
  have hD := hD0.self (sz := s.heap.size)
  generalize hAe : va_A (xW h a e cI cJ cO cE L I M J n cap fE sd si sa dl) s.heap.size = A at hD ⊢
  have hA : ∀ q : Nat, s.heap.size ≤ q → A q := fun q h => by rw [← hAe]; exact Or.inr h
  have hS : va_S A s.heap s.heap [] := va_S.rf
  have hl := lv_entry ([.ref (a 1), .int (nI ov), .int (nI av), .int (nI bv), .int 0]) (n := 5) (Nat.le_of_ble_eq_true rfl)
  rw [lg_entry_eq]
  generalize (lg_sl ([.ref (a 1), .int (nI ov), .int (nI av), .int (nI bv), .int 0]) ++ List.replicate (5 - (lg_sl ([.ref (a 1), .int (nI ov), .int (nI av), .int (nI bv), .int 0])).length) Slot.unset).toArray = ls at hl ⊢
  have hl : lv_has ls 5 [(0, .ref (a 1)), (1, .int (nI ov)), (2, .int (nI av)), (3, .int (nI bv)), (4, .int 0)] := hl
  refine lv_aload_n hx hb dX5_writeOneWay_0 rfl (lv_at hl 0 rfl) ?_
  refine va_get (D := (dC, dI)) (ci := 6) (v := .ref (a 10)) (C := RX5) (T := TX5) (N := 3) hx hb hts in_x_wow0_X5 hown hK hP 2 rfl rfl 0 (by decide) (hts (.fieldLink RX5 11 "ServiceTree$Relations" "froms" "[[J") (by decide +kernel)) (fun _ h9 => h9) rfl dX5_writeOneWay_1 ?_
  refine lv_iload_n hx hb dX5_writeOneWay_4 rfl (lv_at hl 1 rfl) ?_
  refine p1_aldA (n := 4) (f := fun i => if i < 4 then some (a (20 + i)) else none) hx hb hK hP 3 2 rfl rfl (vp_in_nI (n := ov) (by omega) (by decide)) dX5_writeOneWay_5 ?_
  refine p1_topr (v := .ref (a (20 + ov))) (by rw [nI_clamp (by omega), if_pos (by omega)]; rfl) ?_
  refine lv_iload_n hx hb dX5_writeOneWay_6 rfl (lv_at hl 2 rfl) ?_
  refine lv_iload hx hb dX5_writeOneWay_7 (lv_at hl 4 rfl) ?_
  refine lv_if_eq (tgt := 28) hx hb dX5_writeOneWay_9 (by decide) (fun _ => ?_) (fun c9 => absurd (by decide) c9)
  refine lv_aload_n hx hb dX5_writeOneWay_28 rfl (lv_at hl 0 rfl) ?_
  refine va_get (D := (dC, dI)) (ci := 6) (v := .ref (a 10)) (C := RX5) (T := TX5) (N := 3) hx hb hts in_x_wow0_X5 hown hK hP 2 rfl rfl 0 (by decide) (hts (.fieldLink RX5 11 "ServiceTree$Relations" "froms" "[[J") (by decide +kernel)) (fun _ h9 => h9) rfl dX5_writeOneWay_29 ?_
  refine lv_iload_n hx hb dX5_writeOneWay_32 rfl (lv_at hl 1 rfl) ?_
  refine p1_aldA (n := 4) (f := fun i => if i < 4 then some (a (20 + i)) else none) hx hb hK hP 3 2 rfl rfl (vp_in_nI (n := ov) (by omega) (by decide)) dX5_writeOneWay_33 ?_
  refine p1_topr (v := .ref (a (20 + ov))) (by rw [nI_clamp (by omega), if_pos (by omega)]; rfl) ?_
  refine lv_iload_n hx hb dX5_writeOneWay_34 rfl (lv_at hl 2 rfl) ?_
  refine va_lald (n := 40) (f := M ov) hx hb hK hP (5 + ov) 1 (xAt_fr h a e cI cJ cO cE L I M J n cap fE sd si sa dl (o := ov) (by omega)) rfl (vp_in_nI (n := av) (by omega) (by omega)) dX5_writeOneWay_35 ?_
  refine lv_topl (fun x1 ex1 => ?_)
  refine lv_iload_n hx hb dX5_writeOneWay_36 rfl (lv_at hl 3 rfl) ?_
  have hFc := mw_free hD hS hA
  refine va_calll (va_runSN (As := [.int (nI bv)]) (rest := [.long x1, .int (nI av), .ref (a (20 + ov))]) ⟨hx, hb, hml, hown, hts⟩ (c_x_only l dC dI h a e cI cJ cO cE L I M J n cap fE sd si sa dl (b) (nI bv) s.heap.size hX (by omega) ) ⟨va_cnB 1 hts wc_x_wow0_x_only_34 rfl rfl rfl (hN (.methodLinkNest RX5 34 yX8_only "ServiceTree") (by decide +kernel)) (hts (.initialized RX8) (by decide +kernel)) (by decide +kernel) ⟨Nat.le_of_ble_eq_true rfl, Nat.le_of_ble_eq_true rfl⟩, hts (.static yX8_only) (by decide +kernel), trivial⟩ ⟨fun a9 U g mk q => by obtain ⟨q0, q1, qP, qK, qD, qN⟩ := q; exact ⟨q0, q1, qP, va_K.moved (u := U) (U := U.calling g mk a9) (Vm.Alike.refl U.vm) qK, qD, pw_N.same (u := U) (U := U.calling g mk a9) rfl qN⟩, fun U hU hW => ⟨rfl, by rw [hU], by rw [hU]; exact hP, va_K.moved hW.alike hK, hD.weaken (fun _ _ _ _ => trivial), pw_N.warm hW hN⟩⟩ rfl rfl hl.1 rfl (lv_room (Nat.le_of_ble_eq_true rfl)) dX5_writeOneWay_37 ⟨Nat.le_of_ble_eq_true rfl, Nat.le_of_ble_eq_true rfl⟩) hS (fun q _ h => hFc q h) hFc (fun r2 u t H1 locs ht hvm hw hB hz1 hk1 hS => ?_)
  replace hP := hB.1
  rw [ht] at hP
  replace hD : va_D A (xW h a e cI cJ cO cE L I M J n cap fE sd si sa dl) := hB.2.weaken (fun _ q _ h9 => hFc q.1 h9)
  clear hB
  generalize H1 = H at hP hS ⊢
  replace hP : va_P (dC, dI) vwCl (xW h a e cI cJ cO cE L I M J n cap fE sd si sa dl) H := hP
  refine lv_ldc2 (v := (-1)) hx hb hown (hts (.constantLong RX5 38 (-1)) (by decide +kernel)) dX5_writeOneWay_40 ?_
  refine lv_lxor hx hb dX5_writeOneWay_43 ?_
  refine lv_topl (fun x3 ex3 => ?_)
  refine lv_land hx hb dX5_writeOneWay_44 ?_
  refine lv_topl (fun x4 ex4 => ?_)
  refine va_last (n := 40) (f := M ov) hx hb hK hP hD hS (5 + ov) 1 (xAt_fr h a e cI cJ cO cE L I M J n cap fE sd si sa dl (o := ov) (by omega)) rfl (vp_in_nI (n := av) (by omega) (by omega)) dX5_writeOneWay_45 (fun H locs hP hD hS => ?_)
  rw [xM_fr h a e cI cJ cO cE L I M J n cap fE sd si sa dl (o := ov) (by omega)] at hP hD
  obtain ⟨M5, eM5⟩ : ∃ f9 : Nat → Nat → Int64, f9 = va_up M ov (vp_updL (M ov) (nI av).toNatClampNeg x4) := ⟨_, rfl⟩
  rw [← eM5] at hP hD
  replace hUM : ∀ j9 : Nat, j9 ∉ ([0, 1, 2, 3, 4, 5, 6, 7] : List Nat) → M5 j9 = M j9 := by rw [eM5]; exact mw_up (by simp only [List.mem_cons, List.mem_nil_iff, or_false]; omega) hUM
  refine lv_aload_n hx hb dX5_writeOneWay_46 rfl (lv_at hl 0 rfl) ?_
  refine va_get (D := (dC, dI)) (ci := 6) (v := .ref (a 11)) (C := RX5) (T := TX5) (N := 3) hx hb hts in_x_wow0_X5 hown hK hP 2 rfl rfl 1 (by decide) (hts (.fieldLink RX5 16 "ServiceTree$Relations" "tos" "[[J") (by decide +kernel)) (fun _ h9 => h9) rfl dX5_writeOneWay_47 ?_
  refine lv_iload_n hx hb dX5_writeOneWay_50 rfl (lv_at hl 1 rfl) ?_
  refine p1_aldA (n := 4) (f := fun i => if i < 4 then some (a (24 + i)) else none) hx hb hK hP 4 2 rfl rfl (vp_in_nI (n := ov) (by omega) (by decide)) dX5_writeOneWay_51 ?_
  refine p1_topr (v := .ref (a (24 + ov))) (by rw [nI_clamp (by omega), if_pos (by omega)]; rfl) ?_
  refine lv_iload_n hx hb dX5_writeOneWay_52 rfl (lv_at hl 3 rfl) ?_
  refine lv_iload hx hb dX5_writeOneWay_53 (lv_at hl 4 rfl) ?_
  refine lv_if_eq (tgt := 74) hx hb dX5_writeOneWay_55 (by decide) (fun _ => ?_) (fun c9 => absurd (by decide) c9)
  refine lv_aload_n hx hb dX5_writeOneWay_74 rfl (lv_at hl 0 rfl) ?_
  refine va_get (D := (dC, dI)) (ci := 6) (v := .ref (a 11)) (C := RX5) (T := TX5) (N := 3) hx hb hts in_x_wow0_X5 hown hK hP 2 rfl rfl 1 (by decide) (hts (.fieldLink RX5 16 "ServiceTree$Relations" "tos" "[[J") (by decide +kernel)) (fun _ h9 => h9) rfl dX5_writeOneWay_75 ?_
  refine lv_iload_n hx hb dX5_writeOneWay_78 rfl (lv_at hl 1 rfl) ?_
  refine p1_aldA (n := 4) (f := fun i => if i < 4 then some (a (24 + i)) else none) hx hb hK hP 4 2 rfl rfl (vp_in_nI (n := ov) (by omega) (by decide)) dX5_writeOneWay_79 ?_
  refine p1_topr (v := .ref (a (24 + ov))) (by rw [nI_clamp (by omega), if_pos (by omega)]; rfl) ?_
  refine lv_iload_n hx hb dX5_writeOneWay_80 rfl (lv_at hl 3 rfl) ?_
  refine va_lald (n := 40) (f := M5 (4 + ov)) hx hb hK hP (9 + ov) 1 (xAt_to h a e cI cJ cO cE L I M5 J n cap fE sd si sa dl (o := ov) (by omega)) rfl (vp_in_nI (n := bv) (by omega) (by omega)) dX5_writeOneWay_81 ?_
  refine lv_topl (fun x6 ex6 => ?_)
  refine lv_iload_n hx hb dX5_writeOneWay_82 rfl (lv_at hl 2 rfl) ?_
  have hFc := mw_free hD hS hA
  refine va_calll (va_runSN (As := [.int (nI av)]) (rest := [.long x6, .int (nI bv), .ref (a (24 + ov))]) ⟨hx, hb, hml, hown, hts⟩ (c_x_only l dC dI h a e cI cJ cO cE L I M5 J n cap fE sd si sa dl (b) (nI av) H.size hX (by omega) ) ⟨va_cnB 1 hts wc_x_wow0_x_only_34 rfl rfl rfl (hN (.methodLinkNest RX5 34 yX8_only "ServiceTree") (by decide +kernel)) (hts (.initialized RX8) (by decide +kernel)) (by decide +kernel) ⟨Nat.le_of_ble_eq_true rfl, Nat.le_of_ble_eq_true rfl⟩, hts (.static yX8_only) (by decide +kernel), trivial⟩ ⟨fun a9 U g mk q => by obtain ⟨q0, q1, qP, qK, qD, qN⟩ := q; exact ⟨q0, q1, qP, va_K.moved (u := U) (U := U.calling g mk a9) (Vm.Alike.refl U.vm) qK, qD, pw_N.same (u := U) (U := U.calling g mk a9) rfl qN⟩, fun U hU hW => ⟨rfl, by rw [hU], by rw [hU]; exact hP, va_K.moved hW.alike hK, hD.weaken (fun _ _ _ _ => trivial), pw_N.warm hW hN⟩⟩ rfl rfl hl.1 rfl (lv_room (Nat.le_of_ble_eq_true rfl)) dX5_writeOneWay_83 ⟨Nat.le_of_ble_eq_true rfl, Nat.le_of_ble_eq_true rfl⟩) hS (fun q _ h => hFc q h) hFc (fun r7 u t H1 locs ht hvm hw hB hz1 hk1 hS => ?_)
  replace hP := hB.1
  rw [ht] at hP
  replace hD : va_D A (xW h a e cI cJ cO cE L I M5 J n cap fE sd si sa dl) := hB.2.weaken (fun _ q _ h9 => hFc q.1 h9)
  clear hB
  generalize H1 = H at hP hS ⊢
  replace hP : va_P (dC, dI) vwCl (xW h a e cI cJ cO cE L I M5 J n cap fE sd si sa dl) H := hP
  refine lv_ldc2 (v := (-1)) hx hb hown (hts (.constantLong RX5 38 (-1)) (by decide +kernel)) dX5_writeOneWay_86 ?_
  refine lv_lxor hx hb dX5_writeOneWay_89 ?_
  refine lv_topl (fun x8 ex8 => ?_)
  refine lv_land hx hb dX5_writeOneWay_90 ?_
  refine lv_topl (fun x9 ex9 => ?_)
  refine va_last (n := 40) (f := M5 (4 + ov)) hx hb hK hP hD hS (9 + ov) 1 (xAt_to h a e cI cJ cO cE L I M5 J n cap fE sd si sa dl (o := ov) (by omega)) rfl (vp_in_nI (n := bv) (by omega) (by omega)) dX5_writeOneWay_91 (fun H locs hP hD hS => ?_)
  rw [xM_to h a e cI cJ cO cE L I M5 J n cap fE sd si sa dl (o := ov) (by omega)] at hP hD
  obtain ⟨M10, eM10⟩ : ∃ f9 : Nat → Nat → Int64, f9 = va_up M5 (4 + ov) (vp_updL (M5 (4 + ov)) (nI bv).toNatClampNeg x9) := ⟨_, rfl⟩
  rw [← eM10] at hP hD
  replace hUM : ∀ j9 : Nat, j9 ∉ ([0, 1, 2, 3, 4, 5, 6, 7] : List Nat) → M10 j9 = M j9 := by rw [eM10]; exact mw_up (by simp only [List.mem_cons, List.mem_nil_iff, or_false]; omega) hUM
  exact W.vret hx hb hr (fun t ht hW => ⟨⟨M10, rfl, ⟨hX.mono (by omega), hUM, trivial⟩, by rw [ht]; exact hP, hD⟩, hS.F ht⟩) hS.2.2 dX5_writeOneWay_92
def wq_x_write1 : List Cond := [.code yX5_write cX5_write 5 none, .methodLink RX5 31 yX5_writeOneWay, .instanceMethod yX5_writeOneWay, .selects RX5 yX5_writeOneWay yX5_writeOneWay, .initialized RX5] ++ (wq_x_wow1)
set_option maxRecDepth 20000 in
theorem wi_x_write1 : ∀ w ∈ wq_x_write1, w ∈ lw_tbl := List.forall_mem_append.mpr ⟨(by decide +kernel), wi_x_wow1⟩
set_option maxRecDepth 20000 in
theorem wg_x_write1 : GoodIn wq_x_write1 wq_x_write1 := goodIn_sub (fun _ h => h) (by decide +kernel)
set_option maxRecDepth 20000 in
theorem wc_x_write1_x_wow1_31 : GoodIn wq_x_write1 (wsV RX5 31 RX5 yX5_writeOneWay wq_x_wow1) := goodIn_app (goodIn_of _ (by decide +kernel)) (fun w h => ⟨List.mem_append_right _ (h), (wg_x_wow1 w h).2⟩)
def rm_x_write1 : Room := { frames := 2, cells := 0, slots := 0, locals := 44 }
set_option maxHeartbeats 4000000 in
set_option maxRecDepth 100000 in
theorem c_x_write1 (l : Launch) (dC : Nat → ClassId) (dI : Nat → Nat → Nat) (h : Nat) (a : Nat → Nat) (e : Nat) (cI cJ cO cE : ClassId) (L : Nat → Int64) (I : Nat → Int32) (M : Nat → Nat → Int64) (J : Nat → Nat → Int32) (n cap : Nat) (fE : Nat → Option Nat) (sd : Nat → Nat → Nat) (si : Nat → Nat → Int32) (sa : Nat → Nat → Nat → Int32) (dl : Nat → Nat) (b : Nat) (ov : Nat) (av : Nat) (bv : Nat) (sz : Nat) (hX0 : InvX n cap fE sd dl b I J si) (hb0 : b + 0 < 2147483648) (hp0 : ov < 4) (hp1 : av < 40) (hp2 : bv < 40) : Met l yX5_write wq_x_write1 rm_x_write1 (va_Pc [.ref (a 1), .int (nI ov), .int (nI av), .int (nI bv), .int 1] (fun U => U.heap.size = sz ∧ va_P (dC, dI) vwCl (xW h a e cI cJ cO cE L I M J n cap fE sd si sa dl) U.heap ∧ va_K (dC, dI) vwCl (xT cI cJ cO cE) U ∧ va_D (fun _ => True) (xW h a e cI cJ cO cE L I M J n cap fE sd si sa dl) ∧ pw_N U)) (va_Qv (fun (u : (Nat → Nat → Int64)) => InvX n cap fE sd dl (b + 0) I J si ∧ (∀ j9 : Nat, j9 ∉ ([0, 1, 2, 3, 4, 5, 6, 7] : List Nat) → u j9 = M j9) ∧ (True)) (fun (u : (Nat → Nat → Int64)) (t : State) => va_P (dC, dI) vwCl (xW h a e cI cJ cO cE L I u J n cap fE sd si sa dl) t.heap ∧ va_D (va_A (xW h a e cI cJ cO cE L I M J n cap fE sd si sa dl) sz) (xW h a e cI cJ cO cE L I u J n cap fE sd si sa dl)) (va_A (xW h a e cI cJ cO cE L I M J n cap fE sd si sa dl) sz)) 0 0 (va_A (xW h a e cI cJ cO cE L I M J n cap fE sd si sa dl) sz) := by
  have hn : n ≤ 40 := hX0.1.1
  have hX := hX0
  have hUM : ∀ j9 : Nat, j9 ∉ ([0, 1, 2, 3, 4, 5, 6, 7] : List Nat) → M j9 = M j9 := fun _ _ => rfl
  refine Met.ofW (cc := cX5_write) (maxL := 5) (ret := none) (by decide) rfl ?_
  intro p e9 s m args below meth c s₁ B hml hv
  obtain ⟨rfl, hsz, hP, hK, hD0, hN⟩ := hv
  have hx := B.exec
  have hb := B.bytes
  have hr := B.returns
  have hts := atoms_spec (ws := wq_x_write1) B.pre
  have hown : s.vm.findClass RX5 = some m.cls := findClass_of_methodNamed B.named
  have hlocks := B.notSynchronized
  subst hsz
  have hD := hD0.self (sz := s.heap.size)
  generalize hAe : va_A (xW h a e cI cJ cO cE L I M J n cap fE sd si sa dl) s.heap.size = A at hD ⊢
  have hA : ∀ q : Nat, s.heap.size ≤ q → A q := fun q h => by rw [← hAe]; exact Or.inr h
  have hS : va_S A s.heap s.heap [] := va_S.rf
  have hl := lv_entry ([.ref (a 1), .int (nI ov), .int (nI av), .int (nI bv), .int 1]) (n := 5) (Nat.le_of_ble_eq_true rfl)
  rw [lg_entry_eq]
  generalize (lg_sl ([.ref (a 1), .int (nI ov), .int (nI av), .int (nI bv), .int 1]) ++ List.replicate (5 - (lg_sl ([.ref (a 1), .int (nI ov), .int (nI av), .int (nI bv), .int 1])).length) Slot.unset).toArray = ls at hl ⊢
  have hl : lv_has ls 5 [(0, .ref (a 1)), (1, .int (nI ov)), (2, .int (nI av)), (3, .int (nI bv)), (4, .int 1)] := hl
  refine lv_aload_n hx hb dX5_write_0 rfl (lv_at hl 0 rfl) ?_
  refine lv_iload_n hx hb dX5_write_1 rfl (lv_at hl 1 rfl) ?_
  refine lv_iload_n hx hb dX5_write_2 rfl (lv_at hl 2 rfl) ?_
  refine lv_iload_n hx hb dX5_write_3 rfl (lv_at hl 3 rfl) ?_
  refine lv_iload hx hb dX5_write_4 (lv_at hl 4 rfl) ?_
  have hFc := mw_free hD hS hA
  refine va_callv (va_runV (As := [.int (nI ov), .int (nI av), .int (nI bv), .int 1]) (rest := []) ⟨hx, hb, hml, hown, hts⟩ (c_x_wow1 l dC dI h a e cI cJ cO cE L I M J n cap fE sd si sa dl (b) ov av bv s.heap.size hX (by omega) (by omega) (by omega) (by omega)) (cwV 4 hts wc_x_write1_x_wow1_31 rfl rfl rfl (by decide +kernel) ⟨Nat.le_of_ble_eq_true rfl, Nat.le_of_ble_eq_true rfl⟩) ⟨fun a9 U g mk q => by obtain ⟨q0, q1, qP, qK, qD, qN⟩ := q; exact ⟨q0, q1, qP, va_K.moved (u := U) (U := U.calling g mk a9) (Vm.Alike.refl U.vm) qK, qD, pw_N.same (u := U) (U := U.calling g mk a9) rfl qN⟩, va_recv hK hP (ci := 6) (q0 := 2) rfl rfl, fun U hU hW => ⟨rfl, by rw [hU], by rw [hU]; exact hP, va_K.moved hW.alike hK, hD.weaken (fun _ _ _ _ => trivial), pw_N.warm hW hN⟩⟩ rfl rfl hl.1 rfl (lv_room (Nat.le_of_ble_eq_true rfl)) dX5_write_6 ⟨Nat.le_of_ble_eq_true rfl, Nat.le_of_ble_eq_true rfl⟩) hS (fun q _ h => hFc q h) hFc (fun u t H1 locs ht hvm hw hB hz1 hk1 hS => ?_)
  obtain ⟨M2, rfl⟩ : ∃ z9, z9 = u := ⟨_, rfl⟩
  replace hP := hB.1
  rw [ht] at hP
  replace hD : va_D A (xW h a e cI cJ cO cE L I M2 J n cap fE sd si sa dl) := hB.2.weaken (fun _ q _ h9 => hFc q.1 h9)
  clear hB
  generalize H1 = H at hP hS ⊢
  replace hP : va_P (dC, dI) vwCl (xW h a e cI cJ cO cE L I M2 J n cap fE sd si sa dl) H := hP
  obtain ⟨hwX, whUM, hw⟩ := hw
  replace hX : InvX n cap fE sd dl (b) I J si := hwX
  replace hUM : ∀ j9 : Nat, j9 ∉ ([0, 1, 2, 3, 4, 5, 6, 7] : List Nat) → M2 j9 = M j9 := mw_tr (by decide) whUM hUM
  refine lv_iload_n hx hb dX5_write_9 rfl (lv_at hl 1 rfl) ?_
  refine lv_iconst (v := 3) hx hb dX5_write_10 (by decide) ?_
  refine lv_icmp_ne (tgt := 23) hx hb dX5_write_11 (by decide) (fun c3 => ?_) (fun c3 => ?_)
  · replace c3 : ¬ (ov = 3) := fun q9 => c3 ((nI_eq (a := ov) (b := 3) (by omega) (by omega)).mpr q9)
    exact W.vret hx hb hr (fun t ht hW => ⟨⟨M2, rfl, ⟨hX.mono (by omega), hUM, trivial⟩, by rw [ht]; exact hP, hD⟩, hS.F ht⟩) hS.2.2 dX5_write_23
  · replace c3 : ov = 3 := (nI_eq (a := ov) (b := 3) (by omega) (by omega)).mp c3
    refine lv_aload_n hx hb dX5_write_14 rfl (lv_at hl 0 rfl) ?_
    refine lv_iload_n hx hb dX5_write_15 rfl (lv_at hl 1 rfl) ?_
    refine lv_iload_n hx hb dX5_write_16 rfl (lv_at hl 3 rfl) ?_
    refine lv_iload_n hx hb dX5_write_17 rfl (lv_at hl 2 rfl) ?_
    refine lv_iload hx hb dX5_write_18 (lv_at hl 4 rfl) ?_
    have hFc := mw_free hD hS hA
    refine va_callv (va_runV (As := [.int (nI ov), .int (nI bv), .int (nI av), .int 1]) (rest := []) ⟨hx, hb, hml, hown, hts⟩ (c_x_wow1 l dC dI h a e cI cJ cO cE L I M2 J n cap fE sd si sa dl (b) ov bv av H.size hX (by omega) (by omega) (by omega) (by omega)) (cwV 4 hts wc_x_write1_x_wow1_31 rfl rfl rfl (by decide +kernel) ⟨Nat.le_of_ble_eq_true rfl, Nat.le_of_ble_eq_true rfl⟩) ⟨fun a9 U g mk q => by obtain ⟨q0, q1, qP, qK, qD, qN⟩ := q; exact ⟨q0, q1, qP, va_K.moved (u := U) (U := U.calling g mk a9) (Vm.Alike.refl U.vm) qK, qD, pw_N.same (u := U) (U := U.calling g mk a9) rfl qN⟩, va_recv hK hP (ci := 6) (q0 := 2) rfl rfl, fun U hU hW => ⟨rfl, by rw [hU], by rw [hU]; exact hP, va_K.moved hW.alike hK, hD.weaken (fun _ _ _ _ => trivial), pw_N.warm hW hN⟩⟩ rfl rfl hl.1 rfl (lv_room (Nat.le_of_ble_eq_true rfl)) dX5_write_20 ⟨Nat.le_of_ble_eq_true rfl, Nat.le_of_ble_eq_true rfl⟩) hS (fun q _ h => hFc q h) hFc (fun u t H1 locs ht hvm hw hB hz1 hk1 hS => ?_)
    obtain ⟨M5, rfl⟩ : ∃ z9, z9 = u := ⟨_, rfl⟩
    replace hP := hB.1
    rw [ht] at hP
    replace hD : va_D A (xW h a e cI cJ cO cE L I M5 J n cap fE sd si sa dl) := hB.2.weaken (fun _ q _ h9 => hFc q.1 h9)
    clear hB
    generalize H1 = H at hP hS ⊢
    replace hP : va_P (dC, dI) vwCl (xW h a e cI cJ cO cE L I M5 J n cap fE sd si sa dl) H := hP
    obtain ⟨hwX, whUM, hw⟩ := hw
    replace hX : InvX n cap fE sd dl (b) I J si := hwX
    replace hUM : ∀ j9 : Nat, j9 ∉ ([0, 1, 2, 3, 4, 5, 6, 7] : List Nat) → M5 j9 = M j9 := mw_tr (by decide) whUM hUM
    exact W.vret hx hb hr (fun t ht hW => ⟨⟨M5, rfl, ⟨hX.mono (by omega), hUM, trivial⟩, by rw [ht]; exact hP, hD⟩, hS.F ht⟩) hS.2.2 dX5_write_23
def wq_x_write0 : List Cond := [.code yX5_write cX5_write 5 none, .methodLink RX5 31 yX5_writeOneWay, .instanceMethod yX5_writeOneWay, .selects RX5 yX5_writeOneWay yX5_writeOneWay, .initialized RX5] ++ (wq_x_wow0)
set_option maxRecDepth 20000 in
theorem wi_x_write0 : ∀ w ∈ wq_x_write0, w ∈ lw_tbl := List.forall_mem_append.mpr ⟨(by decide +kernel), wi_x_wow0⟩
set_option maxRecDepth 20000 in
theorem wg_x_write0 : GoodIn wq_x_write0 wq_x_write0 := goodIn_sub (fun _ h => h) (by decide +kernel)
set_option maxRecDepth 20000 in
theorem wc_x_write0_x_wow0_31 : GoodIn wq_x_write0 (wsV RX5 31 RX5 yX5_writeOneWay wq_x_wow0) := goodIn_app (goodIn_of _ (by decide +kernel)) (fun w h => ⟨List.mem_append_right _ (h), (wg_x_wow0 w h).2⟩)
def rm_x_write0 : Room := { frames := 2, cells := 0, slots := 0, locals := 44 }
set_option maxHeartbeats 4000000 in
set_option maxRecDepth 100000 in
theorem c_x_write0 (l : Launch) (dC : Nat → ClassId) (dI : Nat → Nat → Nat) (h : Nat) (a : Nat → Nat) (e : Nat) (cI cJ cO cE : ClassId) (L : Nat → Int64) (I : Nat → Int32) (M : Nat → Nat → Int64) (J : Nat → Nat → Int32) (n cap : Nat) (fE : Nat → Option Nat) (sd : Nat → Nat → Nat) (si : Nat → Nat → Int32) (sa : Nat → Nat → Nat → Int32) (dl : Nat → Nat) (b : Nat) (ov : Nat) (av : Nat) (bv : Nat) (sz : Nat) (hX0 : InvX n cap fE sd dl b I J si) (hb0 : b + 0 < 2147483648) (hp0 : ov < 4) (hp1 : av < 40) (hp2 : bv < 40) : Met l yX5_write wq_x_write0 rm_x_write0 (va_Pc [.ref (a 1), .int (nI ov), .int (nI av), .int (nI bv), .int 0] (fun U => U.heap.size = sz ∧ va_P (dC, dI) vwCl (xW h a e cI cJ cO cE L I M J n cap fE sd si sa dl) U.heap ∧ va_K (dC, dI) vwCl (xT cI cJ cO cE) U ∧ va_D (fun _ => True) (xW h a e cI cJ cO cE L I M J n cap fE sd si sa dl) ∧ pw_N U)) (va_Qv (fun (u : (Nat → Nat → Int64)) => InvX n cap fE sd dl (b + 0) I J si ∧ (∀ j9 : Nat, j9 ∉ ([0, 1, 2, 3, 4, 5, 6, 7] : List Nat) → u j9 = M j9) ∧ (True)) (fun (u : (Nat → Nat → Int64)) (t : State) => va_P (dC, dI) vwCl (xW h a e cI cJ cO cE L I u J n cap fE sd si sa dl) t.heap ∧ va_D (va_A (xW h a e cI cJ cO cE L I M J n cap fE sd si sa dl) sz) (xW h a e cI cJ cO cE L I u J n cap fE sd si sa dl)) (va_A (xW h a e cI cJ cO cE L I M J n cap fE sd si sa dl) sz)) 0 0 (va_A (xW h a e cI cJ cO cE L I M J n cap fE sd si sa dl) sz) := by
  have hn : n ≤ 40 := hX0.1.1
  have hX := hX0
  have hUM : ∀ j9 : Nat, j9 ∉ ([0, 1, 2, 3, 4, 5, 6, 7] : List Nat) → M j9 = M j9 := fun _ _ => rfl
  refine Met.ofW (cc := cX5_write) (maxL := 5) (ret := none) (by decide) rfl ?_
  intro p e9 s m args below meth c s₁ B hml hv
  obtain ⟨rfl, hsz, hP, hK, hD0, hN⟩ := hv
  have hx := B.exec
  have hb := B.bytes
  have hr := B.returns
  have hts := atoms_spec (ws := wq_x_write0) B.pre
  have hown : s.vm.findClass RX5 = some m.cls := findClass_of_methodNamed B.named
  have hlocks := B.notSynchronized
  subst hsz
  have hD := hD0.self (sz := s.heap.size)
  generalize hAe : va_A (xW h a e cI cJ cO cE L I M J n cap fE sd si sa dl) s.heap.size = A at hD ⊢
  have hA : ∀ q : Nat, s.heap.size ≤ q → A q := fun q h => by rw [← hAe]; exact Or.inr h
  have hS : va_S A s.heap s.heap [] := va_S.rf
  have hl := lv_entry ([.ref (a 1), .int (nI ov), .int (nI av), .int (nI bv), .int 0]) (n := 5) (Nat.le_of_ble_eq_true rfl)
  rw [lg_entry_eq]
  generalize (lg_sl ([.ref (a 1), .int (nI ov), .int (nI av), .int (nI bv), .int 0]) ++ List.replicate (5 - (lg_sl ([.ref (a 1), .int (nI ov), .int (nI av), .int (nI bv), .int 0])).length) Slot.unset).toArray = ls at hl ⊢
  have hl : lv_has ls 5 [(0, .ref (a 1)), (1, .int (nI ov)), (2, .int (nI av)), (3, .int (nI bv)), (4, .int 0)] := hl
  refine lv_aload_n hx hb dX5_write_0 rfl (lv_at hl 0 rfl) ?_
  refine lv_iload_n hx hb dX5_write_1 rfl (lv_at hl 1 rfl) ?_
  refine lv_iload_n hx hb dX5_write_2 rfl (lv_at hl 2 rfl) ?_
  refine lv_iload_n hx hb dX5_write_3 rfl (lv_at hl 3 rfl) ?_
  refine lv_iload hx hb dX5_write_4 (lv_at hl 4 rfl) ?_
  have hFc := mw_free hD hS hA
  refine va_callv (va_runV (As := [.int (nI ov), .int (nI av), .int (nI bv), .int 0]) (rest := []) ⟨hx, hb, hml, hown, hts⟩ (c_x_wow0 l dC dI h a e cI cJ cO cE L I M J n cap fE sd si sa dl (b) ov av bv s.heap.size hX (by omega) (by omega) (by omega) (by omega)) (cwV 4 hts wc_x_write0_x_wow0_31 rfl rfl rfl (by decide +kernel) ⟨Nat.le_of_ble_eq_true rfl, Nat.le_of_ble_eq_true rfl⟩) ⟨fun a9 U g mk q => by obtain ⟨q0, q1, qP, qK, qD, qN⟩ := q; exact ⟨q0, q1, qP, va_K.moved (u := U) (U := U.calling g mk a9) (Vm.Alike.refl U.vm) qK, qD, pw_N.same (u := U) (U := U.calling g mk a9) rfl qN⟩, va_recv hK hP (ci := 6) (q0 := 2) rfl rfl, fun U hU hW => ⟨rfl, by rw [hU], by rw [hU]; exact hP, va_K.moved hW.alike hK, hD.weaken (fun _ _ _ _ => trivial), pw_N.warm hW hN⟩⟩ rfl rfl hl.1 rfl (lv_room (Nat.le_of_ble_eq_true rfl)) dX5_write_6 ⟨Nat.le_of_ble_eq_true rfl, Nat.le_of_ble_eq_true rfl⟩) hS (fun q _ h => hFc q h) hFc (fun u t H1 locs ht hvm hw hB hz1 hk1 hS => ?_)
  obtain ⟨M2, rfl⟩ : ∃ z9, z9 = u := ⟨_, rfl⟩
  replace hP := hB.1
  rw [ht] at hP
  replace hD : va_D A (xW h a e cI cJ cO cE L I M2 J n cap fE sd si sa dl) := hB.2.weaken (fun _ q _ h9 => hFc q.1 h9)
  clear hB
  generalize H1 = H at hP hS ⊢
  replace hP : va_P (dC, dI) vwCl (xW h a e cI cJ cO cE L I M2 J n cap fE sd si sa dl) H := hP
  obtain ⟨hwX, whUM, hw⟩ := hw
  replace hX : InvX n cap fE sd dl (b) I J si := hwX
  replace hUM : ∀ j9 : Nat, j9 ∉ ([0, 1, 2, 3, 4, 5, 6, 7] : List Nat) → M2 j9 = M j9 := mw_tr (by decide) whUM hUM
  refine lv_iload_n hx hb dX5_write_9 rfl (lv_at hl 1 rfl) ?_
  refine lv_iconst (v := 3) hx hb dX5_write_10 (by decide) ?_
  refine lv_icmp_ne (tgt := 23) hx hb dX5_write_11 (by decide) (fun c3 => ?_) (fun c3 => ?_)
  · replace c3 : ¬ (ov = 3) := fun q9 => c3 ((nI_eq (a := ov) (b := 3) (by omega) (by omega)).mpr q9)
    exact W.vret hx hb hr (fun t ht hW => ⟨⟨M2, rfl, ⟨hX.mono (by omega), hUM, trivial⟩, by rw [ht]; exact hP, hD⟩, hS.F ht⟩) hS.2.2 dX5_write_23
  · replace c3 : ov = 3 := (nI_eq (a := ov) (b := 3) (by omega) (by omega)).mp c3
    refine lv_aload_n hx hb dX5_write_14 rfl (lv_at hl 0 rfl) ?_
    refine lv_iload_n hx hb dX5_write_15 rfl (lv_at hl 1 rfl) ?_
    refine lv_iload_n hx hb dX5_write_16 rfl (lv_at hl 3 rfl) ?_
    refine lv_iload_n hx hb dX5_write_17 rfl (lv_at hl 2 rfl) ?_
    refine lv_iload hx hb dX5_write_18 (lv_at hl 4 rfl) ?_
    have hFc := mw_free hD hS hA
    refine va_callv (va_runV (As := [.int (nI ov), .int (nI bv), .int (nI av), .int 0]) (rest := []) ⟨hx, hb, hml, hown, hts⟩ (c_x_wow0 l dC dI h a e cI cJ cO cE L I M2 J n cap fE sd si sa dl (b) ov bv av H.size hX (by omega) (by omega) (by omega) (by omega)) (cwV 4 hts wc_x_write0_x_wow0_31 rfl rfl rfl (by decide +kernel) ⟨Nat.le_of_ble_eq_true rfl, Nat.le_of_ble_eq_true rfl⟩) ⟨fun a9 U g mk q => by obtain ⟨q0, q1, qP, qK, qD, qN⟩ := q; exact ⟨q0, q1, qP, va_K.moved (u := U) (U := U.calling g mk a9) (Vm.Alike.refl U.vm) qK, qD, pw_N.same (u := U) (U := U.calling g mk a9) rfl qN⟩, va_recv hK hP (ci := 6) (q0 := 2) rfl rfl, fun U hU hW => ⟨rfl, by rw [hU], by rw [hU]; exact hP, va_K.moved hW.alike hK, hD.weaken (fun _ _ _ _ => trivial), pw_N.warm hW hN⟩⟩ rfl rfl hl.1 rfl (lv_room (Nat.le_of_ble_eq_true rfl)) dX5_write_20 ⟨Nat.le_of_ble_eq_true rfl, Nat.le_of_ble_eq_true rfl⟩) hS (fun q _ h => hFc q h) hFc (fun u t H1 locs ht hvm hw hB hz1 hk1 hS => ?_)
    obtain ⟨M5, rfl⟩ : ∃ z9, z9 = u := ⟨_, rfl⟩
    replace hP := hB.1
    rw [ht] at hP
    replace hD : va_D A (xW h a e cI cJ cO cE L I M5 J n cap fE sd si sa dl) := hB.2.weaken (fun _ q _ h9 => hFc q.1 h9)
    clear hB
    generalize H1 = H at hP hS ⊢
    replace hP : va_P (dC, dI) vwCl (xW h a e cI cJ cO cE L I M5 J n cap fE sd si sa dl) H := hP
    obtain ⟨hwX, whUM, hw⟩ := hw
    replace hX : InvX n cap fE sd dl (b) I J si := hwX
    replace hUM : ∀ j9 : Nat, j9 ∉ ([0, 1, 2, 3, 4, 5, 6, 7] : List Nat) → M5 j9 = M j9 := mw_tr (by decide) whUM hUM
    exact W.vret hx hb hr (fun t ht hW => ⟨⟨M5, rfl, ⟨hX.mono (by omega), hUM, trivial⟩, by rw [ht]; exact hP, hD⟩, hS.F ht⟩) hS.2.2 dX5_write_23
def wq_x_radd : List Cond := [.code yX5_add cX5_add 4 none, .fieldLink RX5 27 "ServiceTree$Relations" "size" "I", .methodLink RX5 23 yX5_write, .instanceMethod yX5_write, .selects RX5 yX5_write yX5_write, .initialized RX5] ++ (wsX50 ++ (wq_x_write1))
theorem in_x_radd_X5 : ∀ w ∈ wsX50, w ∈ wq_x_radd := fun _ h => List.mem_append_right _ (List.mem_append_left _ (h))
set_option maxRecDepth 20000 in
theorem wi_x_radd : ∀ w ∈ wq_x_radd, w ∈ lw_tbl := List.forall_mem_append.mpr ⟨(by decide +kernel), List.forall_mem_append.mpr ⟨inKX5, wi_x_write1⟩⟩
set_option maxRecDepth 20000 in
theorem wg_x_radd : GoodIn wq_x_radd wq_x_radd := goodIn_sub (fun _ h => h) (by decide +kernel)
set_option maxRecDepth 20000 in
theorem wc_x_radd_x_write1_23 : GoodIn wq_x_radd (wsV RX5 23 RX5 yX5_write wq_x_write1) := goodIn_app (goodIn_of _ (by decide +kernel)) (fun w h => ⟨List.mem_append_right _ (List.mem_append_right _ (h)), (wg_x_write1 w h).2⟩)
def rm_x_radd : Room := { frames := 3, cells := 0, slots := 0, locals := 68 }
set_option maxHeartbeats 4000000 in
set_option maxRecDepth 100000 in
theorem c_x_radd (l : Launch) (dC : Nat → ClassId) (dI : Nat → Nat → Nat) (h : Nat) (a : Nat → Nat) (e : Nat) (cI cJ cO cE : ClassId) (L : Nat → Int64) (I : Nat → Int32) (M : Nat → Nat → Int64) (J : Nat → Nat → Int32) (n cap : Nat) (fE : Nat → Option Nat) (sd : Nat → Nat → Nat) (si : Nat → Nat → Int32) (sa : Nat → Nat → Nat → Int32) (dl : Nat → Nat) (b : Nat) (ov : Nat) (av : Nat) (bv : Nat) (sz : Nat) (hX0 : InvX n cap fE sd dl b I J si) (hb0 : b + 0 < 2147483648) (hp0 : ov < 4) (hp1 : av < 40) (hp2 : bv < 40) : Met l yX5_add wq_x_radd rm_x_radd (va_Pc [.ref (a 1), .int (nI ov), .int (nI av), .int (nI bv)] (fun U => U.heap.size = sz ∧ va_P (dC, dI) vwCl (xW h a e cI cJ cO cE L I M J n cap fE sd si sa dl) U.heap ∧ va_K (dC, dI) vwCl (xT cI cJ cO cE) U ∧ va_D (fun _ => True) (xW h a e cI cJ cO cE L I M J n cap fE sd si sa dl) ∧ pw_N U)) (va_Qv (fun (u : (Nat → Int32) × (Nat → Nat → Int64)) => InvX n cap fE sd dl (b + 0) u.1 J si ∧ (∀ j9 : Nat, j9 ∉ ([7] : List Nat) → u.1 j9 = I j9) ∧ (∀ j9 : Nat, j9 ∉ ([0, 1, 2, 3, 4, 5, 6, 7] : List Nat) → u.2 j9 = M j9) ∧ (True)) (fun (u : (Nat → Int32) × (Nat → Nat → Int64)) (t : State) => va_P (dC, dI) vwCl (xW h a e cI cJ cO cE L u.1 u.2 J n cap fE sd si sa dl) t.heap ∧ va_D (va_A (xW h a e cI cJ cO cE L I M J n cap fE sd si sa dl) sz) (xW h a e cI cJ cO cE L u.1 u.2 J n cap fE sd si sa dl)) (va_A (xW h a e cI cJ cO cE L I M J n cap fE sd si sa dl) sz)) 0 0 (va_A (xW h a e cI cJ cO cE L I M J n cap fE sd si sa dl) sz) := by
  have hn : n ≤ 40 := hX0.1.1
  have hX := hX0
  have hUI : ∀ j9 : Nat, j9 ∉ ([7] : List Nat) → I j9 = I j9 := fun _ _ => rfl
  have hUM : ∀ j9 : Nat, j9 ∉ ([0, 1, 2, 3, 4, 5, 6, 7] : List Nat) → M j9 = M j9 := fun _ _ => rfl
  refine Met.ofW (cc := cX5_add) (maxL := 4) (ret := none) (by decide) rfl ?_
  intro p e9 s m args below meth c s₁ B hml hv
  obtain ⟨rfl, hsz, hP, hK, hD0, hN⟩ := hv
  have hx := B.exec
  have hb := B.bytes
  have hr := B.returns
  have hts := atoms_spec (ws := wq_x_radd) B.pre
  have hown : s.vm.findClass RX5 = some m.cls := findClass_of_methodNamed B.named
  have hlocks := B.notSynchronized
  subst hsz
  have hD := hD0.self (sz := s.heap.size)
  generalize hAe : va_A (xW h a e cI cJ cO cE L I M J n cap fE sd si sa dl) s.heap.size = A at hD ⊢
  have hA : ∀ q : Nat, s.heap.size ≤ q → A q := fun q h => by rw [← hAe]; exact Or.inr h
  have hS : va_S A s.heap s.heap [] := va_S.rf
  have hl := lv_entry ([.ref (a 1), .int (nI ov), .int (nI av), .int (nI bv)]) (n := 4) (Nat.le_of_ble_eq_true rfl)
  rw [lg_entry_eq]
  generalize (lg_sl ([.ref (a 1), .int (nI ov), .int (nI av), .int (nI bv)]) ++ List.replicate (4 - (lg_sl ([.ref (a 1), .int (nI ov), .int (nI av), .int (nI bv)])).length) Slot.unset).toArray = ls at hl ⊢
  have hl : lv_has ls 4 [(0, .ref (a 1)), (1, .int (nI ov)), (2, .int (nI av)), (3, .int (nI bv))] := hl
  refine lv_aload_n hx hb dX5_add_0 rfl (lv_at hl 0 rfl) ?_
  refine lv_iload_n hx hb dX5_add_1 rfl (lv_at hl 1 rfl) ?_
  refine lv_iload_n hx hb dX5_add_2 rfl (lv_at hl 2 rfl) ?_
  refine lv_iload_n hx hb dX5_add_3 rfl (lv_at hl 3 rfl) ?_
  refine lv_iconst (v := 1) hx hb dX5_add_4 (by decide) ?_
  have hFc := mw_free hD hS hA
  refine va_callv (va_runV (As := [.int (nI ov), .int (nI av), .int (nI bv), .int 1]) (rest := []) ⟨hx, hb, hml, hown, hts⟩ (c_x_write1 l dC dI h a e cI cJ cO cE L I M J n cap fE sd si sa dl (b) ov av bv s.heap.size hX (by omega) (by omega) (by omega) (by omega)) (cwV 4 hts wc_x_radd_x_write1_23 rfl rfl rfl (by decide +kernel) ⟨Nat.le_of_ble_eq_true rfl, Nat.le_of_ble_eq_true rfl⟩) ⟨fun a9 U g mk q => by obtain ⟨q0, q1, qP, qK, qD, qN⟩ := q; exact ⟨q0, q1, qP, va_K.moved (u := U) (U := U.calling g mk a9) (Vm.Alike.refl U.vm) qK, qD, pw_N.same (u := U) (U := U.calling g mk a9) rfl qN⟩, va_recv hK hP (ci := 6) (q0 := 2) rfl rfl, fun U hU hW => ⟨rfl, by rw [hU], by rw [hU]; exact hP, va_K.moved hW.alike hK, hD.weaken (fun _ _ _ _ => trivial), pw_N.warm hW hN⟩⟩ rfl rfl hl.1 rfl (lv_room (Nat.le_of_ble_eq_true rfl)) dX5_add_5 ⟨Nat.le_of_ble_eq_true rfl, Nat.le_of_ble_eq_true rfl⟩) hS (fun q _ h => hFc q h) hFc (fun u t H1 locs ht hvm hw hB hz1 hk1 hS => ?_)
  obtain ⟨M2, rfl⟩ : ∃ z9, z9 = u := ⟨_, rfl⟩
  replace hP := hB.1
  rw [ht] at hP
  replace hD : va_D A (xW h a e cI cJ cO cE L I M2 J n cap fE sd si sa dl) := hB.2.weaken (fun _ q _ h9 => hFc q.1 h9)
  clear hB
  generalize H1 = H at hP hS ⊢
  replace hP : va_P (dC, dI) vwCl (xW h a e cI cJ cO cE L I M2 J n cap fE sd si sa dl) H := hP
  obtain ⟨hwX, whUM, hw⟩ := hw
  replace hX : InvX n cap fE sd dl (b) I J si := hwX
  replace hUM : ∀ j9 : Nat, j9 ∉ ([0, 1, 2, 3, 4, 5, 6, 7] : List Nat) → M2 j9 = M j9 := mw_tr (by decide) whUM hUM
  refine lv_aload_n hx hb dX5_add_8 rfl (lv_at hl 0 rfl) ?_
  refine lv_dup hx hb dX5_add_9 rfl ?_
  refine va_get (D := (dC, dI)) (ci := 6) (v := .int (I 7)) (C := RX5) (T := TX5) (N := 3) hx hb hts in_x_radd_X5 hown hK hP 2 rfl rfl 2 (by decide) (hts (.fieldLink RX5 27 "ServiceTree$Relations" "size" "I") (by decide +kernel)) (fun _ h9 => h9) rfl dX5_add_10 ?_
  refine lv_topi (fun x3 ex3 => ?_)
  refine lv_iconst (v := 1) hx hb dX5_add_13 (by decide) ?_
  refine lv_iadd hx hb dX5_add_14 ?_
  refine lv_topi (fun x4 ex4 => ?_)
  refine va_put (D := (dC, dI)) (ci := 6) (fs := [.ref (a 10), .ref (a 11), .int (I 7)]) (v := .int x4) (ty := .int) (C := RX5) (T := TX5) (N := 3) hx hb hts in_x_radd_X5 tyX5 tyX5_ok nmX5 hown hK hP hD hS 2 rfl rfl 2 (by decide) (hts (.fieldLink RX5 27 "ServiceTree$Relations" "size" "I") (by decide +kernel)) (fun _ h9 => h9) rfl (by decide +kernel) rfl rfl (Nat.le_of_ble_eq_true rfl) dX5_add_15 (fun H locs hP hD hS => ?_)
  replace hP : va_P (dC, dI) vwCl ((xW h a e cI cJ cO cE L I M2 J n cap fE sd si sa dl).set 2 (a 1, .inr (6, [.ref (a 10), .ref (a 11), .int x4]))) H := hP
  replace hD : va_D A ((xW h a e cI cJ cO cE L I M2 J n cap fE sd si sa dl).set 2 (a 1, .inr (6, [.ref (a 10), .ref (a 11), .int x4]))) := hD
  rw [xF_I7] at hP hD
  obtain ⟨I5, eI5⟩ : ∃ f9 : Nat → Int32, f9 = va_up I 7 x4 := ⟨_, rfl⟩
  rw [← eI5] at hP hD
  replace hX : InvX n cap fE sd dl (b) I5 J si := by rw [eI5]; exact hX.setI (by decide)
  replace hUI : ∀ j9 : Nat, j9 ∉ ([7] : List Nat) → I5 j9 = I j9 := by rw [eI5]; exact mw_up (by decide) hUI
  exact W.vret hx hb hr (fun t ht hW => ⟨⟨(I5, M2), rfl, ⟨hX.mono (by omega), hUI, hUM, trivial⟩, by rw [ht]; exact hP, hD⟩, hS.F ht⟩) hS.2.2 dX5_add_18
def wq_x_rremove : List Cond := [.code yX5_remove cX5_remove 4 none, .fieldLink RX5 27 "ServiceTree$Relations" "size" "I", .methodLink RX5 23 yX5_write, .instanceMethod yX5_write, .selects RX5 yX5_write yX5_write, .initialized RX5] ++ (wsX50 ++ (wq_x_write0))
theorem in_x_rremove_X5 : ∀ w ∈ wsX50, w ∈ wq_x_rremove := fun _ h => List.mem_append_right _ (List.mem_append_left _ (h))
set_option maxRecDepth 20000 in
theorem wi_x_rremove : ∀ w ∈ wq_x_rremove, w ∈ lw_tbl := List.forall_mem_append.mpr ⟨(by decide +kernel), List.forall_mem_append.mpr ⟨inKX5, wi_x_write0⟩⟩
set_option maxRecDepth 20000 in
theorem wg_x_rremove : GoodIn wq_x_rremove wq_x_rremove := goodIn_sub (fun _ h => h) (by decide +kernel)
set_option maxRecDepth 20000 in
theorem wc_x_rremove_x_write0_23 : GoodIn wq_x_rremove (wsV RX5 23 RX5 yX5_write wq_x_write0) := goodIn_app (goodIn_of _ (by decide +kernel)) (fun w h => ⟨List.mem_append_right _ (List.mem_append_right _ (h)), (wg_x_write0 w h).2⟩)
def rm_x_rremove : Room := { frames := 3, cells := 0, slots := 0, locals := 68 }
set_option maxHeartbeats 4000000 in
set_option maxRecDepth 100000 in
theorem c_x_rremove (l : Launch) (dC : Nat → ClassId) (dI : Nat → Nat → Nat) (h : Nat) (a : Nat → Nat) (e : Nat) (cI cJ cO cE : ClassId) (L : Nat → Int64) (I : Nat → Int32) (M : Nat → Nat → Int64) (J : Nat → Nat → Int32) (n cap : Nat) (fE : Nat → Option Nat) (sd : Nat → Nat → Nat) (si : Nat → Nat → Int32) (sa : Nat → Nat → Nat → Int32) (dl : Nat → Nat) (b : Nat) (ov : Nat) (av : Nat) (bv : Nat) (sz : Nat) (hX0 : InvX n cap fE sd dl b I J si) (hb0 : b + 0 < 2147483648) (hp0 : ov < 4) (hp1 : av < 40) (hp2 : bv < 40) : Met l yX5_remove wq_x_rremove rm_x_rremove (va_Pc [.ref (a 1), .int (nI ov), .int (nI av), .int (nI bv)] (fun U => U.heap.size = sz ∧ va_P (dC, dI) vwCl (xW h a e cI cJ cO cE L I M J n cap fE sd si sa dl) U.heap ∧ va_K (dC, dI) vwCl (xT cI cJ cO cE) U ∧ va_D (fun _ => True) (xW h a e cI cJ cO cE L I M J n cap fE sd si sa dl) ∧ pw_N U)) (va_Qv (fun (u : (Nat → Int32) × (Nat → Nat → Int64)) => InvX n cap fE sd dl (b + 0) u.1 J si ∧ (∀ j9 : Nat, j9 ∉ ([7] : List Nat) → u.1 j9 = I j9) ∧ (∀ j9 : Nat, j9 ∉ ([0, 1, 2, 3, 4, 5, 6, 7] : List Nat) → u.2 j9 = M j9) ∧ (True)) (fun (u : (Nat → Int32) × (Nat → Nat → Int64)) (t : State) => va_P (dC, dI) vwCl (xW h a e cI cJ cO cE L u.1 u.2 J n cap fE sd si sa dl) t.heap ∧ va_D (va_A (xW h a e cI cJ cO cE L I M J n cap fE sd si sa dl) sz) (xW h a e cI cJ cO cE L u.1 u.2 J n cap fE sd si sa dl)) (va_A (xW h a e cI cJ cO cE L I M J n cap fE sd si sa dl) sz)) 0 0 (va_A (xW h a e cI cJ cO cE L I M J n cap fE sd si sa dl) sz) := by
  have hn : n ≤ 40 := hX0.1.1
  have hX := hX0
  have hUI : ∀ j9 : Nat, j9 ∉ ([7] : List Nat) → I j9 = I j9 := fun _ _ => rfl
  have hUM : ∀ j9 : Nat, j9 ∉ ([0, 1, 2, 3, 4, 5, 6, 7] : List Nat) → M j9 = M j9 := fun _ _ => rfl
  refine Met.ofW (cc := cX5_remove) (maxL := 4) (ret := none) (by decide) rfl ?_
  intro p e9 s m args below meth c s₁ B hml hv
  obtain ⟨rfl, hsz, hP, hK, hD0, hN⟩ := hv
  have hx := B.exec
  have hb := B.bytes
  have hr := B.returns
  have hts := atoms_spec (ws := wq_x_rremove) B.pre
  have hown : s.vm.findClass RX5 = some m.cls := findClass_of_methodNamed B.named
  have hlocks := B.notSynchronized
  subst hsz
  have hD := hD0.self (sz := s.heap.size)
  generalize hAe : va_A (xW h a e cI cJ cO cE L I M J n cap fE sd si sa dl) s.heap.size = A at hD ⊢
  have hA : ∀ q : Nat, s.heap.size ≤ q → A q := fun q h => by rw [← hAe]; exact Or.inr h
  have hS : va_S A s.heap s.heap [] := va_S.rf
  have hl := lv_entry ([.ref (a 1), .int (nI ov), .int (nI av), .int (nI bv)]) (n := 4) (Nat.le_of_ble_eq_true rfl)
  rw [lg_entry_eq]
  generalize (lg_sl ([.ref (a 1), .int (nI ov), .int (nI av), .int (nI bv)]) ++ List.replicate (4 - (lg_sl ([.ref (a 1), .int (nI ov), .int (nI av), .int (nI bv)])).length) Slot.unset).toArray = ls at hl ⊢
  have hl : lv_has ls 4 [(0, .ref (a 1)), (1, .int (nI ov)), (2, .int (nI av)), (3, .int (nI bv))] := hl
  refine lv_aload_n hx hb dX5_remove_0 rfl (lv_at hl 0 rfl) ?_
  refine lv_iload_n hx hb dX5_remove_1 rfl (lv_at hl 1 rfl) ?_
  refine lv_iload_n hx hb dX5_remove_2 rfl (lv_at hl 2 rfl) ?_
  refine lv_iload_n hx hb dX5_remove_3 rfl (lv_at hl 3 rfl) ?_
  refine lv_iconst (v := 0) hx hb dX5_remove_4 (by decide) ?_
  have hFc := mw_free hD hS hA
  refine va_callv (va_runV (As := [.int (nI ov), .int (nI av), .int (nI bv), .int 0]) (rest := []) ⟨hx, hb, hml, hown, hts⟩ (c_x_write0 l dC dI h a e cI cJ cO cE L I M J n cap fE sd si sa dl (b) ov av bv s.heap.size hX (by omega) (by omega) (by omega) (by omega)) (cwV 4 hts wc_x_rremove_x_write0_23 rfl rfl rfl (by decide +kernel) ⟨Nat.le_of_ble_eq_true rfl, Nat.le_of_ble_eq_true rfl⟩) ⟨fun a9 U g mk q => by obtain ⟨q0, q1, qP, qK, qD, qN⟩ := q; exact ⟨q0, q1, qP, va_K.moved (u := U) (U := U.calling g mk a9) (Vm.Alike.refl U.vm) qK, qD, pw_N.same (u := U) (U := U.calling g mk a9) rfl qN⟩, va_recv hK hP (ci := 6) (q0 := 2) rfl rfl, fun U hU hW => ⟨rfl, by rw [hU], by rw [hU]; exact hP, va_K.moved hW.alike hK, hD.weaken (fun _ _ _ _ => trivial), pw_N.warm hW hN⟩⟩ rfl rfl hl.1 rfl (lv_room (Nat.le_of_ble_eq_true rfl)) dX5_remove_5 ⟨Nat.le_of_ble_eq_true rfl, Nat.le_of_ble_eq_true rfl⟩) hS (fun q _ h => hFc q h) hFc (fun u t H1 locs ht hvm hw hB hz1 hk1 hS => ?_)
  obtain ⟨M2, rfl⟩ : ∃ z9, z9 = u := ⟨_, rfl⟩
  replace hP := hB.1
  rw [ht] at hP
  replace hD : va_D A (xW h a e cI cJ cO cE L I M2 J n cap fE sd si sa dl) := hB.2.weaken (fun _ q _ h9 => hFc q.1 h9)
  clear hB
  generalize H1 = H at hP hS ⊢
  replace hP : va_P (dC, dI) vwCl (xW h a e cI cJ cO cE L I M2 J n cap fE sd si sa dl) H := hP
  obtain ⟨hwX, whUM, hw⟩ := hw
  replace hX : InvX n cap fE sd dl (b) I J si := hwX
  replace hUM : ∀ j9 : Nat, j9 ∉ ([0, 1, 2, 3, 4, 5, 6, 7] : List Nat) → M2 j9 = M j9 := mw_tr (by decide) whUM hUM
  refine lv_aload_n hx hb dX5_remove_8 rfl (lv_at hl 0 rfl) ?_
  refine lv_dup hx hb dX5_remove_9 rfl ?_
  refine va_get (D := (dC, dI)) (ci := 6) (v := .int (I 7)) (C := RX5) (T := TX5) (N := 3) hx hb hts in_x_rremove_X5 hown hK hP 2 rfl rfl 2 (by decide) (hts (.fieldLink RX5 27 "ServiceTree$Relations" "size" "I") (by decide +kernel)) (fun _ h9 => h9) rfl dX5_remove_10 ?_
  refine lv_topi (fun x3 ex3 => ?_)
  refine lv_iconst (v := 1) hx hb dX5_remove_13 (by decide) ?_
  refine lv_isub hx hb dX5_remove_14 ?_
  refine lv_topi (fun x4 ex4 => ?_)
  refine va_put (D := (dC, dI)) (ci := 6) (fs := [.ref (a 10), .ref (a 11), .int (I 7)]) (v := .int x4) (ty := .int) (C := RX5) (T := TX5) (N := 3) hx hb hts in_x_rremove_X5 tyX5 tyX5_ok nmX5 hown hK hP hD hS 2 rfl rfl 2 (by decide) (hts (.fieldLink RX5 27 "ServiceTree$Relations" "size" "I") (by decide +kernel)) (fun _ h9 => h9) rfl (by decide +kernel) rfl rfl (Nat.le_of_ble_eq_true rfl) dX5_remove_15 (fun H locs hP hD hS => ?_)
  replace hP : va_P (dC, dI) vwCl ((xW h a e cI cJ cO cE L I M2 J n cap fE sd si sa dl).set 2 (a 1, .inr (6, [.ref (a 10), .ref (a 11), .int x4]))) H := hP
  replace hD : va_D A ((xW h a e cI cJ cO cE L I M2 J n cap fE sd si sa dl).set 2 (a 1, .inr (6, [.ref (a 10), .ref (a 11), .int x4]))) := hD
  rw [xF_I7] at hP hD
  obtain ⟨I5, eI5⟩ : ∃ f9 : Nat → Int32, f9 = va_up I 7 x4 := ⟨_, rfl⟩
  rw [← eI5] at hP hD
  replace hX : InvX n cap fE sd dl (b) I5 J si := by rw [eI5]; exact hX.setI (by decide)
  replace hUI : ∀ j9 : Nat, j9 ∉ ([7] : List Nat) → I5 j9 = I j9 := by rw [eI5]; exact mw_up (by decide) hUI
  exact W.vret hx hb hr (fun t ht hW => ⟨⟨(I5, M2), rfl, ⟨hX.mono (by omega), hUI, hUM, trivial⟩, by rw [ht]; exact hP, hD⟩, hS.F ht⟩) hS.2.2 dX5_remove_18
