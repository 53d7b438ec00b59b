theorem dX4_add_0 : decode cX4_add 0 = .ok (.aload_n 0, 1) := by decide +kernel
theorem dX4_add_1 : decode cX4_add 1 = .ok (.getfield 25, 3) := by decide +kernel
theorem dX4_add_4 : decode cX4_add 4 = .ok (.bipush 40, 2) := by decide +kernel
theorem dX4_add_6 : decode cX4_add 6 = .ok (.if_icmp .lt 4, 3) := by decide +kernel
theorem dX4_add_9 : decode cX4_add 9 = .ok (.return_, 1) := by decide +kernel
theorem dX4_add_10 : decode cX4_add 10 = .ok (.aload_n 0, 1) := by decide +kernel
theorem dX4_add_11 : decode cX4_add 11 = .ok (.getfield 15, 3) := by decide +kernel
theorem dX4_add_14 : decode cX4_add 14 = .ok (.iload_n 1, 1) := by decide +kernel
theorem dX4_add_15 : decode cX4_add 15 = .ok (.iload_n 2, 1) := by decide +kernel
theorem dX4_add_16 : decode cX4_add 16 = .ok (.iastore, 1) := by decide +kernel
theorem dX4_add_17 : decode cX4_add 17 = .ok (.aload_n 0, 1) := by decide +kernel
theorem dX4_add_18 : decode cX4_add 18 = .ok (.getfield 18, 3) := by decide +kernel
theorem dX4_add_21 : decode cX4_add 21 = .ok (.iload_n 1, 1) := by decide +kernel
theorem dX4_add_22 : decode cX4_add 22 = .ok (.iload_n 3, 1) := by decide +kernel
theorem dX4_add_23 : decode cX4_add 23 = .ok (.iastore, 1) := by decide +kernel
theorem dX4_add_24 : decode cX4_add 24 = .ok (.aload_n 0, 1) := by decide +kernel
theorem dX4_add_25 : decode cX4_add 25 = .ok (.aload_n 0, 1) := by decide +kernel
theorem dX4_add_26 : decode cX4_add 26 = .ok (.getfield 29, 3) := by decide +kernel
theorem dX4_add_29 : decode cX4_add 29 = .ok (.iload_n 3, 1) := by decide +kernel
theorem dX4_add_30 : decode cX4_add 30 = .ok (.invokestatic 36, 3) := by decide +kernel
theorem dX4_add_33 : decode cX4_add 33 = .ok (.putfield 29, 3) := by decide +kernel
theorem dX4_add_36 : decode cX4_add 36 = .ok (.aload_n 0, 1) := by decide +kernel
theorem dX4_add_37 : decode cX4_add 37 = .ok (.getfield 25, 3) := by decide +kernel
theorem dX4_add_40 : decode cX4_add 40 = .ok (.istore 4, 2) := by decide +kernel
theorem dX4_add_42 : decode cX4_add 42 = .ok (.iload 4, 2) := by decide +kernel
theorem dX4_add_44 : decode cX4_add 44 = .ok (.ifCond .le 42, 3) := by decide +kernel
theorem dX4_add_47 : decode cX4_add 47 = .ok (.aload_n 0, 1) := by decide +kernel
theorem dX4_add_48 : decode cX4_add 48 = .ok (.iload_n 1, 1) := by decide +kernel
theorem dX4_add_49 : decode cX4_add 49 = .ok (.aload_n 0, 1) := by decide +kernel
theorem dX4_add_50 : decode cX4_add 50 = .ok (.getfield 9, 3) := by decide +kernel
theorem dX4_add_53 : decode cX4_add 53 = .ok (.iload 4, 2) := by decide +kernel
theorem dX4_add_55 : decode cX4_add 55 = .ok (.iconst 1, 1) := by decide +kernel
theorem dX4_add_56 : decode cX4_add 56 = .ok (.isub, 1) := by decide +kernel
theorem dX4_add_57 : decode cX4_add 57 = .ok (.iaload, 1) := by decide +kernel
theorem dX4_add_58 : decode cX4_add 58 = .ok (.invokevirtual 42, 3) := by decide +kernel
theorem dX4_add_61 : decode cX4_add 61 = .ok (.ifCond .eq 25, 3) := by decide +kernel
theorem dX4_add_64 : decode cX4_add 64 = .ok (.aload_n 0, 1) := by decide +kernel
theorem dX4_add_65 : decode cX4_add 65 = .ok (.getfield 9, 3) := by decide +kernel
theorem dX4_add_68 : decode cX4_add 68 = .ok (.iload 4, 2) := by decide +kernel
theorem dX4_add_70 : decode cX4_add 70 = .ok (.aload_n 0, 1) := by decide +kernel
theorem dX4_add_71 : decode cX4_add 71 = .ok (.getfield 9, 3) := by decide +kernel
theorem dX4_add_74 : decode cX4_add 74 = .ok (.iload 4, 2) := by decide +kernel
theorem dX4_add_76 : decode cX4_add 76 = .ok (.iconst 1, 1) := by decide +kernel
theorem dX4_add_77 : decode cX4_add 77 = .ok (.isub, 1) := by decide +kernel
theorem dX4_add_78 : decode cX4_add 78 = .ok (.iaload, 1) := by decide +kernel
theorem dX4_add_79 : decode cX4_add 79 = .ok (.iastore, 1) := by decide +kernel
theorem dX4_add_80 : decode cX4_add 80 = .ok (.iinc 4 (-1), 3) := by decide +kernel
theorem dX4_add_83 : decode cX4_add 83 = .ok (.goto (-41), 3) := by decide +kernel
theorem dX4_add_86 : decode cX4_add 86 = .ok (.aload_n 0, 1) := by decide +kernel
theorem dX4_add_87 : decode cX4_add 87 = .ok (.getfield 9, 3) := by decide +kernel
theorem dX4_add_90 : decode cX4_add 90 = .ok (.iload 4, 2) := by decide +kernel
theorem dX4_add_92 : decode cX4_add 92 = .ok (.iload_n 1, 1) := by decide +kernel
theorem dX4_add_93 : decode cX4_add 93 = .ok (.iastore, 1) := by decide +kernel
theorem dX4_add_94 : decode cX4_add 94 = .ok (.aload_n 0, 1) := by decide +kernel
theorem dX4_add_95 : decode cX4_add 95 = .ok (.dup, 1) := by decide +kernel
theorem dX4_add_96 : decode cX4_add 96 = .ok (.getfield 25, 3) := by decide +kernel
theorem dX4_add_99 : decode cX4_add 99 = .ok (.iconst 1, 1) := by decide +kernel
theorem dX4_add_100 : decode cX4_add 100 = .ok (.iadd, 1) := by decide +kernel
theorem dX4_add_101 : decode cX4_add 101 = .ok (.putfield 25, 3) := by decide +kernel
theorem dX4_add_104 : decode cX4_add 104 = .ok (.return_, 1) := by decide +kernel
theorem dX4_isBefore_0 : decode cX4_isBefore 0 = .ok (.aload_n 0, 1) := by decide +kernel
theorem dX4_isBefore_1 : decode cX4_isBefore 1 = .ok (.getfield 15, 3) := by decide +kernel
theorem dX4_isBefore_4 : decode cX4_isBefore 4 = .ok (.iload_n 1, 1) := by decide +kernel
theorem dX4_isBefore_5 : decode cX4_isBefore 5 = .ok (.iaload, 1) := by decide +kernel
theorem dX4_isBefore_6 : decode cX4_isBefore 6 = .ok (.aload_n 0, 1) := by decide +kernel
theorem dX4_isBefore_7 : decode cX4_isBefore 7 = .ok (.getfield 15, 3) := by decide +kernel
theorem dX4_isBefore_10 : decode cX4_isBefore 10 = .ok (.iload_n 2, 1) := by decide +kernel
theorem dX4_isBefore_11 : decode cX4_isBefore 11 = .ok (.iaload, 1) := by decide +kernel
theorem dX4_isBefore_12 : decode cX4_isBefore 12 = .ok (.if_icmp .eq 26, 3) := by decide +kernel
theorem dX4_isBefore_15 : decode cX4_isBefore 15 = .ok (.aload_n 0, 1) := by decide +kernel
theorem dX4_isBefore_16 : decode cX4_isBefore 16 = .ok (.getfield 15, 3) := by decide +kernel
theorem dX4_isBefore_19 : decode cX4_isBefore 19 = .ok (.iload_n 1, 1) := by decide +kernel
theorem dX4_isBefore_20 : decode cX4_isBefore 20 = .ok (.iaload, 1) := by decide +kernel
theorem dX4_isBefore_21 : decode cX4_isBefore 21 = .ok (.aload_n 0, 1) := by decide +kernel
theorem dX4_isBefore_22 : decode cX4_isBefore 22 = .ok (.getfield 15, 3) := by decide +kernel
theorem dX4_isBefore_25 : decode cX4_isBefore 25 = .ok (.iload_n 2, 1) := by decide +kernel
theorem dX4_isBefore_26 : decode cX4_isBefore 26 = .ok (.iaload, 1) := by decide +kernel
theorem dX4_isBefore_27 : decode cX4_isBefore 27 = .ok (.if_icmp .ge 7, 3) := by decide +kernel
theorem dX4_isBefore_30 : decode cX4_isBefore 30 = .ok (.iconst 1, 1) := by decide +kernel
theorem dX4_isBefore_31 : decode cX4_isBefore 31 = .ok (.goto 17, 3) := by decide +kernel
theorem dX4_isBefore_34 : decode cX4_isBefore 34 = .ok (.iconst 0, 1) := by decide +kernel
theorem dX4_isBefore_35 : decode cX4_isBefore 35 = .ok (.goto 13, 3) := by decide +kernel
theorem dX4_isBefore_38 : decode cX4_isBefore 38 = .ok (.iload_n 1, 1) := by decide +kernel
theorem dX4_isBefore_39 : decode cX4_isBefore 39 = .ok (.iload_n 2, 1) := by decide +kernel
theorem dX4_isBefore_40 : decode cX4_isBefore 40 = .ok (.if_icmp .ge 7, 3) := by decide +kernel
theorem dX4_isBefore_43 : decode cX4_isBefore 43 = .ok (.iconst 1, 1) := by decide +kernel
theorem dX4_isBefore_44 : decode cX4_isBefore 44 = .ok (.goto 4, 3) := by decide +kernel
theorem dX4_isBefore_47 : decode cX4_isBefore 47 = .ok (.iconst 0, 1) := by decide +kernel
theorem dX4_isBefore_48 : decode cX4_isBefore 48 = .ok (.ireturn, 1) := by decide +kernel
theorem dX4_endOf_0 : decode cX4_endOf 0 = .ok (.iconst 0, 1) := by decide +kernel
theorem dX4_endOf_1 : decode cX4_endOf 1 = .ok (.istore_n 3, 1) := by decide +kernel
theorem dX4_endOf_2 : decode cX4_endOf 2 = .ok (.iconst 0, 1) := by decide +kernel
theorem dX4_endOf_3 : decode cX4_endOf 3 = .ok (.istore 4, 2) := by decide +kernel
theorem dX4_endOf_5 : decode cX4_endOf 5 = .ok (.iload 4, 2) := by decide +kernel
theorem dX4_endOf_7 : decode cX4_endOf 7 = .ok (.bipush 40, 2) := by decide +kernel
theorem dX4_endOf_9 : decode cX4_endOf 9 = .ok (.if_icmp .ge 30, 3) := by decide +kernel
theorem dX4_endOf_12 : decode cX4_endOf 12 = .ok (.lload_n 1, 1) := by decide +kernel
theorem dX4_endOf_13 : decode cX4_endOf 13 = .ok (.iload 4, 2) := by decide +kernel
theorem dX4_endOf_15 : decode cX4_endOf 15 = .ok (.invokestatic 46, 3) := by decide +kernel
theorem dX4_endOf_18 : decode cX4_endOf 18 = .ok (.ifCond .eq 15, 3) := by decide +kernel
theorem dX4_endOf_21 : decode cX4_endOf 21 = .ok (.iload_n 3, 1) := by decide +kernel
theorem dX4_endOf_22 : decode cX4_endOf 22 = .ok (.aload_n 0, 1) := by decide +kernel
theorem dX4_endOf_23 : decode cX4_endOf 23 = .ok (.getfield 18, 3) := by decide +kernel
theorem dX4_endOf_26 : decode cX4_endOf 26 = .ok (.iload 4, 2) := by decide +kernel
theorem dX4_endOf_28 : decode cX4_endOf 28 = .ok (.iaload, 1) := by decide +kernel
theorem dX4_endOf_29 : decode cX4_endOf 29 = .ok (.invokestatic 36, 3) := by decide +kernel
theorem dX4_endOf_32 : decode cX4_endOf 32 = .ok (.istore_n 3, 1) := by decide +kernel
theorem dX4_endOf_33 : decode cX4_endOf 33 = .ok (.iinc 4 1, 3) := by decide +kernel
theorem dX4_endOf_36 : decode cX4_endOf 36 = .ok (.goto (-31), 3) := by decide +kernel
theorem dX4_endOf_39 : decode cX4_endOf 39 = .ok (.iload_n 3, 1) := by decide +kernel
theorem dX4_endOf_40 : decode cX4_endOf 40 = .ok (.ireturn, 1) := by decide +kernel
theorem dX4_tell_0 : decode cX4_tell 0 = .ok (.iload_n 1, 1) := by decide +kernel
theorem dX4_tell_1 : decode cX4_tell 1 = .ok (.iconst 0, 1) := by decide +kernel
theorem dX4_tell_2 : decode cX4_tell 2 = .ok (.aload_n 0, 1) := by decide +kernel
theorem dX4_tell_3 : decode cX4_tell 3 = .ok (.getfield 25, 3) := by decide +kernel
theorem dX4_tell_6 : decode cX4_tell 6 = .ok (.iconst 1, 1) := by decide +kernel
theorem dX4_tell_7 : decode cX4_tell 7 = .ok (.isub, 1) := by decide +kernel
theorem dX4_tell_8 : decode cX4_tell 8 = .ok (.invokestatic 50, 3) := by decide +kernel
theorem dX4_tell_11 : decode cX4_tell 11 = .ok (.ifCond .ne 5, 3) := by decide +kernel
theorem dX4_tell_14 : decode cX4_tell 14 = .ok (.iconst (-1), 1) := by decide +kernel
theorem dX4_tell_15 : decode cX4_tell 15 = .ok (.ireturn, 1) := by decide +kernel
theorem dX4_tell_16 : decode cX4_tell 16 = .ok (.aload_n 0, 1) := by decide +kernel
theorem dX4_tell_17 : decode cX4_tell 17 = .ok (.getfield 9, 3) := by decide +kernel
theorem dX4_tell_20 : decode cX4_tell 20 = .ok (.iload_n 1, 1) := by decide +kernel
theorem dX4_tell_21 : decode cX4_tell 21 = .ok (.iaload, 1) := by decide +kernel
theorem dX4_tell_22 : decode cX4_tell 22 = .ok (.istore_n 3, 1) := by decide +kernel
theorem dX4_tell_23 : decode cX4_tell 23 = .ok (.iload_n 2, 1) := by decide +kernel
theorem dX4_tell_24 : decode cX4_tell 24 = .ok (.tableswitch 65 0 3 #[32, 34, 51, 58], 32) := by decide +kernel
theorem dX4_tell_56 : decode cX4_tell 56 = .ok (.iload_n 3, 1) := by decide +kernel
theorem dX4_tell_57 : decode cX4_tell 57 = .ok (.ireturn, 1) := by decide +kernel
theorem dX4_tell_58 : decode cX4_tell 58 = .ok (.aload_n 0, 1) := by decide +kernel
theorem dX4_tell_59 : decode cX4_tell 59 = .ok (.getfield 21, 3) := by decide +kernel
theorem dX4_tell_62 : decode cX4_tell 62 = .ok (.iload_n 3, 1) := by decide +kernel
theorem dX4_tell_63 : decode cX4_tell 63 = .ok (.invokestatic 46, 3) := by decide +kernel
theorem dX4_tell_66 : decode cX4_tell 66 = .ok (.ifCond .eq 7, 3) := by decide +kernel
theorem dX4_tell_69 : decode cX4_tell 69 = .ok (.iconst 1, 1) := by decide +kernel
theorem dX4_tell_70 : decode cX4_tell 70 = .ok (.goto 4, 3) := by decide +kernel
theorem dX4_tell_73 : decode cX4_tell 73 = .ok (.iconst 2, 1) := by decide +kernel
theorem dX4_tell_74 : decode cX4_tell 74 = .ok (.ireturn, 1) := by decide +kernel
theorem dX4_tell_75 : decode cX4_tell 75 = .ok (.aload_n 0, 1) := by decide +kernel
theorem dX4_tell_76 : decode cX4_tell 76 = .ok (.getfield 15, 3) := by decide +kernel
theorem dX4_tell_79 : decode cX4_tell 79 = .ok (.iload_n 3, 1) := by decide +kernel
theorem dX4_tell_80 : decode cX4_tell 80 = .ok (.iaload, 1) := by decide +kernel
theorem dX4_tell_81 : decode cX4_tell 81 = .ok (.ireturn, 1) := by decide +kernel
theorem dX4_tell_82 : decode cX4_tell 82 = .ok (.aload_n 0, 1) := by decide +kernel
theorem dX4_tell_83 : decode cX4_tell 83 = .ok (.getfield 18, 3) := by decide +kernel
theorem dX4_tell_86 : decode cX4_tell 86 = .ok (.iload_n 3, 1) := by decide +kernel
theorem dX4_tell_87 : decode cX4_tell 87 = .ok (.iaload, 1) := by decide +kernel
theorem dX4_tell_88 : decode cX4_tell 88 = .ok (.ireturn, 1) := by decide +kernel
theorem dX4_tell_89 : decode cX4_tell 89 = .ok (.iconst (-1), 1) := by decide +kernel
theorem dX4_tell_90 : decode cX4_tell 90 = .ok (.ireturn, 1) := by decide +kernel
theorem dX8_exists_0 : decode cX8_exists 0 = .ok (.iload_n 1, 1) := by decide +kernel
theorem dX8_exists_1 : decode cX8_exists 1 = .ok (.iconst 0, 1) := by decide +kernel
theorem dX8_exists_2 : decode cX8_exists 2 = .ok (.aload_n 0, 1) := by decide +kernel
theorem dX8_exists_3 : decode cX8_exists 3 = .ok (.getfield 10, 3) := by decide +kernel
theorem dX8_exists_6 : decode cX8_exists 6 = .ok (.invokevirtual 61, 3) := by decide +kernel
theorem dX8_exists_9 : decode cX8_exists 9 = .ok (.iconst 1, 1) := by decide +kernel
theorem dX8_exists_10 : decode cX8_exists 10 = .ok (.isub, 1) := by decide +kernel
theorem dX8_exists_11 : decode cX8_exists 11 = .ok (.invokestatic 57, 3) := by decide +kernel
theorem dX8_exists_14 : decode cX8_exists 14 = .ok (.ireturn, 1) := by decide +kernel
def wq_x_isBefore : List Cond := [.code yX4_isBefore cX4_isBefore 3 (some .boolean), .fieldLink RX4 15 "ServiceTree$Plan" "begins" "[I"] ++ (wsX40)
theorem in_x_isBefore_X4 : ∀ w ∈ wsX40, w ∈ wq_x_isBefore := fun _ h => List.mem_append_right _ (h)
set_option maxRecDepth 20000 in
theorem wi_x_isBefore : ∀ w ∈ wq_x_isBefore, w ∈ lw_tbl := List.forall_mem_append.mpr ⟨(by decide +kernel), inKX4⟩
set_option maxRecDepth 20000 in
theorem wg_x_isBefore : GoodIn wq_x_isBefore wq_x_isBefore := goodIn_sub (fun _ h => h) (by decide +kernel)
def rm_x_isBefore : Room := { frames := 0, cells := 0, slots := 0, locals := 0 }
set_option maxHeartbeats 4000000 in
set_option maxRecDepth 100000 in
theorem c_x_isBefore (l : Launch) (dC : Nat → ClassId) (dI : Nat → Nat → Nat) (h : Nat) (a : Nat → Nat) (e : Nat) (cI cJ cO cE : ClassId) (L : Nat → Int64) (I : Nat → Int32) (M : Nat → Nat → Int64) (J : Nat → Nat → Int32) (n cap : Nat) (fE : Nat → Option Nat) (sd : Nat → Nat → Nat) (si : Nat → Nat → Int32) (sa : Nat → Nat → Nat → Int32) (dl : Nat → Nat) (b : Nat) (av : Nat) (bv : Nat) (sz : Nat) (hX0 : InvX n cap fE sd dl b I J si) (hb0 : b + 0 < 2147483648) (hp0 : av < 40) (hp1 : bv < 40) : Met l yX4_isBefore wq_x_isBefore rm_x_isBefore (va_Pc [.ref (a 4), .int (nI av), .int (nI bv)] (fun U => U.heap.size = sz ∧ va_P (dC, dI) vwCl (xW h a e cI cJ cO cE L I M J n cap fE sd si sa dl) U.heap ∧ va_K (dC, dI) vwCl (xT cI cJ cO cE) U ∧ va_D (fun _ => True) (xW h a e cI cJ cO cE L I M J n cap fE sd si sa dl) ∧ pw_N U)) (va_Qi (fun (r : Int32) (u : Unit) => (True)) (fun (u : Unit) (t : State) => va_P (dC, dI) vwCl (xW h a e cI cJ cO cE L I M J n cap fE sd si sa dl) t.heap ∧ va_D (va_A (xW h a e cI cJ cO cE L I M J n cap fE sd si sa dl) sz) (xW h a e cI cJ cO cE L I M J n cap fE sd si sa dl)) (va_A (xW h a e cI cJ cO cE L I M J n cap fE sd si sa dl) sz)) 0 0 (va_A (xW h a e cI cJ cO cE L I M J n cap fE sd si sa dl) sz) := by
  have hn : n ≤ 40 := hX0.1.1
  have hX := hX0
  refine Met.ofW (cc := cX4_isBefore) (maxL := 3) (ret := (some .boolean)) (by decide) rfl ?_
  intro p e9 s m args below meth c s₁ B hml hv
  obtain ⟨rfl, hsz, hP, hK, hD0, hN⟩ := hv
  have hx := B.exec
  have hb := B.bytes
  have hr := B.returns
  have hts := atoms_spec (ws := wq_x_isBefore) B.pre
  have hown : s.vm.findClass RX4 = some m.cls := findClass_of_methodNamed B.named
  have hlocks := B.notSynchronized
  subst hsz
  have hD := hD0.self (sz := s.heap.size)
  generalize hAe : va_A (xW h a e cI cJ cO cE L I M J n cap fE sd si sa dl) s.heap.size = A at hD ⊢
  have hA : ∀ q : Nat, s.heap.size ≤ q → A q := fun q h => by rw [← hAe]; exact Or.inr h
  have hS : va_S A s.heap s.heap [] := va_S.rf
  have hl := lv_entry ([.ref (a 4), .int (nI av), .int (nI bv)]) (n := 3) (Nat.le_of_ble_eq_true rfl)
  rw [lg_entry_eq]
  generalize (lg_sl ([.ref (a 4), .int (nI av), .int (nI bv)]) ++ List.replicate (3 - (lg_sl ([.ref (a 4), .int (nI av), .int (nI bv)])).length) Slot.unset).toArray = ls at hl ⊢
  have hl : lv_has ls 3 [(0, .ref (a 4)), (1, .int (nI av)), (2, .int (nI bv))] := hl
  refine lv_aload_n hx hb dX4_isBefore_0 rfl (lv_at hl 0 rfl) ?_
  refine va_get (D := (dC, dI)) (ci := 5) (v := .ref (a 13)) (C := RX4) (T := TX4) (N := 7) hx hb hts in_x_isBefore_X4 hown hK hP 15 rfl rfl 1 (by decide) (hts (.fieldLink RX4 15 "ServiceTree$Plan" "begins" "[I") (by decide +kernel)) (fun _ h9 => h9) rfl dX4_isBefore_1 ?_
  refine lv_iload_n hx hb dX4_isBefore_4 rfl (lv_at hl 1 rfl) ?_
  refine va_iald (n := 40) (f := J 1) hx hb hK hP 17 0 rfl rfl (vp_in_nI (n := av) (by omega) (by omega)) dX4_isBefore_5 ?_
  refine lv_topi (fun x1 ex1 => ?_)
  refine lv_aload_n hx hb dX4_isBefore_6 rfl (lv_at hl 0 rfl) ?_
  refine va_get (D := (dC, dI)) (ci := 5) (v := .ref (a 13)) (C := RX4) (T := TX4) (N := 7) hx hb hts in_x_isBefore_X4 hown hK hP 15 rfl rfl 1 (by decide) (hts (.fieldLink RX4 15 "ServiceTree$Plan" "begins" "[I") (by decide +kernel)) (fun _ h9 => h9) rfl dX4_isBefore_7 ?_
  refine lv_iload_n hx hb dX4_isBefore_10 rfl (lv_at hl 2 rfl) ?_
  refine va_iald (n := 40) (f := J 1) hx hb hK hP 17 0 rfl rfl (vp_in_nI (n := bv) (by omega) (by omega)) dX4_isBefore_11 ?_
  refine lv_topi (fun x2 ex2 => ?_)
  refine lv_icmp_eq (tgt := 38) hx hb dX4_isBefore_12 (by decide) (fun c3 => ?_) (fun c3 => ?_)
  · refine lv_iload_n hx hb dX4_isBefore_38 rfl (lv_at hl 1 rfl) ?_
    refine lv_iload_n hx hb dX4_isBefore_39 rfl (lv_at hl 2 rfl) ?_
    refine lv_icmp_ge (tgt := 47) hx hb dX4_isBefore_40 (by decide) (fun c4 => ?_) (fun c4 => ?_)
    · replace c4 : bv ≤ av := (nI_leI (a := bv) (b := av) (by omega) (by omega)).mp c4
      refine lv_iconst (v := 0) hx hb dX4_isBefore_47 (by decide) ?_
      exact W.zret (v := 0) hx hb hr (by decide) (fun t ht hW => ⟨⟨0, (), rfl, trivial, by rw [ht]; exact hP, hD⟩, hS.F ht⟩) hS.2.2 dX4_isBefore_48
    · replace c4 : ¬ (bv ≤ av) := fun q9 => c4 ((nI_leI (a := bv) (b := av) (by omega) (by omega)).mpr q9)
      refine lv_iconst (v := 1) hx hb dX4_isBefore_43 (by decide) ?_
      refine lv_goto (tgt := 48) hx hb dX4_isBefore_44 (by decide) ?_
      exact W.zret (v := 1) hx hb hr (by decide) (fun t ht hW => ⟨⟨1, (), rfl, trivial, by rw [ht]; exact hP, hD⟩, hS.F ht⟩) hS.2.2 dX4_isBefore_48
  · refine lv_aload_n hx hb dX4_isBefore_15 rfl (lv_at hl 0 rfl) ?_
    refine va_get (D := (dC, dI)) (ci := 5) (v := .ref (a 13)) (C := RX4) (T := TX4) (N := 7) hx hb hts in_x_isBefore_X4 hown hK hP 15 rfl rfl 1 (by decide) (hts (.fieldLink RX4 15 "ServiceTree$Plan" "begins" "[I") (by decide +kernel)) (fun _ h9 => h9) rfl dX4_isBefore_16 ?_
    refine lv_iload_n hx hb dX4_isBefore_19 rfl (lv_at hl 1 rfl) ?_
    refine va_iald (n := 40) (f := J 1) hx hb hK hP 17 0 rfl rfl (vp_in_nI (n := av) (by omega) (by omega)) dX4_isBefore_20 ?_
    refine p1_topr (v := .int x1) (congrArg Value.int ex1.symm) ?_
    refine lv_aload_n hx hb dX4_isBefore_21 rfl (lv_at hl 0 rfl) ?_
    refine va_get (D := (dC, dI)) (ci := 5) (v := .ref (a 13)) (C := RX4) (T := TX4) (N := 7) hx hb hts in_x_isBefore_X4 hown hK hP 15 rfl rfl 1 (by decide) (hts (.fieldLink RX4 15 "ServiceTree$Plan" "begins" "[I") (by decide +kernel)) (fun _ h9 => h9) rfl dX4_isBefore_22 ?_
    refine lv_iload_n hx hb dX4_isBefore_25 rfl (lv_at hl 2 rfl) ?_
    refine va_iald (n := 40) (f := J 1) hx hb hK hP 17 0 rfl rfl (vp_in_nI (n := bv) (by omega) (by omega)) dX4_isBefore_26 ?_
    refine p1_topr (v := .int x2) (congrArg Value.int ex2.symm) ?_
    refine lv_icmp_ge (tgt := 34) hx hb dX4_isBefore_27 (by decide) (fun c5 => ?_) (fun c5 => ?_)
    · refine lv_iconst (v := 0) hx hb dX4_isBefore_34 (by decide) ?_
      refine lv_goto (tgt := 48) hx hb dX4_isBefore_35 (by decide) ?_
      exact W.zret (v := 0) hx hb hr (by decide) (fun t ht hW => ⟨⟨0, (), rfl, trivial, by rw [ht]; exact hP, hD⟩, hS.F ht⟩) hS.2.2 dX4_isBefore_48
    · refine lv_iconst (v := 1) hx hb dX4_isBefore_30 (by decide) ?_
      refine lv_goto (tgt := 48) hx hb dX4_isBefore_31 (by decide) ?_
      exact W.zret (v := 1) hx hb hr (by decide) (fun t ht hW => ⟨⟨1, (), rfl, trivial, by rw [ht]; exact hP, hD⟩, hS.F ht⟩) hS.2.2 dX4_isBefore_48
def wq_x_padd : List Cond := [.code yX4_add cX4_add 5 none, .fieldLink RX4 25 "ServiceTree$Plan" "size" "I", .fieldLink RX4 15 "ServiceTree$Plan" "begins" "[I", .fieldLink RX4 18 "ServiceTree$Plan" "ends" "[I", .fieldLink RX4 29 "ServiceTree$Plan" "lastEnd" "I", .methodLink RX4 36 Lib.Math.max.name, .static Lib.Math.max.name, .initialized "java/lang/Math", .code Lib.Math.max.name Lib.Math.max.code 2 (some .int), .fieldLink RX4 9 "ServiceTree$Plan" "sorted" "[I", .methodLink RX4 42 yX4_isBefore, .instanceMethod yX4_isBefore, .selects RX4 yX4_isBefore yX4_isBefore, .initialized RX4] ++ (wsX40 ++ (wq_x_isBefore))
theorem in_x_padd_X4 : ∀ w ∈ wsX40, w ∈ wq_x_padd := fun _ h => List.mem_append_right _ (List.mem_append_left _ (h))
set_option maxRecDepth 20000 in
theorem wi_x_padd : ∀ w ∈ wq_x_padd, w ∈ lw_tbl := List.forall_mem_append.mpr ⟨(by decide +kernel), List.forall_mem_append.mpr ⟨inKX4, wi_x_isBefore⟩⟩
set_option maxRecDepth 20000 in
theorem wg_x_padd : GoodIn wq_x_padd wq_x_padd := goodIn_sub (fun _ h => h) (by decide +kernel)
set_option maxRecDepth 20000 in
theorem wc_x_padd_x_isBefore_42 : GoodIn wq_x_padd (wsV RX4 42 RX4 yX4_isBefore wq_x_isBefore) := goodIn_app (goodIn_of _ (by decide +kernel)) (fun w h => ⟨List.mem_append_right _ (List.mem_append_right _ (h)), (wg_x_isBefore w h).2⟩)
def rm_x_padd : Room := { frames := 1, cells := 0, slots := 0, locals := 24 }
set_option maxHeartbeats 4000000 in
set_option maxRecDepth 100000 in
theorem c_x_padd (l : Launch) (dC : Nat → ClassId) (dI : Nat → Nat → Nat) (h : Nat) (a : Nat → Nat) (e : Nat) (cI cJ cO cE : ClassId) (L : Nat → Int64) (I : Nat → Int32) (M : Nat → Nat → Int64) (J : Nat → Nat → Int32) (n cap : Nat) (fE : Nat → Option Nat) (sd : Nat → Nat → Nat) (si : Nat → Nat → Int32) (sa : Nat → Nat → Nat → Int32) (dl : Nat → Nat) (b : Nat) (av : Nat) (p1 : Int32) (p2 : Int32) (sz : Nat) (hX0 : InvX n cap fE sd dl b I J si) (hb0 : b + 0 < 2147483648) (hp0 : av < 40) : Met l yX4_add wq_x_padd rm_x_padd (va_Pc [.ref (a 4), .int (nI av), .int p1, .int p2] (fun U => U.heap.size = sz ∧ va_P (dC, dI) vwCl (xW h a e cI cJ cO cE L I M J n cap fE sd si sa dl) U.heap ∧ va_K (dC, dI) vwCl (xT cI cJ cO cE) U ∧ va_D (fun _ => True) (xW h a e cI cJ cO cE L I M J n cap fE sd si sa dl) ∧ pw_N U)) (va_Qv (fun (u : (Nat → Int32) × (Nat → Nat → Int32)) => InvX n cap fE sd dl (b + 0) u.1 u.2 si ∧ (∀ j9 : Nat, j9 ∉ ([9, 10] : List Nat) → u.1 j9 = I j9) ∧ (∀ j9 : Nat, j9 ∉ ([0, 1, 2] : List Nat) → u.2 j9 = J j9) ∧ (True)) (fun (u : (Nat → Int32) × (Nat → Nat → Int32)) (t : State) => va_P (dC, dI) vwCl (xW h a e cI cJ cO cE L u.1 M u.2 n cap fE sd si sa dl) t.heap ∧ va_D (va_A (xW h a e cI cJ cO cE L I M J n cap fE sd si sa dl) sz) (xW h a e cI cJ cO cE L u.1 M u.2 n cap fE sd si sa dl)) (va_A (xW h a e cI cJ cO cE L I M J n cap fE sd si sa dl) sz)) 0 0 (va_A (xW h a e cI cJ cO cE L I M J n cap fE sd si sa dl) sz) := by
  have hn : n ≤ 40 := hX0.1.1
  have hX := hX0
  have hUI : ∀ j9 : Nat, j9 ∉ ([9, 10] : List Nat) → I j9 = I j9 := fun _ _ => rfl
  have hUJ : ∀ j9 : Nat, j9 ∉ ([0, 1, 2] : List Nat) → J j9 = J j9 := fun _ _ => rfl
  refine Met.ofW (cc := cX4_add) (maxL := 5) (ret := none) (by decide) rfl ?_
  intro p e9 s m args below meth c s₁ B hml hv
  obtain ⟨rfl, hsz, hP, hK, hD0, hN⟩ := hv
  have hx := B.exec
  have hb := B.bytes
  have hr := B.returns
  have hts := atoms_spec (ws := wq_x_padd) B.pre
  have hown : s.vm.findClass RX4 = some m.cls := findClass_of_methodNamed B.named
  have hlocks := B.notSynchronized
  subst hsz
  have hD := hD0.self (sz := s.heap.size)
  generalize hAe : va_A (xW h a e cI cJ cO cE L I M J n cap fE sd si sa dl) s.heap.size = A at hD ⊢
  have hA : ∀ q : Nat, s.heap.size ≤ q → A q := fun q h => by rw [← hAe]; exact Or.inr h
  have hS : va_S A s.heap s.heap [] := va_S.rf
  have hl := lv_entry ([.ref (a 4), .int (nI av), .int p1, .int p2]) (n := 5) (Nat.le_of_ble_eq_true rfl)
  rw [lg_entry_eq]
  generalize (lg_sl ([.ref (a 4), .int (nI av), .int p1, .int p2]) ++ List.replicate (5 - (lg_sl ([.ref (a 4), .int (nI av), .int p1, .int p2])).length) Slot.unset).toArray = ls at hl ⊢
  have hl : lv_has ls 5 [(0, .ref (a 4)), (1, .int (nI av)), (2, .int p1), (3, .int p2)] := hl
  refine mw_Q (fun Q0 hQ => ?_)
  refine lv_aload_n hx hb dX4_add_0 rfl (lv_at hl 0 rfl) ?_
  refine va_get (D := (dC, dI)) (ci := 5) (v := .int (I 9)) (C := RX4) (T := TX4) (N := 7) hx hb hts in_x_padd_X4 hown hK hP 15 rfl rfl 4 (by decide) (hts (.fieldLink RX4 25 "ServiceTree$Plan" "size" "I") (by decide +kernel)) (fun _ h9 => h9) rfl dX4_add_1 ?_
  obtain ⟨z1, hz1, ez1⟩ := hX.2.1.1
  refine p1_topr (v := .int (nI z1)) (congrArg Value.int ez1) ?_
  refine lv_bipush (v := 40) hx hb dX4_add_4 (by decide) ?_
  refine lv_icmp_lt (tgt := 10) hx hb dX4_add_6 (by decide) (fun c2 => ?_) (fun c2 => ?_)
  · replace c2 : z1 < 40 := (nI_ltI (a := z1) (b := 40) (by omega) (by omega)).mp c2
    refine lv_aload_n hx hb dX4_add_10 rfl (lv_at hl 0 rfl) ?_
    refine va_get (D := (dC, dI)) (ci := 5) (v := .ref (a 13)) (C := RX4) (T := TX4) (N := 7) hx hb hts in_x_padd_X4 hown hK hP 15 rfl rfl 1 (by decide) (hts (.fieldLink RX4 15 "ServiceTree$Plan" "begins" "[I") (by decide +kernel)) (fun _ h9 => h9) rfl dX4_add_11 ?_
    refine lv_iload_n hx hb dX4_add_14 rfl (lv_at hl 1 rfl) ?_
    refine lv_iload_n hx hb dX4_add_15 rfl (lv_at hl 2 rfl) ?_
    refine va_iast (n := 40) (f := J 1) hx hb hK hP hD hS 17 0 rfl rfl (vp_in_nI (n := av) (by omega) (by omega)) dX4_add_16 (fun H locs hP hD hS => ?_)
    rw [xJ_1] at hP hD
    obtain ⟨J3, eJ3⟩ : ∃ f9 : Nat → Nat → Int32, f9 = va_up J 1 (upd (J 1) (nI av).toNatClampNeg p1) := ⟨_, rfl⟩
    rw [← eJ3] at hP hD
    replace hX : InvX n cap fE sd dl (b) I J3 si := by rw [eJ3]; exact hX.setJ (by decide)
    replace hUJ : ∀ j9 : Nat, j9 ∉ ([0, 1, 2] : List Nat) → J3 j9 = J j9 := by rw [eJ3]; exact mw_up (by decide) hUJ
    refine lv_aload_n hx hb dX4_add_17 rfl (lv_at hl 0 rfl) ?_
    refine va_get (D := (dC, dI)) (ci := 5) (v := .ref (a 14)) (C := RX4) (T := TX4) (N := 7) hx hb hts in_x_padd_X4 hown hK hP 15 rfl rfl 2 (by decide) (hts (.fieldLink RX4 18 "ServiceTree$Plan" "ends" "[I") (by decide +kernel)) (fun _ h9 => h9) rfl dX4_add_18 ?_
    refine lv_iload_n hx hb dX4_add_21 rfl (lv_at hl 1 rfl) ?_
    refine lv_iload_n hx hb dX4_add_22 rfl (lv_at hl 3 rfl) ?_
    refine va_iast (n := 40) (f := J3 2) hx hb hK hP hD hS 18 0 rfl rfl (vp_in_nI (n := av) (by omega) (by omega)) dX4_add_23 (fun H locs hP hD hS => ?_)
    rw [xJ_2] at hP hD
    obtain ⟨J4, eJ4⟩ : ∃ f9 : Nat → Nat → Int32, f9 = va_up J3 2 (upd (J3 2) (nI av).toNatClampNeg p2) := ⟨_, rfl⟩
    rw [← eJ4] at hP hD
    replace hX : InvX n cap fE sd dl (b) I J4 si := by rw [eJ4]; exact hX.setJ (by decide)
    replace hUJ : ∀ j9 : Nat, j9 ∉ ([0, 1, 2] : List Nat) → J4 j9 = J j9 := by rw [eJ4]; exact mw_up (by decide) hUJ
    refine lv_aload_n hx hb dX4_add_24 rfl (lv_at hl 0 rfl) ?_
    refine lv_aload_n hx hb dX4_add_25 rfl (lv_at hl 0 rfl) ?_
    refine va_get (D := (dC, dI)) (ci := 5) (v := .int (I 10)) (C := RX4) (T := TX4) (N := 7) hx hb hts in_x_padd_X4 hown hK hP 15 rfl rfl 5 (by decide) (hts (.fieldLink RX4 29 "ServiceTree$Plan" "lastEnd" "I") (by decide +kernel)) (fun _ h9 => h9) rfl dX4_add_26 ?_
    refine lv_topi (fun x5 ex5 => ?_)
    refine lv_iload_n hx hb dX4_add_29 rfl (lv_at hl 3 rfl) ?_
    refine va_mmax hx hb (by rw [hml]; exact hl.1.symm) hown (hts (.methodLink RX4 36 Lib.Math.max.name) (by decide +kernel)) (hts (.static Lib.Math.max.name) (by decide +kernel)) (hts (.initialized "java/lang/Math") (by decide +kernel)) (hts (.code Lib.Math.max.name Lib.Math.max.code 2 (some .int)) (by decide +kernel)) (Nat.le_of_ble_eq_true rfl) (Nat.le_of_ble_eq_true rfl) (Nat.le_of_ble_eq_true rfl) (Nat.le_of_ble_eq_true rfl) dX4_add_30 ?_
    refine lv_topi (fun x6 ex6 => ?_)
    refine va_put (D := (dC, dI)) (ci := 5) (fs := [.ref (a 12), .ref (a 13), .ref (a 14), .long (L 8), .int (I 9), .int (I 10), .int (I 11)]) (v := .int x6) (ty := .int) (C := RX4) (T := TX4) (N := 7) hx hb hts in_x_padd_X4 tyX4 tyX4_ok nmX4 hown hK hP hD hS 15 rfl rfl 5 (by decide) (hts (.fieldLink RX4 29 "ServiceTree$Plan" "lastEnd" "I") (by decide +kernel)) (fun _ h9 => h9) rfl (by decide +kernel) rfl rfl (Nat.le_of_ble_eq_true rfl) dX4_add_33 (fun H locs hP hD hS => ?_)
    replace hP : va_P (dC, dI) vwCl ((xW h a e cI cJ cO cE L I M J4 n cap fE sd si sa dl).set 15 (a 4, .inr (5, [.ref (a 12), .ref (a 13), .ref (a 14), .long (L 8), .int (I 9), .int x6, .int (I 11)]))) H := hP
    replace hD : va_D A ((xW h a e cI cJ cO cE L I M J4 n cap fE sd si sa dl).set 15 (a 4, .inr (5, [.ref (a 12), .ref (a 13), .ref (a 14), .long (L 8), .int (I 9), .int x6, .int (I 11)]))) := hD
    rw [xF_I10] at hP hD
    obtain ⟨I7, eI7⟩ : ∃ f9 : Nat → Int32, f9 = va_up I 10 x6 := ⟨_, rfl⟩
    rw [← eI7] at hP hD
    replace hX : InvX n cap fE sd dl (b) I7 J4 si := by rw [eI7]; exact hX.setI (by decide)
    replace hUI : ∀ j9 : Nat, j9 ∉ ([9, 10] : List Nat) → I7 j9 = I j9 := by rw [eI7]; exact mw_up (by decide) hUI
    refine lv_aload_n hx hb dX4_add_36 rfl (lv_at hl 0 rfl) ?_
    refine va_get (D := (dC, dI)) (ci := 5) (v := .int (I7 9)) (C := RX4) (T := TX4) (N := 7) hx hb hts in_x_padd_X4 hown hK hP 15 rfl rfl 4 (by decide) (hts (.fieldLink RX4 25 "ServiceTree$Plan" "size" "I") (by decide +kernel)) (fun _ h9 => h9) rfl dX4_add_37 ?_
    refine p1_topr (v := .int (nI z1)) (congrArg Value.int (by rw [eI7, va_up_ne _ _ (by decide)]; exact ez1)) ?_
    refine lv_istore (lv' := [(4, .int (nI z1)), (0, .ref (a 4)), (1, .int (nI av)), (2, .int p1), (3, .int p2)]) hx hb dX4_add_40 hl (by decide) rfl (fun ls hl => ?_)
    have lp11 : ∀ (fu9 i8 : Nat)  (J12 : Nat → Nat → Int32) (H : Heap) (locs : List Loc) (ls : Array Slot), i8 < fu9 → i8 ≤ 39 → InvX n cap fE sd dl (b) I7 J12 si → (∀ j9 : Nat, j9 ∉ ([0, 1, 2] : List Nat) → J12 j9 = J j9) → va_P (dC, dI) vwCl (xW h a e cI cJ cO cE L I7 M J12 n cap fE sd si sa dl) H → va_D A (xW h a e cI cJ cO cE L I7 M J12 n cap fE sd si sa dl) → va_S A s.heap H locs → lv_has ls 5 [(4, .int (nI i8)), (0, .ref (a 4)), (1, .int (nI av)), (2, .int p1), (3, .int p2)] → W p l e9 (headSpec wq_x_padd rm_x_padd).room s m ([.ref (a 4), .int (nI av), .int p1, .int p2] : List Value).toArray below meth c H locs 0 0 Q0 (F0 m 42 ls []) := by
      intro fu9
      induction fu9 with
      | zero =>
        intro i8  J12 H locs ls hf hi
        exact absurd hf (by omega)
      | succ fu9 ih10 =>
        intro i8  J12 H locs ls hfi8 hii8 hX hUJ hP hD hS hl
        refine lv_iload hx hb dX4_add_42 (lv_at hl 0 rfl) ?_
        refine lv_if_le (tgt := 86) hx hb dX4_add_44 (by decide) (fun c13 => ?_) (fun c13 => ?_)
        · replace c13 : i8 ≤ 0 := (nI_leI (a := i8) (b := 0) (by omega) (by omega)).mp c13
          refine lv_aload_n hx hb dX4_add_86 rfl (lv_at hl 1 rfl) ?_
          refine va_get (D := (dC, dI)) (ci := 5) (v := .ref (a 12)) (C := RX4) (T := TX4) (N := 7) hx hb hts in_x_padd_X4 hown hK hP 15 rfl rfl 0 (by decide) (hts (.fieldLink RX4 9 "ServiceTree$Plan" "sorted" "[I") (by decide +kernel)) (fun _ h9 => h9) rfl dX4_add_87 ?_
          refine lv_iload hx hb dX4_add_90 (lv_at hl 0 rfl) ?_
          refine lv_iload_n hx hb dX4_add_92 rfl (lv_at hl 2 rfl) ?_
          refine va_iast (n := 40) (f := J12 0) hx hb hK hP hD hS 16 0 rfl rfl (vp_in_nI (n := i8) (by omega) (by omega)) dX4_add_93 (fun H locs hP hD hS => ?_)
          rw [xJ_0] at hP hD
          obtain ⟨J14, eJ14⟩ : ∃ f9 : Nat → Nat → Int32, f9 = va_up J12 0 (upd (J12 0) (nI i8).toNatClampNeg (nI av)) := ⟨_, rfl⟩
          rw [← eJ14] at hP hD
          replace hX : InvX n cap fE sd dl (b) I7 J14 si := by rw [eJ14]; exact hX.setJ0 (i := (nI i8).toNatClampNeg) (x := av) (by omega)
          replace hUJ : ∀ j9 : Nat, j9 ∉ ([0, 1, 2] : List Nat) → J14 j9 = J j9 := by rw [eJ14]; exact mw_up (by decide) hUJ
          refine lv_aload_n hx hb dX4_add_94 rfl (lv_at hl 1 rfl) ?_
          refine lv_dup hx hb dX4_add_95 rfl ?_
          refine va_get (D := (dC, dI)) (ci := 5) (v := .int (I7 9)) (C := RX4) (T := TX4) (N := 7) hx hb hts in_x_padd_X4 hown hK hP 15 rfl rfl 4 (by decide) (hts (.fieldLink RX4 25 "ServiceTree$Plan" "size" "I") (by decide +kernel)) (fun _ h9 => h9) rfl dX4_add_96 ?_
          refine p1_topr (v := .int (nI z1)) (congrArg Value.int (by rw [eI7, va_up_ne _ _ (by decide)]; exact ez1)) ?_
          refine lv_iconst (v := 1) hx hb dX4_add_99 (by decide) ?_
          refine lv_iadd hx hb dX4_add_100 ?_
          refine p1_topr (v := .int (nI (z1 + 1))) (congrArg Value.int (nI_add z1 1)) ?_
          refine va_put (D := (dC, dI)) (ci := 5) (fs := [.ref (a 12), .ref (a 13), .ref (a 14), .long (L 8), .int (I7 9), .int (I7 10), .int (I7 11)]) (v := .int (nI (z1 + 1))) (ty := .int) (C := RX4) (T := TX4) (N := 7) hx hb hts in_x_padd_X4 tyX4 tyX4_ok nmX4 hown hK hP hD hS 15 rfl rfl 4 (by decide) (hts (.fieldLink RX4 25 "ServiceTree$Plan" "size" "I") (by decide +kernel)) (fun _ h9 => h9) rfl (by decide +kernel) rfl rfl (Nat.le_of_ble_eq_true rfl) dX4_add_101 (fun H locs hP hD hS => ?_)
          replace hP : va_P (dC, dI) vwCl ((xW h a e cI cJ cO cE L I7 M J14 n cap fE sd si sa dl).set 15 (a 4, .inr (5, [.ref (a 12), .ref (a 13), .ref (a 14), .long (L 8), .int (nI (z1 + 1)), .int (I7 10), .int (I7 11)]))) H := hP
          replace hD : va_D A ((xW h a e cI cJ cO cE L I7 M J14 n cap fE sd si sa dl).set 15 (a 4, .inr (5, [.ref (a 12), .ref (a 13), .ref (a 14), .long (L 8), .int (nI (z1 + 1)), .int (I7 10), .int (I7 11)]))) := hD
          rw [xF_I9] at hP hD
          obtain ⟨I15, eI15⟩ : ∃ f9 : Nat → Int32, f9 = va_up I7 9 (nI (z1 + 1)) := ⟨_, rfl⟩
          rw [← eI15] at hP hD
          replace hX : InvX n cap fE sd dl (b) I15 J14 si := by rw [eI15]; exact hX.set9 (x := z1 + 1) (by omega)
          replace hUI : ∀ j9 : Nat, j9 ∉ ([9, 10] : List Nat) → I15 j9 = I j9 := by rw [eI15]; exact mw_up (by decide) hUI
          rw [hQ]
          exact W.vret hx hb hr (fun t ht hW => ⟨⟨(I15, J14), rfl, ⟨hX.mono (by omega), hUI, hUJ, trivial⟩, by rw [ht]; exact hP, hD⟩, hS.F ht⟩) hS.2.2 dX4_add_104
        · replace c13 : ¬ (i8 ≤ 0) := fun q9 => c13 ((nI_leI (a := i8) (b := 0) (by omega) (by omega)).mpr q9)
          refine lv_aload_n hx hb dX4_add_47 rfl (lv_at hl 1 rfl) ?_
          refine lv_iload_n hx hb dX4_add_48 rfl (lv_at hl 2 rfl) ?_
          refine lv_aload_n hx hb dX4_add_49 rfl (lv_at hl 1 rfl) ?_
          refine va_get (D := (dC, dI)) (ci := 5) (v := .ref (a 12)) (C := RX4) (T := TX4) (N := 7) hx hb hts in_x_padd_X4 hown hK hP 15 rfl rfl 0 (by decide) (hts (.fieldLink RX4 9 "ServiceTree$Plan" "sorted" "[I") (by decide +kernel)) (fun _ h9 => h9) rfl dX4_add_50 ?_
          refine lv_iload hx hb dX4_add_53 (lv_at hl 0 rfl) ?_
          refine lv_iconst (v := 1) hx hb dX4_add_55 (by decide) ?_
          refine lv_isub hx hb dX4_add_56 ?_
          refine p1_topr (v := .int (nI (i8 - 1))) (congrArg Value.int (pk_sub (a := i8) (b := 1) (by omega))) ?_
          refine va_iald (n := 40) (f := J12 0) hx hb hK hP 16 0 rfl rfl (vp_in_nI (n := i8 - 1) (by omega) (by omega)) dX4_add_57 ?_
          obtain ⟨z16, hz16, ez16⟩ := hX.2.2.1 (nI (i8 - 1)).toNatClampNeg
          refine p1_topr (v := .int (nI z16)) (congrArg Value.int ez16) ?_
          have hFc := mw_free hD hS hA
          refine va_calli (va_runV (As := [.int (nI av), .int (nI z16)]) (rest := []) ⟨hx, hb, hml, hown, hts⟩ (c_x_isBefore l dC dI h a e cI cJ cO cE L I7 M J12 n cap fE sd si sa dl (b) av z16 H.size hX (by omega) (by omega) (by omega)) (cwV 2 hts wc_x_padd_x_isBefore_42 rfl rfl rfl (by decide +kernel) ⟨Nat.le_of_ble_eq_true rfl, Nat.le_of_ble_eq_true rfl⟩) ⟨fun a9 U g mk q => by obtain ⟨q0, q1, qP, qK, qD, qN⟩ := q; exact ⟨q0, q1, qP, va_K.moved (u := U) (U := U.calling g mk a9) (Vm.Alike.refl U.vm) qK, qD, pw_N.same (u := U) (U := U.calling g mk a9) rfl qN⟩, va_recv hK hP (ci := 5) (q0 := 15) rfl rfl, fun U hU hW => ⟨rfl, by rw [hU], by rw [hU]; exact hP, va_K.moved hW.alike hK, hD.weaken (fun _ _ _ _ => trivial), pw_N.warm hW hN⟩⟩ rfl rfl hl.1 rfl (lv_room (Nat.le_of_ble_eq_true rfl)) dX4_add_58 ⟨Nat.le_of_ble_eq_true rfl, Nat.le_of_ble_eq_true rfl⟩) hS (fun q _ h => hFc q h) hFc (fun r17 u t H1 locs ht hvm hw hB hz1 hk1 hS => ?_)
          replace hP := hB.1
          rw [ht] at hP
          replace hD : va_D A (xW h a e cI cJ cO cE L I7 M J12 n cap fE sd si sa dl) := hB.2.weaken (fun _ q _ h9 => hFc q.1 h9)
          clear hB
          generalize H1 = H at hP hS ⊢
          replace hP : va_P (dC, dI) vwCl (xW h a e cI cJ cO cE L I7 M J12 n cap fE sd si sa dl) H := hP
          refine lv_if_eq (tgt := 86) hx hb dX4_add_61 (by decide) (fun c18 => ?_) (fun c18 => ?_)
          · refine lv_aload_n hx hb dX4_add_86 rfl (lv_at hl 1 rfl) ?_
            refine va_get (D := (dC, dI)) (ci := 5) (v := .ref (a 12)) (C := RX4) (T := TX4) (N := 7) hx hb hts in_x_padd_X4 hown hK hP 15 rfl rfl 0 (by decide) (hts (.fieldLink RX4 9 "ServiceTree$Plan" "sorted" "[I") (by decide +kernel)) (fun _ h9 => h9) rfl dX4_add_87 ?_
            refine lv_iload hx hb dX4_add_90 (lv_at hl 0 rfl) ?_
            refine lv_iload_n hx hb dX4_add_92 rfl (lv_at hl 2 rfl) ?_
            refine va_iast (n := 40) (f := J12 0) hx hb hK hP hD hS 16 0 rfl rfl (vp_in_nI (n := i8) (by omega) (by omega)) dX4_add_93 (fun H locs hP hD hS => ?_)
            rw [xJ_0] at hP hD
            obtain ⟨J19, eJ19⟩ : ∃ f9 : Nat → Nat → Int32, f9 = va_up J12 0 (upd (J12 0) (nI i8).toNatClampNeg (nI av)) := ⟨_, rfl⟩
            rw [← eJ19] at hP hD
            replace hX : InvX n cap fE sd dl (b) I7 J19 si := by rw [eJ19]; exact hX.setJ0 (i := (nI i8).toNatClampNeg) (x := av) (by omega)
            replace hUJ : ∀ j9 : Nat, j9 ∉ ([0, 1, 2] : List Nat) → J19 j9 = J j9 := by rw [eJ19]; exact mw_up (by decide) hUJ
            refine lv_aload_n hx hb dX4_add_94 rfl (lv_at hl 1 rfl) ?_
            refine lv_dup hx hb dX4_add_95 rfl ?_
            refine va_get (D := (dC, dI)) (ci := 5) (v := .int (I7 9)) (C := RX4) (T := TX4) (N := 7) hx hb hts in_x_padd_X4 hown hK hP 15 rfl rfl 4 (by decide) (hts (.fieldLink RX4 25 "ServiceTree$Plan" "size" "I") (by decide +kernel)) (fun _ h9 => h9) rfl dX4_add_96 ?_
            refine p1_topr (v := .int (nI z1)) (congrArg Value.int (by rw [eI7, va_up_ne _ _ (by decide)]; exact ez1)) ?_
            refine lv_iconst (v := 1) hx hb dX4_add_99 (by decide) ?_
            refine lv_iadd hx hb dX4_add_100 ?_
            refine p1_topr (v := .int (nI (z1 + 1))) (congrArg Value.int (nI_add z1 1)) ?_
            refine va_put (D := (dC, dI)) (ci := 5) (fs := [.ref (a 12), .ref (a 13), .ref (a 14), .long (L 8), .int (I7 9), .int (I7 10), .int (I7 11)]) (v := .int (nI (z1 + 1))) (ty := .int) (C := RX4) (T := TX4) (N := 7) hx hb hts in_x_padd_X4 tyX4 tyX4_ok nmX4 hown hK hP hD hS 15 rfl rfl 4 (by decide) (hts (.fieldLink RX4 25 "ServiceTree$Plan" "size" "I") (by decide +kernel)) (fun _ h9 => h9) rfl (by decide +kernel) rfl rfl (Nat.le_of_ble_eq_true rfl) dX4_add_101 (fun H locs hP hD hS => ?_)
            replace hP : va_P (dC, dI) vwCl ((xW h a e cI cJ cO cE L I7 M J19 n cap fE sd si sa dl).set 15 (a 4, .inr (5, [.ref (a 12), .ref (a 13), .ref (a 14), .long (L 8), .int (nI (z1 + 1)), .int (I7 10), .int (I7 11)]))) H := hP
            replace hD : va_D A ((xW h a e cI cJ cO cE L I7 M J19 n cap fE sd si sa dl).set 15 (a 4, .inr (5, [.ref (a 12), .ref (a 13), .ref (a 14), .long (L 8), .int (nI (z1 + 1)), .int (I7 10), .int (I7 11)]))) := hD
            rw [xF_I9] at hP hD
            obtain ⟨I20, eI20⟩ : ∃ f9 : Nat → Int32, f9 = va_up I7 9 (nI (z1 + 1)) := ⟨_, rfl⟩
            rw [← eI20] at hP hD
            replace hX : InvX n cap fE sd dl (b) I20 J19 si := by rw [eI20]; exact hX.set9 (x := z1 + 1) (by omega)
            replace hUI : ∀ j9 : Nat, j9 ∉ ([9, 10] : List Nat) → I20 j9 = I j9 := by rw [eI20]; exact mw_up (by decide) hUI
            rw [hQ]
            exact W.vret hx hb hr (fun t ht hW => ⟨⟨(I20, J19), rfl, ⟨hX.mono (by omega), hUI, hUJ, trivial⟩, by rw [ht]; exact hP, hD⟩, hS.F ht⟩) hS.2.2 dX4_add_104
          · refine lv_aload_n hx hb dX4_add_64 rfl (lv_at hl 1 rfl) ?_
            refine va_get (D := (dC, dI)) (ci := 5) (v := .ref (a 12)) (C := RX4) (T := TX4) (N := 7) hx hb hts in_x_padd_X4 hown hK hP 15 rfl rfl 0 (by decide) (hts (.fieldLink RX4 9 "ServiceTree$Plan" "sorted" "[I") (by decide +kernel)) (fun _ h9 => h9) rfl dX4_add_65 ?_
            refine lv_iload hx hb dX4_add_68 (lv_at hl 0 rfl) ?_
            refine lv_aload_n hx hb dX4_add_70 rfl (lv_at hl 1 rfl) ?_
            refine va_get (D := (dC, dI)) (ci := 5) (v := .ref (a 12)) (C := RX4) (T := TX4) (N := 7) hx hb hts in_x_padd_X4 hown hK hP 15 rfl rfl 0 (by decide) (hts (.fieldLink RX4 9 "ServiceTree$Plan" "sorted" "[I") (by decide +kernel)) (fun _ h9 => h9) rfl dX4_add_71 ?_
            refine lv_iload hx hb dX4_add_74 (lv_at hl 0 rfl) ?_
            refine lv_iconst (v := 1) hx hb dX4_add_76 (by decide) ?_
            refine lv_isub hx hb dX4_add_77 ?_
            refine p1_topr (v := .int (nI (i8 - 1))) (congrArg Value.int (pk_sub (a := i8) (b := 1) (by omega))) ?_
            refine va_iald (n := 40) (f := J12 0) hx hb hK hP 16 0 rfl rfl (vp_in_nI (n := i8 - 1) (by omega) (by omega)) dX4_add_78 ?_
            obtain ⟨z21, hz21, ez21⟩ := hX.2.2.1 (nI (i8 - 1)).toNatClampNeg
            refine p1_topr (v := .int (nI z21)) (congrArg Value.int ez21) ?_
            refine va_iast (n := 40) (f := J12 0) hx hb hK hP hD hS 16 0 rfl rfl (vp_in_nI (n := i8) (by omega) (by omega)) dX4_add_79 (fun H locs hP hD hS => ?_)
            rw [xJ_0] at hP hD
            obtain ⟨J22, eJ22⟩ : ∃ f9 : Nat → Nat → Int32, f9 = va_up J12 0 (upd (J12 0) (nI i8).toNatClampNeg (nI z21)) := ⟨_, rfl⟩
            rw [← eJ22] at hP hD
            replace hX : InvX n cap fE sd dl (b) I7 J22 si := by rw [eJ22]; exact hX.setJ0 (i := (nI i8).toNatClampNeg) (x := z21) (by omega)
            replace hUJ : ∀ j9 : Nat, j9 ∉ ([0, 1, 2] : List Nat) → J22 j9 = J j9 := by rw [eJ22]; exact mw_up (by decide) hUJ
            refine lv_iinc (v := (nI (i8 - 1))) (lv' := [(4, .int (nI (i8 - 1))), (0, .ref (a 4)), (1, .int (nI av)), (2, .int p1), (3, .int p2)]) hx hb dX4_add_80 hl (k := 0) rfl (sb_m1 (by omega)) (by decide) rfl (fun ls hl => ?_)
            refine lv_goto (tgt := 42) hx hb dX4_add_83 (by decide) ?_
            exact ih10 (i8 - 1)  J22 _ _ _ (by omega) (by omega) (hX.mono (by omega)) hUJ  hP hD hS (lv_sub hl [0, 1, 2, 3, 4] rfl)
    exact lp11 (z1 + 1) z1  J4 _ _ _ (by omega) (by omega) (hX.mono (by omega)) hUJ  hP hD hS hl
  · replace c2 : ¬ (z1 < 40) := fun q9 => c2 ((nI_ltI (a := z1) (b := 40) (by omega) (by omega)).mpr q9)
    rw [hQ]
    exact W.vret hx hb hr (fun t ht hW => ⟨⟨(I, J), rfl, ⟨hX.mono (by omega), hUI, hUJ, trivial⟩, by rw [ht]; exact hP, hD⟩, hS.F ht⟩) hS.2.2 dX4_add_9
def wq_x_endOf : List Cond := [.code yX4_endOf cX4_endOf 5 (some .int), .initialized RX8, .static yX8_holds, .fieldLink RX4 18 "ServiceTree$Plan" "ends" "[I", .methodLink RX4 36 Lib.Math.max.name, .static Lib.Math.max.name, .initialized "java/lang/Math", .code Lib.Math.max.name Lib.Math.max.code 2 (some .int)] ++ (wsX40 ++ (wq_x_holds))
theorem in_x_endOf_X4 : ∀ w ∈ wsX40, w ∈ wq_x_endOf := fun _ h => List.mem_append_right _ (List.mem_append_left _ (h))
set_option maxRecDepth 20000 in
theorem wi_x_endOf : ∀ w ∈ wq_x_endOf, w ∈ lw_tbl := List.forall_mem_append.mpr ⟨(by decide +kernel), List.forall_mem_append.mpr ⟨inKX4, wi_x_holds⟩⟩
set_option maxRecDepth 20000 in
theorem wg_x_endOf : GoodIn wq_x_endOf wq_x_endOf := goodIn_sub (fun _ h => h) (by decide +kernel)
theorem wc_x_endOf_x_holds_46 : GoodIn wq_x_endOf wq_x_holds := (fun w h => ⟨List.mem_append_right _ (List.mem_append_right _ (h)), (wg_x_holds w h).2⟩)
def rm_x_endOf : Room := { frames := 1, cells := 0, slots := 0, locals := 24 }
set_option maxHeartbeats 4000000 in
set_option maxRecDepth 100000 in
theorem c_x_endOf (l : Launch) (dC : Nat → ClassId) (dI : Nat → Nat → Nat) (h : Nat) (a : Nat → Nat) (e : Nat) (cI cJ cO cE : ClassId) (L : Nat → Int64) (I : Nat → Int32) (M : Nat → Nat → Int64) (J : Nat → Nat → Int32) (n cap : Nat) (fE : Nat → Option Nat) (sd : Nat → Nat → Nat) (si : Nat → Nat → Int32) (sa : Nat → Nat → Nat → Int32) (dl : Nat → Nat) (b : Nat) (p0 : Int64) (sz : Nat) (hX0 : InvX n cap fE sd dl b I J si) (hb0 : b + 0 < 2147483648)  : Met l yX4_endOf wq_x_endOf rm_x_endOf (va_Pc [.ref (a 4), .long p0] (fun U => U.heap.size = sz ∧ va_P (dC, dI) vwCl (xW h a e cI cJ cO cE L I M J n cap fE sd si sa dl) U.heap ∧ va_K (dC, dI) vwCl (xT cI cJ cO cE) U ∧ va_D (fun _ => True) (xW h a e cI cJ cO cE L I M J n cap fE sd si sa dl) ∧ pw_N U)) (va_Qi (fun (r : Int32) (u : Unit) => (True)) (fun (u : Unit) (t : State) => va_P (dC, dI) vwCl (xW h a e cI cJ cO cE L I M J n cap fE sd si sa dl) t.heap ∧ va_D (va_A (xW h a e cI cJ cO cE L I M J n cap fE sd si sa dl) sz) (xW h a e cI cJ cO cE L I M J n cap fE sd si sa dl)) (va_A (xW h a e cI cJ cO cE L I M J n cap fE sd si sa dl) sz)) 0 0 (va_A (xW h a e cI cJ cO cE L I M J n cap fE sd si sa dl) sz) := by
  have hn : n ≤ 40 := hX0.1.1
  have hX := hX0
  refine Met.ofW (cc := cX4_endOf) (maxL := 5) (ret := (some .int)) (by decide) rfl ?_
  intro p e9 s m args below meth c s₁ B hml hv
  obtain ⟨rfl, hsz, hP, hK, hD0, hN⟩ := hv
  have hx := B.exec
  have hb := B.bytes
  have hr := B.returns
  have hts := atoms_spec (ws := wq_x_endOf) B.pre
  have hown : s.vm.findClass RX4 = some m.cls := findClass_of_methodNamed B.named
  have hlocks := B.notSynchronized
  subst hsz
  have hD := hD0.self (sz := s.heap.size)
  generalize hAe : va_A (xW h a e cI cJ cO cE L I M J n cap fE sd si sa dl) s.heap.size = A at hD ⊢
  have hA : ∀ q : Nat, s.heap.size ≤ q → A q := fun q h => by rw [← hAe]; exact Or.inr h
  have hS : va_S A s.heap s.heap [] := va_S.rf
  have hl := lv_entry ([.ref (a 4), .long p0]) (n := 5) (Nat.le_of_ble_eq_true rfl)
  rw [lg_entry_eq]
  generalize (lg_sl ([.ref (a 4), .long p0]) ++ List.replicate (5 - (lg_sl ([.ref (a 4), .long p0])).length) Slot.unset).toArray = ls at hl ⊢
  have hl : lv_has ls 5 [(0, .ref (a 4)), (1, .long p0)] := hl
  refine mw_Q (fun Q0 hQ => ?_)
  refine lv_iconst (v := 0) hx hb dX4_endOf_0 (by decide) ?_
  refine lv_istore_n (lv' := [(3, .int 0), (0, .ref (a 4)), (1, .long p0)]) hx hb dX4_endOf_1 rfl hl (by decide) rfl (fun ls hl => ?_)
  refine lv_iconst (v := 0) hx hb dX4_endOf_2 (by decide) ?_
  refine lv_istore (lv' := [(4, .int 0), (3, .int 0), (0, .ref (a 4)), (1, .long p0)]) hx hb dX4_endOf_3 hl (by decide) rfl (fun ls hl => ?_)
  have lp4 : ∀ (fu2 i1 : Nat) (y5 : Int32)  (H : Heap) (locs : List Loc) (ls : Array Slot), 40 < i1 + fu2 → i1 ≤ 40 → va_P (dC, dI) vwCl (xW h a e cI cJ cO cE L I M J n cap fE sd si sa dl) H → va_D A (xW h a e cI cJ cO cE L I M J n cap fE sd si sa dl) → va_S A s.heap H locs → lv_has ls 5 [(4, .int (nI i1)), (3, .int y5), (0, .ref (a 4)), (1, .long p0)] → W p l e9 (headSpec wq_x_endOf rm_x_endOf).room s m ([.ref (a 4), .long p0] : List Value).toArray below meth c H locs 0 0 Q0 (F0 m 5 ls []) := by
    intro fu2
    induction fu2 with
    | zero =>
      intro i1 y5  H locs ls hf hi
      exact absurd hf (by omega)
    | succ fu2 ih3 =>
      intro i1 y5  H locs ls hfi1 hii1 hP hD hS hl
      refine lv_iload hx hb dX4_endOf_5 (lv_at hl 0 rfl) ?_
      refine lv_bipush (v := 40) hx hb dX4_endOf_7 (by decide) ?_
      refine lv_icmp_ge (tgt := 39) hx hb dX4_endOf_9 (by decide) (fun c6 => ?_) (fun c6 => ?_)
      · replace c6 : 40 ≤ i1 := (nI_leI (a := 40) (b := i1) (by omega) (by omega)).mp c6
        refine lv_iload_n hx hb dX4_endOf_39 rfl (lv_at hl 1 rfl) ?_
        rw [hQ]
        exact W.iret (v := y5) hx hb hr (fun t ht hW => ⟨⟨y5, (), rfl, trivial, by rw [ht]; exact hP, hD⟩, hS.F ht⟩) hS.2.2 dX4_endOf_40
      · replace c6 : ¬ (40 ≤ i1) := fun q9 => c6 ((nI_leI (a := 40) (b := i1) (by omega) (by omega)).mpr q9)
        refine lv_lload_n hx hb dX4_endOf_12 rfl (lv_at hl 3 rfl) ?_
        refine lv_iload hx hb dX4_endOf_13 (lv_at hl 0 rfl) ?_
        have hFc := mw_free hD hS hA
        refine va_calli (va_runSN (As := [.long p0, .int (nI i1)]) (rest := []) ⟨hx, hb, hml, hown, hts⟩ (c_x_holds l dC dI h a e cI cJ cO cE L I M J n cap fE sd si sa dl (b) p0 (nI i1) H.size hX (by omega) ) ⟨va_cnB 2 hts wc_x_endOf_x_holds_46 rfl rfl rfl (hN (.methodLinkNest RX4 46 yX8_holds "ServiceTree") (by decide +kernel)) (hts (.initialized RX8) (by decide +kernel)) (by decide +kernel) ⟨Nat.le_of_ble_eq_true rfl, Nat.le_of_ble_eq_true rfl⟩, hts (.static yX8_holds) (by decide +kernel), trivial⟩ ⟨fun a9 U g mk q => by obtain ⟨q0, q1, qP, qK, qD, qN⟩ := q; exact ⟨q0, q1, qP, va_K.moved (u := U) (U := U.calling g mk a9) (Vm.Alike.refl U.vm) qK, qD, pw_N.same (u := U) (U := U.calling g mk a9) rfl qN⟩, fun U hU hW => ⟨rfl, by rw [hU], by rw [hU]; exact hP, va_K.moved hW.alike hK, hD.weaken (fun _ _ _ _ => trivial), pw_N.warm hW hN⟩⟩ rfl rfl hl.1 rfl (lv_room (Nat.le_of_ble_eq_true rfl)) dX4_endOf_15 ⟨Nat.le_of_ble_eq_true rfl, Nat.le_of_ble_eq_true rfl⟩) hS (fun q _ h => hFc q h) hFc (fun r7 u t H1 locs ht hvm hw hB hz1 hk1 hS => ?_)
        replace hP := hB.1
        rw [ht] at hP
        replace hD : va_D A (xW h a e cI cJ cO cE L I M J n cap fE sd si sa dl) := hB.2.weaken (fun _ q _ h9 => hFc q.1 h9)
        clear hB
        generalize H1 = H at hP hS ⊢
        replace hP : va_P (dC, dI) vwCl (xW h a e cI cJ cO cE L I M J n cap fE sd si sa dl) H := hP
        have br7 := hw
        refine lv_if_eq (tgt := 33) hx hb dX4_endOf_18 (by decide) (fun c8 => ?_) (fun c8 => ?_)
        · refine lv_iinc (v := (nI (i1 + 1))) (lv' := [(4, .int (nI (i1 + 1))), (3, .int y5), (0, .ref (a 4)), (1, .long p0)]) hx hb dX4_endOf_33 hl (k := 0) rfl (nI_add i1 1) (by decide) rfl (fun ls hl => ?_)
          refine lv_goto (tgt := 5) hx hb dX4_endOf_36 (by decide) ?_
          exact ih3 (i1 + 1) y5  _ _ _ (by omega) (by omega)  hP hD hS (lv_sub hl [0, 1, 2, 3] rfl)
        · refine lv_iload_n hx hb dX4_endOf_21 rfl (lv_at hl 1 rfl) ?_
          refine lv_aload_n hx hb dX4_endOf_22 rfl (lv_at hl 2 rfl) ?_
          refine va_get (D := (dC, dI)) (ci := 5) (v := .ref (a 14)) (C := RX4) (T := TX4) (N := 7) hx hb hts in_x_endOf_X4 hown hK hP 15 rfl rfl 2 (by decide) (hts (.fieldLink RX4 18 "ServiceTree$Plan" "ends" "[I") (by decide +kernel)) (fun _ h9 => h9) rfl dX4_endOf_23 ?_
          refine lv_iload hx hb dX4_endOf_26 (lv_at hl 0 rfl) ?_
          refine va_iald (n := 40) (f := J 2) hx hb hK hP 18 0 rfl rfl (vp_in_nI (n := i1) (by omega) (by omega)) dX4_endOf_28 ?_
          refine lv_topi (fun x9 ex9 => ?_)
          refine va_mmax hx hb (by rw [hml]; exact hl.1.symm) hown (hts (.methodLink RX4 36 Lib.Math.max.name) (by decide +kernel)) (hts (.static Lib.Math.max.name) (by decide +kernel)) (hts (.initialized "java/lang/Math") (by decide +kernel)) (hts (.code Lib.Math.max.name Lib.Math.max.code 2 (some .int)) (by decide +kernel)) (Nat.le_of_ble_eq_true rfl) (Nat.le_of_ble_eq_true rfl) (Nat.le_of_ble_eq_true rfl) (Nat.le_of_ble_eq_true rfl) dX4_endOf_29 ?_
          refine lv_topi (fun x10 ex10 => ?_)
          refine lv_istore_n (lv' := [(3, .int x10), (4, .int (nI i1)), (0, .ref (a 4)), (1, .long p0)]) hx hb dX4_endOf_32 rfl hl (by decide) rfl (fun ls hl => ?_)
          refine lv_iinc (v := (nI (i1 + 1))) (lv' := [(4, .int (nI (i1 + 1))), (3, .int x10), (0, .ref (a 4)), (1, .long p0)]) hx hb dX4_endOf_33 hl (k := 1) rfl (nI_add i1 1) (by decide) rfl (fun ls hl => ?_)
          refine lv_goto (tgt := 5) hx hb dX4_endOf_36 (by decide) ?_
          exact ih3 (i1 + 1) x10  _ _ _ (by omega) (by omega)  hP hD hS (lv_sub hl [0, 1, 2, 3] rfl)
  exact lp4 (40 + 1) 0 0  _ _ _ (by omega) (by omega)  hP hD hS hl
def wq_x_ptell : List Cond := [.code yX4_tell cX4_tell 4 (some .int), .fieldLink RX4 25 "ServiceTree$Plan" "size" "I", .initialized RX8, .static yX8_within, .fieldLink RX4 9 "ServiceTree$Plan" "sorted" "[I", .fieldLink RX4 21 "ServiceTree$Plan" "starts" "J", .static yX8_holds, .fieldLink RX4 15 "ServiceTree$Plan" "begins" "[I", .fieldLink RX4 18 "ServiceTree$Plan" "ends" "[I"] ++ (wsX40 ++ (wq_x_within ++ (wq_x_holds)))
theorem in_x_ptell_X4 : ∀ w ∈ wsX40, w ∈ wq_x_ptell := fun _ h => List.mem_append_right _ (List.mem_append_left _ (h))
set_option maxRecDepth 20000 in
theorem wi_x_ptell : ∀ w ∈ wq_x_ptell, w ∈ lw_tbl := List.forall_mem_append.mpr ⟨(by decide +kernel), List.forall_mem_append.mpr ⟨inKX4, List.forall_mem_append.mpr ⟨wi_x_within, wi_x_holds⟩⟩⟩
set_option maxRecDepth 20000 in
theorem wg_x_ptell : GoodIn wq_x_ptell wq_x_ptell := goodIn_sub (fun _ h => h) (by decide +kernel)
theorem wc_x_ptell_x_within_50 : GoodIn wq_x_ptell wq_x_within := (fun w h => ⟨List.mem_append_right _ (List.mem_append_right _ (List.mem_append_left _ (h))), (wg_x_within w h).2⟩)
theorem wc_x_ptell_x_holds_46 : GoodIn wq_x_ptell wq_x_holds := (fun w h => ⟨List.mem_append_right _ (List.mem_append_right _ (List.mem_append_right _ (h))), (wg_x_holds w h).2⟩)
def rm_x_ptell : Room := { frames := 1, cells := 0, slots := 0, locals := 22 }
set_option maxHeartbeats 4000000 in
set_option maxRecDepth 100000 in
theorem c_x_ptell (l : Launch) (dC : Nat → ClassId) (dI : Nat → Nat → Nat) (h : Nat) (a : Nat → Nat) (e : Nat) (cI cJ cO cE : ClassId) (L : Nat → Int64) (I : Nat → Int32) (M : Nat → Nat → Int64) (J : Nat → Nat → Int32) (n cap : Nat) (fE : Nat → Option Nat) (sd : Nat → Nat → Nat) (si : Nat → Nat → Int32) (sa : Nat → Nat → Nat → Int32) (dl : Nat → Nat) (b : Nat) (p0 : Int32) (p1 : Int32) (sz : Nat) (hX0 : InvX n cap fE sd dl b I J si) (hb0 : b + 0 < 2147483648)  : Met l yX4_tell wq_x_ptell rm_x_ptell (va_Pc [.ref (a 4), .int p0, .int p1] (fun U => U.heap.size = sz ∧ va_P (dC, dI) vwCl (xW h a e cI cJ cO cE L I M J n cap fE sd si sa dl) U.heap ∧ va_K (dC, dI) vwCl (xT cI cJ cO cE) U ∧ va_D (fun _ => True) (xW h a e cI cJ cO cE L I M J n cap fE sd si sa dl) ∧ pw_N U)) (va_Qi (fun (r : Int32) (u : Unit) => (True)) (fun (u : Unit) (t : State) => va_P (dC, dI) vwCl (xW h a e cI cJ cO cE L I M J n cap fE sd si sa dl) t.heap ∧ va_D (va_A (xW h a e cI cJ cO cE L I M J n cap fE sd si sa dl) sz) (xW h a e cI cJ cO cE L I M J n cap fE sd si sa dl)) (va_A (xW h a e cI cJ cO cE L I M J n cap fE sd si sa dl) sz)) 0 0 (va_A (xW h a e cI cJ cO cE L I M J n cap fE sd si sa dl) sz) := by
  have hn : n ≤ 40 := hX0.1.1
  have hX := hX0
  refine Met.ofW (cc := cX4_tell) (maxL := 4) (ret := (some .int)) (by decide) rfl ?_
  intro p e9 s m args below meth c s₁ B hml hv
  obtain ⟨rfl, hsz, hP, hK, hD0, hN⟩ := hv
  have hx := B.exec
  have hb := B.bytes
  have hr := B.returns
  have hts := atoms_spec (ws := wq_x_ptell) B.pre
  have hown : s.vm.findClass RX4 = some m.cls := findClass_of_methodNamed B.named
  have hlocks := B.notSynchronized
  subst hsz
  have hD := hD0.self (sz := s.heap.size)
  generalize hAe : va_A (xW h a e cI cJ cO cE L I M J n cap fE sd si sa dl) s.heap.size = A at hD ⊢
  have hA : ∀ q : Nat, s.heap.size ≤ q → A q := fun q h => by rw [← hAe]; exact Or.inr h
  have hS : va_S A s.heap s.heap [] := va_S.rf
  have hl := lv_entry ([.ref (a 4), .int p0, .int p1]) (n := 4) (Nat.le_of_ble_eq_true rfl)
  rw [lg_entry_eq]
  generalize (lg_sl ([.ref (a 4), .int p0, .int p1]) ++ List.replicate (4 - (lg_sl ([.ref (a 4), .int p0, .int p1])).length) Slot.unset).toArray = ls at hl ⊢
  have hl : lv_has ls 4 [(0, .ref (a 4)), (1, .int p0), (2, .int p1)] := hl
  refine lv_iload_n hx hb dX4_tell_0 rfl (lv_at hl 1 rfl) ?_
  refine lv_iconst (v := 0) hx hb dX4_tell_1 (by decide) ?_
  refine lv_aload_n hx hb dX4_tell_2 rfl (lv_at hl 0 rfl) ?_
  refine va_get (D := (dC, dI)) (ci := 5) (v := .int (I 9)) (C := RX4) (T := TX4) (N := 7) hx hb hts in_x_ptell_X4 hown hK hP 15 rfl rfl 4 (by decide) (hts (.fieldLink RX4 25 "ServiceTree$Plan" "size" "I") (by decide +kernel)) (fun _ h9 => h9) rfl dX4_tell_3 ?_
  obtain ⟨z1, hz1, ez1⟩ := hX.2.1.1
  refine p1_topr (v := .int (nI z1)) (congrArg Value.int ez1) ?_
  refine lv_iconst (v := 1) hx hb dX4_tell_6 (by decide) ?_
  refine lv_isub hx hb dX4_tell_7 ?_
  refine lv_topi (fun x2 ex2 => ?_)
  have hFc := mw_free hD hS hA
  refine va_calli (va_runSN (As := [.int p0, .int 0, .int x2]) (rest := []) ⟨hx, hb, hml, hown, hts⟩ (c_x_within l dC dI h a e cI cJ cO cE L I M J n cap fE sd si sa dl (b) p0 0 x2 s.heap.size hX (by omega) ) ⟨va_cnB 3 hts wc_x_ptell_x_within_50 rfl rfl rfl (hN (.methodLinkNest RX4 50 yX8_within "ServiceTree") (by decide +kernel)) (hts (.initialized RX8) (by decide +kernel)) (by decide +kernel) ⟨Nat.le_of_ble_eq_true rfl, Nat.le_of_ble_eq_true rfl⟩, hts (.static yX8_within) (by decide +kernel), trivial⟩ ⟨fun a9 U g mk q => by obtain ⟨q0, q1, qP, qK, qD, qN⟩ := q; exact ⟨q0, q1, qP, va_K.moved (u := U) (U := U.calling g mk a9) (Vm.Alike.refl U.vm) qK, qD, pw_N.same (u := U) (U := U.calling g mk a9) rfl qN⟩, fun U hU hW => ⟨rfl, by rw [hU], by rw [hU]; exact hP, va_K.moved hW.alike hK, hD.weaken (fun _ _ _ _ => trivial), pw_N.warm hW hN⟩⟩ rfl rfl hl.1 rfl (lv_room (Nat.le_of_ble_eq_true rfl)) dX4_tell_8 ⟨Nat.le_of_ble_eq_true rfl, Nat.le_of_ble_eq_true rfl⟩) hS (fun q _ h => hFc q h) hFc (fun r3 u t H1 locs ht hvm hw hB hz1 hk1 hS => ?_)
  replace hP := hB.1
  rw [ht] at hP
  replace hD : va_D A (xW h a e cI cJ cO cE L I M J n cap fE sd si sa dl) := hB.2.weaken (fun _ q _ h9 => hFc q.1 h9)
  clear hB
  generalize H1 = H at hP hS ⊢
  replace hP : va_P (dC, dI) vwCl (xW h a e cI cJ cO cE L I M J n cap fE sd si sa dl) H := hP
  rcases hw with ⟨rfl, haj4, hbj4⟩ | ⟨rfl, noj4⟩
  · obtain ⟨j4, hj4, ej4⟩ := xw_within (z := z1) (by omega) haj4 hbj4 ex2
    subst ej4
    refine lv_if_ne (tgt := 16) hx hb dX4_tell_11 (by decide) (fun _ => ?_) (fun c9 => absurd c9 (by decide))
    refine lv_aload_n hx hb dX4_tell_16 rfl (lv_at hl 0 rfl) ?_
    refine va_get (D := (dC, dI)) (ci := 5) (v := .ref (a 12)) (C := RX4) (T := TX4) (N := 7) hx hb hts in_x_ptell_X4 hown hK hP 15 rfl rfl 0 (by decide) (hts (.fieldLink RX4 9 "ServiceTree$Plan" "sorted" "[I") (by decide +kernel)) (fun _ h9 => h9) rfl dX4_tell_17 ?_
    refine lv_iload_n hx hb dX4_tell_20 rfl (lv_at hl 1 rfl) ?_
    refine va_iald (n := 40) (f := J 0) hx hb hK hP 16 0 rfl rfl (vp_in_nI (n := j4) (by omega) (by omega)) dX4_tell_21 ?_
    obtain ⟨z5, hz5, ez5⟩ := hX.2.2.1 (nI j4).toNatClampNeg
    refine p1_topr (v := .int (nI z5)) (congrArg Value.int ez5) ?_
    refine lv_istore_n (lv' := [(3, .int (nI z5)), (0, .ref (a 4)), (1, .int (nI j4)), (2, .int p1)]) hx hb dX4_tell_22 rfl hl (by decide) rfl (fun ls hl => ?_)
    refine lv_iload_n hx hb dX4_tell_23 rfl (lv_at hl 3 rfl) ?_
    rcases Classical.em (p1 = 0) with c6 | c6
    · refine lv_tableIn (tgt := 56) (off := 32) hx hb dX4_tell_24 (by rw [c6]; decide) (by rw [c6]; decide) (by rw [c6]; rfl) (by decide) ?_
      refine lv_iload_n hx hb dX4_tell_56 rfl (lv_at hl 0 rfl) ?_
      exact W.iret (v := (nI z5)) hx hb hr (fun t ht hW => ⟨⟨(nI z5), (), rfl, trivial, by rw [ht]; exact hP, hD⟩, hS.F ht⟩) hS.2.2 dX4_tell_57
    rcases Classical.em (p1 = 1) with c7 | c7
    · refine lv_tableIn (tgt := 58) (off := 34) hx hb dX4_tell_24 (by rw [c7]; decide) (by rw [c7]; decide) (by rw [c7]; rfl) (by decide) ?_
      refine lv_aload_n hx hb dX4_tell_58 rfl (lv_at hl 1 rfl) ?_
      refine va_get (D := (dC, dI)) (ci := 5) (v := .long (L 8)) (C := RX4) (T := TX4) (N := 7) hx hb hts in_x_ptell_X4 hown hK hP 15 rfl rfl 3 (by decide) (hts (.fieldLink RX4 21 "ServiceTree$Plan" "starts" "J") (by decide +kernel)) (fun _ h9 => h9) rfl dX4_tell_59 ?_
      refine lv_topl (fun x8 ex8 => ?_)
      refine lv_iload_n hx hb dX4_tell_62 rfl (lv_at hl 0 rfl) ?_
      have hFc := mw_free hD hS hA
      refine va_calli (va_runSN (As := [.long x8, .int (nI z5)]) (rest := []) ⟨hx, hb, hml, hown, hts⟩ (c_x_holds l dC dI h a e cI cJ cO cE L I M J n cap fE sd si sa dl (b) x8 (nI z5) H.size hX (by omega) ) ⟨va_cnB 2 hts wc_x_ptell_x_holds_46 rfl rfl rfl (hN (.methodLinkNest RX4 46 yX8_holds "ServiceTree") (by decide +kernel)) (hts (.initialized RX8) (by decide +kernel)) (by decide +kernel) ⟨Nat.le_of_ble_eq_true rfl, Nat.le_of_ble_eq_true rfl⟩, hts (.static yX8_holds) (by decide +kernel), trivial⟩ ⟨fun a9 U g mk q => by obtain ⟨q0, q1, qP, qK, qD, qN⟩ := q; exact ⟨q0, q1, qP, va_K.moved (u := U) (U := U.calling g mk a9) (Vm.Alike.refl U.vm) qK, qD, pw_N.same (u := U) (U := U.calling g mk a9) rfl qN⟩, fun U hU hW => ⟨rfl, by rw [hU], by rw [hU]; exact hP, va_K.moved hW.alike hK, hD.weaken (fun _ _ _ _ => trivial), pw_N.warm hW hN⟩⟩ rfl rfl hl.1 rfl (lv_room (Nat.le_of_ble_eq_true rfl)) dX4_tell_63 ⟨Nat.le_of_ble_eq_true rfl, Nat.le_of_ble_eq_true rfl⟩) hS (fun q _ h => hFc q h) hFc (fun r9 u t H1 locs ht hvm hw hB hz1 hk1 hS => ?_)
      replace hP := hB.1
      rw [ht] at hP
      replace hD : va_D A (xW h a e cI cJ cO cE L I M J n cap fE sd si sa dl) := hB.2.weaken (fun _ q _ h9 => hFc q.1 h9)
      clear hB
      generalize H1 = H at hP hS ⊢
      replace hP : va_P (dC, dI) vwCl (xW h a e cI cJ cO cE L I M J n cap fE sd si sa dl) H := hP
      have br9 := hw
      refine lv_if_eq (tgt := 73) hx hb dX4_tell_66 (by decide) (fun c10 => ?_) (fun c10 => ?_)
      · refine lv_iconst (v := 2) hx hb dX4_tell_73 (by decide) ?_
        exact W.iret (v := 2) hx hb hr (fun t ht hW => ⟨⟨2, (), rfl, trivial, by rw [ht]; exact hP, hD⟩, hS.F ht⟩) hS.2.2 dX4_tell_74
      · refine lv_iconst (v := 1) hx hb dX4_tell_69 (by decide) ?_
        refine lv_goto (tgt := 74) hx hb dX4_tell_70 (by decide) ?_
        exact W.iret (v := 1) hx hb hr (fun t ht hW => ⟨⟨1, (), rfl, trivial, by rw [ht]; exact hP, hD⟩, hS.F ht⟩) hS.2.2 dX4_tell_74
    rcases Classical.em (p1 = 2) with c11 | c11
    · refine lv_tableIn (tgt := 75) (off := 51) hx hb dX4_tell_24 (by rw [c11]; decide) (by rw [c11]; decide) (by rw [c11]; rfl) (by decide) ?_
      refine lv_aload_n hx hb dX4_tell_75 rfl (lv_at hl 1 rfl) ?_
      refine va_get (D := (dC, dI)) (ci := 5) (v := .ref (a 13)) (C := RX4) (T := TX4) (N := 7) hx hb hts in_x_ptell_X4 hown hK hP 15 rfl rfl 1 (by decide) (hts (.fieldLink RX4 15 "ServiceTree$Plan" "begins" "[I") (by decide +kernel)) (fun _ h9 => h9) rfl dX4_tell_76 ?_
      refine lv_iload_n hx hb dX4_tell_79 rfl (lv_at hl 0 rfl) ?_
      refine va_iald (n := 40) (f := J 1) hx hb hK hP 17 0 rfl rfl (vp_in_nI (n := z5) (by omega) (by omega)) dX4_tell_80 ?_
      refine lv_topi (fun x12 ex12 => ?_)
      exact W.iret (v := x12) hx hb hr (fun t ht hW => ⟨⟨x12, (), rfl, trivial, by rw [ht]; exact hP, hD⟩, hS.F ht⟩) hS.2.2 dX4_tell_81
    rcases Classical.em (p1 = 3) with c13 | c13
    · refine lv_tableIn (tgt := 82) (off := 58) hx hb dX4_tell_24 (by rw [c13]; decide) (by rw [c13]; decide) (by rw [c13]; rfl) (by decide) ?_
      refine lv_aload_n hx hb dX4_tell_82 rfl (lv_at hl 1 rfl) ?_
      refine va_get (D := (dC, dI)) (ci := 5) (v := .ref (a 14)) (C := RX4) (T := TX4) (N := 7) hx hb hts in_x_ptell_X4 hown hK hP 15 rfl rfl 2 (by decide) (hts (.fieldLink RX4 18 "ServiceTree$Plan" "ends" "[I") (by decide +kernel)) (fun _ h9 => h9) rfl dX4_tell_83 ?_
      refine lv_iload_n hx hb dX4_tell_86 rfl (lv_at hl 0 rfl) ?_
      refine va_iald (n := 40) (f := J 2) hx hb hK hP 18 0 rfl rfl (vp_in_nI (n := z5) (by omega) (by omega)) dX4_tell_87 ?_
      refine lv_topi (fun x14 ex14 => ?_)
      exact W.iret (v := x14) hx hb hr (fun t ht hW => ⟨⟨x14, (), rfl, trivial, by rw [ht]; exact hP, hD⟩, hS.F ht⟩) hS.2.2 dX4_tell_88
    refine lv_tableOut (tgt := 89) hx hb dX4_tell_24 (by have k0 := c6; have k1 := c7; have k2 := c11; have k3 := c13; simp only [p1_le, p1_lt, p1_eq, p1_m6, p1_m1, p1_0, p1_1, p1_2, p1_3, p1_4, p1_5, p1_6, p1_7, p1_8, p1_9, p1_10, p1_11, p1_12, p1_13, p1_14, p1_15, p1_16, p1_17, p1_18, p1_19, p1_20, p1_40, p1_50, p1_200, p1_1000] at k0 k1 k2 k3 ⊢; omega) (by decide) ?_
    refine lv_iconst (v := (-1)) hx hb dX4_tell_89 (by decide) ?_
    exact W.iret (v := (-1)) hx hb hr (fun t ht hW => ⟨⟨(-1), (), rfl, trivial, by rw [ht]; exact hP, hD⟩, hS.F ht⟩) hS.2.2 dX4_tell_90
  · refine lv_if_ne (tgt := 16) hx hb dX4_tell_11 (by decide) (fun c9 => absurd (by decide) c9) (fun _ => ?_)
    refine lv_iconst (v := (-1)) hx hb dX4_tell_14 (by decide) ?_
    exact W.iret (v := (-1)) hx hb hr (fun t ht hW => ⟨⟨(-1), (), rfl, trivial, by rw [ht]; exact hP, hD⟩, hS.F ht⟩) hS.2.2 dX4_tell_15
def wq_x_exists : List Cond := [.code yX8_exists cX8_exists 2 (some .boolean), .fieldLink RX8 10 "ServiceTree" "services" "Ljava/util/ArrayList;", .methodLink RX8 61 yJx4a65c_size_8abf5, .instanceMethod yJx4a65c_size_8abf5, .selects RJx4a65c yJx4a65c_size_8abf5 yJx4a65c_size_8abf5, .initialized RJx4a65c, .methodLink RX8 57 yX8_within, .static yX8_within, .initialized RX8] ++ (wsX80 ++ (wq_x_size ++ (wq_x_within)))
theorem in_x_exists_X8 : ∀ w ∈ wsX80, w ∈ wq_x_exists := fun _ h => List.mem_append_right _ (List.mem_append_left _ (h))
set_option maxRecDepth 20000 in
theorem wi_x_exists : ∀ w ∈ wq_x_exists, w ∈ lw_tbl := List.forall_mem_append.mpr ⟨(by decide +kernel), List.forall_mem_append.mpr ⟨inKX8, List.forall_mem_append.mpr ⟨wi_x_size, wi_x_within⟩⟩⟩
set_option maxRecDepth 20000 in
theorem wg_x_exists : GoodIn wq_x_exists wq_x_exists := goodIn_sub (fun _ h => h) (by decide +kernel)
set_option maxRecDepth 20000 in
theorem wc_x_exists_x_size_61 : GoodIn wq_x_exists (wsV RX8 61 RJx4a65c yJx4a65c_size_8abf5 wq_x_size) := goodIn_app (goodIn_of _ (by decide +kernel)) (fun w h => ⟨List.mem_append_right _ (List.mem_append_right _ (List.mem_append_left _ (h))), (wg_x_size w h).2⟩)
set_option maxRecDepth 20000 in
theorem wc_x_exists_x_within_57 : GoodIn wq_x_exists (va_wsS RX8 57 yX8_within wq_x_within) := goodIn_app (goodIn_of _ (by decide +kernel)) (fun w h => ⟨List.mem_append_right _ (List.mem_append_right _ (List.mem_append_right _ (h))), (wg_x_within w h).2⟩)
def rm_x_exists : Room := { frames := 1, cells := 0, slots := 0, locals := 22 }
set_option maxHeartbeats 4000000 in
set_option maxRecDepth 100000 in
theorem c_x_exists (l : Launch) (dC : Nat → ClassId) (dI : Nat → Nat → Nat) (h : Nat) (a : Nat → Nat) (e : Nat) (cI cJ cO cE : ClassId) (L : Nat → Int64) (I : Nat → Int32) (M : Nat → Nat → Int64) (J : Nat → Nat → Int32) (n cap : Nat) (fE : Nat → Option Nat) (sd : Nat → Nat → Nat) (si : Nat → Nat → Int32) (sa : Nat → Nat → Nat → Int32) (dl : Nat → Nat) (b : Nat) (p0 : Int32) (sz : Nat) (hX0 : InvX n cap fE sd dl b I J si) (hb0 : b + 0 < 2147483648)  : Met l yX8_exists wq_x_exists rm_x_exists (va_Pc [.ref h, .int p0] (fun U => U.heap.size = sz ∧ va_P (dC, dI) vwCl (xW h a e cI cJ cO cE L I M J n cap fE sd si sa dl) U.heap ∧ va_K (dC, dI) vwCl (xT cI cJ cO cE) U ∧ va_D (fun _ => True) (xW h a e cI cJ cO cE L I M J n cap fE sd si sa dl) ∧ pw_N U)) (va_Qi (fun (r : Int32) (u : Unit) => ((r = 1 ∧ ∃ j : Nat, j < n ∧ p0 = nI j) ∨ (r = 0 ∧ (p0 < 0 ∨ nI n ≤ p0)))) (fun (u : Unit) (t : State) => va_P (dC, dI) vwCl (xW h a e cI cJ cO cE L I M J n cap fE sd si sa dl) t.heap ∧ va_D (va_A (xW h a e cI cJ cO cE L I M J n cap fE sd si sa dl) sz) (xW h a e cI cJ cO cE L I M J n cap fE sd si sa dl)) (va_A (xW h a e cI cJ cO cE L I M J n cap fE sd si sa dl) sz)) 0 0 (va_A (xW h a e cI cJ cO cE L I M J n cap fE sd si sa dl) sz) := by
  have hn : n ≤ 40 := hX0.1.1
  have hX := hX0
  refine Met.ofW (cc := cX8_exists) (maxL := 2) (ret := (some .boolean)) (by decide) rfl ?_
  intro p e9 s m args below meth c s₁ B hml hv
  obtain ⟨rfl, hsz, hP, hK, hD0, hN⟩ := hv
  have hx := B.exec
  have hb := B.bytes
  have hr := B.returns
  have hts := atoms_spec (ws := wq_x_exists) B.pre
  have hown : s.vm.findClass RX8 = some m.cls := findClass_of_methodNamed B.named
  have hlocks := B.notSynchronized
  subst hsz
  have hD := hD0.self (sz := s.heap.size)
  generalize hAe : va_A (xW h a e cI cJ cO cE L I M J n cap fE sd si sa dl) s.heap.size = A at hD ⊢
  have hA : ∀ q : Nat, s.heap.size ≤ q → A q := fun q h => by rw [← hAe]; exact Or.inr h
  have hS : va_S A s.heap s.heap [] := va_S.rf
  have hl := lv_entry ([.ref h, .int p0]) (n := 2) (Nat.le_of_ble_eq_true rfl)
  rw [lg_entry_eq]
  generalize (lg_sl ([.ref h, .int p0]) ++ List.replicate (2 - (lg_sl ([.ref h, .int p0])).length) Slot.unset).toArray = ls at hl ⊢
  have hl : lv_has ls 2 [(0, .ref h), (1, .int p0)] := hl
  refine lv_iload_n hx hb dX8_exists_0 rfl (lv_at hl 1 rfl) ?_
  refine lv_iconst (v := 0) hx hb dX8_exists_1 (by decide) ?_
  refine lv_aload_n hx hb dX8_exists_2 rfl (lv_at hl 0 rfl) ?_
  refine va_get (D := (dC, dI)) (ci := 9) (v := .ref (a 0)) (C := RX8) (T := TX8) (N := 14) hx hb hts in_x_exists_X8 hown hK hP 0 rfl rfl 0 (by decide) (hts (.fieldLink RX8 10 "ServiceTree" "services" "Ljava/util/ArrayList;") (by decide +kernel)) (fun _ h9 => h9) rfl dX8_exists_3 ?_
  have hFc := mw_free hD hS hA
  refine va_calli (va_runV (As := []) (rest := [.int 0, .int p0]) ⟨hx, hb, hml, hown, hts⟩ (c_x_size l dC dI h a e cI cJ cO cE L I M J n cap fE sd si sa dl (b)  s.heap.size hX (by omega) ) (cwV 0 hts wc_x_exists_x_size_61 rfl rfl rfl (by decide +kernel) ⟨Nat.le_of_ble_eq_true rfl, Nat.le_of_ble_eq_true rfl⟩) ⟨fun a9 U g mk q => by obtain ⟨q0, q1, qP, qK, qD, qN⟩ := q; exact ⟨q0, q1, qP, va_K.moved (u := U) (U := U.calling g mk a9) (Vm.Alike.refl U.vm) qK, qD, pw_N.same (u := U) (U := U.calling g mk a9) rfl qN⟩, va_recv hK hP (ci := 0) (q0 := 1) rfl rfl, fun U hU hW => ⟨rfl, by rw [hU], by rw [hU]; exact hP, va_K.moved hW.alike hK, hD.weaken (fun _ _ _ _ => trivial), pw_N.warm hW hN⟩⟩ rfl rfl hl.1 rfl (lv_room (Nat.le_of_ble_eq_true rfl)) dX8_exists_6 ⟨Nat.le_of_ble_eq_true rfl, Nat.le_of_ble_eq_true rfl⟩) hS (fun q _ h => hFc q h) hFc (fun r1 u t H1 locs ht hvm hw hB hz1 hk1 hS => ?_)
  replace hP := hB.1
  rw [ht] at hP
  replace hD : va_D A (xW h a e cI cJ cO cE L I M J n cap fE sd si sa dl) := hB.2.weaken (fun _ q _ h9 => hFc q.1 h9)
  clear hB
  generalize H1 = H at hP hS ⊢
  replace hP : va_P (dC, dI) vwCl (xW h a e cI cJ cO cE L I M J n cap fE sd si sa dl) H := hP
  obtain rfl : r1 = nI n := hw
  refine lv_iconst (v := 1) hx hb dX8_exists_9 (by decide) ?_
  refine lv_isub hx hb dX8_exists_10 ?_
  refine lv_topi (fun x2 ex2 => ?_)
  have hFc := mw_free hD hS hA
  refine va_calli (va_runS (As := [.int p0, .int 0, .int x2]) (rest := []) ⟨hx, hb, hml, hown, hts⟩ (c_x_within l dC dI h a e cI cJ cO cE L I M J n cap fE sd si sa dl (b) p0 0 x2 H.size hX (by omega) ) (va_cwS 3 hts wc_x_exists_x_within_57 rfl rfl rfl (by decide +kernel) ⟨Nat.le_of_ble_eq_true rfl, Nat.le_of_ble_eq_true rfl⟩) ⟨fun a9 U g mk q => by obtain ⟨q0, q1, qP, qK, qD, qN⟩ := q; exact ⟨q0, q1, qP, va_K.moved (u := U) (U := U.calling g mk a9) (Vm.Alike.refl U.vm) qK, qD, pw_N.same (u := U) (U := U.calling g mk a9) rfl qN⟩, fun U hU hW => ⟨rfl, by rw [hU], by rw [hU]; exact hP, va_K.moved hW.alike hK, hD.weaken (fun _ _ _ _ => trivial), pw_N.warm hW hN⟩⟩ rfl rfl hl.1 rfl (lv_room (Nat.le_of_ble_eq_true rfl)) dX8_exists_11 ⟨Nat.le_of_ble_eq_true rfl, Nat.le_of_ble_eq_true rfl⟩) hS (fun q _ h => hFc q h) hFc (fun r3 u t H1 locs ht hvm hw hB hz1 hk1 hS => ?_)
  replace hP := hB.1
  rw [ht] at hP
  replace hD : va_D A (xW h a e cI cJ cO cE L I M J n cap fE sd si sa dl) := hB.2.weaken (fun _ q _ h9 => hFc q.1 h9)
  clear hB
  generalize H1 = H at hP hS ⊢
  replace hP : va_P (dC, dI) vwCl (xW h a e cI cJ cO cE L I M J n cap fE sd si sa dl) H := hP
  rcases hw with ⟨rfl, haj4, hbj4⟩ | ⟨rfl, noj4⟩
  · obtain ⟨j4, hj4, ej4⟩ := xw_within (z := n) (by omega) haj4 hbj4 ex2
    subst ej4
    exact W.zret (v := 1) hx hb hr (by decide) (fun t ht hW => ⟨⟨1, (), rfl, Or.inl ⟨rfl, j4, hj4, rfl⟩, by rw [ht]; exact hP, hD⟩, hS.F ht⟩) hS.2.2 dX8_exists_14
  · exact W.zret (v := 0) hx hb hr (by decide) (fun t ht hW => ⟨⟨0, (), rfl, Or.inr ⟨rfl, xw_without (z := n) (by omega) noj4 ex2⟩, by rw [ht]; exact hP, hD⟩, hS.F ht⟩) hS.2.2 dX8_exists_14
