theorem dX0_isFull_0 : decode cX0_isFull 0 = .ok (.aload_n 0, 1) := by decide +kernel
theorem dX0_isFull_1 : decode cX0_isFull 1 = .ok (.getfield 17, 3) := by decide +kernel
theorem dX0_isFull_4 : decode cX0_isFull 4 = .ok (.aload_n 0, 1) := by decide +kernel
theorem dX0_isFull_5 : decode cX0_isFull 5 = .ok (.getfield 13, 3) := by decide +kernel
theorem dX0_isFull_8 : decode cX0_isFull 8 = .ok (.arraylength, 1) := by decide +kernel
theorem dX0_isFull_9 : decode cX0_isFull 9 = .ok (.if_icmp .lt 7, 3) := by decide +kernel
theorem dX0_isFull_12 : decode cX0_isFull 12 = .ok (.iconst 1, 1) := by decide +kernel
theorem dX0_isFull_13 : decode cX0_isFull 13 = .ok (.goto 4, 3) := by decide +kernel
theorem dX0_isFull_16 : decode cX0_isFull 16 = .ok (.iconst 0, 1) := by decide +kernel
theorem dX0_isFull_17 : decode cX0_isFull 17 = .ok (.ireturn, 1) := by decide +kernel
theorem dX0_put_0 : decode cX0_put 0 = .ok (.aload_n 0, 1) := by decide +kernel
theorem dX0_put_1 : decode cX0_put 1 = .ok (.invokevirtual 20, 3) := by decide +kernel
theorem dX0_put_4 : decode cX0_put 4 = .ok (.ifCond .eq 4, 3) := by decide +kernel
theorem dX0_put_7 : decode cX0_put 7 = .ok (.return_, 1) := by decide +kernel
theorem dX0_put_8 : decode cX0_put 8 = .ok (.aload_n 0, 1) := by decide +kernel
theorem dX0_put_9 : decode cX0_put 9 = .ok (.getfield 13, 3) := by decide +kernel
theorem dX0_put_12 : decode cX0_put 12 = .ok (.aload_n 0, 1) := by decide +kernel
theorem dX0_put_13 : decode cX0_put 13 = .ok (.getfield 24, 3) := by decide +kernel
theorem dX0_put_16 : decode cX0_put 16 = .ok (.aload_n 0, 1) := by decide +kernel
theorem dX0_put_17 : decode cX0_put 17 = .ok (.getfield 17, 3) := by decide +kernel
theorem dX0_put_20 : decode cX0_put 20 = .ok (.iadd, 1) := by decide +kernel
theorem dX0_put_21 : decode cX0_put 21 = .ok (.aload_n 0, 1) := by decide +kernel
theorem dX0_put_22 : decode cX0_put 22 = .ok (.getfield 13, 3) := by decide +kernel
theorem dX0_put_25 : decode cX0_put 25 = .ok (.arraylength, 1) := by decide +kernel
theorem dX0_put_26 : decode cX0_put 26 = .ok (.irem, 1) := by decide +kernel
theorem dX0_put_27 : decode cX0_put 27 = .ok (.iload_n 1, 1) := by decide +kernel
theorem dX0_put_28 : decode cX0_put 28 = .ok (.iastore, 1) := by decide +kernel
theorem dX0_put_29 : decode cX0_put 29 = .ok (.aload_n 0, 1) := by decide +kernel
theorem dX0_put_30 : decode cX0_put 30 = .ok (.dup, 1) := by decide +kernel
theorem dX0_put_31 : decode cX0_put 31 = .ok (.getfield 17, 3) := by decide +kernel
theorem dX0_put_34 : decode cX0_put 34 = .ok (.iconst 1, 1) := by decide +kernel
theorem dX0_put_35 : decode cX0_put 35 = .ok (.iadd, 1) := by decide +kernel
theorem dX0_put_36 : decode cX0_put 36 = .ok (.putfield 17, 3) := by decide +kernel
theorem dX0_put_39 : decode cX0_put 39 = .ok (.return_, 1) := by decide +kernel
theorem dX0_readFirst_0 : decode cX0_readFirst 0 = .ok (.aload_n 0, 1) := by decide +kernel
theorem dX0_readFirst_1 : decode cX0_readFirst 1 = .ok (.getfield 17, 3) := by decide +kernel
theorem dX0_readFirst_4 : decode cX0_readFirst 4 = .ok (.ifCond .eq 11, 3) := by decide +kernel
theorem dX0_readFirst_7 : decode cX0_readFirst 7 = .ok (.aload_n 0, 1) := by decide +kernel
theorem dX0_readFirst_8 : decode cX0_readFirst 8 = .ok (.getfield 13, 3) := by decide +kernel
theorem dX0_readFirst_11 : decode cX0_readFirst 11 = .ok (.arraylength, 1) := by decide +kernel
theorem dX0_readFirst_12 : decode cX0_readFirst 12 = .ok (.ifCond .ne 4, 3) := by decide +kernel
theorem dX0_readFirst_15 : decode cX0_readFirst 15 = .ok (.return_, 1) := by decide +kernel
theorem dX0_readFirst_16 : decode cX0_readFirst 16 = .ok (.aload_n 0, 1) := by decide +kernel
theorem dX0_readFirst_17 : decode cX0_readFirst 17 = .ok (.aload_n 0, 1) := by decide +kernel
theorem dX0_readFirst_18 : decode cX0_readFirst 18 = .ok (.getfield 13, 3) := by decide +kernel
theorem dX0_readFirst_21 : decode cX0_readFirst 21 = .ok (.aload_n 0, 1) := by decide +kernel
theorem dX0_readFirst_22 : decode cX0_readFirst 22 = .ok (.getfield 24, 3) := by decide +kernel
theorem dX0_readFirst_25 : decode cX0_readFirst 25 = .ok (.iaload, 1) := by decide +kernel
theorem dX0_readFirst_26 : decode cX0_readFirst 26 = .ok (.putfield 7, 3) := by decide +kernel
theorem dX0_readFirst_29 : decode cX0_readFirst 29 = .ok (.aload_n 0, 1) := by decide +kernel
theorem dX0_readFirst_30 : decode cX0_readFirst 30 = .ok (.aload_n 0, 1) := by decide +kernel
theorem dX0_readFirst_31 : decode cX0_readFirst 31 = .ok (.getfield 24, 3) := by decide +kernel
theorem dX0_readFirst_34 : decode cX0_readFirst 34 = .ok (.iconst 1, 1) := by decide +kernel
theorem dX0_readFirst_35 : decode cX0_readFirst 35 = .ok (.iadd, 1) := by decide +kernel
theorem dX0_readFirst_36 : decode cX0_readFirst 36 = .ok (.aload_n 0, 1) := by decide +kernel
theorem dX0_readFirst_37 : decode cX0_readFirst 37 = .ok (.getfield 13, 3) := by decide +kernel
theorem dX0_readFirst_40 : decode cX0_readFirst 40 = .ok (.arraylength, 1) := by decide +kernel
theorem dX0_readFirst_41 : decode cX0_readFirst 41 = .ok (.irem, 1) := by decide +kernel
theorem dX0_readFirst_42 : decode cX0_readFirst 42 = .ok (.putfield 24, 3) := by decide +kernel
theorem dX0_readFirst_45 : decode cX0_readFirst 45 = .ok (.aload_n 0, 1) := by decide +kernel
theorem dX0_readFirst_46 : decode cX0_readFirst 46 = .ok (.dup, 1) := by decide +kernel
theorem dX0_readFirst_47 : decode cX0_readFirst 47 = .ok (.getfield 17, 3) := by decide +kernel
theorem dX0_readFirst_50 : decode cX0_readFirst 50 = .ok (.iconst 1, 1) := by decide +kernel
theorem dX0_readFirst_51 : decode cX0_readFirst 51 = .ok (.isub, 1) := by decide +kernel
theorem dX0_readFirst_52 : decode cX0_readFirst 52 = .ok (.putfield 17, 3) := by decide +kernel
theorem dX0_readFirst_55 : decode cX0_readFirst 55 = .ok (.aload_n 0, 1) := by decide +kernel
theorem dX0_readFirst_56 : decode cX0_readFirst 56 = .ok (.dup, 1) := by decide +kernel
theorem dX0_readFirst_57 : decode cX0_readFirst 57 = .ok (.getfield 27, 3) := by decide +kernel
theorem dX0_readFirst_60 : decode cX0_readFirst 60 = .ok (.iconst 1, 1) := by decide +kernel
theorem dX0_readFirst_61 : decode cX0_readFirst 61 = .ok (.iadd, 1) := by decide +kernel
theorem dX0_readFirst_62 : decode cX0_readFirst 62 = .ok (.putfield 27, 3) := by decide +kernel
theorem dX0_readFirst_65 : decode cX0_readFirst 65 = .ok (.return_, 1) := by decide +kernel
theorem dX7_enter_0 : decode cX7_enter 0 = .ok (.aload_n 0, 1) := by decide +kernel
theorem dX7_enter_1 : decode cX7_enter 1 = .ok (.iload_n 1, 1) := by decide +kernel
theorem dX7_enter_2 : decode cX7_enter 2 = .ok (.putfield 22, 3) := by decide +kernel
theorem dX7_enter_5 : decode cX7_enter 5 = .ok (.aload_n 0, 1) := by decide +kernel
theorem dX7_enter_6 : decode cX7_enter 6 = .ok (.iload_n 2, 1) := by decide +kernel
theorem dX7_enter_7 : decode cX7_enter 7 = .ok (.putfield 35, 3) := by decide +kernel
theorem dX7_enter_10 : decode cX7_enter 10 = .ok (.aload_n 0, 1) := by decide +kernel
theorem dX7_enter_11 : decode cX7_enter 11 = .ok (.iconst 0, 1) := by decide +kernel
theorem dX7_enter_12 : decode cX7_enter 12 = .ok (.putfield 47, 3) := by decide +kernel
theorem dX7_enter_15 : decode cX7_enter 15 = .ok (.aload_n 0, 1) := by decide +kernel
theorem dX7_enter_16 : decode cX7_enter 16 = .ok (.iconst 0, 1) := by decide +kernel
theorem dX7_enter_17 : decode cX7_enter 17 = .ok (.putfield 51, 3) := by decide +kernel
theorem dX7_enter_20 : decode cX7_enter 20 = .ok (.iload_n 1, 1) := by decide +kernel
theorem dX7_enter_21 : decode cX7_enter 21 = .ok (.iconst 2, 1) := by decide +kernel
theorem dX7_enter_22 : decode cX7_enter 22 = .ok (.if_icmp .ne 35, 3) := by decide +kernel
theorem dX7_enter_25 : decode cX7_enter 25 = .ok (.aload_n 0, 1) := by decide +kernel
theorem dX7_enter_26 : decode cX7_enter 26 = .ok (.aload_n 0, 1) := by decide +kernel
theorem dX7_enter_27 : decode cX7_enter 27 = .ok (.getfield 9, 3) := by decide +kernel
theorem dX7_enter_30 : decode cX7_enter 30 = .ok (.iconst 0, 1) := by decide +kernel
theorem dX7_enter_31 : decode cX7_enter 31 = .ok (.aload_n 0, 1) := by decide +kernel
theorem dX7_enter_32 : decode cX7_enter 32 = .ok (.getfield 54, 3) := by decide +kernel
theorem dX7_enter_35 : decode cX7_enter 35 = .ok (.bipush 7, 2) := by decide +kernel
theorem dX7_enter_37 : decode cX7_enter 37 = .ok (.invokestatic 57, 3) := by decide +kernel
theorem dX7_enter_40 : decode cX7_enter 40 = .ok (.invokestatic 63, 3) := by decide +kernel
theorem dX7_enter_43 : decode cX7_enter 43 = .ok (.iaload, 1) := by decide +kernel
theorem dX7_enter_44 : decode cX7_enter 44 = .ok (.putfield 51, 3) := by decide +kernel
theorem dX7_enter_47 : decode cX7_enter 47 = .ok (.aload_n 0, 1) := by decide +kernel
theorem dX7_enter_48 : decode cX7_enter 48 = .ok (.dup, 1) := by decide +kernel
theorem dX7_enter_49 : decode cX7_enter 49 = .ok (.getfield 54, 3) := by decide +kernel
theorem dX7_enter_52 : decode cX7_enter 52 = .ok (.iconst 1, 1) := by decide +kernel
theorem dX7_enter_53 : decode cX7_enter 53 = .ok (.iadd, 1) := by decide +kernel
theorem dX7_enter_54 : decode cX7_enter 54 = .ok (.putfield 54, 3) := by decide +kernel
theorem dX7_enter_57 : decode cX7_enter 57 = .ok (.iload_n 1, 1) := by decide +kernel
theorem dX7_enter_58 : decode cX7_enter 58 = .ok (.iconst 4, 1) := by decide +kernel
theorem dX7_enter_59 : decode cX7_enter 59 = .ok (.if_icmp .eq 8, 3) := by decide +kernel
theorem dX7_enter_62 : decode cX7_enter 62 = .ok (.iload_n 1, 1) := by decide +kernel
theorem dX7_enter_63 : decode cX7_enter 63 = .ok (.iconst 5, 1) := by decide +kernel
theorem dX7_enter_64 : decode cX7_enter 64 = .ok (.if_icmp .ne 13, 3) := by decide +kernel
theorem dX7_enter_67 : decode cX7_enter 67 = .ok (.aload_n 0, 1) := by decide +kernel
theorem dX7_enter_68 : decode cX7_enter 68 = .ok (.dup, 1) := by decide +kernel
theorem dX7_enter_69 : decode cX7_enter 69 = .ok (.getfield 66, 3) := by decide +kernel
theorem dX7_enter_72 : decode cX7_enter 72 = .ok (.iconst 1, 1) := by decide +kernel
theorem dX7_enter_73 : decode cX7_enter 73 = .ok (.iadd, 1) := by decide +kernel
theorem dX7_enter_74 : decode cX7_enter 74 = .ok (.putfield 66, 3) := by decide +kernel
theorem dX7_enter_77 : decode cX7_enter 77 = .ok (.iload_n 1, 1) := by decide +kernel
theorem dX7_enter_78 : decode cX7_enter 78 = .ok (.iconst 5, 1) := by decide +kernel
theorem dX7_enter_79 : decode cX7_enter 79 = .ok (.if_icmp .ne 11, 3) := by decide +kernel
theorem dX7_enter_82 : decode cX7_enter 82 = .ok (.aload_n 0, 1) := by decide +kernel
theorem dX7_enter_83 : decode cX7_enter 83 = .ok (.getfield 18, 3) := by decide +kernel
theorem dX7_enter_86 : decode cX7_enter 86 = .ok (.iload_n 2, 1) := by decide +kernel
theorem dX7_enter_87 : decode cX7_enter 87 = .ok (.invokevirtual 69, 3) := by decide +kernel
theorem dX7_enter_90 : decode cX7_enter 90 = .ok (.return_, 1) := by decide +kernel
theorem dX7_endByItself_0 : decode cX7_endByItself 0 = .ok (.aload_n 0, 1) := by decide +kernel
theorem dX7_endByItself_1 : decode cX7_endByItself 1 = .ok (.iconst 1, 1) := by decide +kernel
theorem dX7_endByItself_2 : decode cX7_endByItself 2 = .ok (.putfield 47, 3) := by decide +kernel
theorem dX7_endByItself_5 : decode cX7_endByItself 5 = .ok (.aload_n 0, 1) := by decide +kernel
theorem dX7_endByItself_6 : decode cX7_endByItself 6 = .ok (.iconst 0, 1) := by decide +kernel
theorem dX7_endByItself_7 : decode cX7_endByItself 7 = .ok (.putfield 51, 3) := by decide +kernel
theorem dX7_endByItself_10 : decode cX7_endByItself 10 = .ok (.return_, 1) := by decide +kernel
theorem dX7_isDue_0 : decode cX7_isDue 0 = .ok (.aload_n 0, 1) := by decide +kernel
theorem dX7_isDue_1 : decode cX7_isDue 1 = .ok (.invokevirtual 72, 3) := by decide +kernel
theorem dX7_isDue_4 : decode cX7_isDue 4 = .ok (.istore_n 2, 1) := by decide +kernel
theorem dX7_isDue_5 : decode cX7_isDue 5 = .ok (.iload_n 2, 1) := by decide +kernel
theorem dX7_isDue_6 : decode cX7_isDue 6 = .ok (.ifCond .le 17, 3) := by decide +kernel
theorem dX7_isDue_9 : decode cX7_isDue 9 = .ok (.iload_n 1, 1) := by decide +kernel
theorem dX7_isDue_10 : decode cX7_isDue 10 = .ok (.aload_n 0, 1) := by decide +kernel
theorem dX7_isDue_11 : decode cX7_isDue 11 = .ok (.getfield 35, 3) := by decide +kernel
theorem dX7_isDue_14 : decode cX7_isDue 14 = .ok (.isub, 1) := by decide +kernel
theorem dX7_isDue_15 : decode cX7_isDue 15 = .ok (.iload_n 2, 1) := by decide +kernel
theorem dX7_isDue_16 : decode cX7_isDue 16 = .ok (.if_icmp .lt 7, 3) := by decide +kernel
theorem dX7_isDue_19 : decode cX7_isDue 19 = .ok (.iconst 1, 1) := by decide +kernel
theorem dX7_isDue_20 : decode cX7_isDue 20 = .ok (.goto 4, 3) := by decide +kernel
theorem dX7_isDue_23 : decode cX7_isDue 23 = .ok (.iconst 0, 1) := by decide +kernel
theorem dX7_isDue_24 : decode cX7_isDue 24 = .ok (.ireturn, 1) := by decide +kernel
theorem dX7_span_0 : decode cX7_span 0 = .ok (.aload_n 0, 1) := by decide +kernel
theorem dX7_span_1 : decode cX7_span 1 = .ok (.getfield 22, 3) := by decide +kernel
theorem dX7_span_4 : decode cX7_span 4 = .ok (.tableswitch 59 1 5 #[36, 46, 41, 59, 51], 36) := by decide +kernel
theorem dX7_span_40 : decode cX7_span 40 = .ok (.aload_n 0, 1) := by decide +kernel
theorem dX7_span_41 : decode cX7_span 41 = .ok (.getfield 29, 3) := by decide +kernel
theorem dX7_span_44 : decode cX7_span 44 = .ok (.ireturn, 1) := by decide +kernel
theorem dX7_span_45 : decode cX7_span 45 = .ok (.aload_n 0, 1) := by decide +kernel
theorem dX7_span_46 : decode cX7_span 46 = .ok (.getfield 32, 3) := by decide +kernel
theorem dX7_span_49 : decode cX7_span 49 = .ok (.ireturn, 1) := by decide +kernel
theorem dX7_span_50 : decode cX7_span 50 = .ok (.aload_n 0, 1) := by decide +kernel
theorem dX7_span_51 : decode cX7_span 51 = .ok (.getfield 51, 3) := by decide +kernel
theorem dX7_span_54 : decode cX7_span 54 = .ok (.ireturn, 1) := by decide +kernel
theorem dX7_span_55 : decode cX7_span 55 = .ok (.aload_n 0, 1) := by decide +kernel
theorem dX7_span_56 : decode cX7_span 56 = .ok (.getfield 18, 3) := by decide +kernel
theorem dX7_span_59 : decode cX7_span 59 = .ok (.getfield 76, 3) := by decide +kernel
theorem dX7_span_62 : decode cX7_span 62 = .ok (.ireturn, 1) := by decide +kernel
theorem dX7_span_63 : decode cX7_span 63 = .ok (.iconst 0, 1) := by decide +kernel
theorem dX7_span_64 : decode cX7_span 64 = .ok (.ireturn, 1) := by decide +kernel
def wq_x_isFull : List Cond := [.code yX0_isFull cX0_isFull 1 (some .boolean), .fieldLink RX0 17 "ServiceTree$Door" "size" "I", .fieldLink RX0 13 "ServiceTree$Door" "letters" "[I"] ++ (wsX00)
theorem in_x_isFull_X0 : ∀ w ∈ wsX00, w ∈ wq_x_isFull := fun _ h => List.mem_append_right _ (h)
set_option maxRecDepth 20000 in
theorem wi_x_isFull : ∀ w ∈ wq_x_isFull, w ∈ lw_tbl := List.forall_mem_append.mpr ⟨(by decide +kernel), inKX0⟩
set_option maxRecDepth 20000 in
theorem wg_x_isFull : GoodIn wq_x_isFull wq_x_isFull := goodIn_sub (fun _ h => h) (by decide +kernel)
def rm_x_isFull : Room := { frames := 0, cells := 0, slots := 0, locals := 0 }
set_option maxHeartbeats 4000000 in
set_option maxRecDepth 100000 in
theorem c_x_isFull (l : Launch) (dC : Nat → ClassId) (dI : Nat → Nat → Nat) (h : Nat) (a : Nat → Nat) (e : Nat) (cI cJ cO cE : ClassId) (L : Nat → Int64) (I : Nat → Int32) (M : Nat → Nat → Int64) (J : Nat → Nat → Int32) (n cap : Nat) (fE : Nat → Option Nat) (sd : Nat → Nat → Nat) (si : Nat → Nat → Int32) (sa : Nat → Nat → Nat → Int32) (dl : Nat → Nat) (b : Nat) (sv : Nat) (sz : Nat) (hX0 : InvX n cap fE sd dl b I J si) (hb0 : b + 0 < 2147483648) (hp0 : sv < n) : Met l yX0_isFull wq_x_isFull rm_x_isFull (va_Pc [.ref (sd sv 4)] (fun U => U.heap.size = sz ∧ va_P (dC, dI) vwCl (xW h a e cI cJ cO cE L I M J n cap fE sd si sa dl) U.heap ∧ va_K (dC, dI) vwCl (xT cI cJ cO cE) U ∧ va_D (fun _ => True) (xW h a e cI cJ cO cE L I M J n cap fE sd si sa dl) ∧ pw_N U)) (va_Qi (fun (r : Int32) (u : Unit) => (r = 1 ∨ (r = 0 ∧ ∃ z : Nat, z < dl sv ∧ si sv 32 = nI z))) (fun (u : Unit) (t : State) => va_P (dC, dI) vwCl (xW h a e cI cJ cO cE L I M J n cap fE sd si sa dl) t.heap ∧ va_D (va_A (xW h a e cI cJ cO cE L I M J n cap fE sd si sa dl) sz) (xW h a e cI cJ cO cE L I M J n cap fE sd si sa dl)) (va_A (xW h a e cI cJ cO cE L I M J n cap fE sd si sa dl) sz)) 0 0 (va_A (xW h a e cI cJ cO cE L I M J n cap fE sd si sa dl) sz) := by
  have hn : n ≤ 40 := hX0.1.1
  have hX := hX0
  refine Met.ofW (cc := cX0_isFull) (maxL := 1) (ret := (some .boolean)) (by decide) rfl ?_
  intro p e9 s m args below meth c s₁ B hml hv
  obtain ⟨rfl, hsz, hP, hK, hD0, hN⟩ := hv
  have hx := B.exec
  have hb := B.bytes
  have hr := B.returns
  have hts := atoms_spec (ws := wq_x_isFull) B.pre
  have hown : s.vm.findClass RX0 = some m.cls := findClass_of_methodNamed B.named
  have hlocks := B.notSynchronized
  subst hsz
  have hD := hD0.self (sz := s.heap.size)
  generalize hAe : va_A (xW h a e cI cJ cO cE L I M J n cap fE sd si sa dl) s.heap.size = A at hD ⊢
  have hA : ∀ q : Nat, s.heap.size ≤ q → A q := fun q h => by rw [← hAe]; exact Or.inr h
  have hS : va_S A s.heap s.heap [] := va_S.rf
  have hl := lv_entry ([.ref (sd sv 4)]) (n := 1) (Nat.le_of_ble_eq_true rfl)
  rw [lg_entry_eq]
  generalize (lg_sl ([.ref (sd sv 4)]) ++ List.replicate (1 - (lg_sl ([.ref (sd sv 4)])).length) Slot.unset).toArray = ls at hl ⊢
  have hl : lv_has ls 1 [(0, .ref (sd sv 4))] := hl
  have hdl := (hX.2.2.2.2.2.2.1 sv).1
  refine lv_aload_n hx hb dX0_isFull_0 rfl (lv_at hl 0 rfl) ?_
  refine va_get (D := (dC, dI)) (ci := 1) (v := .int (si sv 32)) (C := RX0) (T := TX0) (N := 5) hx hb hts in_x_isFull_X0 hown hK hP (22 + (6 * sv + 4)) (xAt_4 h a e cI cJ cO cE L I M J n cap fE sd si sa dl (s := sv) (by omega)) rfl 2 (by decide) (hts (.fieldLink RX0 17 "ServiceTree$Door" "size" "I") (by decide +kernel)) (fun _ h9 => h9) rfl dX0_isFull_1 ?_
  obtain ⟨hdz1, z1, hz1, ez1⟩ := hX.2.2.2.2.2.2.1 sv
  refine p1_topr (v := .int (nI z1)) (congrArg Value.int ez1) ?_
  refine lv_aload_n hx hb dX0_isFull_4 rfl (lv_at hl 0 rfl) ?_
  refine va_get (D := (dC, dI)) (ci := 1) (v := .ref (sd sv 5)) (C := RX0) (T := TX0) (N := 5) hx hb hts in_x_isFull_X0 hown hK hP (22 + (6 * sv + 4)) (xAt_4 h a e cI cJ cO cE L I M J n cap fE sd si sa dl (s := sv) (by omega)) rfl 0 (by decide) (hts (.fieldLink RX0 13 "ServiceTree$Door" "letters" "[I") (by decide +kernel)) (fun _ h9 => h9) rfl dX0_isFull_5 ?_
  refine va_alen (v := (nI (dl sv))) hx hb hK hP (22 + (6 * sv + 5)) 0 (xAt_5 h a e cI cJ cO cE L I M J n cap fE sd si sa dl (s := sv) (by omega)) rfl rfl dX0_isFull_8 ?_
  refine lv_icmp_lt (tgt := 16) hx hb dX0_isFull_9 (by decide) (fun c2 => ?_) (fun c2 => ?_)
  · replace c2 : z1 < dl sv := (nI_ltI (a := z1) (b := dl sv) (by omega) (by omega)).mp c2
    refine lv_iconst (v := 0) hx hb dX0_isFull_16 (by decide) ?_
    exact W.zret (v := 0) hx hb hr (by decide) (fun t ht hW => ⟨⟨0, (), rfl, Or.inr ⟨rfl, z1, by omega, ez1⟩, by rw [ht]; exact hP, hD⟩, hS.F ht⟩) hS.2.2 dX0_isFull_17
  · replace c2 : ¬ (z1 < dl sv) := fun q9 => c2 ((nI_ltI (a := z1) (b := dl sv) (by omega) (by omega)).mpr q9)
    refine lv_iconst (v := 1) hx hb dX0_isFull_12 (by decide) ?_
    refine lv_goto (tgt := 17) hx hb dX0_isFull_13 (by decide) ?_
    exact W.zret (v := 1) hx hb hr (by decide) (fun t ht hW => ⟨⟨1, (), rfl, Or.inl rfl, by rw [ht]; exact hP, hD⟩, hS.F ht⟩) hS.2.2 dX0_isFull_17
def wq_x_put : List Cond := [.code yX0_put cX0_put 2 none, .fieldLink RX0 13 "ServiceTree$Door" "letters" "[I", .fieldLink RX0 24 "ServiceTree$Door" "first" "I", .fieldLink RX0 17 "ServiceTree$Door" "size" "I", .methodLink RX0 20 yX0_isFull, .instanceMethod yX0_isFull, .selects RX0 yX0_isFull yX0_isFull, .initialized RX0] ++ (wsX00 ++ (wq_x_isFull))
theorem in_x_put_X0 : ∀ w ∈ wsX00, w ∈ wq_x_put := fun _ h => List.mem_append_right _ (List.mem_append_left _ (h))
set_option maxRecDepth 20000 in
theorem wi_x_put : ∀ w ∈ wq_x_put, w ∈ lw_tbl := List.forall_mem_append.mpr ⟨(by decide +kernel), List.forall_mem_append.mpr ⟨inKX0, wi_x_isFull⟩⟩
set_option maxRecDepth 20000 in
theorem wg_x_put : GoodIn wq_x_put wq_x_put := goodIn_sub (fun _ h => h) (by decide +kernel)
set_option maxRecDepth 20000 in
theorem wc_x_put_x_isFull_20 : GoodIn wq_x_put (wsV RX0 20 RX0 yX0_isFull wq_x_isFull) := goodIn_app (goodIn_of _ (by decide +kernel)) (fun w h => ⟨List.mem_append_right _ (List.mem_append_right _ (h)), (wg_x_isFull w h).2⟩)
def rm_x_put : Room := { frames := 1, cells := 0, slots := 0, locals := 20 }
set_option maxHeartbeats 4000000 in
set_option maxRecDepth 100000 in
theorem c_x_put (l : Launch) (dC : Nat → ClassId) (dI : Nat → Nat → Nat) (h : Nat) (a : Nat → Nat) (e : Nat) (cI cJ cO cE : ClassId) (L : Nat → Int64) (I : Nat → Int32) (M : Nat → Nat → Int64) (J : Nat → Nat → Int32) (n cap : Nat) (fE : Nat → Option Nat) (sd : Nat → Nat → Nat) (si : Nat → Nat → Int32) (sa : Nat → Nat → Nat → Int32) (dl : Nat → Nat) (b : Nat) (sv : Nat) (p0 : Int32) (sz : Nat) (hX0 : InvX n cap fE sd dl b I J si) (hb0 : b + 0 < 2147483648) (hp0 : sv < n) : Met l yX0_put wq_x_put rm_x_put (va_Pc [.ref (sd sv 4), .int p0] (fun U => U.heap.size = sz ∧ va_P (dC, dI) vwCl (xW h a e cI cJ cO cE L I M J n cap fE sd si sa dl) U.heap ∧ va_K (dC, dI) vwCl (xT cI cJ cO cE) U ∧ va_D (fun _ => True) (xW h a e cI cJ cO cE L I M J n cap fE sd si sa dl) ∧ pw_N U)) (va_Qv (fun (u : (Nat → Nat → Int32) × (Nat → Nat → Nat → Int32)) => InvX n cap fE sd dl (b + 0) I J u.1 ∧ (∀ s9 q9 : Nat, q9 ∉ ([32] : List Nat) → u.1 s9 q9 = si s9 q9) ∧ (∀ s9 q9 : Nat, q9 ∉ ([5] : List Nat) → u.2 s9 q9 = sa s9 q9) ∧ (True)) (fun (u : (Nat → Nat → Int32) × (Nat → Nat → Nat → Int32)) (t : State) => va_P (dC, dI) vwCl (xW h a e cI cJ cO cE L I M J n cap fE sd u.1 u.2 dl) t.heap ∧ va_D (va_A (xW h a e cI cJ cO cE L I M J n cap fE sd si sa dl) sz) (xW h a e cI cJ cO cE L I M J n cap fE sd u.1 u.2 dl)) (va_A (xW h a e cI cJ cO cE L I M J n cap fE sd si sa dl) sz)) 0 0 (va_A (xW h a e cI cJ cO cE L I M J n cap fE sd si sa dl) sz) := by
  have hn : n ≤ 40 := hX0.1.1
  have hX := hX0
  have hUsi : ∀ s9 q9 : Nat, q9 ∉ ([32] : List Nat) → si s9 q9 = si s9 q9 := fun _ _ _ => rfl
  have hUsa : ∀ s9 q9 : Nat, q9 ∉ ([5] : List Nat) → sa s9 q9 = sa s9 q9 := fun _ _ _ => rfl
  refine Met.ofW (cc := cX0_put) (maxL := 2) (ret := none) (by decide) rfl ?_
  intro p e9 s m args below meth c s₁ B hml hv
  obtain ⟨rfl, hsz, hP, hK, hD0, hN⟩ := hv
  have hx := B.exec
  have hb := B.bytes
  have hr := B.returns
  have hts := atoms_spec (ws := wq_x_put) B.pre
  have hown : s.vm.findClass RX0 = some m.cls := findClass_of_methodNamed B.named
  have hlocks := B.notSynchronized
  subst hsz
  have hD := hD0.self (sz := s.heap.size)
  generalize hAe : va_A (xW h a e cI cJ cO cE L I M J n cap fE sd si sa dl) s.heap.size = A at hD ⊢
  have hA : ∀ q : Nat, s.heap.size ≤ q → A q := fun q h => by rw [← hAe]; exact Or.inr h
  have hS : va_S A s.heap s.heap [] := va_S.rf
  have hl := lv_entry ([.ref (sd sv 4), .int p0]) (n := 2) (Nat.le_of_ble_eq_true rfl)
  rw [lg_entry_eq]
  generalize (lg_sl ([.ref (sd sv 4), .int p0]) ++ List.replicate (2 - (lg_sl ([.ref (sd sv 4), .int p0])).length) Slot.unset).toArray = ls at hl ⊢
  have hl : lv_has ls 2 [(0, .ref (sd sv 4)), (1, .int p0)] := hl
  have hdl := (hX.2.2.2.2.2.2.1 sv).1
  refine lv_aload_n hx hb dX0_put_0 rfl (lv_at hl 0 rfl) ?_
  have hFc := mw_free hD hS hA
  refine va_calli (va_runV (As := []) (rest := []) ⟨hx, hb, hml, hown, hts⟩ (c_x_isFull l dC dI h a e cI cJ cO cE L I M J n cap fE sd si sa dl (b) sv s.heap.size hX (by omega) (by omega)) (cwV 0 hts wc_x_put_x_isFull_20 rfl rfl rfl (by decide +kernel) ⟨Nat.le_of_ble_eq_true rfl, Nat.le_of_ble_eq_true rfl⟩) ⟨fun a9 U g mk q => by obtain ⟨q0, q1, qP, qK, qD, qN⟩ := q; exact ⟨q0, q1, qP, va_K.moved (u := U) (U := U.calling g mk a9) (Vm.Alike.refl U.vm) qK, qD, pw_N.same (u := U) (U := U.calling g mk a9) rfl qN⟩, va_recv hK hP (ci := 1) (q0 := (22 + (6 * sv + 4))) rfl (xAt_4 h a e cI cJ cO cE L I M J n cap fE sd si sa dl (s := sv) (by omega)), fun U hU hW => ⟨rfl, by rw [hU], by rw [hU]; exact hP, va_K.moved hW.alike hK, hD.weaken (fun _ _ _ _ => trivial), pw_N.warm hW hN⟩⟩ rfl rfl hl.1 rfl (lv_room (Nat.le_of_ble_eq_true rfl)) dX0_put_1 ⟨Nat.le_of_ble_eq_true rfl, Nat.le_of_ble_eq_true rfl⟩) hS (fun q _ h => hFc q h) hFc (fun r1 u t H1 locs ht hvm hw hB hz1 hk1 hS => ?_)
  replace hP := hB.1
  rw [ht] at hP
  replace hD : va_D A (xW h a e cI cJ cO cE L I M J n cap fE sd si sa dl) := hB.2.weaken (fun _ q _ h9 => hFc q.1 h9)
  clear hB
  generalize H1 = H at hP hS ⊢
  replace hP : va_P (dC, dI) vwCl (xW h a e cI cJ cO cE L I M J n cap fE sd si sa dl) H := hP
  rcases hw with rfl | ⟨rfl, z2, hz2, ez2⟩
  · refine lv_if_eq (tgt := 8) hx hb dX0_put_4 (by decide) (fun c9 => absurd c9 (by decide)) (fun _ => ?_)
    exact W.vret hx hb hr (fun t ht hW => ⟨⟨(si, sa), rfl, ⟨hX.mono (by omega), hUsi, hUsa, trivial⟩, by rw [ht]; exact hP, hD⟩, hS.F ht⟩) hS.2.2 dX0_put_7
  · refine lv_if_eq (tgt := 8) hx hb dX0_put_4 (by decide) (fun _ => ?_) (fun c9 => absurd (by decide) c9)
    refine lv_aload_n hx hb dX0_put_8 rfl (lv_at hl 0 rfl) ?_
    refine va_get (D := (dC, dI)) (ci := 1) (v := .ref (sd sv 5)) (C := RX0) (T := TX0) (N := 5) hx hb hts in_x_put_X0 hown hK hP (22 + (6 * sv + 4)) (xAt_4 h a e cI cJ cO cE L I M J n cap fE sd si sa dl (s := sv) (by omega)) rfl 0 (by decide) (hts (.fieldLink RX0 13 "ServiceTree$Door" "letters" "[I") (by decide +kernel)) (fun _ h9 => h9) rfl dX0_put_9 ?_
    refine lv_aload_n hx hb dX0_put_12 rfl (lv_at hl 0 rfl) ?_
    refine va_get (D := (dC, dI)) (ci := 1) (v := .int (si sv 31)) (C := RX0) (T := TX0) (N := 5) hx hb hts in_x_put_X0 hown hK hP (22 + (6 * sv + 4)) (xAt_4 h a e cI cJ cO cE L I M J n cap fE sd si sa dl (s := sv) (by omega)) rfl 1 (by decide) (hts (.fieldLink RX0 24 "ServiceTree$Door" "first" "I") (by decide +kernel)) (fun _ h9 => h9) rfl dX0_put_13 ?_
    obtain ⟨z3, hz3, ez3⟩ := hX.2.2.2.2.2.2.2 sv
    refine p1_topr (v := .int (nI z3)) (congrArg Value.int ez3) ?_
    refine lv_aload_n hx hb dX0_put_16 rfl (lv_at hl 0 rfl) ?_
    refine va_get (D := (dC, dI)) (ci := 1) (v := .int (si sv 32)) (C := RX0) (T := TX0) (N := 5) hx hb hts in_x_put_X0 hown hK hP (22 + (6 * sv + 4)) (xAt_4 h a e cI cJ cO cE L I M J n cap fE sd si sa dl (s := sv) (by omega)) rfl 2 (by decide) (hts (.fieldLink RX0 17 "ServiceTree$Door" "size" "I") (by decide +kernel)) (fun _ h9 => h9) rfl dX0_put_17 ?_
    refine p1_topr (v := .int (nI z2)) (congrArg Value.int ez2) ?_
    refine lv_iadd hx hb dX0_put_20 ?_
    refine p1_topr (v := .int (nI (z3 + z2))) (congrArg Value.int (nI_add z3 z2)) ?_
    refine lv_aload_n hx hb dX0_put_21 rfl (lv_at hl 0 rfl) ?_
    refine va_get (D := (dC, dI)) (ci := 1) (v := .ref (sd sv 5)) (C := RX0) (T := TX0) (N := 5) hx hb hts in_x_put_X0 hown hK hP (22 + (6 * sv + 4)) (xAt_4 h a e cI cJ cO cE L I M J n cap fE sd si sa dl (s := sv) (by omega)) rfl 0 (by decide) (hts (.fieldLink RX0 13 "ServiceTree$Door" "letters" "[I") (by decide +kernel)) (fun _ h9 => h9) rfl dX0_put_22 ?_
    refine va_alen (v := (nI (dl sv))) hx hb hK hP (22 + (6 * sv + 5)) 0 (xAt_5 h a e cI cJ cO cE L I M J n cap fE sd si sa dl (s := sv) (by omega)) rfl rfl dX0_put_25 ?_
    refine lv_irem hx hb dX0_put_26 (nI_ne0 (by omega) (by omega)) ?_
    obtain ⟨m4, hm4, em4⟩ : ∃ z9 : Nat, z9 < dl sv ∧ z9 = (z3 + z2) % (dl sv) := ⟨_, Nat.mod_lt _ (by omega), rfl⟩
    refine p1_topr (v := .int (nI m4)) (congrArg Value.int (by rw [em4]; exact pk_rem (a := z3 + z2) (d := dl sv) (by omega) (by omega) (by omega))) ?_
    refine lv_iload_n hx hb dX0_put_27 rfl (lv_at hl 1 rfl) ?_
    refine va_iast (n := (dl sv)) (f := sa sv 5) hx hb hK hP hD hS (22 + (6 * sv + 5)) 0 (xAt_5 h a e cI cJ cO cE L I M J n cap fE sd si sa dl (s := sv) (by omega)) rfl (vp_in_nI (n := m4) (by omega) (by omega)) dX0_put_28 (fun H locs hP hD hS => ?_)
    rw [xSa_5 h a e cI cJ cO cE L I M J n cap fE sd si sa dl (s := sv) (by omega)] at hP hD
    obtain ⟨sa5, esa5⟩ : ∃ f9 : Nat → Nat → Nat → Int32, f9 = up2 sa sv 5 (upd (sa sv 5) (nI m4).toNatClampNeg p0) := ⟨_, rfl⟩
    rw [← esa5] at hP hD
    replace hUsa : ∀ s9 q9 : Nat, q9 ∉ ([5] : List Nat) → sa5 s9 q9 = sa s9 q9 := by rw [esa5]; exact xw_up2 (by decide) hUsa
    refine lv_aload_n hx hb dX0_put_29 rfl (lv_at hl 0 rfl) ?_
    refine lv_dup hx hb dX0_put_30 rfl ?_
    refine va_get (D := (dC, dI)) (ci := 1) (v := .int (si sv 32)) (C := RX0) (T := TX0) (N := 5) hx hb hts in_x_put_X0 hown hK hP (22 + (6 * sv + 4)) (xAt_4 h a e cI cJ cO cE L I M J n cap fE sd si sa5 dl (s := sv) (by omega)) rfl 2 (by decide) (hts (.fieldLink RX0 17 "ServiceTree$Door" "size" "I") (by decide +kernel)) (fun _ h9 => h9) rfl dX0_put_31 ?_
    refine p1_topr (v := .int (nI z2)) (congrArg Value.int ez2) ?_
    refine lv_iconst (v := 1) hx hb dX0_put_34 (by decide) ?_
    refine lv_iadd hx hb dX0_put_35 ?_
    refine p1_topr (v := .int (nI (z2 + 1))) (congrArg Value.int (nI_add z2 1)) ?_
    refine va_put (D := (dC, dI)) (ci := 1) (fs := [.ref (sd sv 5), .int (si sv 31), .int (si sv 32), .int (si sv 33), .int (si sv 34)]) (v := .int (nI (z2 + 1))) (ty := .int) (C := RX0) (T := TX0) (N := 5) hx hb hts in_x_put_X0 tyX0 tyX0_ok nmX0 hown hK hP hD hS (22 + (6 * sv + 4)) (xAt_4 h a e cI cJ cO cE L I M J n cap fE sd si sa5 dl (s := sv) (by omega)) rfl 2 (by decide) (hts (.fieldLink RX0 17 "ServiceTree$Door" "size" "I") (by decide +kernel)) (fun _ h9 => h9) rfl (by decide +kernel) rfl rfl (Nat.le_of_ble_eq_true rfl) dX0_put_36 (fun H locs hP hD hS => ?_)
    replace hP : va_P (dC, dI) vwCl ((xW h a e cI cJ cO cE L I M J n cap fE sd si sa5 dl).set (22 + (6 * sv + 4)) (sd sv 4, .inr (1, [.ref (sd sv 5), .int (si sv 31), .int (nI (z2 + 1)), .int (si sv 33), .int (si sv 34)]))) H := hP
    replace hD : va_D A ((xW h a e cI cJ cO cE L I M J n cap fE sd si sa5 dl).set (22 + (6 * sv + 4)) (sd sv 4, .inr (1, [.ref (sd sv 5), .int (si sv 31), .int (nI (z2 + 1)), .int (si sv 33), .int (si sv 34)]))) := hD
    rw [xSv_32 h a e cI cJ cO cE L I M J n cap fE sd si sa5 dl (s := sv) (by omega)] at hP hD
    obtain ⟨si6, esi6⟩ : ∃ f9 : Nat → Nat → Int32, f9 = up2 si sv 32 (nI (z2 + 1)) := ⟨_, rfl⟩
    rw [← esi6] at hP hD
    replace hX : InvX n cap fE sd dl (b) I J si6 := by rw [esi6]; exact hX.set32 (x := z2 + 1) (by omega)
    replace hUsi : ∀ s9 q9 : Nat, q9 ∉ ([32] : List Nat) → si6 s9 q9 = si s9 q9 := by rw [esi6]; exact xw_up2 (by decide) hUsi
    exact W.vret hx hb hr (fun t ht hW => ⟨⟨(si6, sa5), rfl, ⟨hX.mono (by omega), hUsi, hUsa, trivial⟩, by rw [ht]; exact hP, hD⟩, hS.F ht⟩) hS.2.2 dX0_put_39
def wq_x_readFirst : List Cond := [.code yX0_readFirst cX0_readFirst 1 none, .fieldLink RX0 17 "ServiceTree$Door" "size" "I", .fieldLink RX0 13 "ServiceTree$Door" "letters" "[I", .fieldLink RX0 24 "ServiceTree$Door" "first" "I", .fieldLink RX0 7 "ServiceTree$Door" "lastRead" "I", .fieldLink RX0 27 "ServiceTree$Door" "read" "I"] ++ (wsX00)
theorem in_x_readFirst_X0 : ∀ w ∈ wsX00, w ∈ wq_x_readFirst := fun _ h => List.mem_append_right _ (h)
set_option maxRecDepth 20000 in
theorem wi_x_readFirst : ∀ w ∈ wq_x_readFirst, w ∈ lw_tbl := List.forall_mem_append.mpr ⟨(by decide +kernel), inKX0⟩
set_option maxRecDepth 20000 in
theorem wg_x_readFirst : GoodIn wq_x_readFirst wq_x_readFirst := goodIn_sub (fun _ h => h) (by decide +kernel)
def rm_x_readFirst : Room := { frames := 0, cells := 0, slots := 0, locals := 0 }
set_option maxHeartbeats 4000000 in
set_option maxRecDepth 100000 in
theorem c_x_readFirst (l : Launch) (dC : Nat → ClassId) (dI : Nat → Nat → Nat) (h : Nat) (a : Nat → Nat) (e : Nat) (cI cJ cO cE : ClassId) (L : Nat → Int64) (I : Nat → Int32) (M : Nat → Nat → Int64) (J : Nat → Nat → Int32) (n cap : Nat) (fE : Nat → Option Nat) (sd : Nat → Nat → Nat) (si : Nat → Nat → Int32) (sa : Nat → Nat → Nat → Int32) (dl : Nat → Nat) (b : Nat) (sv : Nat) (sz : Nat) (hX0 : InvX n cap fE sd dl b I J si) (hb0 : b + 0 < 2147483648) (hp0 : sv < n) : Met l yX0_readFirst wq_x_readFirst rm_x_readFirst (va_Pc [.ref (sd sv 4)] (fun U => U.heap.size = sz ∧ va_P (dC, dI) vwCl (xW h a e cI cJ cO cE L I M J n cap fE sd si sa dl) U.heap ∧ va_K (dC, dI) vwCl (xT cI cJ cO cE) U ∧ va_D (fun _ => True) (xW h a e cI cJ cO cE L I M J n cap fE sd si sa dl) ∧ pw_N U)) (va_Qv (fun (u : (Nat → Nat → Int32)) => InvX n cap fE sd dl (b + 0) I J u ∧ (∀ s9 q9 : Nat, q9 ∉ ([31, 32, 33, 34] : List Nat) → u s9 q9 = si s9 q9) ∧ (True)) (fun (u : (Nat → Nat → Int32)) (t : State) => va_P (dC, dI) vwCl (xW h a e cI cJ cO cE L I M J n cap fE sd u sa dl) t.heap ∧ va_D (va_A (xW h a e cI cJ cO cE L I M J n cap fE sd si sa dl) sz) (xW h a e cI cJ cO cE L I M J n cap fE sd u sa dl)) (va_A (xW h a e cI cJ cO cE L I M J n cap fE sd si sa dl) sz)) 0 0 (va_A (xW h a e cI cJ cO cE L I M J n cap fE sd si sa dl) sz) := by
  have hn : n ≤ 40 := hX0.1.1
  have hX := hX0
  have hUsi : ∀ s9 q9 : Nat, q9 ∉ ([31, 32, 33, 34] : List Nat) → si s9 q9 = si s9 q9 := fun _ _ _ => rfl
  refine Met.ofW (cc := cX0_readFirst) (maxL := 1) (ret := none) (by decide) rfl ?_
  intro p e9 s m args below meth c s₁ B hml hv
  obtain ⟨rfl, hsz, hP, hK, hD0, hN⟩ := hv
  have hx := B.exec
  have hb := B.bytes
  have hr := B.returns
  have hts := atoms_spec (ws := wq_x_readFirst) B.pre
  have hown : s.vm.findClass RX0 = some m.cls := findClass_of_methodNamed B.named
  have hlocks := B.notSynchronized
  subst hsz
  have hD := hD0.self (sz := s.heap.size)
  generalize hAe : va_A (xW h a e cI cJ cO cE L I M J n cap fE sd si sa dl) s.heap.size = A at hD ⊢
  have hA : ∀ q : Nat, s.heap.size ≤ q → A q := fun q h => by rw [← hAe]; exact Or.inr h
  have hS : va_S A s.heap s.heap [] := va_S.rf
  have hl := lv_entry ([.ref (sd sv 4)]) (n := 1) (Nat.le_of_ble_eq_true rfl)
  rw [lg_entry_eq]
  generalize (lg_sl ([.ref (sd sv 4)]) ++ List.replicate (1 - (lg_sl ([.ref (sd sv 4)])).length) Slot.unset).toArray = ls at hl ⊢
  have hl : lv_has ls 1 [(0, .ref (sd sv 4))] := hl
  have hdl := (hX.2.2.2.2.2.2.1 sv).1
  refine lv_aload_n hx hb dX0_readFirst_0 rfl (lv_at hl 0 rfl) ?_
  refine va_get (D := (dC, dI)) (ci := 1) (v := .int (si sv 32)) (C := RX0) (T := TX0) (N := 5) hx hb hts in_x_readFirst_X0 hown hK hP (22 + (6 * sv + 4)) (xAt_4 h a e cI cJ cO cE L I M J n cap fE sd si sa dl (s := sv) (by omega)) rfl 2 (by decide) (hts (.fieldLink RX0 17 "ServiceTree$Door" "size" "I") (by decide +kernel)) (fun _ h9 => h9) rfl dX0_readFirst_1 ?_
  obtain ⟨hdz1, z1, hz1, ez1⟩ := hX.2.2.2.2.2.2.1 sv
  refine p1_topr (v := .int (nI z1)) (congrArg Value.int ez1) ?_
  refine lv_if_eq (tgt := 15) hx hb dX0_readFirst_4 (by decide) (fun c2 => ?_) (fun c2 => ?_)
  · replace c2 : z1 = 0 := (nI_eq (a := z1) (b := 0) (by omega) (by omega)).mp c2
    exact W.vret hx hb hr (fun t ht hW => ⟨⟨si, rfl, ⟨hX.mono (by omega), hUsi, trivial⟩, by rw [ht]; exact hP, hD⟩, hS.F ht⟩) hS.2.2 dX0_readFirst_15
  · replace c2 : ¬ (z1 = 0) := fun q9 => c2 ((nI_eq (a := z1) (b := 0) (by omega) (by omega)).mpr q9)
    refine lv_aload_n hx hb dX0_readFirst_7 rfl (lv_at hl 0 rfl) ?_
    refine va_get (D := (dC, dI)) (ci := 1) (v := .ref (sd sv 5)) (C := RX0) (T := TX0) (N := 5) hx hb hts in_x_readFirst_X0 hown hK hP (22 + (6 * sv + 4)) (xAt_4 h a e cI cJ cO cE L I M J n cap fE sd si sa dl (s := sv) (by omega)) rfl 0 (by decide) (hts (.fieldLink RX0 13 "ServiceTree$Door" "letters" "[I") (by decide +kernel)) (fun _ h9 => h9) rfl dX0_readFirst_8 ?_
    refine va_alen (v := (nI (dl sv))) hx hb hK hP (22 + (6 * sv + 5)) 0 (xAt_5 h a e cI cJ cO cE L I M J n cap fE sd si sa dl (s := sv) (by omega)) rfl rfl dX0_readFirst_11 ?_
    refine lv_if_ne (tgt := 16) hx hb dX0_readFirst_12 (by decide) (fun c3 => ?_) (fun c3 => ?_)
    · replace c3 : ¬ (dl sv = 0) := fun q9 => c3 ((nI_eq (a := dl sv) (b := 0) (by omega) (by omega)).mpr q9)
      refine lv_aload_n hx hb dX0_readFirst_16 rfl (lv_at hl 0 rfl) ?_
      refine lv_aload_n hx hb dX0_readFirst_17 rfl (lv_at hl 0 rfl) ?_
      refine va_get (D := (dC, dI)) (ci := 1) (v := .ref (sd sv 5)) (C := RX0) (T := TX0) (N := 5) hx hb hts in_x_readFirst_X0 hown hK hP (22 + (6 * sv + 4)) (xAt_4 h a e cI cJ cO cE L I M J n cap fE sd si sa dl (s := sv) (by omega)) rfl 0 (by decide) (hts (.fieldLink RX0 13 "ServiceTree$Door" "letters" "[I") (by decide +kernel)) (fun _ h9 => h9) rfl dX0_readFirst_18 ?_
      refine lv_aload_n hx hb dX0_readFirst_21 rfl (lv_at hl 0 rfl) ?_
      refine va_get (D := (dC, dI)) (ci := 1) (v := .int (si sv 31)) (C := RX0) (T := TX0) (N := 5) hx hb hts in_x_readFirst_X0 hown hK hP (22 + (6 * sv + 4)) (xAt_4 h a e cI cJ cO cE L I M J n cap fE sd si sa dl (s := sv) (by omega)) rfl 1 (by decide) (hts (.fieldLink RX0 24 "ServiceTree$Door" "first" "I") (by decide +kernel)) (fun _ h9 => h9) rfl dX0_readFirst_22 ?_
      obtain ⟨z4, hz4, ez4⟩ := hX.2.2.2.2.2.2.2 sv
      refine p1_topr (v := .int (nI z4)) (congrArg Value.int ez4) ?_
      refine va_iald (n := (dl sv)) (f := sa sv 5) hx hb hK hP (22 + (6 * sv + 5)) 0 (xAt_5 h a e cI cJ cO cE L I M J n cap fE sd si sa dl (s := sv) (by omega)) rfl (vp_in_nI (n := z4) (by omega) (by omega)) dX0_readFirst_25 ?_
      refine lv_topi (fun x5 ex5 => ?_)
      refine va_put (D := (dC, dI)) (ci := 1) (fs := [.ref (sd sv 5), .int (si sv 31), .int (si sv 32), .int (si sv 33), .int (si sv 34)]) (v := .int x5) (ty := .int) (C := RX0) (T := TX0) (N := 5) hx hb hts in_x_readFirst_X0 tyX0 tyX0_ok nmX0 hown hK hP hD hS (22 + (6 * sv + 4)) (xAt_4 h a e cI cJ cO cE L I M J n cap fE sd si sa dl (s := sv) (by omega)) rfl 4 (by decide) (hts (.fieldLink RX0 7 "ServiceTree$Door" "lastRead" "I") (by decide +kernel)) (fun _ h9 => h9) rfl (by decide +kernel) rfl rfl (Nat.le_of_ble_eq_true rfl) dX0_readFirst_26 (fun H locs hP hD hS => ?_)
      replace hP : va_P (dC, dI) vwCl ((xW h a e cI cJ cO cE L I M J n cap fE sd si sa dl).set (22 + (6 * sv + 4)) (sd sv 4, .inr (1, [.ref (sd sv 5), .int (si sv 31), .int (si sv 32), .int (si sv 33), .int x5]))) H := hP
      replace hD : va_D A ((xW h a e cI cJ cO cE L I M J n cap fE sd si sa dl).set (22 + (6 * sv + 4)) (sd sv 4, .inr (1, [.ref (sd sv 5), .int (si sv 31), .int (si sv 32), .int (si sv 33), .int x5]))) := hD
      rw [xSv_34 h a e cI cJ cO cE L I M J n cap fE sd si sa dl (s := sv) (by omega)] at hP hD
      obtain ⟨si6, esi6⟩ : ∃ f9 : Nat → Nat → Int32, f9 = up2 si sv 34 x5 := ⟨_, rfl⟩
      rw [← esi6] at hP hD
      replace hX : InvX n cap fE sd dl (b) I J si6 := by rw [esi6]; exact hX.setsi (by decide)
      replace hUsi : ∀ s9 q9 : Nat, q9 ∉ ([31, 32, 33, 34] : List Nat) → si6 s9 q9 = si s9 q9 := by rw [esi6]; exact xw_up2 (by decide) hUsi
      refine lv_aload_n hx hb dX0_readFirst_29 rfl (lv_at hl 0 rfl) ?_
      refine lv_aload_n hx hb dX0_readFirst_30 rfl (lv_at hl 0 rfl) ?_
      refine va_get (D := (dC, dI)) (ci := 1) (v := .int (si6 sv 31)) (C := RX0) (T := TX0) (N := 5) hx hb hts in_x_readFirst_X0 hown hK hP (22 + (6 * sv + 4)) (xAt_4 h a e cI cJ cO cE L I M J n cap fE sd si6 sa dl (s := sv) (by omega)) rfl 1 (by decide) (hts (.fieldLink RX0 24 "ServiceTree$Door" "first" "I") (by decide +kernel)) (fun _ h9 => h9) rfl dX0_readFirst_31 ?_
      refine p1_topr (v := .int (nI z4)) (congrArg Value.int (by rw [esi6, up2_ne (by decide)]; exact ez4)) ?_
      refine lv_iconst (v := 1) hx hb dX0_readFirst_34 (by decide) ?_
      refine lv_iadd hx hb dX0_readFirst_35 ?_
      refine p1_topr (v := .int (nI (z4 + 1))) (congrArg Value.int (nI_add z4 1)) ?_
      refine lv_aload_n hx hb dX0_readFirst_36 rfl (lv_at hl 0 rfl) ?_
      refine va_get (D := (dC, dI)) (ci := 1) (v := .ref (sd sv 5)) (C := RX0) (T := TX0) (N := 5) hx hb hts in_x_readFirst_X0 hown hK hP (22 + (6 * sv + 4)) (xAt_4 h a e cI cJ cO cE L I M J n cap fE sd si6 sa dl (s := sv) (by omega)) rfl 0 (by decide) (hts (.fieldLink RX0 13 "ServiceTree$Door" "letters" "[I") (by decide +kernel)) (fun _ h9 => h9) rfl dX0_readFirst_37 ?_
      refine va_alen (v := (nI (dl sv))) hx hb hK hP (22 + (6 * sv + 5)) 0 (xAt_5 h a e cI cJ cO cE L I M J n cap fE sd si6 sa dl (s := sv) (by omega)) rfl rfl dX0_readFirst_40 ?_
      refine lv_irem hx hb dX0_readFirst_41 (nI_ne0 (by omega) (by omega)) ?_
      obtain ⟨m7, hm7, em7⟩ : ∃ z9 : Nat, z9 < dl sv ∧ z9 = (z4 + 1) % (dl sv) := ⟨_, Nat.mod_lt _ (by omega), rfl⟩
      refine p1_topr (v := .int (nI m7)) (congrArg Value.int (by rw [em7]; exact pk_rem (a := z4 + 1) (d := dl sv) (by omega) (by omega) (by omega))) ?_
      refine va_put (D := (dC, dI)) (ci := 1) (fs := [.ref (sd sv 5), .int (si6 sv 31), .int (si6 sv 32), .int (si6 sv 33), .int (si6 sv 34)]) (v := .int (nI m7)) (ty := .int) (C := RX0) (T := TX0) (N := 5) hx hb hts in_x_readFirst_X0 tyX0 tyX0_ok nmX0 hown hK hP hD hS (22 + (6 * sv + 4)) (xAt_4 h a e cI cJ cO cE L I M J n cap fE sd si6 sa dl (s := sv) (by omega)) rfl 1 (by decide) (hts (.fieldLink RX0 24 "ServiceTree$Door" "first" "I") (by decide +kernel)) (fun _ h9 => h9) rfl (by decide +kernel) rfl rfl (Nat.le_of_ble_eq_true rfl) dX0_readFirst_42 (fun H locs hP hD hS => ?_)
      replace hP : va_P (dC, dI) vwCl ((xW h a e cI cJ cO cE L I M J n cap fE sd si6 sa dl).set (22 + (6 * sv + 4)) (sd sv 4, .inr (1, [.ref (sd sv 5), .int (nI m7), .int (si6 sv 32), .int (si6 sv 33), .int (si6 sv 34)]))) H := hP
      replace hD : va_D A ((xW h a e cI cJ cO cE L I M J n cap fE sd si6 sa dl).set (22 + (6 * sv + 4)) (sd sv 4, .inr (1, [.ref (sd sv 5), .int (nI m7), .int (si6 sv 32), .int (si6 sv 33), .int (si6 sv 34)]))) := hD
      rw [xSv_31 h a e cI cJ cO cE L I M J n cap fE sd si6 sa dl (s := sv) (by omega)] at hP hD
      obtain ⟨si8, esi8⟩ : ∃ f9 : Nat → Nat → Int32, f9 = up2 si6 sv 31 (nI m7) := ⟨_, rfl⟩
      rw [← esi8] at hP hD
      replace hX : InvX n cap fE sd dl (b) I J si8 := by rw [esi8]; exact hX.set31 (x := m7) (by omega)
      replace hUsi : ∀ s9 q9 : Nat, q9 ∉ ([31, 32, 33, 34] : List Nat) → si8 s9 q9 = si s9 q9 := by rw [esi8]; exact xw_up2 (by decide) hUsi
      refine lv_aload_n hx hb dX0_readFirst_45 rfl (lv_at hl 0 rfl) ?_
      refine lv_dup hx hb dX0_readFirst_46 rfl ?_
      refine va_get (D := (dC, dI)) (ci := 1) (v := .int (si8 sv 32)) (C := RX0) (T := TX0) (N := 5) hx hb hts in_x_readFirst_X0 hown hK hP (22 + (6 * sv + 4)) (xAt_4 h a e cI cJ cO cE L I M J n cap fE sd si8 sa dl (s := sv) (by omega)) rfl 2 (by decide) (hts (.fieldLink RX0 17 "ServiceTree$Door" "size" "I") (by decide +kernel)) (fun _ h9 => h9) rfl dX0_readFirst_47 ?_
      refine p1_topr (v := .int (nI z1)) (congrArg Value.int (by rw [esi8, up2_ne (by decide)]; exact (by rw [esi6, up2_ne (by decide)]; exact ez1))) ?_
      refine lv_iconst (v := 1) hx hb dX0_readFirst_50 (by decide) ?_
      refine lv_isub hx hb dX0_readFirst_51 ?_
      refine p1_topr (v := .int (nI (z1 - 1))) (congrArg Value.int (pk_sub (a := z1) (b := 1) (by omega))) ?_
      refine va_put (D := (dC, dI)) (ci := 1) (fs := [.ref (sd sv 5), .int (si8 sv 31), .int (si8 sv 32), .int (si8 sv 33), .int (si8 sv 34)]) (v := .int (nI (z1 - 1))) (ty := .int) (C := RX0) (T := TX0) (N := 5) hx hb hts in_x_readFirst_X0 tyX0 tyX0_ok nmX0 hown hK hP hD hS (22 + (6 * sv + 4)) (xAt_4 h a e cI cJ cO cE L I M J n cap fE sd si8 sa dl (s := sv) (by omega)) rfl 2 (by decide) (hts (.fieldLink RX0 17 "ServiceTree$Door" "size" "I") (by decide +kernel)) (fun _ h9 => h9) rfl (by decide +kernel) rfl rfl (Nat.le_of_ble_eq_true rfl) dX0_readFirst_52 (fun H locs hP hD hS => ?_)
      replace hP : va_P (dC, dI) vwCl ((xW h a e cI cJ cO cE L I M J n cap fE sd si8 sa dl).set (22 + (6 * sv + 4)) (sd sv 4, .inr (1, [.ref (sd sv 5), .int (si8 sv 31), .int (nI (z1 - 1)), .int (si8 sv 33), .int (si8 sv 34)]))) H := hP
      replace hD : va_D A ((xW h a e cI cJ cO cE L I M J n cap fE sd si8 sa dl).set (22 + (6 * sv + 4)) (sd sv 4, .inr (1, [.ref (sd sv 5), .int (si8 sv 31), .int (nI (z1 - 1)), .int (si8 sv 33), .int (si8 sv 34)]))) := hD
      rw [xSv_32 h a e cI cJ cO cE L I M J n cap fE sd si8 sa dl (s := sv) (by omega)] at hP hD
      obtain ⟨si9, esi9⟩ : ∃ f9 : Nat → Nat → Int32, f9 = up2 si8 sv 32 (nI (z1 - 1)) := ⟨_, rfl⟩
      rw [← esi9] at hP hD
      replace hX : InvX n cap fE sd dl (b) I J si9 := by rw [esi9]; exact hX.set32 (x := z1 - 1) (by omega)
      replace hUsi : ∀ s9 q9 : Nat, q9 ∉ ([31, 32, 33, 34] : List Nat) → si9 s9 q9 = si s9 q9 := by rw [esi9]; exact xw_up2 (by decide) hUsi
      refine lv_aload_n hx hb dX0_readFirst_55 rfl (lv_at hl 0 rfl) ?_
      refine lv_dup hx hb dX0_readFirst_56 rfl ?_
      refine va_get (D := (dC, dI)) (ci := 1) (v := .int (si9 sv 33)) (C := RX0) (T := TX0) (N := 5) hx hb hts in_x_readFirst_X0 hown hK hP (22 + (6 * sv + 4)) (xAt_4 h a e cI cJ cO cE L I M J n cap fE sd si9 sa dl (s := sv) (by omega)) rfl 3 (by decide) (hts (.fieldLink RX0 27 "ServiceTree$Door" "read" "I") (by decide +kernel)) (fun _ h9 => h9) rfl dX0_readFirst_57 ?_
      refine lv_topi (fun x10 ex10 => ?_)
      refine lv_iconst (v := 1) hx hb dX0_readFirst_60 (by decide) ?_
      refine lv_iadd hx hb dX0_readFirst_61 ?_
      refine lv_topi (fun x11 ex11 => ?_)
      refine va_put (D := (dC, dI)) (ci := 1) (fs := [.ref (sd sv 5), .int (si9 sv 31), .int (si9 sv 32), .int (si9 sv 33), .int (si9 sv 34)]) (v := .int x11) (ty := .int) (C := RX0) (T := TX0) (N := 5) hx hb hts in_x_readFirst_X0 tyX0 tyX0_ok nmX0 hown hK hP hD hS (22 + (6 * sv + 4)) (xAt_4 h a e cI cJ cO cE L I M J n cap fE sd si9 sa dl (s := sv) (by omega)) rfl 3 (by decide) (hts (.fieldLink RX0 27 "ServiceTree$Door" "read" "I") (by decide +kernel)) (fun _ h9 => h9) rfl (by decide +kernel) rfl rfl (Nat.le_of_ble_eq_true rfl) dX0_readFirst_62 (fun H locs hP hD hS => ?_)
      replace hP : va_P (dC, dI) vwCl ((xW h a e cI cJ cO cE L I M J n cap fE sd si9 sa dl).set (22 + (6 * sv + 4)) (sd sv 4, .inr (1, [.ref (sd sv 5), .int (si9 sv 31), .int (si9 sv 32), .int x11, .int (si9 sv 34)]))) H := hP
      replace hD : va_D A ((xW h a e cI cJ cO cE L I M J n cap fE sd si9 sa dl).set (22 + (6 * sv + 4)) (sd sv 4, .inr (1, [.ref (sd sv 5), .int (si9 sv 31), .int (si9 sv 32), .int x11, .int (si9 sv 34)]))) := hD
      rw [xSv_33 h a e cI cJ cO cE L I M J n cap fE sd si9 sa dl (s := sv) (by omega)] at hP hD
      obtain ⟨si12, esi12⟩ : ∃ f9 : Nat → Nat → Int32, f9 = up2 si9 sv 33 x11 := ⟨_, rfl⟩
      rw [← esi12] at hP hD
      replace hX : InvX n cap fE sd dl (b) I J si12 := by rw [esi12]; exact hX.setsi (by decide)
      replace hUsi : ∀ s9 q9 : Nat, q9 ∉ ([31, 32, 33, 34] : List Nat) → si12 s9 q9 = si s9 q9 := by rw [esi12]; exact xw_up2 (by decide) hUsi
      exact W.vret hx hb hr (fun t ht hW => ⟨⟨si12, rfl, ⟨hX.mono (by omega), hUsi, trivial⟩, by rw [ht]; exact hP, hD⟩, hS.F ht⟩) hS.2.2 dX0_readFirst_65
    · replace c3 : dl sv = 0 := (nI_eq (a := dl sv) (b := 0) (by omega) (by omega)).mp c3
      exact W.vret hx hb hr (fun t ht hW => ⟨⟨si, rfl, ⟨hX.mono (by omega), hUsi, trivial⟩, by rw [ht]; exact hP, hD⟩, hS.F ht⟩) hS.2.2 dX0_readFirst_15
def wq_x_senter : List Cond := [.code yX7_enter cX7_enter 3 none, .fieldLink RX7 22 "ServiceTree$Service" "state" "I", .fieldLink RX7 35 "ServiceTree$Service" "since" "I", .fieldLink RX7 47 "ServiceTree$Service" "ended" "Z", .fieldLink RX7 51 "ServiceTree$Service" "life" "I", .fieldLink RX7 66 "ServiceTree$Service" "failures" "I", .fieldLink RX7 18 "ServiceTree$Service" "restarts" "LServiceTree$Restarts;", .fieldLink RX7 9 "ServiceTree$Service" "lives" "[I", .fieldLink RX7 54 "ServiceTree$Service" "starts" "I", .methodLink RX7 57 Lib.Math.min.name, .static Lib.Math.min.name, .initialized "java/lang/Math", .code Lib.Math.min.name Lib.Math.min.code 2 (some .int), .methodLink RX7 63 Lib.Math.max.name, .static Lib.Math.max.name, .code Lib.Math.max.name Lib.Math.max.code 2 (some .int), .methodLink RX7 69 yX6_note, .instanceMethod yX6_note, .selects RX6 yX6_note yX6_note, .initialized RX6] ++ (wsX70 ++ (wq_x_note))
theorem in_x_senter_X7 : ∀ w ∈ wsX70, w ∈ wq_x_senter := fun _ h => List.mem_append_right _ (List.mem_append_left _ (h))
set_option maxRecDepth 20000 in
theorem wi_x_senter : ∀ w ∈ wq_x_senter, w ∈ lw_tbl := List.forall_mem_append.mpr ⟨(by decide +kernel), List.forall_mem_append.mpr ⟨inKX7, wi_x_note⟩⟩
set_option maxRecDepth 20000 in
theorem wg_x_senter : GoodIn wq_x_senter wq_x_senter := goodIn_sub (fun _ h => h) (by decide +kernel)
set_option maxRecDepth 20000 in
theorem wc_x_senter_x_note_69 : GoodIn wq_x_senter (wsV RX7 69 RX6 yX6_note wq_x_note) := goodIn_app (goodIn_of _ (by decide +kernel)) (fun w h => ⟨List.mem_append_right _ (List.mem_append_right _ (h)), (wg_x_note w h).2⟩)
def rm_x_senter : Room := { frames := 1, cells := 0, slots := 0, locals := 24 }
set_option maxHeartbeats 4000000 in
set_option maxRecDepth 100000 in
theorem c_x_senter (l : Launch) (dC : Nat → ClassId) (dI : Nat → Nat → Nat) (h : Nat) (a : Nat → Nat) (e : Nat) (cI cJ cO cE : ClassId) (L : Nat → Int64) (I : Nat → Int32) (M : Nat → Nat → Int64) (J : Nat → Nat → Int32) (n cap : Nat) (fE : Nat → Option Nat) (sd : Nat → Nat → Nat) (si : Nat → Nat → Int32) (sa : Nat → Nat → Nat → Int32) (dl : Nat → Nat) (b : Nat) (sv : Nat) (tv : Nat) (p1 : Int32) (sz : Nat) (hX0 : InvX n cap fE sd dl b I J si) (hb0 : b + 0 < 2147483648) (hp0 : sv < n) (hp1 : tv ≤ 5) : Met l yX7_enter wq_x_senter rm_x_senter (va_Pc [.ref (sd sv 0), .int (nI tv), .int p1] (fun U => U.heap.size = sz ∧ va_P (dC, dI) vwCl (xW h a e cI cJ cO cE L I M J n cap fE sd si sa dl) U.heap ∧ va_K (dC, dI) vwCl (xT cI cJ cO cE) U ∧ va_D (fun _ => True) (xW h a e cI cJ cO cE L I M J n cap fE sd si sa dl) ∧ pw_N U)) (va_Qv (fun (u : (Nat → Nat → Int32) × (Nat → Nat → Nat → Int32)) => InvX n cap fE sd dl (b + 0) I J u.1 ∧ (∀ s9 q9 : Nat, q9 ∉ ([6, 7, 8, 9, 10, 11, 21, 22] : List Nat) → u.1 s9 q9 = si s9 q9) ∧ (∀ s9 q9 : Nat, q9 ∉ ([3] : List Nat) → u.2 s9 q9 = sa s9 q9) ∧ (True)) (fun (u : (Nat → Nat → Int32) × (Nat → Nat → Nat → Int32)) (t : State) => va_P (dC, dI) vwCl (xW h a e cI cJ cO cE L I M J n cap fE sd u.1 u.2 dl) t.heap ∧ va_D (va_A (xW h a e cI cJ cO cE L I M J n cap fE sd si sa dl) sz) (xW h a e cI cJ cO cE L I M J n cap fE sd u.1 u.2 dl)) (va_A (xW h a e cI cJ cO cE L I M J n cap fE sd si sa dl) sz)) 0 0 (va_A (xW h a e cI cJ cO cE L I M J n cap fE sd si sa dl) sz) := by
  have hn : n ≤ 40 := hX0.1.1
  have hX := hX0
  have hUsi : ∀ s9 q9 : Nat, q9 ∉ ([6, 7, 8, 9, 10, 11, 21, 22] : List Nat) → si s9 q9 = si s9 q9 := fun _ _ _ => rfl
  have hUsa : ∀ s9 q9 : Nat, q9 ∉ ([3] : List Nat) → sa s9 q9 = sa s9 q9 := fun _ _ _ => rfl
  refine Met.ofW (cc := cX7_enter) (maxL := 3) (ret := none) (by decide) rfl ?_
  intro p e9 s m args below meth c s₁ B hml hv
  obtain ⟨rfl, hsz, hP, hK, hD0, hN⟩ := hv
  have hx := B.exec
  have hb := B.bytes
  have hr := B.returns
  have hts := atoms_spec (ws := wq_x_senter) B.pre
  have hown : s.vm.findClass RX7 = some m.cls := findClass_of_methodNamed B.named
  have hlocks := B.notSynchronized
  subst hsz
  have hD := hD0.self (sz := s.heap.size)
  generalize hAe : va_A (xW h a e cI cJ cO cE L I M J n cap fE sd si sa dl) s.heap.size = A at hD ⊢
  have hA : ∀ q : Nat, s.heap.size ≤ q → A q := fun q h => by rw [← hAe]; exact Or.inr h
  have hS : va_S A s.heap s.heap [] := va_S.rf
  have hl := lv_entry ([.ref (sd sv 0), .int (nI tv), .int p1]) (n := 3) (Nat.le_of_ble_eq_true rfl)
  rw [lg_entry_eq]
  generalize (lg_sl ([.ref (sd sv 0), .int (nI tv), .int p1]) ++ List.replicate (3 - (lg_sl ([.ref (sd sv 0), .int (nI tv), .int p1])).length) Slot.unset).toArray = ls at hl ⊢
  have hl : lv_has ls 3 [(0, .ref (sd sv 0)), (1, .int (nI tv)), (2, .int p1)] := hl
  refine lv_aload_n hx hb dX7_enter_0 rfl (lv_at hl 0 rfl) ?_
  refine lv_iload_n hx hb dX7_enter_1 rfl (lv_at hl 1 rfl) ?_
  refine va_put (D := (dC, dI)) (ci := 8) (fs := [.int (si sv 0), .int (si sv 1), .int (si sv 2), .ref (sd sv 1), .ref (sd sv 2), .ref (sd sv 4), .int (si sv 6), .int (si sv 7), .int (si sv 8), .int (si sv 9), .int (si sv 10), .int (si sv 11)]) (v := .int (nI tv)) (ty := .int) (C := RX7) (T := TX7) (N := 12) hx hb hts in_x_senter_X7 tyX7 tyX7_ok nmX7 hown hK hP hD hS (22 + (6 * sv + 0)) (xAt_0 h a e cI cJ cO cE L I M J n cap fE sd si sa dl (s := sv) (by omega)) rfl 6 (by decide) (hts (.fieldLink RX7 22 "ServiceTree$Service" "state" "I") (by decide +kernel)) (fun _ h9 => h9) rfl (by decide +kernel) rfl rfl (Nat.le_of_ble_eq_true rfl) dX7_enter_2 (fun H locs hP hD hS => ?_)
  replace hP : va_P (dC, dI) vwCl ((xW h a e cI cJ cO cE L I M J n cap fE sd si sa dl).set (22 + (6 * sv + 0)) (sd sv 0, .inr (8, [.int (si sv 0), .int (si sv 1), .int (si sv 2), .ref (sd sv 1), .ref (sd sv 2), .ref (sd sv 4), .int (nI tv), .int (si sv 7), .int (si sv 8), .int (si sv 9), .int (si sv 10), .int (si sv 11)]))) H := hP
  replace hD : va_D A ((xW h a e cI cJ cO cE L I M J n cap fE sd si sa dl).set (22 + (6 * sv + 0)) (sd sv 0, .inr (8, [.int (si sv 0), .int (si sv 1), .int (si sv 2), .ref (sd sv 1), .ref (sd sv 2), .ref (sd sv 4), .int (nI tv), .int (si sv 7), .int (si sv 8), .int (si sv 9), .int (si sv 10), .int (si sv 11)]))) := hD
  rw [xSv_6 h a e cI cJ cO cE L I M J n cap fE sd si sa dl (s := sv) (by omega)] at hP hD
  obtain ⟨si1, esi1⟩ : ∃ f9 : Nat → Nat → Int32, f9 = up2 si sv 6 (nI tv) := ⟨_, rfl⟩
  rw [← esi1] at hP hD
  replace hX : InvX n cap fE sd dl (b) I J si1 := by rw [esi1]; exact hX.set6 (x := tv) (by omega)
  replace hUsi : ∀ s9 q9 : Nat, q9 ∉ ([6, 7, 8, 9, 10, 11, 21, 22] : List Nat) → si1 s9 q9 = si s9 q9 := by rw [esi1]; exact xw_up2 (by decide) hUsi
  refine lv_aload_n hx hb dX7_enter_5 rfl (lv_at hl 0 rfl) ?_
  refine lv_iload_n hx hb dX7_enter_6 rfl (lv_at hl 2 rfl) ?_
  refine va_put (D := (dC, dI)) (ci := 8) (fs := [.int (si1 sv 0), .int (si1 sv 1), .int (si1 sv 2), .ref (sd sv 1), .ref (sd sv 2), .ref (sd sv 4), .int (si1 sv 6), .int (si1 sv 7), .int (si1 sv 8), .int (si1 sv 9), .int (si1 sv 10), .int (si1 sv 11)]) (v := .int p1) (ty := .int) (C := RX7) (T := TX7) (N := 12) hx hb hts in_x_senter_X7 tyX7 tyX7_ok nmX7 hown hK hP hD hS (22 + (6 * sv + 0)) (xAt_0 h a e cI cJ cO cE L I M J n cap fE sd si1 sa dl (s := sv) (by omega)) rfl 7 (by decide) (hts (.fieldLink RX7 35 "ServiceTree$Service" "since" "I") (by decide +kernel)) (fun _ h9 => h9) rfl (by decide +kernel) rfl rfl (Nat.le_of_ble_eq_true rfl) dX7_enter_7 (fun H locs hP hD hS => ?_)
  replace hP : va_P (dC, dI) vwCl ((xW h a e cI cJ cO cE L I M J n cap fE sd si1 sa dl).set (22 + (6 * sv + 0)) (sd sv 0, .inr (8, [.int (si1 sv 0), .int (si1 sv 1), .int (si1 sv 2), .ref (sd sv 1), .ref (sd sv 2), .ref (sd sv 4), .int (si1 sv 6), .int p1, .int (si1 sv 8), .int (si1 sv 9), .int (si1 sv 10), .int (si1 sv 11)]))) H := hP
  replace hD : va_D A ((xW h a e cI cJ cO cE L I M J n cap fE sd si1 sa dl).set (22 + (6 * sv + 0)) (sd sv 0, .inr (8, [.int (si1 sv 0), .int (si1 sv 1), .int (si1 sv 2), .ref (sd sv 1), .ref (sd sv 2), .ref (sd sv 4), .int (si1 sv 6), .int p1, .int (si1 sv 8), .int (si1 sv 9), .int (si1 sv 10), .int (si1 sv 11)]))) := hD
  rw [xSv_7 h a e cI cJ cO cE L I M J n cap fE sd si1 sa dl (s := sv) (by omega)] at hP hD
  obtain ⟨si2, esi2⟩ : ∃ f9 : Nat → Nat → Int32, f9 = up2 si1 sv 7 p1 := ⟨_, rfl⟩
  rw [← esi2] at hP hD
  replace hX : InvX n cap fE sd dl (b) I J si2 := by rw [esi2]; exact hX.setsi (by decide)
  replace hUsi : ∀ s9 q9 : Nat, q9 ∉ ([6, 7, 8, 9, 10, 11, 21, 22] : List Nat) → si2 s9 q9 = si s9 q9 := by rw [esi2]; exact xw_up2 (by decide) hUsi
  refine lv_aload_n hx hb dX7_enter_10 rfl (lv_at hl 0 rfl) ?_
  refine lv_iconst (v := 0) hx hb dX7_enter_11 (by decide) ?_
  refine va_put (D := (dC, dI)) (ci := 8) (fs := [.int (si2 sv 0), .int (si2 sv 1), .int (si2 sv 2), .ref (sd sv 1), .ref (sd sv 2), .ref (sd sv 4), .int (si2 sv 6), .int (si2 sv 7), .int (si2 sv 8), .int (si2 sv 9), .int (si2 sv 10), .int (si2 sv 11)]) (v := .int 0) (ty := .boolean) (C := RX7) (T := TX7) (N := 12) hx hb hts in_x_senter_X7 tyX7 tyX7_ok nmX7 hown hK hP hD hS (22 + (6 * sv + 0)) (xAt_0 h a e cI cJ cO cE L I M J n cap fE sd si2 sa dl (s := sv) (by omega)) rfl 11 (by decide) (hts (.fieldLink RX7 47 "ServiceTree$Service" "ended" "Z") (by decide +kernel)) (fun _ h9 => h9) rfl (by decide +kernel) rfl rfl (Nat.le_of_ble_eq_true rfl) dX7_enter_12 (fun H locs hP hD hS => ?_)
  replace hP : va_P (dC, dI) vwCl ((xW h a e cI cJ cO cE L I M J n cap fE sd si2 sa dl).set (22 + (6 * sv + 0)) (sd sv 0, .inr (8, [.int (si2 sv 0), .int (si2 sv 1), .int (si2 sv 2), .ref (sd sv 1), .ref (sd sv 2), .ref (sd sv 4), .int (si2 sv 6), .int (si2 sv 7), .int (si2 sv 8), .int (si2 sv 9), .int (si2 sv 10), .int 0]))) H := hP
  replace hD : va_D A ((xW h a e cI cJ cO cE L I M J n cap fE sd si2 sa dl).set (22 + (6 * sv + 0)) (sd sv 0, .inr (8, [.int (si2 sv 0), .int (si2 sv 1), .int (si2 sv 2), .ref (sd sv 1), .ref (sd sv 2), .ref (sd sv 4), .int (si2 sv 6), .int (si2 sv 7), .int (si2 sv 8), .int (si2 sv 9), .int (si2 sv 10), .int 0]))) := hD
  rw [xSv_11 h a e cI cJ cO cE L I M J n cap fE sd si2 sa dl (s := sv) (by omega)] at hP hD
  obtain ⟨si3, esi3⟩ : ∃ f9 : Nat → Nat → Int32, f9 = up2 si2 sv 11 0 := ⟨_, rfl⟩
  rw [← esi3] at hP hD
  replace hX : InvX n cap fE sd dl (b) I J si3 := by rw [esi3]; exact hX.setsi (by decide)
  replace hUsi : ∀ s9 q9 : Nat, q9 ∉ ([6, 7, 8, 9, 10, 11, 21, 22] : List Nat) → si3 s9 q9 = si s9 q9 := by rw [esi3]; exact xw_up2 (by decide) hUsi
  refine lv_aload_n hx hb dX7_enter_15 rfl (lv_at hl 0 rfl) ?_
  refine lv_iconst (v := 0) hx hb dX7_enter_16 (by decide) ?_
  refine va_put (D := (dC, dI)) (ci := 8) (fs := [.int (si3 sv 0), .int (si3 sv 1), .int (si3 sv 2), .ref (sd sv 1), .ref (sd sv 2), .ref (sd sv 4), .int (si3 sv 6), .int (si3 sv 7), .int (si3 sv 8), .int (si3 sv 9), .int (si3 sv 10), .int (si3 sv 11)]) (v := .int 0) (ty := .int) (C := RX7) (T := TX7) (N := 12) hx hb hts in_x_senter_X7 tyX7 tyX7_ok nmX7 hown hK hP hD hS (22 + (6 * sv + 0)) (xAt_0 h a e cI cJ cO cE L I M J n cap fE sd si3 sa dl (s := sv) (by omega)) rfl 10 (by decide) (hts (.fieldLink RX7 51 "ServiceTree$Service" "life" "I") (by decide +kernel)) (fun _ h9 => h9) rfl (by decide +kernel) rfl rfl (Nat.le_of_ble_eq_true rfl) dX7_enter_17 (fun H locs hP hD hS => ?_)
  replace hP : va_P (dC, dI) vwCl ((xW h a e cI cJ cO cE L I M J n cap fE sd si3 sa dl).set (22 + (6 * sv + 0)) (sd sv 0, .inr (8, [.int (si3 sv 0), .int (si3 sv 1), .int (si3 sv 2), .ref (sd sv 1), .ref (sd sv 2), .ref (sd sv 4), .int (si3 sv 6), .int (si3 sv 7), .int (si3 sv 8), .int (si3 sv 9), .int 0, .int (si3 sv 11)]))) H := hP
  replace hD : va_D A ((xW h a e cI cJ cO cE L I M J n cap fE sd si3 sa dl).set (22 + (6 * sv + 0)) (sd sv 0, .inr (8, [.int (si3 sv 0), .int (si3 sv 1), .int (si3 sv 2), .ref (sd sv 1), .ref (sd sv 2), .ref (sd sv 4), .int (si3 sv 6), .int (si3 sv 7), .int (si3 sv 8), .int (si3 sv 9), .int 0, .int (si3 sv 11)]))) := hD
  rw [xSv_10 h a e cI cJ cO cE L I M J n cap fE sd si3 sa dl (s := sv) (by omega)] at hP hD
  obtain ⟨si4, esi4⟩ : ∃ f9 : Nat → Nat → Int32, f9 = up2 si3 sv 10 0 := ⟨_, rfl⟩
  rw [← esi4] at hP hD
  replace hX : InvX n cap fE sd dl (b) I J si4 := by rw [esi4]; exact hX.setsi (by decide)
  replace hUsi : ∀ s9 q9 : Nat, q9 ∉ ([6, 7, 8, 9, 10, 11, 21, 22] : List Nat) → si4 s9 q9 = si s9 q9 := by rw [esi4]; exact xw_up2 (by decide) hUsi
  refine lv_iload_n hx hb dX7_enter_20 rfl (lv_at hl 1 rfl) ?_
  refine lv_iconst (v := 2) hx hb dX7_enter_21 (by decide) ?_
  refine lv_icmp_ne (tgt := 57) hx hb dX7_enter_22 (by decide) (fun c5 => ?_) (fun c5 => ?_)
  · replace c5 : ¬ (tv = 2) := fun q9 => c5 ((nI_eq (a := tv) (b := 2) (by omega) (by omega)).mpr q9)
    refine lv_iload_n hx hb dX7_enter_57 rfl (lv_at hl 1 rfl) ?_
    refine lv_iconst (v := 4) hx hb dX7_enter_58 (by decide) ?_
    refine lv_icmp_eq (tgt := 67) hx hb dX7_enter_59 (by decide) (fun c6 => ?_) (fun c6 => ?_)
    · replace c6 : tv = 4 := (nI_eq (a := tv) (b := 4) (by omega) (by omega)).mp c6
      refine lv_aload_n hx hb dX7_enter_67 rfl (lv_at hl 0 rfl) ?_
      refine lv_dup hx hb dX7_enter_68 rfl ?_
      refine va_get (D := (dC, dI)) (ci := 8) (v := .int (si4 sv 9)) (C := RX7) (T := TX7) (N := 12) hx hb hts in_x_senter_X7 hown hK hP (22 + (6 * sv + 0)) (xAt_0 h a e cI cJ cO cE L I M J n cap fE sd si4 sa dl (s := sv) (by omega)) rfl 9 (by decide) (hts (.fieldLink RX7 66 "ServiceTree$Service" "failures" "I") (by decide +kernel)) (fun _ h9 => h9) rfl dX7_enter_69 ?_
      refine lv_topi (fun x7 ex7 => ?_)
      refine lv_iconst (v := 1) hx hb dX7_enter_72 (by decide) ?_
      refine lv_iadd hx hb dX7_enter_73 ?_
      refine lv_topi (fun x8 ex8 => ?_)
      refine va_put (D := (dC, dI)) (ci := 8) (fs := [.int (si4 sv 0), .int (si4 sv 1), .int (si4 sv 2), .ref (sd sv 1), .ref (sd sv 2), .ref (sd sv 4), .int (si4 sv 6), .int (si4 sv 7), .int (si4 sv 8), .int (si4 sv 9), .int (si4 sv 10), .int (si4 sv 11)]) (v := .int x8) (ty := .int) (C := RX7) (T := TX7) (N := 12) hx hb hts in_x_senter_X7 tyX7 tyX7_ok nmX7 hown hK hP hD hS (22 + (6 * sv + 0)) (xAt_0 h a e cI cJ cO cE L I M J n cap fE sd si4 sa dl (s := sv) (by omega)) rfl 9 (by decide) (hts (.fieldLink RX7 66 "ServiceTree$Service" "failures" "I") (by decide +kernel)) (fun _ h9 => h9) rfl (by decide +kernel) rfl rfl (Nat.le_of_ble_eq_true rfl) dX7_enter_74 (fun H locs hP hD hS => ?_)
      replace hP : va_P (dC, dI) vwCl ((xW h a e cI cJ cO cE L I M J n cap fE sd si4 sa dl).set (22 + (6 * sv + 0)) (sd sv 0, .inr (8, [.int (si4 sv 0), .int (si4 sv 1), .int (si4 sv 2), .ref (sd sv 1), .ref (sd sv 2), .ref (sd sv 4), .int (si4 sv 6), .int (si4 sv 7), .int (si4 sv 8), .int x8, .int (si4 sv 10), .int (si4 sv 11)]))) H := hP
      replace hD : va_D A ((xW h a e cI cJ cO cE L I M J n cap fE sd si4 sa dl).set (22 + (6 * sv + 0)) (sd sv 0, .inr (8, [.int (si4 sv 0), .int (si4 sv 1), .int (si4 sv 2), .ref (sd sv 1), .ref (sd sv 2), .ref (sd sv 4), .int (si4 sv 6), .int (si4 sv 7), .int (si4 sv 8), .int x8, .int (si4 sv 10), .int (si4 sv 11)]))) := hD
      rw [xSv_9 h a e cI cJ cO cE L I M J n cap fE sd si4 sa dl (s := sv) (by omega)] at hP hD
      obtain ⟨si9, esi9⟩ : ∃ f9 : Nat → Nat → Int32, f9 = up2 si4 sv 9 x8 := ⟨_, rfl⟩
      rw [← esi9] at hP hD
      replace hX : InvX n cap fE sd dl (b) I J si9 := by rw [esi9]; exact hX.setsi (by decide)
      replace hUsi : ∀ s9 q9 : Nat, q9 ∉ ([6, 7, 8, 9, 10, 11, 21, 22] : List Nat) → si9 s9 q9 = si s9 q9 := by rw [esi9]; exact xw_up2 (by decide) hUsi
      refine lv_iload_n hx hb dX7_enter_77 rfl (lv_at hl 1 rfl) ?_
      refine lv_iconst (v := 5) hx hb dX7_enter_78 (by decide) ?_
      refine lv_icmp_ne (tgt := 90) hx hb dX7_enter_79 (by decide) (fun c10 => ?_) (fun c10 => ?_)
      · replace c10 : ¬ (tv = 5) := fun q9 => c10 ((nI_eq (a := tv) (b := 5) (by omega) (by omega)).mpr q9)
        exact W.vret hx hb hr (fun t ht hW => ⟨⟨(si9, sa), rfl, ⟨hX.mono (by omega), hUsi, hUsa, trivial⟩, by rw [ht]; exact hP, hD⟩, hS.F ht⟩) hS.2.2 dX7_enter_90
      · replace c10 : tv = 5 := (nI_eq (a := tv) (b := 5) (by omega) (by omega)).mp c10
        refine lv_aload_n hx hb dX7_enter_82 rfl (lv_at hl 0 rfl) ?_
        refine va_get (D := (dC, dI)) (ci := 8) (v := .ref (sd sv 2)) (C := RX7) (T := TX7) (N := 12) hx hb hts in_x_senter_X7 hown hK hP (22 + (6 * sv + 0)) (xAt_0 h a e cI cJ cO cE L I M J n cap fE sd si9 sa dl (s := sv) (by omega)) rfl 4 (by decide) (hts (.fieldLink RX7 18 "ServiceTree$Service" "restarts" "LServiceTree$Restarts;") (by decide +kernel)) (fun _ h9 => h9) rfl dX7_enter_83 ?_
        refine lv_iload_n hx hb dX7_enter_86 rfl (lv_at hl 2 rfl) ?_
        have hFc := mw_free hD hS hA
        refine va_callv (va_runV (As := [.int p1]) (rest := []) ⟨hx, hb, hml, hown, hts⟩ (c_x_note l dC dI h a e cI cJ cO cE L I M J n cap fE sd si9 sa dl (b) sv p1 H.size hX (by omega) (by omega)) (cwV 1 hts wc_x_senter_x_note_69 rfl rfl rfl (by decide +kernel) ⟨Nat.le_of_ble_eq_true rfl, Nat.le_of_ble_eq_true rfl⟩) ⟨fun a9 U g mk q => by obtain ⟨q0, q1, qP, qK, qD, qN⟩ := q; exact ⟨q0, q1, qP, va_K.moved (u := U) (U := U.calling g mk a9) (Vm.Alike.refl U.vm) qK, qD, pw_N.same (u := U) (U := U.calling g mk a9) rfl qN⟩, va_recv hK hP (ci := 7) (q0 := (22 + (6 * sv + 2))) rfl (xAt_2 h a e cI cJ cO cE L I M J n cap fE sd si9 sa dl (s := sv) (by omega)), fun U hU hW => ⟨rfl, by rw [hU], by rw [hU]; exact hP, va_K.moved hW.alike hK, hD.weaken (fun _ _ _ _ => trivial), pw_N.warm hW hN⟩⟩ rfl rfl hl.1 rfl (lv_room (Nat.le_of_ble_eq_true rfl)) dX7_enter_87 ⟨Nat.le_of_ble_eq_true rfl, Nat.le_of_ble_eq_true rfl⟩) hS (fun q _ h => hFc q h) hFc (fun u t H1 locs ht hvm hw hB hz1 hk1 hS => ?_)
        obtain ⟨si12, sa13⟩ := u
        replace hP := hB.1
        rw [ht] at hP
        replace hD : va_D A (xW h a e cI cJ cO cE L I M J n cap fE sd si12 sa13 dl) := hB.2.weaken (fun _ q _ h9 => hFc q.1 h9)
        clear hB
        generalize H1 = H at hP hS ⊢
        replace hP : va_P (dC, dI) vwCl (xW h a e cI cJ cO cE L I M J n cap fE sd si12 sa13 dl) H := hP
        obtain ⟨hwX, whUsi, whUsa, hw⟩ := hw
        replace hX : InvX n cap fE sd dl (b) I J si12 := hwX
        replace hUsi : ∀ s9 q9 : Nat, q9 ∉ ([6, 7, 8, 9, 10, 11, 21, 22] : List Nat) → si12 s9 q9 = si s9 q9 := xw_tr2 (by decide) whUsi hUsi
        replace hUsa : ∀ s9 q9 : Nat, q9 ∉ ([3] : List Nat) → sa13 s9 q9 = sa s9 q9 := xw_tr2 (by decide) whUsa hUsa
        exact W.vret hx hb hr (fun t ht hW => ⟨⟨(si12, sa13), rfl, ⟨hX.mono (by omega), hUsi, hUsa, trivial⟩, by rw [ht]; exact hP, hD⟩, hS.F ht⟩) hS.2.2 dX7_enter_90
    · replace c6 : ¬ (tv = 4) := fun q9 => c6 ((nI_eq (a := tv) (b := 4) (by omega) (by omega)).mpr q9)
      refine lv_iload_n hx hb dX7_enter_62 rfl (lv_at hl 1 rfl) ?_
      refine lv_iconst (v := 5) hx hb dX7_enter_63 (by decide) ?_
      refine lv_icmp_ne (tgt := 77) hx hb dX7_enter_64 (by decide) (fun c14 => ?_) (fun c14 => ?_)
      · replace c14 : ¬ (tv = 5) := fun q9 => c14 ((nI_eq (a := tv) (b := 5) (by omega) (by omega)).mpr q9)
        refine lv_iload_n hx hb dX7_enter_77 rfl (lv_at hl 1 rfl) ?_
        refine lv_iconst (v := 5) hx hb dX7_enter_78 (by decide) ?_
        refine lv_icmp_ne (tgt := 90) hx hb dX7_enter_79 (by decide) (fun c15 => ?_) (fun c15 => ?_)
        · replace c15 : ¬ (tv = 5) := fun q9 => c15 ((nI_eq (a := tv) (b := 5) (by omega) (by omega)).mpr q9)
          exact W.vret hx hb hr (fun t ht hW => ⟨⟨(si4, sa), rfl, ⟨hX.mono (by omega), hUsi, hUsa, trivial⟩, by rw [ht]; exact hP, hD⟩, hS.F ht⟩) hS.2.2 dX7_enter_90
        · replace c15 : tv = 5 := (nI_eq (a := tv) (b := 5) (by omega) (by omega)).mp c15
          exact False.elim (by omega)
      · replace c14 : tv = 5 := (nI_eq (a := tv) (b := 5) (by omega) (by omega)).mp c14
        refine lv_aload_n hx hb dX7_enter_67 rfl (lv_at hl 0 rfl) ?_
        refine lv_dup hx hb dX7_enter_68 rfl ?_
        refine va_get (D := (dC, dI)) (ci := 8) (v := .int (si4 sv 9)) (C := RX7) (T := TX7) (N := 12) hx hb hts in_x_senter_X7 hown hK hP (22 + (6 * sv + 0)) (xAt_0 h a e cI cJ cO cE L I M J n cap fE sd si4 sa dl (s := sv) (by omega)) rfl 9 (by decide) (hts (.fieldLink RX7 66 "ServiceTree$Service" "failures" "I") (by decide +kernel)) (fun _ h9 => h9) rfl dX7_enter_69 ?_
        refine lv_topi (fun x16 ex16 => ?_)
        refine lv_iconst (v := 1) hx hb dX7_enter_72 (by decide) ?_
        refine lv_iadd hx hb dX7_enter_73 ?_
        refine lv_topi (fun x17 ex17 => ?_)
        refine va_put (D := (dC, dI)) (ci := 8) (fs := [.int (si4 sv 0), .int (si4 sv 1), .int (si4 sv 2), .ref (sd sv 1), .ref (sd sv 2), .ref (sd sv 4), .int (si4 sv 6), .int (si4 sv 7), .int (si4 sv 8), .int (si4 sv 9), .int (si4 sv 10), .int (si4 sv 11)]) (v := .int x17) (ty := .int) (C := RX7) (T := TX7) (N := 12) hx hb hts in_x_senter_X7 tyX7 tyX7_ok nmX7 hown hK hP hD hS (22 + (6 * sv + 0)) (xAt_0 h a e cI cJ cO cE L I M J n cap fE sd si4 sa dl (s := sv) (by omega)) rfl 9 (by decide) (hts (.fieldLink RX7 66 "ServiceTree$Service" "failures" "I") (by decide +kernel)) (fun _ h9 => h9) rfl (by decide +kernel) rfl rfl (Nat.le_of_ble_eq_true rfl) dX7_enter_74 (fun H locs hP hD hS => ?_)
        replace hP : va_P (dC, dI) vwCl ((xW h a e cI cJ cO cE L I M J n cap fE sd si4 sa dl).set (22 + (6 * sv + 0)) (sd sv 0, .inr (8, [.int (si4 sv 0), .int (si4 sv 1), .int (si4 sv 2), .ref (sd sv 1), .ref (sd sv 2), .ref (sd sv 4), .int (si4 sv 6), .int (si4 sv 7), .int (si4 sv 8), .int x17, .int (si4 sv 10), .int (si4 sv 11)]))) H := hP
        replace hD : va_D A ((xW h a e cI cJ cO cE L I M J n cap fE sd si4 sa dl).set (22 + (6 * sv + 0)) (sd sv 0, .inr (8, [.int (si4 sv 0), .int (si4 sv 1), .int (si4 sv 2), .ref (sd sv 1), .ref (sd sv 2), .ref (sd sv 4), .int (si4 sv 6), .int (si4 sv 7), .int (si4 sv 8), .int x17, .int (si4 sv 10), .int (si4 sv 11)]))) := hD
        rw [xSv_9 h a e cI cJ cO cE L I M J n cap fE sd si4 sa dl (s := sv) (by omega)] at hP hD
        obtain ⟨si18, esi18⟩ : ∃ f9 : Nat → Nat → Int32, f9 = up2 si4 sv 9 x17 := ⟨_, rfl⟩
        rw [← esi18] at hP hD
        replace hX : InvX n cap fE sd dl (b) I J si18 := by rw [esi18]; exact hX.setsi (by decide)
        replace hUsi : ∀ s9 q9 : Nat, q9 ∉ ([6, 7, 8, 9, 10, 11, 21, 22] : List Nat) → si18 s9 q9 = si s9 q9 := by rw [esi18]; exact xw_up2 (by decide) hUsi
        refine lv_iload_n hx hb dX7_enter_77 rfl (lv_at hl 1 rfl) ?_
        refine lv_iconst (v := 5) hx hb dX7_enter_78 (by decide) ?_
        refine lv_icmp_ne (tgt := 90) hx hb dX7_enter_79 (by decide) (fun c19 => ?_) (fun c19 => ?_)
        · replace c19 : ¬ (tv = 5) := fun q9 => c19 ((nI_eq (a := tv) (b := 5) (by omega) (by omega)).mpr q9)
          exact False.elim (by omega)
        · replace c19 : tv = 5 := (nI_eq (a := tv) (b := 5) (by omega) (by omega)).mp c19
          refine lv_aload_n hx hb dX7_enter_82 rfl (lv_at hl 0 rfl) ?_
          refine va_get (D := (dC, dI)) (ci := 8) (v := .ref (sd sv 2)) (C := RX7) (T := TX7) (N := 12) hx hb hts in_x_senter_X7 hown hK hP (22 + (6 * sv + 0)) (xAt_0 h a e cI cJ cO cE L I M J n cap fE sd si18 sa dl (s := sv) (by omega)) rfl 4 (by decide) (hts (.fieldLink RX7 18 "ServiceTree$Service" "restarts" "LServiceTree$Restarts;") (by decide +kernel)) (fun _ h9 => h9) rfl dX7_enter_83 ?_
          refine lv_iload_n hx hb dX7_enter_86 rfl (lv_at hl 2 rfl) ?_
          have hFc := mw_free hD hS hA
          refine va_callv (va_runV (As := [.int p1]) (rest := []) ⟨hx, hb, hml, hown, hts⟩ (c_x_note l dC dI h a e cI cJ cO cE L I M J n cap fE sd si18 sa dl (b) sv p1 H.size hX (by omega) (by omega)) (cwV 1 hts wc_x_senter_x_note_69 rfl rfl rfl (by decide +kernel) ⟨Nat.le_of_ble_eq_true rfl, Nat.le_of_ble_eq_true rfl⟩) ⟨fun a9 U g mk q => by obtain ⟨q0, q1, qP, qK, qD, qN⟩ := q; exact ⟨q0, q1, qP, va_K.moved (u := U) (U := U.calling g mk a9) (Vm.Alike.refl U.vm) qK, qD, pw_N.same (u := U) (U := U.calling g mk a9) rfl qN⟩, va_recv hK hP (ci := 7) (q0 := (22 + (6 * sv + 2))) rfl (xAt_2 h a e cI cJ cO cE L I M J n cap fE sd si18 sa dl (s := sv) (by omega)), fun U hU hW => ⟨rfl, by rw [hU], by rw [hU]; exact hP, va_K.moved hW.alike hK, hD.weaken (fun _ _ _ _ => trivial), pw_N.warm hW hN⟩⟩ rfl rfl hl.1 rfl (lv_room (Nat.le_of_ble_eq_true rfl)) dX7_enter_87 ⟨Nat.le_of_ble_eq_true rfl, Nat.le_of_ble_eq_true rfl⟩) hS (fun q _ h => hFc q h) hFc (fun u t H1 locs ht hvm hw hB hz1 hk1 hS => ?_)
          obtain ⟨si21, sa22⟩ := u
          replace hP := hB.1
          rw [ht] at hP
          replace hD : va_D A (xW h a e cI cJ cO cE L I M J n cap fE sd si21 sa22 dl) := hB.2.weaken (fun _ q _ h9 => hFc q.1 h9)
          clear hB
          generalize H1 = H at hP hS ⊢
          replace hP : va_P (dC, dI) vwCl (xW h a e cI cJ cO cE L I M J n cap fE sd si21 sa22 dl) H := hP
          obtain ⟨hwX, whUsi, whUsa, hw⟩ := hw
          replace hX : InvX n cap fE sd dl (b) I J si21 := hwX
          replace hUsi : ∀ s9 q9 : Nat, q9 ∉ ([6, 7, 8, 9, 10, 11, 21, 22] : List Nat) → si21 s9 q9 = si s9 q9 := xw_tr2 (by decide) whUsi hUsi
          replace hUsa : ∀ s9 q9 : Nat, q9 ∉ ([3] : List Nat) → sa22 s9 q9 = sa s9 q9 := xw_tr2 (by decide) whUsa hUsa
          exact W.vret hx hb hr (fun t ht hW => ⟨⟨(si21, sa22), rfl, ⟨hX.mono (by omega), hUsi, hUsa, trivial⟩, by rw [ht]; exact hP, hD⟩, hS.F ht⟩) hS.2.2 dX7_enter_90
  · replace c5 : tv = 2 := (nI_eq (a := tv) (b := 2) (by omega) (by omega)).mp c5
    refine lv_aload_n hx hb dX7_enter_25 rfl (lv_at hl 0 rfl) ?_
    refine lv_aload_n hx hb dX7_enter_26 rfl (lv_at hl 0 rfl) ?_
    refine va_get (D := (dC, dI)) (ci := 8) (v := .ref (sd sv 1)) (C := RX7) (T := TX7) (N := 12) hx hb hts in_x_senter_X7 hown hK hP (22 + (6 * sv + 0)) (xAt_0 h a e cI cJ cO cE L I M J n cap fE sd si4 sa dl (s := sv) (by omega)) rfl 3 (by decide) (hts (.fieldLink RX7 9 "ServiceTree$Service" "lives" "[I") (by decide +kernel)) (fun _ h9 => h9) rfl dX7_enter_27 ?_
    refine lv_iconst (v := 0) hx hb dX7_enter_30 (by decide) ?_
    refine lv_aload_n hx hb dX7_enter_31 rfl (lv_at hl 0 rfl) ?_
    refine va_get (D := (dC, dI)) (ci := 8) (v := .int (si4 sv 8)) (C := RX7) (T := TX7) (N := 12) hx hb hts in_x_senter_X7 hown hK hP (22 + (6 * sv + 0)) (xAt_0 h a e cI cJ cO cE L I M J n cap fE sd si4 sa dl (s := sv) (by omega)) rfl 8 (by decide) (hts (.fieldLink RX7 54 "ServiceTree$Service" "starts" "I") (by decide +kernel)) (fun _ h9 => h9) rfl dX7_enter_32 ?_
    refine lv_topi (fun x23 ex23 => ?_)
    refine lv_bipush (v := 7) hx hb dX7_enter_35 (by decide) ?_
    refine va_mmin hx hb (by rw [hml]; exact hl.1.symm) hown (hts (.methodLink RX7 57 Lib.Math.min.name) (by decide +kernel)) (hts (.static Lib.Math.min.name) (by decide +kernel)) (hts (.initialized "java/lang/Math") (by decide +kernel)) (hts (.code Lib.Math.min.name Lib.Math.min.code 2 (some .int)) (by decide +kernel)) (Nat.le_of_ble_eq_true rfl) (Nat.le_of_ble_eq_true rfl) (Nat.le_of_ble_eq_true rfl) (Nat.le_of_ble_eq_true rfl) dX7_enter_37 ?_
    refine lv_topi (fun x24 ex24 => ?_)
    refine va_mmax hx hb (by rw [hml]; exact hl.1.symm) hown (hts (.methodLink RX7 63 Lib.Math.max.name) (by decide +kernel)) (hts (.static Lib.Math.max.name) (by decide +kernel)) (hts (.initialized "java/lang/Math") (by decide +kernel)) (hts (.code Lib.Math.max.name Lib.Math.max.code 2 (some .int)) (by decide +kernel)) (Nat.le_of_ble_eq_true rfl) (Nat.le_of_ble_eq_true rfl) (Nat.le_of_ble_eq_true rfl) (Nat.le_of_ble_eq_true rfl) dX7_enter_40 ?_
    refine lv_topi (fun x25 ex25 => ?_)
    obtain ⟨j26, hj26, rfl⟩ := xw_clamp _ ex24 ex25
    refine va_iald (n := 8) (f := sa sv 1) hx hb hK hP (22 + (6 * sv + 1)) 0 (xAt_1 h a e cI cJ cO cE L I M J n cap fE sd si4 sa dl (s := sv) (by omega)) rfl (vp_in_nI (n := j26) (by omega) (by omega)) dX7_enter_43 ?_
    refine lv_topi (fun x27 ex27 => ?_)
    refine va_put (D := (dC, dI)) (ci := 8) (fs := [.int (si4 sv 0), .int (si4 sv 1), .int (si4 sv 2), .ref (sd sv 1), .ref (sd sv 2), .ref (sd sv 4), .int (si4 sv 6), .int (si4 sv 7), .int (si4 sv 8), .int (si4 sv 9), .int (si4 sv 10), .int (si4 sv 11)]) (v := .int x27) (ty := .int) (C := RX7) (T := TX7) (N := 12) hx hb hts in_x_senter_X7 tyX7 tyX7_ok nmX7 hown hK hP hD hS (22 + (6 * sv + 0)) (xAt_0 h a e cI cJ cO cE L I M J n cap fE sd si4 sa dl (s := sv) (by omega)) rfl 10 (by decide) (hts (.fieldLink RX7 51 "ServiceTree$Service" "life" "I") (by decide +kernel)) (fun _ h9 => h9) rfl (by decide +kernel) rfl rfl (Nat.le_of_ble_eq_true rfl) dX7_enter_44 (fun H locs hP hD hS => ?_)
    replace hP : va_P (dC, dI) vwCl ((xW h a e cI cJ cO cE L I M J n cap fE sd si4 sa dl).set (22 + (6 * sv + 0)) (sd sv 0, .inr (8, [.int (si4 sv 0), .int (si4 sv 1), .int (si4 sv 2), .ref (sd sv 1), .ref (sd sv 2), .ref (sd sv 4), .int (si4 sv 6), .int (si4 sv 7), .int (si4 sv 8), .int (si4 sv 9), .int x27, .int (si4 sv 11)]))) H := hP
    replace hD : va_D A ((xW h a e cI cJ cO cE L I M J n cap fE sd si4 sa dl).set (22 + (6 * sv + 0)) (sd sv 0, .inr (8, [.int (si4 sv 0), .int (si4 sv 1), .int (si4 sv 2), .ref (sd sv 1), .ref (sd sv 2), .ref (sd sv 4), .int (si4 sv 6), .int (si4 sv 7), .int (si4 sv 8), .int (si4 sv 9), .int x27, .int (si4 sv 11)]))) := hD
    rw [xSv_10 h a e cI cJ cO cE L I M J n cap fE sd si4 sa dl (s := sv) (by omega)] at hP hD
    obtain ⟨si28, esi28⟩ : ∃ f9 : Nat → Nat → Int32, f9 = up2 si4 sv 10 x27 := ⟨_, rfl⟩
    rw [← esi28] at hP hD
    replace hX : InvX n cap fE sd dl (b) I J si28 := by rw [esi28]; exact hX.setsi (by decide)
    replace hUsi : ∀ s9 q9 : Nat, q9 ∉ ([6, 7, 8, 9, 10, 11, 21, 22] : List Nat) → si28 s9 q9 = si s9 q9 := by rw [esi28]; exact xw_up2 (by decide) hUsi
    refine lv_aload_n hx hb dX7_enter_47 rfl (lv_at hl 0 rfl) ?_
    refine lv_dup hx hb dX7_enter_48 rfl ?_
    refine va_get (D := (dC, dI)) (ci := 8) (v := .int (si28 sv 8)) (C := RX7) (T := TX7) (N := 12) hx hb hts in_x_senter_X7 hown hK hP (22 + (6 * sv + 0)) (xAt_0 h a e cI cJ cO cE L I M J n cap fE sd si28 sa dl (s := sv) (by omega)) rfl 8 (by decide) (hts (.fieldLink RX7 54 "ServiceTree$Service" "starts" "I") (by decide +kernel)) (fun _ h9 => h9) rfl dX7_enter_49 ?_
    refine p1_topr (v := .int x23) (congrArg Value.int (by rw [esi28, up2_ne (by decide)]; exact ex23.symm)) ?_
    refine lv_iconst (v := 1) hx hb dX7_enter_52 (by decide) ?_
    refine lv_iadd hx hb dX7_enter_53 ?_
    refine lv_topi (fun x29 ex29 => ?_)
    refine va_put (D := (dC, dI)) (ci := 8) (fs := [.int (si28 sv 0), .int (si28 sv 1), .int (si28 sv 2), .ref (sd sv 1), .ref (sd sv 2), .ref (sd sv 4), .int (si28 sv 6), .int (si28 sv 7), .int (si28 sv 8), .int (si28 sv 9), .int (si28 sv 10), .int (si28 sv 11)]) (v := .int x29) (ty := .int) (C := RX7) (T := TX7) (N := 12) hx hb hts in_x_senter_X7 tyX7 tyX7_ok nmX7 hown hK hP hD hS (22 + (6 * sv + 0)) (xAt_0 h a e cI cJ cO cE L I M J n cap fE sd si28 sa dl (s := sv) (by omega)) rfl 8 (by decide) (hts (.fieldLink RX7 54 "ServiceTree$Service" "starts" "I") (by decide +kernel)) (fun _ h9 => h9) rfl (by decide +kernel) rfl rfl (Nat.le_of_ble_eq_true rfl) dX7_enter_54 (fun H locs hP hD hS => ?_)
    replace hP : va_P (dC, dI) vwCl ((xW h a e cI cJ cO cE L I M J n cap fE sd si28 sa dl).set (22 + (6 * sv + 0)) (sd sv 0, .inr (8, [.int (si28 sv 0), .int (si28 sv 1), .int (si28 sv 2), .ref (sd sv 1), .ref (sd sv 2), .ref (sd sv 4), .int (si28 sv 6), .int (si28 sv 7), .int x29, .int (si28 sv 9), .int (si28 sv 10), .int (si28 sv 11)]))) H := hP
    replace hD : va_D A ((xW h a e cI cJ cO cE L I M J n cap fE sd si28 sa dl).set (22 + (6 * sv + 0)) (sd sv 0, .inr (8, [.int (si28 sv 0), .int (si28 sv 1), .int (si28 sv 2), .ref (sd sv 1), .ref (sd sv 2), .ref (sd sv 4), .int (si28 sv 6), .int (si28 sv 7), .int x29, .int (si28 sv 9), .int (si28 sv 10), .int (si28 sv 11)]))) := hD
    rw [xSv_8 h a e cI cJ cO cE L I M J n cap fE sd si28 sa dl (s := sv) (by omega)] at hP hD
    obtain ⟨si30, esi30⟩ : ∃ f9 : Nat → Nat → Int32, f9 = up2 si28 sv 8 x29 := ⟨_, rfl⟩
    rw [← esi30] at hP hD
    replace hX : InvX n cap fE sd dl (b) I J si30 := by rw [esi30]; exact hX.setsi (by decide)
    replace hUsi : ∀ s9 q9 : Nat, q9 ∉ ([6, 7, 8, 9, 10, 11, 21, 22] : List Nat) → si30 s9 q9 = si s9 q9 := by rw [esi30]; exact xw_up2 (by decide) hUsi
    refine lv_iload_n hx hb dX7_enter_57 rfl (lv_at hl 1 rfl) ?_
    refine lv_iconst (v := 4) hx hb dX7_enter_58 (by decide) ?_
    refine lv_icmp_eq (tgt := 67) hx hb dX7_enter_59 (by decide) (fun c31 => ?_) (fun c31 => ?_)
    · replace c31 : tv = 4 := (nI_eq (a := tv) (b := 4) (by omega) (by omega)).mp c31
      refine lv_aload_n hx hb dX7_enter_67 rfl (lv_at hl 0 rfl) ?_
      refine lv_dup hx hb dX7_enter_68 rfl ?_
      refine va_get (D := (dC, dI)) (ci := 8) (v := .int (si30 sv 9)) (C := RX7) (T := TX7) (N := 12) hx hb hts in_x_senter_X7 hown hK hP (22 + (6 * sv + 0)) (xAt_0 h a e cI cJ cO cE L I M J n cap fE sd si30 sa dl (s := sv) (by omega)) rfl 9 (by decide) (hts (.fieldLink RX7 66 "ServiceTree$Service" "failures" "I") (by decide +kernel)) (fun _ h9 => h9) rfl dX7_enter_69 ?_
      refine lv_topi (fun x32 ex32 => ?_)
      refine lv_iconst (v := 1) hx hb dX7_enter_72 (by decide) ?_
      refine lv_iadd hx hb dX7_enter_73 ?_
      refine lv_topi (fun x33 ex33 => ?_)
      refine va_put (D := (dC, dI)) (ci := 8) (fs := [.int (si30 sv 0), .int (si30 sv 1), .int (si30 sv 2), .ref (sd sv 1), .ref (sd sv 2), .ref (sd sv 4), .int (si30 sv 6), .int (si30 sv 7), .int (si30 sv 8), .int (si30 sv 9), .int (si30 sv 10), .int (si30 sv 11)]) (v := .int x33) (ty := .int) (C := RX7) (T := TX7) (N := 12) hx hb hts in_x_senter_X7 tyX7 tyX7_ok nmX7 hown hK hP hD hS (22 + (6 * sv + 0)) (xAt_0 h a e cI cJ cO cE L I M J n cap fE sd si30 sa dl (s := sv) (by omega)) rfl 9 (by decide) (hts (.fieldLink RX7 66 "ServiceTree$Service" "failures" "I") (by decide +kernel)) (fun _ h9 => h9) rfl (by decide +kernel) rfl rfl (Nat.le_of_ble_eq_true rfl) dX7_enter_74 (fun H locs hP hD hS => ?_)
      replace hP : va_P (dC, dI) vwCl ((xW h a e cI cJ cO cE L I M J n cap fE sd si30 sa dl).set (22 + (6 * sv + 0)) (sd sv 0, .inr (8, [.int (si30 sv 0), .int (si30 sv 1), .int (si30 sv 2), .ref (sd sv 1), .ref (sd sv 2), .ref (sd sv 4), .int (si30 sv 6), .int (si30 sv 7), .int (si30 sv 8), .int x33, .int (si30 sv 10), .int (si30 sv 11)]))) H := hP
      replace hD : va_D A ((xW h a e cI cJ cO cE L I M J n cap fE sd si30 sa dl).set (22 + (6 * sv + 0)) (sd sv 0, .inr (8, [.int (si30 sv 0), .int (si30 sv 1), .int (si30 sv 2), .ref (sd sv 1), .ref (sd sv 2), .ref (sd sv 4), .int (si30 sv 6), .int (si30 sv 7), .int (si30 sv 8), .int x33, .int (si30 sv 10), .int (si30 sv 11)]))) := hD
      rw [xSv_9 h a e cI cJ cO cE L I M J n cap fE sd si30 sa dl (s := sv) (by omega)] at hP hD
      obtain ⟨si34, esi34⟩ : ∃ f9 : Nat → Nat → Int32, f9 = up2 si30 sv 9 x33 := ⟨_, rfl⟩
      rw [← esi34] at hP hD
      replace hX : InvX n cap fE sd dl (b) I J si34 := by rw [esi34]; exact hX.setsi (by decide)
      replace hUsi : ∀ s9 q9 : Nat, q9 ∉ ([6, 7, 8, 9, 10, 11, 21, 22] : List Nat) → si34 s9 q9 = si s9 q9 := by rw [esi34]; exact xw_up2 (by decide) hUsi
      refine lv_iload_n hx hb dX7_enter_77 rfl (lv_at hl 1 rfl) ?_
      refine lv_iconst (v := 5) hx hb dX7_enter_78 (by decide) ?_
      refine lv_icmp_ne (tgt := 90) hx hb dX7_enter_79 (by decide) (fun c35 => ?_) (fun c35 => ?_)
      · replace c35 : ¬ (tv = 5) := fun q9 => c35 ((nI_eq (a := tv) (b := 5) (by omega) (by omega)).mpr q9)
        exact W.vret hx hb hr (fun t ht hW => ⟨⟨(si34, sa), rfl, ⟨hX.mono (by omega), hUsi, hUsa, trivial⟩, by rw [ht]; exact hP, hD⟩, hS.F ht⟩) hS.2.2 dX7_enter_90
      · replace c35 : tv = 5 := (nI_eq (a := tv) (b := 5) (by omega) (by omega)).mp c35
        refine lv_aload_n hx hb dX7_enter_82 rfl (lv_at hl 0 rfl) ?_
        refine va_get (D := (dC, dI)) (ci := 8) (v := .ref (sd sv 2)) (C := RX7) (T := TX7) (N := 12) hx hb hts in_x_senter_X7 hown hK hP (22 + (6 * sv + 0)) (xAt_0 h a e cI cJ cO cE L I M J n cap fE sd si34 sa dl (s := sv) (by omega)) rfl 4 (by decide) (hts (.fieldLink RX7 18 "ServiceTree$Service" "restarts" "LServiceTree$Restarts;") (by decide +kernel)) (fun _ h9 => h9) rfl dX7_enter_83 ?_
        refine lv_iload_n hx hb dX7_enter_86 rfl (lv_at hl 2 rfl) ?_
        have hFc := mw_free hD hS hA
        refine va_callv (va_runV (As := [.int p1]) (rest := []) ⟨hx, hb, hml, hown, hts⟩ (c_x_note l dC dI h a e cI cJ cO cE L I M J n cap fE sd si34 sa dl (b) sv p1 H.size hX (by omega) (by omega)) (cwV 1 hts wc_x_senter_x_note_69 rfl rfl rfl (by decide +kernel) ⟨Nat.le_of_ble_eq_true rfl, Nat.le_of_ble_eq_true rfl⟩) ⟨fun a9 U g mk q => by obtain ⟨q0, q1, qP, qK, qD, qN⟩ := q; exact ⟨q0, q1, qP, va_K.moved (u := U) (U := U.calling g mk a9) (Vm.Alike.refl U.vm) qK, qD, pw_N.same (u := U) (U := U.calling g mk a9) rfl qN⟩, va_recv hK hP (ci := 7) (q0 := (22 + (6 * sv + 2))) rfl (xAt_2 h a e cI cJ cO cE L I M J n cap fE sd si34 sa dl (s := sv) (by omega)), fun U hU hW => ⟨rfl, by rw [hU], by rw [hU]; exact hP, va_K.moved hW.alike hK, hD.weaken (fun _ _ _ _ => trivial), pw_N.warm hW hN⟩⟩ rfl rfl hl.1 rfl (lv_room (Nat.le_of_ble_eq_true rfl)) dX7_enter_87 ⟨Nat.le_of_ble_eq_true rfl, Nat.le_of_ble_eq_true rfl⟩) hS (fun q _ h => hFc q h) hFc (fun u t H1 locs ht hvm hw hB hz1 hk1 hS => ?_)
        obtain ⟨si37, sa38⟩ := u
        replace hP := hB.1
        rw [ht] at hP
        replace hD : va_D A (xW h a e cI cJ cO cE L I M J n cap fE sd si37 sa38 dl) := hB.2.weaken (fun _ q _ h9 => hFc q.1 h9)
        clear hB
        generalize H1 = H at hP hS ⊢
        replace hP : va_P (dC, dI) vwCl (xW h a e cI cJ cO cE L I M J n cap fE sd si37 sa38 dl) H := hP
        obtain ⟨hwX, whUsi, whUsa, hw⟩ := hw
        replace hX : InvX n cap fE sd dl (b) I J si37 := hwX
        replace hUsi : ∀ s9 q9 : Nat, q9 ∉ ([6, 7, 8, 9, 10, 11, 21, 22] : List Nat) → si37 s9 q9 = si s9 q9 := xw_tr2 (by decide) whUsi hUsi
        replace hUsa : ∀ s9 q9 : Nat, q9 ∉ ([3] : List Nat) → sa38 s9 q9 = sa s9 q9 := xw_tr2 (by decide) whUsa hUsa
        exact W.vret hx hb hr (fun t ht hW => ⟨⟨(si37, sa38), rfl, ⟨hX.mono (by omega), hUsi, hUsa, trivial⟩, by rw [ht]; exact hP, hD⟩, hS.F ht⟩) hS.2.2 dX7_enter_90
    · replace c31 : ¬ (tv = 4) := fun q9 => c31 ((nI_eq (a := tv) (b := 4) (by omega) (by omega)).mpr q9)
      refine lv_iload_n hx hb dX7_enter_62 rfl (lv_at hl 1 rfl) ?_
      refine lv_iconst (v := 5) hx hb dX7_enter_63 (by decide) ?_
      refine lv_icmp_ne (tgt := 77) hx hb dX7_enter_64 (by decide) (fun c39 => ?_) (fun c39 => ?_)
      · replace c39 : ¬ (tv = 5) := fun q9 => c39 ((nI_eq (a := tv) (b := 5) (by omega) (by omega)).mpr q9)
        refine lv_iload_n hx hb dX7_enter_77 rfl (lv_at hl 1 rfl) ?_
        refine lv_iconst (v := 5) hx hb dX7_enter_78 (by decide) ?_
        refine lv_icmp_ne (tgt := 90) hx hb dX7_enter_79 (by decide) (fun c40 => ?_) (fun c40 => ?_)
        · replace c40 : ¬ (tv = 5) := fun q9 => c40 ((nI_eq (a := tv) (b := 5) (by omega) (by omega)).mpr q9)
          exact W.vret hx hb hr (fun t ht hW => ⟨⟨(si30, sa), rfl, ⟨hX.mono (by omega), hUsi, hUsa, trivial⟩, by rw [ht]; exact hP, hD⟩, hS.F ht⟩) hS.2.2 dX7_enter_90
        · replace c40 : tv = 5 := (nI_eq (a := tv) (b := 5) (by omega) (by omega)).mp c40
          exact False.elim (by omega)
      · replace c39 : tv = 5 := (nI_eq (a := tv) (b := 5) (by omega) (by omega)).mp c39
        refine lv_aload_n hx hb dX7_enter_67 rfl (lv_at hl 0 rfl) ?_
        refine lv_dup hx hb dX7_enter_68 rfl ?_
        refine va_get (D := (dC, dI)) (ci := 8) (v := .int (si30 sv 9)) (C := RX7) (T := TX7) (N := 12) hx hb hts in_x_senter_X7 hown hK hP (22 + (6 * sv + 0)) (xAt_0 h a e cI cJ cO cE L I M J n cap fE sd si30 sa dl (s := sv) (by omega)) rfl 9 (by decide) (hts (.fieldLink RX7 66 "ServiceTree$Service" "failures" "I") (by decide +kernel)) (fun _ h9 => h9) rfl dX7_enter_69 ?_
        refine lv_topi (fun x41 ex41 => ?_)
        refine lv_iconst (v := 1) hx hb dX7_enter_72 (by decide) ?_
        refine lv_iadd hx hb dX7_enter_73 ?_
        refine lv_topi (fun x42 ex42 => ?_)
        refine va_put (D := (dC, dI)) (ci := 8) (fs := [.int (si30 sv 0), .int (si30 sv 1), .int (si30 sv 2), .ref (sd sv 1), .ref (sd sv 2), .ref (sd sv 4), .int (si30 sv 6), .int (si30 sv 7), .int (si30 sv 8), .int (si30 sv 9), .int (si30 sv 10), .int (si30 sv 11)]) (v := .int x42) (ty := .int) (C := RX7) (T := TX7) (N := 12) hx hb hts in_x_senter_X7 tyX7 tyX7_ok nmX7 hown hK hP hD hS (22 + (6 * sv + 0)) (xAt_0 h a e cI cJ cO cE L I M J n cap fE sd si30 sa dl (s := sv) (by omega)) rfl 9 (by decide) (hts (.fieldLink RX7 66 "ServiceTree$Service" "failures" "I") (by decide +kernel)) (fun _ h9 => h9) rfl (by decide +kernel) rfl rfl (Nat.le_of_ble_eq_true rfl) dX7_enter_74 (fun H locs hP hD hS => ?_)
        replace hP : va_P (dC, dI) vwCl ((xW h a e cI cJ cO cE L I M J n cap fE sd si30 sa dl).set (22 + (6 * sv + 0)) (sd sv 0, .inr (8, [.int (si30 sv 0), .int (si30 sv 1), .int (si30 sv 2), .ref (sd sv 1), .ref (sd sv 2), .ref (sd sv 4), .int (si30 sv 6), .int (si30 sv 7), .int (si30 sv 8), .int x42, .int (si30 sv 10), .int (si30 sv 11)]))) H := hP
        replace hD : va_D A ((xW h a e cI cJ cO cE L I M J n cap fE sd si30 sa dl).set (22 + (6 * sv + 0)) (sd sv 0, .inr (8, [.int (si30 sv 0), .int (si30 sv 1), .int (si30 sv 2), .ref (sd sv 1), .ref (sd sv 2), .ref (sd sv 4), .int (si30 sv 6), .int (si30 sv 7), .int (si30 sv 8), .int x42, .int (si30 sv 10), .int (si30 sv 11)]))) := hD
        rw [xSv_9 h a e cI cJ cO cE L I M J n cap fE sd si30 sa dl (s := sv) (by omega)] at hP hD
        obtain ⟨si43, esi43⟩ : ∃ f9 : Nat → Nat → Int32, f9 = up2 si30 sv 9 x42 := ⟨_, rfl⟩
        rw [← esi43] at hP hD
        replace hX : InvX n cap fE sd dl (b) I J si43 := by rw [esi43]; exact hX.setsi (by decide)
        replace hUsi : ∀ s9 q9 : Nat, q9 ∉ ([6, 7, 8, 9, 10, 11, 21, 22] : List Nat) → si43 s9 q9 = si s9 q9 := by rw [esi43]; exact xw_up2 (by decide) hUsi
        refine lv_iload_n hx hb dX7_enter_77 rfl (lv_at hl 1 rfl) ?_
        refine lv_iconst (v := 5) hx hb dX7_enter_78 (by decide) ?_
        refine lv_icmp_ne (tgt := 90) hx hb dX7_enter_79 (by decide) (fun c44 => ?_) (fun c44 => ?_)
        · replace c44 : ¬ (tv = 5) := fun q9 => c44 ((nI_eq (a := tv) (b := 5) (by omega) (by omega)).mpr q9)
          exact False.elim (by omega)
        · replace c44 : tv = 5 := (nI_eq (a := tv) (b := 5) (by omega) (by omega)).mp c44
          refine lv_aload_n hx hb dX7_enter_82 rfl (lv_at hl 0 rfl) ?_
          refine va_get (D := (dC, dI)) (ci := 8) (v := .ref (sd sv 2)) (C := RX7) (T := TX7) (N := 12) hx hb hts in_x_senter_X7 hown hK hP (22 + (6 * sv + 0)) (xAt_0 h a e cI cJ cO cE L I M J n cap fE sd si43 sa dl (s := sv) (by omega)) rfl 4 (by decide) (hts (.fieldLink RX7 18 "ServiceTree$Service" "restarts" "LServiceTree$Restarts;") (by decide +kernel)) (fun _ h9 => h9) rfl dX7_enter_83 ?_
          refine lv_iload_n hx hb dX7_enter_86 rfl (lv_at hl 2 rfl) ?_
          have hFc := mw_free hD hS hA
          refine va_callv (va_runV (As := [.int p1]) (rest := []) ⟨hx, hb, hml, hown, hts⟩ (c_x_note l dC dI h a e cI cJ cO cE L I M J n cap fE sd si43 sa dl (b) sv p1 H.size hX (by omega) (by omega)) (cwV 1 hts wc_x_senter_x_note_69 rfl rfl rfl (by decide +kernel) ⟨Nat.le_of_ble_eq_true rfl, Nat.le_of_ble_eq_true rfl⟩) ⟨fun a9 U g mk q => by obtain ⟨q0, q1, qP, qK, qD, qN⟩ := q; exact ⟨q0, q1, qP, va_K.moved (u := U) (U := U.calling g mk a9) (Vm.Alike.refl U.vm) qK, qD, pw_N.same (u := U) (U := U.calling g mk a9) rfl qN⟩, va_recv hK hP (ci := 7) (q0 := (22 + (6 * sv + 2))) rfl (xAt_2 h a e cI cJ cO cE L I M J n cap fE sd si43 sa dl (s := sv) (by omega)), fun U hU hW => ⟨rfl, by rw [hU], by rw [hU]; exact hP, va_K.moved hW.alike hK, hD.weaken (fun _ _ _ _ => trivial), pw_N.warm hW hN⟩⟩ rfl rfl hl.1 rfl (lv_room (Nat.le_of_ble_eq_true rfl)) dX7_enter_87 ⟨Nat.le_of_ble_eq_true rfl, Nat.le_of_ble_eq_true rfl⟩) hS (fun q _ h => hFc q h) hFc (fun u t H1 locs ht hvm hw hB hz1 hk1 hS => ?_)
          obtain ⟨si46, sa47⟩ := u
          replace hP := hB.1
          rw [ht] at hP
          replace hD : va_D A (xW h a e cI cJ cO cE L I M J n cap fE sd si46 sa47 dl) := hB.2.weaken (fun _ q _ h9 => hFc q.1 h9)
          clear hB
          generalize H1 = H at hP hS ⊢
          replace hP : va_P (dC, dI) vwCl (xW h a e cI cJ cO cE L I M J n cap fE sd si46 sa47 dl) H := hP
          obtain ⟨hwX, whUsi, whUsa, hw⟩ := hw
          replace hX : InvX n cap fE sd dl (b) I J si46 := hwX
          replace hUsi : ∀ s9 q9 : Nat, q9 ∉ ([6, 7, 8, 9, 10, 11, 21, 22] : List Nat) → si46 s9 q9 = si s9 q9 := xw_tr2 (by decide) whUsi hUsi
          replace hUsa : ∀ s9 q9 : Nat, q9 ∉ ([3] : List Nat) → sa47 s9 q9 = sa s9 q9 := xw_tr2 (by decide) whUsa hUsa
          exact W.vret hx hb hr (fun t ht hW => ⟨⟨(si46, sa47), rfl, ⟨hX.mono (by omega), hUsi, hUsa, trivial⟩, by rw [ht]; exact hP, hD⟩, hS.F ht⟩) hS.2.2 dX7_enter_90
def wq_x_endBy : List Cond := [.code yX7_endByItself cX7_endByItself 1 none, .fieldLink RX7 47 "ServiceTree$Service" "ended" "Z", .fieldLink RX7 51 "ServiceTree$Service" "life" "I"] ++ (wsX70)
theorem in_x_endBy_X7 : ∀ w ∈ wsX70, w ∈ wq_x_endBy := fun _ h => List.mem_append_right _ (h)
set_option maxRecDepth 20000 in
theorem wi_x_endBy : ∀ w ∈ wq_x_endBy, w ∈ lw_tbl := List.forall_mem_append.mpr ⟨(by decide +kernel), inKX7⟩
set_option maxRecDepth 20000 in
theorem wg_x_endBy : GoodIn wq_x_endBy wq_x_endBy := goodIn_sub (fun _ h => h) (by decide +kernel)
def rm_x_endBy : Room := { frames := 0, cells := 0, slots := 0, locals := 0 }
set_option maxHeartbeats 4000000 in
set_option maxRecDepth 100000 in
theorem c_x_endBy (l : Launch) (dC : Nat → ClassId) (dI : Nat → Nat → Nat) (h : Nat) (a : Nat → Nat) (e : Nat) (cI cJ cO cE : ClassId) (L : Nat → Int64) (I : Nat → Int32) (M : Nat → Nat → Int64) (J : Nat → Nat → Int32) (n cap : Nat) (fE : Nat → Option Nat) (sd : Nat → Nat → Nat) (si : Nat → Nat → Int32) (sa : Nat → Nat → Nat → Int32) (dl : Nat → Nat) (b : Nat) (sv : Nat) (sz : Nat) (hX0 : InvX n cap fE sd dl b I J si) (hb0 : b + 0 < 2147483648) (hp0 : sv < n) : Met l yX7_endByItself wq_x_endBy rm_x_endBy (va_Pc [.ref (sd sv 0)] (fun U => U.heap.size = sz ∧ va_P (dC, dI) vwCl (xW h a e cI cJ cO cE L I M J n cap fE sd si sa dl) U.heap ∧ va_K (dC, dI) vwCl (xT cI cJ cO cE) U ∧ va_D (fun _ => True) (xW h a e cI cJ cO cE L I M J n cap fE sd si sa dl) ∧ pw_N U)) (va_Qv (fun (u : (Nat → Nat → Int32)) => InvX n cap fE sd dl (b + 0) I J u ∧ (∀ s9 q9 : Nat, q9 ∉ ([10, 11] : List Nat) → u s9 q9 = si s9 q9) ∧ (True)) (fun (u : (Nat → Nat → Int32)) (t : State) => va_P (dC, dI) vwCl (xW h a e cI cJ cO cE L I M J n cap fE sd u sa dl) t.heap ∧ va_D (va_A (xW h a e cI cJ cO cE L I M J n cap fE sd si sa dl) sz) (xW h a e cI cJ cO cE L I M J n cap fE sd u sa dl)) (va_A (xW h a e cI cJ cO cE L I M J n cap fE sd si sa dl) sz)) 0 0 (va_A (xW h a e cI cJ cO cE L I M J n cap fE sd si sa dl) sz) := by
  have hn : n ≤ 40 := hX0.1.1
  have hX := hX0
  have hUsi : ∀ s9 q9 : Nat, q9 ∉ ([10, 11] : List Nat) → si s9 q9 = si s9 q9 := fun _ _ _ => rfl
  refine Met.ofW (cc := cX7_endByItself) (maxL := 1) (ret := none) (by decide) rfl ?_
  intro p e9 s m args below meth c s₁ B hml hv
  obtain ⟨rfl, hsz, hP, hK, hD0, hN⟩ := hv
  have hx := B.exec
  have hb := B.bytes
  have hr := B.returns
  have hts := atoms_spec (ws := wq_x_endBy) B.pre
  have hown : s.vm.findClass RX7 = some m.cls := findClass_of_methodNamed B.named
  have hlocks := B.notSynchronized
  subst hsz
  have hD := hD0.self (sz := s.heap.size)
  generalize hAe : va_A (xW h a e cI cJ cO cE L I M J n cap fE sd si sa dl) s.heap.size = A at hD ⊢
  have hA : ∀ q : Nat, s.heap.size ≤ q → A q := fun q h => by rw [← hAe]; exact Or.inr h
  have hS : va_S A s.heap s.heap [] := va_S.rf
  have hl := lv_entry ([.ref (sd sv 0)]) (n := 1) (Nat.le_of_ble_eq_true rfl)
  rw [lg_entry_eq]
  generalize (lg_sl ([.ref (sd sv 0)]) ++ List.replicate (1 - (lg_sl ([.ref (sd sv 0)])).length) Slot.unset).toArray = ls at hl ⊢
  have hl : lv_has ls 1 [(0, .ref (sd sv 0))] := hl
  refine lv_aload_n hx hb dX7_endByItself_0 rfl (lv_at hl 0 rfl) ?_
  refine lv_iconst (v := 1) hx hb dX7_endByItself_1 (by decide) ?_
  refine va_put (D := (dC, dI)) (ci := 8) (fs := [.int (si sv 0), .int (si sv 1), .int (si sv 2), .ref (sd sv 1), .ref (sd sv 2), .ref (sd sv 4), .int (si sv 6), .int (si sv 7), .int (si sv 8), .int (si sv 9), .int (si sv 10), .int (si sv 11)]) (v := .int 1) (ty := .boolean) (C := RX7) (T := TX7) (N := 12) hx hb hts in_x_endBy_X7 tyX7 tyX7_ok nmX7 hown hK hP hD hS (22 + (6 * sv + 0)) (xAt_0 h a e cI cJ cO cE L I M J n cap fE sd si sa dl (s := sv) (by omega)) rfl 11 (by decide) (hts (.fieldLink RX7 47 "ServiceTree$Service" "ended" "Z") (by decide +kernel)) (fun _ h9 => h9) rfl (by decide +kernel) rfl rfl (Nat.le_of_ble_eq_true rfl) dX7_endByItself_2 (fun H locs hP hD hS => ?_)
  replace hP : va_P (dC, dI) vwCl ((xW h a e cI cJ cO cE L I M J n cap fE sd si sa dl).set (22 + (6 * sv + 0)) (sd sv 0, .inr (8, [.int (si sv 0), .int (si sv 1), .int (si sv 2), .ref (sd sv 1), .ref (sd sv 2), .ref (sd sv 4), .int (si sv 6), .int (si sv 7), .int (si sv 8), .int (si sv 9), .int (si sv 10), .int 1]))) H := hP
  replace hD : va_D A ((xW h a e cI cJ cO cE L I M J n cap fE sd si sa dl).set (22 + (6 * sv + 0)) (sd sv 0, .inr (8, [.int (si sv 0), .int (si sv 1), .int (si sv 2), .ref (sd sv 1), .ref (sd sv 2), .ref (sd sv 4), .int (si sv 6), .int (si sv 7), .int (si sv 8), .int (si sv 9), .int (si sv 10), .int 1]))) := hD
  rw [xSv_11 h a e cI cJ cO cE L I M J n cap fE sd si sa dl (s := sv) (by omega)] at hP hD
  obtain ⟨si1, esi1⟩ : ∃ f9 : Nat → Nat → Int32, f9 = up2 si sv 11 1 := ⟨_, rfl⟩
  rw [← esi1] at hP hD
  replace hX : InvX n cap fE sd dl (b) I J si1 := by rw [esi1]; exact hX.setsi (by decide)
  replace hUsi : ∀ s9 q9 : Nat, q9 ∉ ([10, 11] : List Nat) → si1 s9 q9 = si s9 q9 := by rw [esi1]; exact xw_up2 (by decide) hUsi
  refine lv_aload_n hx hb dX7_endByItself_5 rfl (lv_at hl 0 rfl) ?_
  refine lv_iconst (v := 0) hx hb dX7_endByItself_6 (by decide) ?_
  refine va_put (D := (dC, dI)) (ci := 8) (fs := [.int (si1 sv 0), .int (si1 sv 1), .int (si1 sv 2), .ref (sd sv 1), .ref (sd sv 2), .ref (sd sv 4), .int (si1 sv 6), .int (si1 sv 7), .int (si1 sv 8), .int (si1 sv 9), .int (si1 sv 10), .int (si1 sv 11)]) (v := .int 0) (ty := .int) (C := RX7) (T := TX7) (N := 12) hx hb hts in_x_endBy_X7 tyX7 tyX7_ok nmX7 hown hK hP hD hS (22 + (6 * sv + 0)) (xAt_0 h a e cI cJ cO cE L I M J n cap fE sd si1 sa dl (s := sv) (by omega)) rfl 10 (by decide) (hts (.fieldLink RX7 51 "ServiceTree$Service" "life" "I") (by decide +kernel)) (fun _ h9 => h9) rfl (by decide +kernel) rfl rfl (Nat.le_of_ble_eq_true rfl) dX7_endByItself_7 (fun H locs hP hD hS => ?_)
  replace hP : va_P (dC, dI) vwCl ((xW h a e cI cJ cO cE L I M J n cap fE sd si1 sa dl).set (22 + (6 * sv + 0)) (sd sv 0, .inr (8, [.int (si1 sv 0), .int (si1 sv 1), .int (si1 sv 2), .ref (sd sv 1), .ref (sd sv 2), .ref (sd sv 4), .int (si1 sv 6), .int (si1 sv 7), .int (si1 sv 8), .int (si1 sv 9), .int 0, .int (si1 sv 11)]))) H := hP
  replace hD : va_D A ((xW h a e cI cJ cO cE L I M J n cap fE sd si1 sa dl).set (22 + (6 * sv + 0)) (sd sv 0, .inr (8, [.int (si1 sv 0), .int (si1 sv 1), .int (si1 sv 2), .ref (sd sv 1), .ref (sd sv 2), .ref (sd sv 4), .int (si1 sv 6), .int (si1 sv 7), .int (si1 sv 8), .int (si1 sv 9), .int 0, .int (si1 sv 11)]))) := hD
  rw [xSv_10 h a e cI cJ cO cE L I M J n cap fE sd si1 sa dl (s := sv) (by omega)] at hP hD
  obtain ⟨si2, esi2⟩ : ∃ f9 : Nat → Nat → Int32, f9 = up2 si1 sv 10 0 := ⟨_, rfl⟩
  rw [← esi2] at hP hD
  replace hX : InvX n cap fE sd dl (b) I J si2 := by rw [esi2]; exact hX.setsi (by decide)
  replace hUsi : ∀ s9 q9 : Nat, q9 ∉ ([10, 11] : List Nat) → si2 s9 q9 = si s9 q9 := by rw [esi2]; exact xw_up2 (by decide) hUsi
  exact W.vret hx hb hr (fun t ht hW => ⟨⟨si2, rfl, ⟨hX.mono (by omega), hUsi, trivial⟩, by rw [ht]; exact hP, hD⟩, hS.F ht⟩) hS.2.2 dX7_endByItself_10
def wq_x_span : List Cond := [.code yX7_span cX7_span 1 (some .int), .fieldLink RX7 22 "ServiceTree$Service" "state" "I", .fieldLink RX7 29 "ServiceTree$Service" "startTicks" "I", .fieldLink RX7 51 "ServiceTree$Service" "life" "I", .fieldLink RX7 32 "ServiceTree$Service" "stopTicks" "I", .fieldLink RX7 18 "ServiceTree$Service" "restarts" "LServiceTree$Restarts;"] ++ (wsX60 ++ (wsX70))
theorem in_x_span_X6 : ∀ w ∈ wsX60, w ∈ wq_x_span := fun _ h => List.mem_append_right _ (List.mem_append_left _ (h))
theorem in_x_span_X7 : ∀ w ∈ wsX70, w ∈ wq_x_span := fun _ h => List.mem_append_right _ (List.mem_append_right _ (h))
set_option maxRecDepth 20000 in
theorem wi_x_span : ∀ w ∈ wq_x_span, w ∈ lw_tbl := List.forall_mem_append.mpr ⟨(by decide +kernel), List.forall_mem_append.mpr ⟨inKX6, inKX7⟩⟩
set_option maxRecDepth 20000 in
theorem wg_x_span : GoodIn wq_x_span wq_x_span := goodIn_sub (fun _ h => h) (by decide +kernel)
def rm_x_span : Room := { frames := 0, cells := 0, slots := 0, locals := 0 }
set_option maxHeartbeats 4000000 in
set_option maxRecDepth 100000 in
theorem c_x_span (l : Launch) (dC : Nat → ClassId) (dI : Nat → Nat → Nat) (h : Nat) (a : Nat → Nat) (e : Nat) (cI cJ cO cE : ClassId) (L : Nat → Int64) (I : Nat → Int32) (M : Nat → Nat → Int64) (J : Nat → Nat → Int32) (n cap : Nat) (fE : Nat → Option Nat) (sd : Nat → Nat → Nat) (si : Nat → Nat → Int32) (sa : Nat → Nat → Nat → Int32) (dl : Nat → Nat) (b : Nat) (sv : Nat) (sz : Nat) (hX0 : InvX n cap fE sd dl b I J si) (hb0 : b + 0 < 2147483648) (hp0 : sv < n) : Met l yX7_span wq_x_span rm_x_span (va_Pc [.ref (sd sv 0)] (fun U => U.heap.size = sz ∧ va_P (dC, dI) vwCl (xW h a e cI cJ cO cE L I M J n cap fE sd si sa dl) U.heap ∧ va_K (dC, dI) vwCl (xT cI cJ cO cE) U ∧ va_D (fun _ => True) (xW h a e cI cJ cO cE L I M J n cap fE sd si sa dl) ∧ pw_N U)) (va_Qi (fun (r : Int32) (u : Unit) => (True)) (fun (u : Unit) (t : State) => va_P (dC, dI) vwCl (xW h a e cI cJ cO cE L I M J n cap fE sd si sa dl) t.heap ∧ va_D (va_A (xW h a e cI cJ cO cE L I M J n cap fE sd si sa dl) sz) (xW h a e cI cJ cO cE L I M J n cap fE sd si sa dl)) (va_A (xW h a e cI cJ cO cE L I M J n cap fE sd si sa dl) sz)) 0 0 (va_A (xW h a e cI cJ cO cE L I M J n cap fE sd si sa dl) sz) := by
  have hn : n ≤ 40 := hX0.1.1
  have hX := hX0
  refine Met.ofW (cc := cX7_span) (maxL := 1) (ret := (some .int)) (by decide) rfl ?_
  intro p e9 s m args below meth c s₁ B hml hv
  obtain ⟨rfl, hsz, hP, hK, hD0, hN⟩ := hv
  have hx := B.exec
  have hb := B.bytes
  have hr := B.returns
  have hts := atoms_spec (ws := wq_x_span) B.pre
  have hown : s.vm.findClass RX7 = some m.cls := findClass_of_methodNamed B.named
  have hlocks := B.notSynchronized
  subst hsz
  have hD := hD0.self (sz := s.heap.size)
  generalize hAe : va_A (xW h a e cI cJ cO cE L I M J n cap fE sd si sa dl) s.heap.size = A at hD ⊢
  have hA : ∀ q : Nat, s.heap.size ≤ q → A q := fun q h => by rw [← hAe]; exact Or.inr h
  have hS : va_S A s.heap s.heap [] := va_S.rf
  have hl := lv_entry ([.ref (sd sv 0)]) (n := 1) (Nat.le_of_ble_eq_true rfl)
  rw [lg_entry_eq]
  generalize (lg_sl ([.ref (sd sv 0)]) ++ List.replicate (1 - (lg_sl ([.ref (sd sv 0)])).length) Slot.unset).toArray = ls at hl ⊢
  have hl : lv_has ls 1 [(0, .ref (sd sv 0))] := hl
  refine lv_aload_n hx hb dX7_span_0 rfl (lv_at hl 0 rfl) ?_
  refine va_get (D := (dC, dI)) (ci := 8) (v := .int (si sv 6)) (C := RX7) (T := TX7) (N := 12) hx hb hts in_x_span_X7 hown hK hP (22 + (6 * sv + 0)) (xAt_0 h a e cI cJ cO cE L I M J n cap fE sd si sa dl (s := sv) (by omega)) rfl 6 (by decide) (hts (.fieldLink RX7 22 "ServiceTree$Service" "state" "I") (by decide +kernel)) (fun _ h9 => h9) rfl dX7_span_1 ?_
  obtain ⟨z1, hz1, ez1⟩ := hX.2.2.2.1 sv
  refine p1_topr (v := .int (nI z1)) (congrArg Value.int ez1) ?_
  rcases Classical.em (nI z1 = 1) with c2 | c2
  · refine lv_tableIn (tgt := 40) (off := 36) hx hb dX7_span_4 (by rw [c2]; decide) (by rw [c2]; decide) (by rw [c2]; rfl) (by decide) ?_
    refine lv_aload_n hx hb dX7_span_40 rfl (lv_at hl 0 rfl) ?_
    refine va_get (D := (dC, dI)) (ci := 8) (v := .int (si sv 1)) (C := RX7) (T := TX7) (N := 12) hx hb hts in_x_span_X7 hown hK hP (22 + (6 * sv + 0)) (xAt_0 h a e cI cJ cO cE L I M J n cap fE sd si sa dl (s := sv) (by omega)) rfl 1 (by decide) (hts (.fieldLink RX7 29 "ServiceTree$Service" "startTicks" "I") (by decide +kernel)) (fun _ h9 => h9) rfl dX7_span_41 ?_
    refine lv_topi (fun x3 ex3 => ?_)
    exact W.iret (v := x3) hx hb hr (fun t ht hW => ⟨⟨x3, (), rfl, trivial, by rw [ht]; exact hP, hD⟩, hS.F ht⟩) hS.2.2 dX7_span_44
  rcases Classical.em (nI z1 = 2) with c4 | c4
  · refine lv_tableIn (tgt := 50) (off := 46) hx hb dX7_span_4 (by rw [c4]; decide) (by rw [c4]; decide) (by rw [c4]; rfl) (by decide) ?_
    refine lv_aload_n hx hb dX7_span_50 rfl (lv_at hl 0 rfl) ?_
    refine va_get (D := (dC, dI)) (ci := 8) (v := .int (si sv 10)) (C := RX7) (T := TX7) (N := 12) hx hb hts in_x_span_X7 hown hK hP (22 + (6 * sv + 0)) (xAt_0 h a e cI cJ cO cE L I M J n cap fE sd si sa dl (s := sv) (by omega)) rfl 10 (by decide) (hts (.fieldLink RX7 51 "ServiceTree$Service" "life" "I") (by decide +kernel)) (fun _ h9 => h9) rfl dX7_span_51 ?_
    refine lv_topi (fun x5 ex5 => ?_)
    exact W.iret (v := x5) hx hb hr (fun t ht hW => ⟨⟨x5, (), rfl, trivial, by rw [ht]; exact hP, hD⟩, hS.F ht⟩) hS.2.2 dX7_span_54
  rcases Classical.em (nI z1 = 3) with c6 | c6
  · refine lv_tableIn (tgt := 45) (off := 41) hx hb dX7_span_4 (by rw [c6]; decide) (by rw [c6]; decide) (by rw [c6]; rfl) (by decide) ?_
    refine lv_aload_n hx hb dX7_span_45 rfl (lv_at hl 0 rfl) ?_
    refine va_get (D := (dC, dI)) (ci := 8) (v := .int (si sv 2)) (C := RX7) (T := TX7) (N := 12) hx hb hts in_x_span_X7 hown hK hP (22 + (6 * sv + 0)) (xAt_0 h a e cI cJ cO cE L I M J n cap fE sd si sa dl (s := sv) (by omega)) rfl 2 (by decide) (hts (.fieldLink RX7 32 "ServiceTree$Service" "stopTicks" "I") (by decide +kernel)) (fun _ h9 => h9) rfl dX7_span_46 ?_
    refine lv_topi (fun x7 ex7 => ?_)
    exact W.iret (v := x7) hx hb hr (fun t ht hW => ⟨⟨x7, (), rfl, trivial, by rw [ht]; exact hP, hD⟩, hS.F ht⟩) hS.2.2 dX7_span_49
  rcases Classical.em (nI z1 = 4) with c8 | c8
  · refine lv_tableIn (tgt := 63) (off := 59) hx hb dX7_span_4 (by rw [c8]; decide) (by rw [c8]; decide) (by rw [c8]; rfl) (by decide) ?_
    refine lv_iconst (v := 0) hx hb dX7_span_63 (by decide) ?_
    exact W.iret (v := 0) hx hb hr (fun t ht hW => ⟨⟨0, (), rfl, trivial, by rw [ht]; exact hP, hD⟩, hS.F ht⟩) hS.2.2 dX7_span_64
  rcases Classical.em (nI z1 = 5) with c9 | c9
  · refine lv_tableIn (tgt := 55) (off := 51) hx hb dX7_span_4 (by rw [c9]; decide) (by rw [c9]; decide) (by rw [c9]; rfl) (by decide) ?_
    refine lv_aload_n hx hb dX7_span_55 rfl (lv_at hl 0 rfl) ?_
    refine va_get (D := (dC, dI)) (ci := 8) (v := .ref (sd sv 2)) (C := RX7) (T := TX7) (N := 12) hx hb hts in_x_span_X7 hown hK hP (22 + (6 * sv + 0)) (xAt_0 h a e cI cJ cO cE L I M J n cap fE sd si sa dl (s := sv) (by omega)) rfl 4 (by decide) (hts (.fieldLink RX7 18 "ServiceTree$Service" "restarts" "LServiceTree$Restarts;") (by decide +kernel)) (fun _ h9 => h9) rfl dX7_span_56 ?_
    refine va_getN (D := (dC, dI)) (ci := 7) (v := .int (si sv 23)) (C := RX6) (T := TX6) (N := 6) hx hb hts in_x_span_X6 hown hK hP (22 + (6 * sv + 2)) (xAt_2 h a e cI cJ cO cE L I M J n cap fE sd si sa dl (s := sv) (by omega)) rfl 3 (by decide) (va_Nw.use rfl (hN (.fieldLinkNest RX7 76 "ServiceTree$Restarts" "delay" "I" "ServiceTree") (by decide +kernel))) (fun _ h9 => h9) rfl dX7_span_59 ?_
    refine lv_topi (fun x10 ex10 => ?_)
    exact W.iret (v := x10) hx hb hr (fun t ht hW => ⟨⟨x10, (), rfl, trivial, by rw [ht]; exact hP, hD⟩, hS.F ht⟩) hS.2.2 dX7_span_62
  refine lv_tableOut (tgt := 63) hx hb dX7_span_4 (by have k0 := c2; have k1 := c4; have k2 := c6; have k3 := c8; have k4 := c9; simp only [p1_le, p1_lt, p1_eq, p1_m6, p1_m1, p1_0, p1_1, p1_2, p1_3, p1_4, p1_5, p1_6, p1_7, p1_8, p1_9, p1_10, p1_11, p1_12, p1_13, p1_14, p1_15, p1_16, p1_17, p1_18, p1_19, p1_20, p1_40, p1_50, p1_200, p1_1000] at k0 k1 k2 k3 k4 ⊢; omega) (by decide) ?_
  refine lv_iconst (v := 0) hx hb dX7_span_63 (by decide) ?_
  exact W.iret (v := 0) hx hb hr (fun t ht hW => ⟨⟨0, (), rfl, trivial, by rw [ht]; exact hP, hD⟩, hS.F ht⟩) hS.2.2 dX7_span_64
def wq_x_isDue : List Cond := [.code yX7_isDue cX7_isDue 3 (some .boolean), .fieldLink RX7 35 "ServiceTree$Service" "since" "I", .methodLink RX7 72 yX7_span, .instanceMethod yX7_span, .selects RX7 yX7_span yX7_span, .initialized RX7] ++ (wsX70 ++ (wq_x_span))
theorem in_x_isDue_X7 : ∀ w ∈ wsX70, w ∈ wq_x_isDue := fun _ h => List.mem_append_right _ (List.mem_append_left _ (h))
set_option maxRecDepth 20000 in
theorem wi_x_isDue : ∀ w ∈ wq_x_isDue, w ∈ lw_tbl := List.forall_mem_append.mpr ⟨(by decide +kernel), List.forall_mem_append.mpr ⟨inKX7, wi_x_span⟩⟩
set_option maxRecDepth 20000 in
theorem wg_x_isDue : GoodIn wq_x_isDue wq_x_isDue := goodIn_sub (fun _ h => h) (by decide +kernel)
set_option maxRecDepth 20000 in
theorem wc_x_isDue_x_span_72 : GoodIn wq_x_isDue (wsV RX7 72 RX7 yX7_span wq_x_span) := goodIn_app (goodIn_of _ (by decide +kernel)) (fun w h => ⟨List.mem_append_right _ (List.mem_append_right _ (h)), (wg_x_span w h).2⟩)
def rm_x_isDue : Room := { frames := 1, cells := 0, slots := 0, locals := 20 }
set_option maxHeartbeats 4000000 in
set_option maxRecDepth 100000 in
theorem c_x_isDue (l : Launch) (dC : Nat → ClassId) (dI : Nat → Nat → Nat) (h : Nat) (a : Nat → Nat) (e : Nat) (cI cJ cO cE : ClassId) (L : Nat → Int64) (I : Nat → Int32) (M : Nat → Nat → Int64) (J : Nat → Nat → Int32) (n cap : Nat) (fE : Nat → Option Nat) (sd : Nat → Nat → Nat) (si : Nat → Nat → Int32) (sa : Nat → Nat → Nat → Int32) (dl : Nat → Nat) (b : Nat) (sv : Nat) (p0 : Int32) (sz : Nat) (hX0 : InvX n cap fE sd dl b I J si) (hb0 : b + 0 < 2147483648) (hp0 : sv < n) : Met l yX7_isDue wq_x_isDue rm_x_isDue (va_Pc [.ref (sd sv 0), .int p0] (fun U => U.heap.size = sz ∧ va_P (dC, dI) vwCl (xW h a e cI cJ cO cE L I M J n cap fE sd si sa dl) U.heap ∧ va_K (dC, dI) vwCl (xT cI cJ cO cE) U ∧ va_D (fun _ => True) (xW h a e cI cJ cO cE L I M J n cap fE sd si sa dl) ∧ pw_N U)) (va_Qi (fun (r : Int32) (u : Unit) => (True)) (fun (u : Unit) (t : State) => va_P (dC, dI) vwCl (xW h a e cI cJ cO cE L I M J n cap fE sd si sa dl) t.heap ∧ va_D (va_A (xW h a e cI cJ cO cE L I M J n cap fE sd si sa dl) sz) (xW h a e cI cJ cO cE L I M J n cap fE sd si sa dl)) (va_A (xW h a e cI cJ cO cE L I M J n cap fE sd si sa dl) sz)) 0 0 (va_A (xW h a e cI cJ cO cE L I M J n cap fE sd si sa dl) sz) := by
  have hn : n ≤ 40 := hX0.1.1
  have hX := hX0
  refine Met.ofW (cc := cX7_isDue) (maxL := 3) (ret := (some .boolean)) (by decide) rfl ?_
  intro p e9 s m args below meth c s₁ B hml hv
  obtain ⟨rfl, hsz, hP, hK, hD0, hN⟩ := hv
  have hx := B.exec
  have hb := B.bytes
  have hr := B.returns
  have hts := atoms_spec (ws := wq_x_isDue) B.pre
  have hown : s.vm.findClass RX7 = some m.cls := findClass_of_methodNamed B.named
  have hlocks := B.notSynchronized
  subst hsz
  have hD := hD0.self (sz := s.heap.size)
  generalize hAe : va_A (xW h a e cI cJ cO cE L I M J n cap fE sd si sa dl) s.heap.size = A at hD ⊢
  have hA : ∀ q : Nat, s.heap.size ≤ q → A q := fun q h => by rw [← hAe]; exact Or.inr h
  have hS : va_S A s.heap s.heap [] := va_S.rf
  have hl := lv_entry ([.ref (sd sv 0), .int p0]) (n := 3) (Nat.le_of_ble_eq_true rfl)
  rw [lg_entry_eq]
  generalize (lg_sl ([.ref (sd sv 0), .int p0]) ++ List.replicate (3 - (lg_sl ([.ref (sd sv 0), .int p0])).length) Slot.unset).toArray = ls at hl ⊢
  have hl : lv_has ls 3 [(0, .ref (sd sv 0)), (1, .int p0)] := hl
  refine lv_aload_n hx hb dX7_isDue_0 rfl (lv_at hl 0 rfl) ?_
  have hFc := mw_free hD hS hA
  refine va_calli (va_runV (As := []) (rest := []) ⟨hx, hb, hml, hown, hts⟩ (c_x_span l dC dI h a e cI cJ cO cE L I M J n cap fE sd si sa dl (b) sv s.heap.size hX (by omega) (by omega)) (cwV 0 hts wc_x_isDue_x_span_72 rfl rfl rfl (by decide +kernel) ⟨Nat.le_of_ble_eq_true rfl, Nat.le_of_ble_eq_true rfl⟩) ⟨fun a9 U g mk q => by obtain ⟨q0, q1, qP, qK, qD, qN⟩ := q; exact ⟨q0, q1, qP, va_K.moved (u := U) (U := U.calling g mk a9) (Vm.Alike.refl U.vm) qK, qD, pw_N.same (u := U) (U := U.calling g mk a9) rfl qN⟩, va_recv hK hP (ci := 8) (q0 := (22 + (6 * sv + 0))) rfl (xAt_0 h a e cI cJ cO cE L I M J n cap fE sd si sa dl (s := sv) (by omega)), fun U hU hW => ⟨rfl, by rw [hU], by rw [hU]; exact hP, va_K.moved hW.alike hK, hD.weaken (fun _ _ _ _ => trivial), pw_N.warm hW hN⟩⟩ rfl rfl hl.1 rfl (lv_room (Nat.le_of_ble_eq_true rfl)) dX7_isDue_1 ⟨Nat.le_of_ble_eq_true rfl, Nat.le_of_ble_eq_true rfl⟩) hS (fun q _ h => hFc q h) hFc (fun r1 u t H1 locs ht hvm hw hB hz1 hk1 hS => ?_)
  replace hP := hB.1
  rw [ht] at hP
  replace hD : va_D A (xW h a e cI cJ cO cE L I M J n cap fE sd si sa dl) := hB.2.weaken (fun _ q _ h9 => hFc q.1 h9)
  clear hB
  generalize H1 = H at hP hS ⊢
  replace hP : va_P (dC, dI) vwCl (xW h a e cI cJ cO cE L I M J n cap fE sd si sa dl) H := hP
  refine lv_istore_n (lv' := [(2, .int r1), (0, .ref (sd sv 0)), (1, .int p0)]) hx hb dX7_isDue_4 rfl hl (by decide) rfl (fun ls hl => ?_)
  refine lv_iload_n hx hb dX7_isDue_5 rfl (lv_at hl 0 rfl) ?_
  refine lv_if_le (tgt := 23) hx hb dX7_isDue_6 (by decide) (fun c2 => ?_) (fun c2 => ?_)
  · refine lv_iconst (v := 0) hx hb dX7_isDue_23 (by decide) ?_
    exact W.zret (v := 0) hx hb hr (by decide) (fun t ht hW => ⟨⟨0, (), rfl, trivial, by rw [ht]; exact hP, hD⟩, hS.F ht⟩) hS.2.2 dX7_isDue_24
  · refine lv_iload_n hx hb dX7_isDue_9 rfl (lv_at hl 2 rfl) ?_
    refine lv_aload_n hx hb dX7_isDue_10 rfl (lv_at hl 1 rfl) ?_
    refine va_get (D := (dC, dI)) (ci := 8) (v := .int (si sv 7)) (C := RX7) (T := TX7) (N := 12) hx hb hts in_x_isDue_X7 hown hK hP (22 + (6 * sv + 0)) (xAt_0 h a e cI cJ cO cE L I M J n cap fE sd si sa dl (s := sv) (by omega)) rfl 7 (by decide) (hts (.fieldLink RX7 35 "ServiceTree$Service" "since" "I") (by decide +kernel)) (fun _ h9 => h9) rfl dX7_isDue_11 ?_
    refine lv_topi (fun x3 ex3 => ?_)
    refine lv_isub hx hb dX7_isDue_14 ?_
    refine lv_topi (fun x4 ex4 => ?_)
    refine lv_iload_n hx hb dX7_isDue_15 rfl (lv_at hl 0 rfl) ?_
    refine lv_icmp_lt (tgt := 23) hx hb dX7_isDue_16 (by decide) (fun c5 => ?_) (fun c5 => ?_)
    · refine lv_iconst (v := 0) hx hb dX7_isDue_23 (by decide) ?_
      exact W.zret (v := 0) hx hb hr (by decide) (fun t ht hW => ⟨⟨0, (), rfl, trivial, by rw [ht]; exact hP, hD⟩, hS.F ht⟩) hS.2.2 dX7_isDue_24
    · refine lv_iconst (v := 1) hx hb dX7_isDue_19 (by decide) ?_
      refine lv_goto (tgt := 24) hx hb dX7_isDue_20 (by decide) ?_
      exact W.zret (v := 1) hx hb hr (by decide) (fun t ht hW => ⟨⟨1, (), rfl, trivial, by rw [ht]; exact hP, hD⟩, hS.F ht⟩) hS.2.2 dX7_isDue_24
