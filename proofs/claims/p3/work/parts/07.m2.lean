theorem dX9_to_0 : decode cX9_to 0 = .ok (.aload_n 0, 1) := by decide +kernel
theorem dX9_to_1 : decode cX9_to 1 = .ok (.getfield 31, 3) := by decide +kernel
theorem dX9_to_4 : decode cX9_to 4 = .ok (.iload_n 1, 1) := by decide +kernel
theorem dX9_to_5 : decode cX9_to 5 = .ok (.iload_n 2, 1) := by decide +kernel
theorem dX9_to_6 : decode cX9_to 6 = .ok (.iastore, 1) := by decide +kernel
theorem dX9_to_7 : decode cX9_to 7 = .ok (.aload_n 0, 1) := by decide +kernel
theorem dX9_to_8 : decode cX9_to 8 = .ok (.getfield 34, 3) := by decide +kernel
theorem dX9_to_11 : decode cX9_to 11 = .ok (.iload_n 1, 1) := by decide +kernel
theorem dX9_to_12 : decode cX9_to 12 = .ok (.aload_n 0, 1) := by decide +kernel
theorem dX9_to_13 : decode cX9_to 13 = .ok (.getfield 129, 3) := by decide +kernel
theorem dX9_to_16 : decode cX9_to 16 = .ok (.iastore, 1) := by decide +kernel
theorem dX9_to_17 : decode cX9_to 17 = .ok (.aload_n 0, 1) := by decide +kernel
theorem dX9_to_18 : decode cX9_to 18 = .ok (.getfield 117, 3) := by decide +kernel
theorem dX9_to_21 : decode cX9_to 21 = .ok (.aload_n 0, 1) := by decide +kernel
theorem dX9_to_22 : decode cX9_to 22 = .ok (.getfield 132, 3) := by decide +kernel
theorem dX9_to_25 : decode cX9_to 25 = .ok (.sipush 2000, 3) := by decide +kernel
theorem dX9_to_28 : decode cX9_to 28 = .ok (.irem, 1) := by decide +kernel
theorem dX9_to_29 : decode cX9_to 29 = .ok (.aload_n 0, 1) := by decide +kernel
theorem dX9_to_30 : decode cX9_to 30 = .ok (.getfield 129, 3) := by decide +kernel
theorem dX9_to_33 : decode cX9_to 33 = .ok (.iastore, 1) := by decide +kernel
theorem dX9_to_34 : decode cX9_to 34 = .ok (.aload_n 0, 1) := by decide +kernel
theorem dX9_to_35 : decode cX9_to 35 = .ok (.getfield 120, 3) := by decide +kernel
theorem dX9_to_38 : decode cX9_to 38 = .ok (.aload_n 0, 1) := by decide +kernel
theorem dX9_to_39 : decode cX9_to 39 = .ok (.getfield 132, 3) := by decide +kernel
theorem dX9_to_42 : decode cX9_to 42 = .ok (.sipush 2000, 3) := by decide +kernel
theorem dX9_to_45 : decode cX9_to 45 = .ok (.irem, 1) := by decide +kernel
theorem dX9_to_46 : decode cX9_to 46 = .ok (.iload_n 1, 1) := by decide +kernel
theorem dX9_to_47 : decode cX9_to 47 = .ok (.iastore, 1) := by decide +kernel
theorem dX9_to_48 : decode cX9_to 48 = .ok (.aload_n 0, 1) := by decide +kernel
theorem dX9_to_49 : decode cX9_to 49 = .ok (.getfield 123, 3) := by decide +kernel
theorem dX9_to_52 : decode cX9_to 52 = .ok (.aload_n 0, 1) := by decide +kernel
theorem dX9_to_53 : decode cX9_to 53 = .ok (.getfield 132, 3) := by decide +kernel
theorem dX9_to_56 : decode cX9_to 56 = .ok (.sipush 2000, 3) := by decide +kernel
theorem dX9_to_59 : decode cX9_to 59 = .ok (.irem, 1) := by decide +kernel
theorem dX9_to_60 : decode cX9_to 60 = .ok (.iload_n 2, 1) := by decide +kernel
theorem dX9_to_61 : decode cX9_to 61 = .ok (.iastore, 1) := by decide +kernel
theorem dX9_to_62 : decode cX9_to 62 = .ok (.aload_n 0, 1) := by decide +kernel
theorem dX9_to_63 : decode cX9_to 63 = .ok (.dup, 1) := by decide +kernel
theorem dX9_to_64 : decode cX9_to 64 = .ok (.getfield 132, 3) := by decide +kernel
theorem dX9_to_67 : decode cX9_to 67 = .ok (.iconst 1, 1) := by decide +kernel
theorem dX9_to_68 : decode cX9_to 68 = .ok (.iadd, 1) := by decide +kernel
theorem dX9_to_69 : decode cX9_to 69 = .ok (.putfield 132, 3) := by decide +kernel
theorem dX9_to_72 : decode cX9_to 72 = .ok (.aload_n 0, 1) := by decide +kernel
theorem dX9_to_73 : decode cX9_to 73 = .ok (.getfield 43, 3) := by decide +kernel
theorem dX9_to_76 : decode cX9_to 76 = .ok (.iload_n 1, 1) := by decide +kernel
theorem dX9_to_77 : decode cX9_to 77 = .ok (.iconst 0, 1) := by decide +kernel
theorem dX9_to_78 : decode cX9_to 78 = .ok (.bastore, 1) := by decide +kernel
theorem dX9_to_79 : decode cX9_to 79 = .ok (.iload_n 2, 1) := by decide +kernel
theorem dX9_to_80 : decode cX9_to 80 = .ok (.iconst 2, 1) := by decide +kernel
theorem dX9_to_81 : decode cX9_to 81 = .ok (.if_icmp .ne 51, 3) := by decide +kernel
theorem dX9_to_84 : decode cX9_to 84 = .ok (.aload_n 0, 1) := by decide +kernel
theorem dX9_to_85 : decode cX9_to 85 = .ok (.getfield 47, 3) := by decide +kernel
theorem dX9_to_88 : decode cX9_to 88 = .ok (.iload_n 1, 1) := by decide +kernel
theorem dX9_to_89 : decode cX9_to 89 = .ok (.aload_n 0, 1) := by decide +kernel
theorem dX9_to_90 : decode cX9_to 90 = .ok (.getfield 19, 3) := by decide +kernel
theorem dX9_to_93 : decode cX9_to 93 = .ok (.bipush 8, 2) := by decide +kernel
theorem dX9_to_95 : decode cX9_to 95 = .ok (.iload_n 1, 1) := by decide +kernel
theorem dX9_to_96 : decode cX9_to 96 = .ok (.imul, 1) := by decide +kernel
theorem dX9_to_97 : decode cX9_to 97 = .ok (.aload_n 0, 1) := by decide +kernel
theorem dX9_to_98 : decode cX9_to 98 = .ok (.getfield 37, 3) := by decide +kernel
theorem dX9_to_101 : decode cX9_to 101 = .ok (.iload_n 1, 1) := by decide +kernel
theorem dX9_to_102 : decode cX9_to 102 = .ok (.iaload, 1) := by decide +kernel
theorem dX9_to_103 : decode cX9_to 103 = .ok (.bipush 7, 2) := by decide +kernel
theorem dX9_to_105 : decode cX9_to 105 = .ok (.if_icmp .ge 12, 3) := by decide +kernel
theorem dX9_to_108 : decode cX9_to 108 = .ok (.aload_n 0, 1) := by decide +kernel
theorem dX9_to_109 : decode cX9_to 109 = .ok (.getfield 37, 3) := by decide +kernel
theorem dX9_to_112 : decode cX9_to 112 = .ok (.iload_n 1, 1) := by decide +kernel
theorem dX9_to_113 : decode cX9_to 113 = .ok (.iaload, 1) := by decide +kernel
theorem dX9_to_114 : decode cX9_to 114 = .ok (.goto 5, 3) := by decide +kernel
theorem dX9_to_117 : decode cX9_to 117 = .ok (.bipush 7, 2) := by decide +kernel
theorem dX9_to_119 : decode cX9_to 119 = .ok (.iadd, 1) := by decide +kernel
theorem dX9_to_120 : decode cX9_to 120 = .ok (.iaload, 1) := by decide +kernel
theorem dX9_to_121 : decode cX9_to 121 = .ok (.iastore, 1) := by decide +kernel
theorem dX9_to_122 : decode cX9_to 122 = .ok (.aload_n 0, 1) := by decide +kernel
theorem dX9_to_123 : decode cX9_to 123 = .ok (.getfield 37, 3) := by decide +kernel
theorem dX9_to_126 : decode cX9_to 126 = .ok (.iload_n 1, 1) := by decide +kernel
theorem dX9_to_127 : decode cX9_to 127 = .ok (.dup2, 1) := by decide +kernel
theorem dX9_to_128 : decode cX9_to 128 = .ok (.iaload, 1) := by decide +kernel
theorem dX9_to_129 : decode cX9_to 129 = .ok (.iconst 1, 1) := by decide +kernel
theorem dX9_to_130 : decode cX9_to 130 = .ok (.iadd, 1) := by decide +kernel
theorem dX9_to_131 : decode cX9_to 131 = .ok (.iastore, 1) := by decide +kernel
theorem dX9_to_132 : decode cX9_to 132 = .ok (.return_, 1) := by decide +kernel
def wq_m_to : List Cond := [.code yX9_to cX9_to 3 none, .fieldLink RX9 31 "ServiceTreeModel" "state" "[I", .fieldLink RX9 34 "ServiceTreeModel" "since" "[I", .fieldLink RX9 129 "ServiceTreeModel" "tick" "I", .fieldLink RX9 117 "ServiceTreeModel" "changeTick" "[I", .fieldLink RX9 132 "ServiceTreeModel" "changes" "I", .fieldLink RX9 120 "ServiceTreeModel" "changeService" "[I", .fieldLink RX9 123 "ServiceTreeModel" "changeState" "[I", .fieldLink RX9 43 "ServiceTreeModel" "hasEnded" "[Z", .fieldLink RX9 47 "ServiceTreeModel" "lives" "[I", .fieldLink RX9 19 "ServiceTreeModel" "life" "[I", .fieldLink RX9 37 "ServiceTreeModel" "starts" "[I"] ++ (wsX90)
theorem in_m_to_X9 : ∀ w ∈ wsX90, w ∈ wq_m_to := fun _ h => List.mem_append_right _ (h)
set_option maxRecDepth 20000 in
theorem wi_m_to : ∀ w ∈ wq_m_to, w ∈ lw_tbl := List.forall_mem_append.mpr ⟨(by decide +kernel), inKX9⟩
set_option maxRecDepth 20000 in
theorem wg_m_to : GoodIn wq_m_to wq_m_to := goodIn_sub (fun _ h => h) (by decide +kernel)
def rm_m_to : Room := { frames := 0, cells := 0, slots := 0, locals := 0 }
set_option maxHeartbeats 4000000 in
set_option maxRecDepth 100000 in
theorem c_m_to (l : Launch) (dC : Nat → ClassId) (dI : Nat → Nat → Nat) (h : Nat) (a : Nat → Nat) (k : Nat → ClassId) (F : Nat → Nat → Int32) (V : Nat → Int32) (n b : Nat) (sv : Nat) (p1 : Int32) (sz : Nat) (hI0 : InvM n b F V) (hb0 : b + 2 < 2147483648) (hp0 : sv < n) : Met l yX9_to wq_m_to rm_m_to (va_Pc [.ref h, .int (nI sv), .int p1] (fun U => U.heap.size = sz ∧ va_P (dC, dI) vwCl (mW h a k F V) U.heap ∧ va_K (dC, dI) vwCl (mT k) U ∧ va_D (fun _ => True) (mW h a k F V))) (va_Qv (fun (u : (Nat → Nat → Int32) × (Nat → Int32)) => StM n (b + 2) F V u.1 u.2 ∧ (∀ j : Nat, j ∉ ([7, 8, 9, 11, 12, 42, 43, 44] : List Nat) → u.1 j = F j) ∧ (∀ j : Nat, j ∉ ([45] : List Nat) → u.2 j = V j) ∧ (u.1 7 = upd (F 7) (nI sv).toNatClampNeg p1)) (fun (u : (Nat → Nat → Int32) × (Nat → Int32)) (t : State) => va_P (dC, dI) vwCl (mW h a k u.1 u.2) t.heap ∧ va_D (va_A (mW h a k F V) sz) (mW h a k u.1 u.2)) (va_A (mW h a k F V) sz)) 0 0 (va_A (mW h a k F V) sz) := by
  have hn : n ≤ 40 := hI0.1
  have hI : StM n b F V F V := StM.rf hI0
  have hU : ∀ j : Nat, j ∉ ([7, 8, 9, 11, 12, 42, 43, 44] : List Nat) → F j = F j := fun _ _ => rfl
  have hV : ∀ j : Nat, j ∉ ([45] : List Nat) → V j = V j := fun _ _ => rfl
  refine Met.ofW (cc := cX9_to) (maxL := 3) (ret := none) (by decide) rfl ?_
  intro p e s m args below meth c s₁ B hml hv
  obtain ⟨rfl, hsz, hP, hK, hD0⟩ := hv
  have hx := B.exec
  have hb := B.bytes
  have hr := B.returns
  have hts := atoms_spec (ws := wq_m_to) B.pre
  have hown : s.vm.findClass RX9 = some m.cls := findClass_of_methodNamed B.named
  have hlocks := B.notSynchronized
  subst hsz
  have hD := hD0.self (sz := s.heap.size)
  generalize hAe : va_A (mW h a k F V) s.heap.size = A at hD ⊢
  have hA : ∀ q : Nat, s.heap.size ≤ q → A q := fun q h => by rw [← hAe]; exact Or.inr h
  have hS : va_S A s.heap s.heap [] := va_S.rf
  have hl := lv_entry ([.ref h, .int (nI sv), .int p1]) (n := 3) (Nat.le_of_ble_eq_true rfl)
  rw [lg_entry_eq]
  generalize (lg_sl ([.ref h, .int (nI sv), .int p1]) ++ List.replicate (3 - (lg_sl ([.ref h, .int (nI sv), .int p1])).length) Slot.unset).toArray = ls at hl ⊢
  have hl : lv_has ls 3 [(0, .ref h), (1, .int (nI sv)), (2, .int p1)] := hl
  refine lv_aload_n hx hb dX9_to_0 rfl (lv_at hl 0 rfl) ?_
  refine va_get (D := (dC, dI)) (ci := 10) (v := .ref (a 7)) (C := RX9) (T := TX9) (N := 46) hx hb hts in_m_to_X9 hown hK hP 0 rfl rfl 7 (by decide) (hts (.fieldLink RX9 31 "ServiceTreeModel" "state" "[I") (by decide +kernel)) (fun _ h9 => h9) rfl dX9_to_1 ?_
  refine lv_iload_n hx hb dX9_to_4 rfl (lv_at hl 1 rfl) ?_
  refine lv_iload_n hx hb dX9_to_5 rfl (lv_at hl 2 rfl) ?_
  refine va_iast (n := 40) (f := F 7) hx hb hK hP hD hS 8 7 rfl rfl (vp_in_nI (n := sv) (by omega) (by decide)) dX9_to_6 (fun H locs hP hD hS => ?_)
  rw [mW_set_7] at hP hD
  obtain ⟨F1, eF1⟩ : ∃ f9 : Nat → Nat → Int32, f9 = va_up F 7 (upd (F 7) (nI sv).toNatClampNeg p1) := ⟨_, rfl⟩
  rw [← eF1] at hP hD
  replace hI : StM n (b) F V F1 V := ⟨by rw [eF1]; exact hI.1.setF (by decide), trivial⟩
  replace hU : ∀ j : Nat, j ∉ ([7, 8, 9, 11, 12, 42, 43, 44] : List Nat) → F1 j = F j := by rw [eF1]; exact mw_up (by decide) hU
  refine lv_aload_n hx hb dX9_to_7 rfl (lv_at hl 0 rfl) ?_
  refine va_get (D := (dC, dI)) (ci := 10) (v := .ref (a 8)) (C := RX9) (T := TX9) (N := 46) hx hb hts in_m_to_X9 hown hK hP 0 rfl rfl 8 (by decide) (hts (.fieldLink RX9 34 "ServiceTreeModel" "since" "[I") (by decide +kernel)) (fun _ h9 => h9) rfl dX9_to_8 ?_
  refine lv_iload_n hx hb dX9_to_11 rfl (lv_at hl 1 rfl) ?_
  refine lv_aload_n hx hb dX9_to_12 rfl (lv_at hl 0 rfl) ?_
  refine va_get (D := (dC, dI)) (ci := 10) (v := .int (V 22)) (C := RX9) (T := TX9) (N := 46) hx hb hts in_m_to_X9 hown hK hP 0 rfl rfl 22 (by decide) (hts (.fieldLink RX9 129 "ServiceTreeModel" "tick" "I") (by decide +kernel)) (fun _ h9 => h9) rfl dX9_to_13 ?_
  refine lv_topi (fun x2 ex2 => ?_)
  refine va_iast (n := 40) (f := F1 8) hx hb hK hP hD hS 9 8 rfl rfl (vp_in_nI (n := sv) (by omega) (by decide)) dX9_to_16 (fun H locs hP hD hS => ?_)
  rw [mW_set_8] at hP hD
  obtain ⟨F3, eF3⟩ : ∃ f9 : Nat → Nat → Int32, f9 = va_up F1 8 (upd (F1 8) (nI sv).toNatClampNeg x2) := ⟨_, rfl⟩
  rw [← eF3] at hP hD
  replace hI : StM n (b) F V F3 V := ⟨by rw [eF3]; exact hI.1.setF (by decide), trivial⟩
  replace hU : ∀ j : Nat, j ∉ ([7, 8, 9, 11, 12, 42, 43, 44] : List Nat) → F3 j = F j := by rw [eF3]; exact mw_up (by decide) hU
  refine lv_aload_n hx hb dX9_to_17 rfl (lv_at hl 0 rfl) ?_
  refine va_get (D := (dC, dI)) (ci := 10) (v := .ref (a 42)) (C := RX9) (T := TX9) (N := 46) hx hb hts in_m_to_X9 hown hK hP 0 rfl rfl 42 (by decide) (hts (.fieldLink RX9 117 "ServiceTreeModel" "changeTick" "[I") (by decide +kernel)) (fun _ h9 => h9) rfl dX9_to_18 ?_
  refine lv_aload_n hx hb dX9_to_21 rfl (lv_at hl 0 rfl) ?_
  refine va_get (D := (dC, dI)) (ci := 10) (v := .int (V 45)) (C := RX9) (T := TX9) (N := 46) hx hb hts in_m_to_X9 hown hK hP 0 rfl rfl 45 (by decide) (hts (.fieldLink RX9 132 "ServiceTreeModel" "changes" "I") (by decide +kernel)) (fun _ h9 => h9) rfl dX9_to_22 ?_
  obtain ⟨ch4, hch4, ech4⟩ := hI.1.2.2.2.1
  refine p1_topr (v := .int (nI ch4)) (congrArg Value.int ech4) ?_
  refine lv_sipush (v := 2000) hx hb dX9_to_25 (by decide) ?_
  refine lv_irem hx hb dX9_to_28 (by decide) ?_
  obtain ⟨m5, hm5, em5⟩ : ∃ z9 : Nat, z9 < 2000 ∧ z9 = ch4 % 2000 := ⟨_, Nat.mod_lt _ (by decide), rfl⟩
  refine p1_topr (v := .int (nI m5)) (congrArg Value.int (by rw [em5]; exact pk_rem (a := ch4) (d := 2000) (by omega) (by decide) (by decide))) ?_
  refine lv_aload_n hx hb dX9_to_29 rfl (lv_at hl 0 rfl) ?_
  refine va_get (D := (dC, dI)) (ci := 10) (v := .int (V 22)) (C := RX9) (T := TX9) (N := 46) hx hb hts in_m_to_X9 hown hK hP 0 rfl rfl 22 (by decide) (hts (.fieldLink RX9 129 "ServiceTreeModel" "tick" "I") (by decide +kernel)) (fun _ h9 => h9) rfl dX9_to_30 ?_
  refine lv_topi (fun x6 ex6 => ?_)
  refine va_iast (n := 2000) (f := F3 42) hx hb hK hP hD hS 35 34 rfl rfl (vp_in_nI (n := m5) (by omega) (by decide)) dX9_to_33 (fun H locs hP hD hS => ?_)
  rw [mW_set_42] at hP hD
  obtain ⟨F7, eF7⟩ : ∃ f9 : Nat → Nat → Int32, f9 = va_up F3 42 (upd (F3 42) (nI m5).toNatClampNeg x6) := ⟨_, rfl⟩
  rw [← eF7] at hP hD
  replace hI : StM n (b) F V F7 V := ⟨by rw [eF7]; exact hI.1.setF (by decide), trivial⟩
  replace hU : ∀ j : Nat, j ∉ ([7, 8, 9, 11, 12, 42, 43, 44] : List Nat) → F7 j = F j := by rw [eF7]; exact mw_up (by decide) hU
  refine lv_aload_n hx hb dX9_to_34 rfl (lv_at hl 0 rfl) ?_
  refine va_get (D := (dC, dI)) (ci := 10) (v := .ref (a 43)) (C := RX9) (T := TX9) (N := 46) hx hb hts in_m_to_X9 hown hK hP 0 rfl rfl 43 (by decide) (hts (.fieldLink RX9 120 "ServiceTreeModel" "changeService" "[I") (by decide +kernel)) (fun _ h9 => h9) rfl dX9_to_35 ?_
  refine lv_aload_n hx hb dX9_to_38 rfl (lv_at hl 0 rfl) ?_
  refine va_get (D := (dC, dI)) (ci := 10) (v := .int (V 45)) (C := RX9) (T := TX9) (N := 46) hx hb hts in_m_to_X9 hown hK hP 0 rfl rfl 45 (by decide) (hts (.fieldLink RX9 132 "ServiceTreeModel" "changes" "I") (by decide +kernel)) (fun _ h9 => h9) rfl dX9_to_39 ?_
  obtain ⟨ch8, hch8, ech8⟩ := hI.1.2.2.2.1
  refine p1_topr (v := .int (nI ch8)) (congrArg Value.int ech8) ?_
  refine lv_sipush (v := 2000) hx hb dX9_to_42 (by decide) ?_
  refine lv_irem hx hb dX9_to_45 (by decide) ?_
  obtain ⟨m9, hm9, em9⟩ : ∃ z9 : Nat, z9 < 2000 ∧ z9 = ch8 % 2000 := ⟨_, Nat.mod_lt _ (by decide), rfl⟩
  refine p1_topr (v := .int (nI m9)) (congrArg Value.int (by rw [em9]; exact pk_rem (a := ch8) (d := 2000) (by omega) (by decide) (by decide))) ?_
  refine lv_iload_n hx hb dX9_to_46 rfl (lv_at hl 1 rfl) ?_
  refine va_iast (n := 2000) (f := F7 43) hx hb hK hP hD hS 36 35 rfl rfl (vp_in_nI (n := m9) (by omega) (by decide)) dX9_to_47 (fun H locs hP hD hS => ?_)
  rw [mW_set_43] at hP hD
  obtain ⟨F10, eF10⟩ : ∃ f9 : Nat → Nat → Int32, f9 = va_up F7 43 (upd (F7 43) (nI m9).toNatClampNeg (nI sv)) := ⟨_, rfl⟩
  rw [← eF10] at hP hD
  replace hI : StM n (b) F V F10 V := ⟨by rw [eF10]; exact hI.1.setF (by decide), trivial⟩
  replace hU : ∀ j : Nat, j ∉ ([7, 8, 9, 11, 12, 42, 43, 44] : List Nat) → F10 j = F j := by rw [eF10]; exact mw_up (by decide) hU
  refine lv_aload_n hx hb dX9_to_48 rfl (lv_at hl 0 rfl) ?_
  refine va_get (D := (dC, dI)) (ci := 10) (v := .ref (a 44)) (C := RX9) (T := TX9) (N := 46) hx hb hts in_m_to_X9 hown hK hP 0 rfl rfl 44 (by decide) (hts (.fieldLink RX9 123 "ServiceTreeModel" "changeState" "[I") (by decide +kernel)) (fun _ h9 => h9) rfl dX9_to_49 ?_
  refine lv_aload_n hx hb dX9_to_52 rfl (lv_at hl 0 rfl) ?_
  refine va_get (D := (dC, dI)) (ci := 10) (v := .int (V 45)) (C := RX9) (T := TX9) (N := 46) hx hb hts in_m_to_X9 hown hK hP 0 rfl rfl 45 (by decide) (hts (.fieldLink RX9 132 "ServiceTreeModel" "changes" "I") (by decide +kernel)) (fun _ h9 => h9) rfl dX9_to_53 ?_
  obtain ⟨ch11, hch11, ech11⟩ := hI.1.2.2.2.1
  refine p1_topr (v := .int (nI ch11)) (congrArg Value.int ech11) ?_
  refine lv_sipush (v := 2000) hx hb dX9_to_56 (by decide) ?_
  refine lv_irem hx hb dX9_to_59 (by decide) ?_
  obtain ⟨m12, hm12, em12⟩ : ∃ z9 : Nat, z9 < 2000 ∧ z9 = ch11 % 2000 := ⟨_, Nat.mod_lt _ (by decide), rfl⟩
  refine p1_topr (v := .int (nI m12)) (congrArg Value.int (by rw [em12]; exact pk_rem (a := ch11) (d := 2000) (by omega) (by decide) (by decide))) ?_
  refine lv_iload_n hx hb dX9_to_60 rfl (lv_at hl 2 rfl) ?_
  refine va_iast (n := 2000) (f := F10 44) hx hb hK hP hD hS 37 36 rfl rfl (vp_in_nI (n := m12) (by omega) (by decide)) dX9_to_61 (fun H locs hP hD hS => ?_)
  rw [mW_set_44] at hP hD
  obtain ⟨F13, eF13⟩ : ∃ f9 : Nat → Nat → Int32, f9 = va_up F10 44 (upd (F10 44) (nI m12).toNatClampNeg p1) := ⟨_, rfl⟩
  rw [← eF13] at hP hD
  replace hI : StM n (b) F V F13 V := ⟨by rw [eF13]; exact hI.1.setF (by decide), trivial⟩
  replace hU : ∀ j : Nat, j ∉ ([7, 8, 9, 11, 12, 42, 43, 44] : List Nat) → F13 j = F j := by rw [eF13]; exact mw_up (by decide) hU
  refine lv_aload_n hx hb dX9_to_62 rfl (lv_at hl 0 rfl) ?_
  refine lv_dup hx hb dX9_to_63 rfl ?_
  refine va_get (D := (dC, dI)) (ci := 10) (v := .int (V 45)) (C := RX9) (T := TX9) (N := 46) hx hb hts in_m_to_X9 hown hK hP 0 rfl rfl 45 (by decide) (hts (.fieldLink RX9 132 "ServiceTreeModel" "changes" "I") (by decide +kernel)) (fun _ h9 => h9) rfl dX9_to_64 ?_
  obtain ⟨ch14, hch14, ech14⟩ := hI.1.2.2.2.1
  refine p1_topr (v := .int (nI ch14)) (congrArg Value.int ech14) ?_
  refine lv_iconst (v := 1) hx hb dX9_to_67 (by decide) ?_
  refine lv_iadd hx hb dX9_to_68 ?_
  refine p1_topr (v := .int (nI (ch14 + 1))) (congrArg Value.int (nI_add ch14 1)) ?_
  refine va_put (D := (dC, dI)) (ci := 10) (fs := mF a V) (v := .int (nI (ch14 + 1))) (ty := .int) (C := RX9) (T := TX9) (N := 46) hx hb hts in_m_to_X9 tyX9 tyX9_ok nmX9 hown hK hP hD hS 0 rfl rfl 45 (by decide) (hts (.fieldLink RX9 132 "ServiceTreeModel" "changes" "I") (by decide +kernel)) (fun _ h9 => h9) rfl (by decide +kernel) rfl rfl (Nat.le_of_ble_eq_true rfl) dX9_to_69 (fun H locs hP hD hS => ?_)
  rw [mW_put_45] at hP hD
  obtain ⟨V15, eV15⟩ : ∃ f9 : Nat → Int32, f9 = va_up V 45 (nI (ch14 + 1)) := ⟨_, rfl⟩
  rw [← eV15] at hP hD
  replace hI := hI.mono (show b ≤ b + 1 by omega)
  replace hI : StM n (b + 1) F V F13 V15 := ⟨by rw [eV15]; exact hI.1.put45 (x := ch14 + 1) (by omega), trivial⟩
  replace hV : ∀ j : Nat, j ∉ ([45] : List Nat) → V15 j = V j := by rw [eV15]; exact mw_up (by decide) hV
  refine lv_aload_n hx hb dX9_to_72 rfl (lv_at hl 0 rfl) ?_
  refine va_get (D := (dC, dI)) (ci := 10) (v := .ref (a 11)) (C := RX9) (T := TX9) (N := 46) hx hb hts in_m_to_X9 hown hK hP 0 rfl rfl 11 (by decide) (hts (.fieldLink RX9 43 "ServiceTreeModel" "hasEnded" "[Z") (by decide +kernel)) (fun _ h9 => h9) rfl dX9_to_73 ?_
  refine lv_iload_n hx hb dX9_to_76 rfl (lv_at hl 1 rfl) ?_
  refine lv_iconst (v := 0) hx hb dX9_to_77 (by decide) ?_
  refine va_zast (n := 40) (f := F13 11) hx hb hK hP hD hS 12 11 rfl rfl (vp_in_nI (n := sv) (by omega) (by decide)) dX9_to_78 (fun H locs hP hD hS => ?_)
  rw [mW_set_11] at hP hD
  obtain ⟨F16, eF16⟩ : ∃ f9 : Nat → Nat → Int32, f9 = va_up F13 11 (upd (F13 11) (nI sv).toNatClampNeg (vp_nar .boolean 0)) := ⟨_, rfl⟩
  rw [← eF16] at hP hD
  replace hI : StM n (b + 1) F V F16 V15 := ⟨by rw [eF16]; exact hI.1.setF (by decide), trivial⟩
  replace hU : ∀ j : Nat, j ∉ ([7, 8, 9, 11, 12, 42, 43, 44] : List Nat) → F16 j = F j := by rw [eF16]; exact mw_up (by decide) hU
  refine lv_iload_n hx hb dX9_to_79 rfl (lv_at hl 2 rfl) ?_
  refine lv_iconst (v := 2) hx hb dX9_to_80 (by decide) ?_
  refine lv_icmp_ne (tgt := 132) hx hb dX9_to_81 (by decide) (fun c17 => ?_) (fun c17 => ?_)
  · exact W.vret hx hb hr (fun t ht hW => ⟨⟨(F16, V15), rfl, ⟨hI.mono (by omega), hU, hV, by simp [eF16, eF13, eF10, eF7, eF3, eF1, va_up]⟩, by rw [ht]; exact hP, hD⟩, hS.F ht⟩) hS.2.2 dX9_to_132
  · refine lv_aload_n hx hb dX9_to_84 rfl (lv_at hl 0 rfl) ?_
    refine va_get (D := (dC, dI)) (ci := 10) (v := .ref (a 12)) (C := RX9) (T := TX9) (N := 46) hx hb hts in_m_to_X9 hown hK hP 0 rfl rfl 12 (by decide) (hts (.fieldLink RX9 47 "ServiceTreeModel" "lives" "[I") (by decide +kernel)) (fun _ h9 => h9) rfl dX9_to_85 ?_
    refine lv_iload_n hx hb dX9_to_88 rfl (lv_at hl 1 rfl) ?_
    refine lv_aload_n hx hb dX9_to_89 rfl (lv_at hl 0 rfl) ?_
    refine va_get (D := (dC, dI)) (ci := 10) (v := .ref (a 3)) (C := RX9) (T := TX9) (N := 46) hx hb hts in_m_to_X9 hown hK hP 0 rfl rfl 3 (by decide) (hts (.fieldLink RX9 19 "ServiceTreeModel" "life" "[I") (by decide +kernel)) (fun _ h9 => h9) rfl dX9_to_90 ?_
    refine lv_bipush (v := 8) hx hb dX9_to_93 (by decide) ?_
    refine lv_iload_n hx hb dX9_to_95 rfl (lv_at hl 1 rfl) ?_
    refine lv_imul hx hb dX9_to_96 ?_
    refine p1_topr (v := .int (nI (8 * sv))) (congrArg Value.int (pk_mul 8 sv)) ?_
    refine lv_aload_n hx hb dX9_to_97 rfl (lv_at hl 0 rfl) ?_
    refine va_get (D := (dC, dI)) (ci := 10) (v := .ref (a 9)) (C := RX9) (T := TX9) (N := 46) hx hb hts in_m_to_X9 hown hK hP 0 rfl rfl 9 (by decide) (hts (.fieldLink RX9 37 "ServiceTreeModel" "starts" "[I") (by decide +kernel)) (fun _ h9 => h9) rfl dX9_to_98 ?_
    refine lv_iload_n hx hb dX9_to_101 rfl (lv_at hl 1 rfl) ?_
    refine va_iald (n := 40) (f := F16 9) hx hb hK hP 10 9 rfl rfl (vp_in_nI (n := sv) (by omega) (by decide)) dX9_to_102 ?_
    refine lv_topi (fun x18 ex18 => ?_)
    obtain ⟨m19, hm19, qm19⟩ := hI.1.2.2.2.2.1 (nI sv).toNatClampNeg
    obtain rfl : x18 = nI m19 := ex18.trans qm19
    refine lv_bipush (v := 7) hx hb dX9_to_103 (by decide) ?_
    refine lv_icmp_ge (tgt := 117) hx hb dX9_to_105 (by decide) (fun c20 => ?_) (fun c20 => ?_)
    · replace c20 : 7 ≤ m19 := (nI_leI (a := 7) (b := m19) (by omega) (by omega)).mp c20
      refine lv_bipush (v := 7) hx hb dX9_to_117 (by decide) ?_
      refine lv_iadd hx hb dX9_to_119 ?_
      refine p1_topr (v := .int (nI ((8 * sv) + 7))) (congrArg Value.int (nI_add (8 * sv) 7)) ?_
      refine va_iald (n := 320) (f := F16 3) hx hb hK hP 4 3 rfl rfl (vp_in_nI (n := (8 * sv) + 7) (by omega) (by decide)) dX9_to_120 ?_
      refine lv_topi (fun x21 ex21 => ?_)
      refine va_iast (n := 40) (f := F16 12) hx hb hK hP hD hS 13 12 rfl rfl (vp_in_nI (n := sv) (by omega) (by decide)) dX9_to_121 (fun H locs hP hD hS => ?_)
      rw [mW_set_12] at hP hD
      obtain ⟨F22, eF22⟩ : ∃ f9 : Nat → Nat → Int32, f9 = va_up F16 12 (upd (F16 12) (nI sv).toNatClampNeg x21) := ⟨_, rfl⟩
      rw [← eF22] at hP hD
      replace hI : StM n (b + 1) F V F22 V15 := ⟨by rw [eF22]; exact hI.1.setF (by decide), trivial⟩
      replace hU : ∀ j : Nat, j ∉ ([7, 8, 9, 11, 12, 42, 43, 44] : List Nat) → F22 j = F j := by rw [eF22]; exact mw_up (by decide) hU
      refine lv_aload_n hx hb dX9_to_122 rfl (lv_at hl 0 rfl) ?_
      refine va_get (D := (dC, dI)) (ci := 10) (v := .ref (a 9)) (C := RX9) (T := TX9) (N := 46) hx hb hts in_m_to_X9 hown hK hP 0 rfl rfl 9 (by decide) (hts (.fieldLink RX9 37 "ServiceTreeModel" "starts" "[I") (by decide +kernel)) (fun _ h9 => h9) rfl dX9_to_123 ?_
      refine lv_iload_n hx hb dX9_to_126 rfl (lv_at hl 1 rfl) ?_
      refine lv_dup2_11 hx hb dX9_to_127 rfl rfl ?_
      refine va_iald (n := 40) (f := F22 9) hx hb hK hP 10 9 rfl rfl (vp_in_nI (n := sv) (by omega) (by decide)) dX9_to_128 ?_
      refine lv_topi (fun x23 ex23 => ?_)
      obtain ⟨m24, hm24, qm24⟩ := hI.1.2.2.2.2.1 (nI sv).toNatClampNeg
      obtain rfl : x23 = nI m24 := ex23.trans qm24
      refine lv_iconst (v := 1) hx hb dX9_to_129 (by decide) ?_
      refine lv_iadd hx hb dX9_to_130 ?_
      refine p1_topr (v := .int (nI (m24 + 1))) (congrArg Value.int (nI_add m24 1)) ?_
      refine va_iast (n := 40) (f := F22 9) hx hb hK hP hD hS 10 9 rfl rfl (vp_in_nI (n := sv) (by omega) (by decide)) dX9_to_131 (fun H locs hP hD hS => ?_)
      rw [mW_set_9] at hP hD
      obtain ⟨F25, eF25⟩ : ∃ f9 : Nat → Nat → Int32, f9 = va_up F22 9 (upd (F22 9) (nI sv).toNatClampNeg (nI (m24 + 1))) := ⟨_, rfl⟩
      rw [← eF25] at hP hD
      replace hI := hI.mono (show b + 1 ≤ b + 1 + 1 by omega)
      replace hI : StM n (b + 1 + 1) F V F25 V15 := ⟨by rw [eF25]; exact hI.1.set9 (i := (nI sv).toNatClampNeg) (x := m24 + 1) (by omega), trivial⟩
      replace hU : ∀ j : Nat, j ∉ ([7, 8, 9, 11, 12, 42, 43, 44] : List Nat) → F25 j = F j := by rw [eF25]; exact mw_up (by decide) hU
      exact W.vret hx hb hr (fun t ht hW => ⟨⟨(F25, V15), rfl, ⟨hI.mono (by omega), hU, hV, by simp [eF25, eF22, eF16, eF13, eF10, eF7, eF3, eF1, va_up]⟩, by rw [ht]; exact hP, hD⟩, hS.F ht⟩) hS.2.2 dX9_to_132
    · replace c20 : ¬ (7 ≤ m19) := fun q9 => c20 ((nI_leI (a := 7) (b := m19) (by omega) (by omega)).mpr q9)
      refine lv_aload_n hx hb dX9_to_108 rfl (lv_at hl 0 rfl) ?_
      refine va_get (D := (dC, dI)) (ci := 10) (v := .ref (a 9)) (C := RX9) (T := TX9) (N := 46) hx hb hts in_m_to_X9 hown hK hP 0 rfl rfl 9 (by decide) (hts (.fieldLink RX9 37 "ServiceTreeModel" "starts" "[I") (by decide +kernel)) (fun _ h9 => h9) rfl dX9_to_109 ?_
      refine lv_iload_n hx hb dX9_to_112 rfl (lv_at hl 1 rfl) ?_
      refine va_iald (n := 40) (f := F16 9) hx hb hK hP 10 9 rfl rfl (vp_in_nI (n := sv) (by omega) (by decide)) dX9_to_113 ?_
      refine p1_topr (v := .int (nI m19)) (congrArg Value.int qm19) ?_
      refine lv_goto (tgt := 119) hx hb dX9_to_114 (by decide) ?_
      refine lv_iadd hx hb dX9_to_119 ?_
      refine p1_topr (v := .int (nI ((8 * sv) + m19))) (congrArg Value.int (nI_add (8 * sv) m19)) ?_
      refine va_iald (n := 320) (f := F16 3) hx hb hK hP 4 3 rfl rfl (vp_in_nI (n := (8 * sv) + m19) (by omega) (by decide)) dX9_to_120 ?_
      refine lv_topi (fun x27 ex27 => ?_)
      refine va_iast (n := 40) (f := F16 12) hx hb hK hP hD hS 13 12 rfl rfl (vp_in_nI (n := sv) (by omega) (by decide)) dX9_to_121 (fun H locs hP hD hS => ?_)
      rw [mW_set_12] at hP hD
      obtain ⟨F28, eF28⟩ : ∃ f9 : Nat → Nat → Int32, f9 = va_up F16 12 (upd (F16 12) (nI sv).toNatClampNeg x27) := ⟨_, rfl⟩
      rw [← eF28] at hP hD
      replace hI : StM n (b + 1) F V F28 V15 := ⟨by rw [eF28]; exact hI.1.setF (by decide), trivial⟩
      replace hU : ∀ j : Nat, j ∉ ([7, 8, 9, 11, 12, 42, 43, 44] : List Nat) → F28 j = F j := by rw [eF28]; exact mw_up (by decide) hU
      refine lv_aload_n hx hb dX9_to_122 rfl (lv_at hl 0 rfl) ?_
      refine va_get (D := (dC, dI)) (ci := 10) (v := .ref (a 9)) (C := RX9) (T := TX9) (N := 46) hx hb hts in_m_to_X9 hown hK hP 0 rfl rfl 9 (by decide) (hts (.fieldLink RX9 37 "ServiceTreeModel" "starts" "[I") (by decide +kernel)) (fun _ h9 => h9) rfl dX9_to_123 ?_
      refine lv_iload_n hx hb dX9_to_126 rfl (lv_at hl 1 rfl) ?_
      refine lv_dup2_11 hx hb dX9_to_127 rfl rfl ?_
      refine va_iald (n := 40) (f := F28 9) hx hb hK hP 10 9 rfl rfl (vp_in_nI (n := sv) (by omega) (by decide)) dX9_to_128 ?_
      refine lv_topi (fun x29 ex29 => ?_)
      obtain ⟨m30, hm30, qm30⟩ := hI.1.2.2.2.2.1 (nI sv).toNatClampNeg
      obtain rfl : x29 = nI m30 := ex29.trans qm30
      refine lv_iconst (v := 1) hx hb dX9_to_129 (by decide) ?_
      refine lv_iadd hx hb dX9_to_130 ?_
      refine p1_topr (v := .int (nI (m30 + 1))) (congrArg Value.int (nI_add m30 1)) ?_
      refine va_iast (n := 40) (f := F28 9) hx hb hK hP hD hS 10 9 rfl rfl (vp_in_nI (n := sv) (by omega) (by decide)) dX9_to_131 (fun H locs hP hD hS => ?_)
      rw [mW_set_9] at hP hD
      obtain ⟨F31, eF31⟩ : ∃ f9 : Nat → Nat → Int32, f9 = va_up F28 9 (upd (F28 9) (nI sv).toNatClampNeg (nI (m30 + 1))) := ⟨_, rfl⟩
      rw [← eF31] at hP hD
      replace hI := hI.mono (show b + 1 ≤ b + 1 + 1 by omega)
      replace hI : StM n (b + 1 + 1) F V F31 V15 := ⟨by rw [eF31]; exact hI.1.set9 (i := (nI sv).toNatClampNeg) (x := m30 + 1) (by omega), trivial⟩
      replace hU : ∀ j : Nat, j ∉ ([7, 8, 9, 11, 12, 42, 43, 44] : List Nat) → F31 j = F j := by rw [eF31]; exact mw_up (by decide) hU
      exact W.vret hx hb hr (fun t ht hW => ⟨⟨(F31, V15), rfl, ⟨hI.mono (by omega), hU, hV, by simp [eF31, eF28, eF16, eF13, eF10, eF7, eF3, eF1, va_up]⟩, by rw [ht]; exact hP, hD⟩, hS.F ht⟩) hS.2.2 dX9_to_132
