theorem dX8_make_0 : decode cX8_make 0 = .ok (.iload_n 1, 1) := by decide +kernel
theorem dX8_make_1 : decode cX8_make 1 = .ok (.iconst 0, 1) := by decide +kernel
theorem dX8_make_2 : decode cX8_make 2 = .ok (.iconst 3, 1) := by decide +kernel
theorem dX8_make_3 : decode cX8_make 3 = .ok (.invokestatic 57, 3) := by decide +kernel
theorem dX8_make_6 : decode cX8_make 6 = .ok (.ifCond .ne 5, 3) := by decide +kernel
theorem dX8_make_9 : decode cX8_make 9 = .ok (.iconst (-1), 1) := by decide +kernel
theorem dX8_make_10 : decode cX8_make 10 = .ok (.ireturn, 1) := by decide +kernel
theorem dX8_make_11 : decode cX8_make 11 = .ok (.iload_n 1, 1) := by decide +kernel
theorem dX8_make_12 : decode cX8_make 12 = .ok (.iconst 3, 1) := by decide +kernel
theorem dX8_make_13 : decode cX8_make 13 = .ok (.if_icmp .ne 7, 3) := by decide +kernel
theorem dX8_make_16 : decode cX8_make 16 = .ok (.iconst 0, 1) := by decide +kernel
theorem dX8_make_17 : decode cX8_make 17 = .ok (.goto 5, 3) := by decide +kernel
theorem dX8_make_20 : decode cX8_make 20 = .ok (.bipush 50, 2) := by decide +kernel
theorem dX8_make_22 : decode cX8_make 22 = .ok (.istore 4, 2) := by decide +kernel
theorem dX8_make_24 : decode cX8_make 24 = .ok (.iload_n 2, 1) := by decide +kernel
theorem dX8_make_25 : decode cX8_make 25 = .ok (.iconst 0, 1) := by decide +kernel
theorem dX8_make_26 : decode cX8_make 26 = .ok (.iload 4, 2) := by decide +kernel
theorem dX8_make_28 : decode cX8_make 28 = .ok (.invokestatic 57, 3) := by decide +kernel
theorem dX8_make_31 : decode cX8_make 31 = .ok (.ifCond .eq 13, 3) := by decide +kernel
theorem dX8_make_34 : decode cX8_make 34 = .ok (.iload_n 3, 1) := by decide +kernel
theorem dX8_make_35 : decode cX8_make 35 = .ok (.iconst 0, 1) := by decide +kernel
theorem dX8_make_36 : decode cX8_make 36 = .ok (.iload 4, 2) := by decide +kernel
theorem dX8_make_38 : decode cX8_make 38 = .ok (.invokestatic 57, 3) := by decide +kernel
theorem dX8_make_41 : decode cX8_make 41 = .ok (.ifCond .ne 5, 3) := by decide +kernel
theorem dX8_make_44 : decode cX8_make 44 = .ok (.iconst (-1), 1) := by decide +kernel
theorem dX8_make_45 : decode cX8_make 45 = .ok (.ireturn, 1) := by decide +kernel
theorem dX8_make_46 : decode cX8_make 46 = .ok (.aload_n 0, 1) := by decide +kernel
theorem dX8_make_47 : decode cX8_make 47 = .ok (.getfield 10, 3) := by decide +kernel
theorem dX8_make_50 : decode cX8_make 50 = .ok (.invokevirtual 61, 3) := by decide +kernel
theorem dX8_make_53 : decode cX8_make 53 = .ok (.istore 5, 2) := by decide +kernel
theorem dX8_make_55 : decode cX8_make 55 = .ok (.iload 5, 2) := by decide +kernel
theorem dX8_make_57 : decode cX8_make 57 = .ok (.bipush 40, 2) := by decide +kernel
theorem dX8_make_59 : decode cX8_make 59 = .ok (.if_icmp .lt 6, 3) := by decide +kernel
theorem dX8_make_62 : decode cX8_make 62 = .ok (.bipush (-6), 2) := by decide +kernel
theorem dX8_make_64 : decode cX8_make 64 = .ok (.ireturn, 1) := by decide +kernel
theorem dX8_make_65 : decode cX8_make 65 = .ok (.aload_n 0, 1) := by decide +kernel
theorem dX8_make_66 : decode cX8_make 66 = .ok (.getfield 10, 3) := by decide +kernel
theorem dX8_make_69 : decode cX8_make 69 = .ok (.new 65, 3) := by decide +kernel
theorem dX8_make_72 : decode cX8_make 72 = .ok (.dup, 1) := by decide +kernel
theorem dX8_make_73 : decode cX8_make 73 = .ok (.iload_n 1, 1) := by decide +kernel
theorem dX8_make_74 : decode cX8_make 74 = .ok (.iload_n 2, 1) := by decide +kernel
theorem dX8_make_75 : decode cX8_make 75 = .ok (.iload_n 3, 1) := by decide +kernel
theorem dX8_make_76 : decode cX8_make 76 = .ok (.aload_n 0, 1) := by decide +kernel
theorem dX8_make_77 : decode cX8_make 77 = .ok (.getfield 67, 3) := by decide +kernel
theorem dX8_make_80 : decode cX8_make 80 = .ok (.invokespecial 71, 3) := by decide +kernel
theorem dX8_make_83 : decode cX8_make 83 = .ok (.invokevirtual 74, 3) := by decide +kernel
theorem dX8_make_86 : decode cX8_make 86 = .ok (.pop, 1) := by decide +kernel
theorem dX8_make_87 : decode cX8_make 87 = .ok (.aload_n 0, 1) := by decide +kernel
theorem dX8_make_88 : decode cX8_make 88 = .ok (.getfield 53, 3) := by decide +kernel
theorem dX8_make_91 : decode cX8_make 91 = .ok (.iconst 0, 1) := by decide +kernel
theorem dX8_make_92 : decode cX8_make 92 = .ok (.dup2, 1) := by decide +kernel
theorem dX8_make_93 : decode cX8_make 93 = .ok (.laload, 1) := by decide +kernel
theorem dX8_make_94 : decode cX8_make 94 = .ok (.iload 5, 2) := by decide +kernel
theorem dX8_make_96 : decode cX8_make 96 = .ok (.invokestatic 78, 3) := by decide +kernel
theorem dX8_make_99 : decode cX8_make 99 = .ok (.lor, 1) := by decide +kernel
theorem dX8_make_100 : decode cX8_make 100 = .ok (.lastore, 1) := by decide +kernel
theorem dX8_make_101 : decode cX8_make 101 = .ok (.iload 5, 2) := by decide +kernel
theorem dX8_make_103 : decode cX8_make 103 = .ok (.ireturn, 1) := by decide +kernel
def wq_x_make : List Cond := [.code yX8_make cX8_make 6 (some .int), .fieldLink RX8 10 "ServiceTree" "services" "Ljava/util/ArrayList;", .classLink RX8 65 RX7, .instantiable RX7 12, .initialized RX7, .fieldLink RX8 67 "ServiceTree" "now" "I", .methodLink RX8 71 yX7_init, .instanceMethod yX7_init, .fieldLink RX8 53 "ServiceTree" "inState" "[J", .methodLink RX8 61 yJx4a65c_size_8abf5, .instanceMethod yJx4a65c_size_8abf5, .selects RJx4a65c yJx4a65c_size_8abf5 yJx4a65c_size_8abf5, .initialized RJx4a65c, .methodLink RX8 78 yX8_only, .static yX8_only, .initialized RX8, .methodLink RX8 74 yJx4a65c_add_9ea2d, .instanceMethod yJx4a65c_add_9ea2d, .selects RJx4a65c yJx4a65c_add_9ea2d yJx4a65c_add_9ea2d, .methodLink RX8 57 yX8_within, .static yX8_within] ++ (wsX70 ++ (wsX80 ++ (wq_x_size ++ (wq_s_service ++ (wq_x_only ++ (wq_l_addC ++ (wq_l_addA ++ (wq_l_addB ++ (wq_x_within)))))))))
theorem in_x_make_X7 : ∀ w ∈ wsX70, w ∈ wq_x_make := fun _ h => List.mem_append_right _ (List.mem_append_left _ (h))
theorem in_x_make_X8 : ∀ w ∈ wsX80, w ∈ wq_x_make := fun _ h => List.mem_append_right _ (List.mem_append_right _ (List.mem_append_left _ (h)))
set_option maxRecDepth 20000 in
theorem wi_x_make : ∀ w ∈ wq_x_make, w ∈ lw_tbl := List.forall_mem_append.mpr ⟨(by decide +kernel), List.forall_mem_append.mpr ⟨inKX7, List.forall_mem_append.mpr ⟨inKX8, List.forall_mem_append.mpr ⟨wi_x_size, List.forall_mem_append.mpr ⟨wi_s_service, List.forall_mem_append.mpr ⟨wi_x_only, List.forall_mem_append.mpr ⟨wi_l_addC, List.forall_mem_append.mpr ⟨wi_l_addA, List.forall_mem_append.mpr ⟨wi_l_addB, wi_x_within⟩⟩⟩⟩⟩⟩⟩⟩⟩
set_option maxRecDepth 20000 in
theorem wg_x_make : GoodIn wq_x_make wq_x_make := goodIn_sub (fun _ h => h) (by decide +kernel)
set_option maxRecDepth 20000 in
theorem wc_x_make_x_size_61 : GoodIn wq_x_make (wsV RX8 61 RJx4a65c yJx4a65c_size_8abf5 wq_x_size) := goodIn_app (goodIn_of _ (by decide +kernel)) (fun w h => ⟨List.mem_append_right _ (List.mem_append_right _ (List.mem_append_right _ (List.mem_append_left _ (h)))), (wg_x_size w h).2⟩)
theorem wc_x_make_s_service_71 : GoodIn wq_x_make wq_s_service := (fun w h => ⟨List.mem_append_right _ (List.mem_append_right _ (List.mem_append_right _ (List.mem_append_right _ (List.mem_append_left _ (h))))), (wg_s_service w h).2⟩)
set_option maxRecDepth 20000 in
theorem wc_x_make_x_only_78 : GoodIn wq_x_make (va_wsS RX8 78 yX8_only wq_x_only) := goodIn_app (goodIn_of _ (by decide +kernel)) (fun w h => ⟨List.mem_append_right _ (List.mem_append_right _ (List.mem_append_right _ (List.mem_append_right _ (List.mem_append_right _ (List.mem_append_left _ (h)))))), (wg_x_only w h).2⟩)
set_option maxRecDepth 20000 in
theorem wc_x_make_l_addC_74 : GoodIn wq_x_make (wsV RX8 74 RJx4a65c yJx4a65c_add_9ea2d wq_l_addC) := goodIn_app (goodIn_of _ (by decide +kernel)) (fun w h => ⟨List.mem_append_right _ (List.mem_append_right _ (List.mem_append_right _ (List.mem_append_right _ (List.mem_append_right _ (List.mem_append_right _ (List.mem_append_left _ (h))))))), (wg_l_addC w h).2⟩)
set_option maxRecDepth 20000 in
theorem wc_x_make_l_addA_74 : GoodIn wq_x_make (wsV RX8 74 RJx4a65c yJx4a65c_add_9ea2d wq_l_addA) := goodIn_app (goodIn_of _ (by decide +kernel)) (fun w h => ⟨List.mem_append_right _ (List.mem_append_right _ (List.mem_append_right _ (List.mem_append_right _ (List.mem_append_right _ (List.mem_append_right _ (List.mem_append_right _ (List.mem_append_left _ (h)))))))), (wg_l_addA w h).2⟩)
set_option maxRecDepth 20000 in
theorem wc_x_make_l_addB_74 : GoodIn wq_x_make (wsV RX8 74 RJx4a65c yJx4a65c_add_9ea2d wq_l_addB) := goodIn_app (goodIn_of _ (by decide +kernel)) (fun w h => ⟨List.mem_append_right _ (List.mem_append_right _ (List.mem_append_right _ (List.mem_append_right _ (List.mem_append_right _ (List.mem_append_right _ (List.mem_append_right _ (List.mem_append_right _ (List.mem_append_left _ (h))))))))), (wg_l_addB w h).2⟩)
set_option maxRecDepth 20000 in
theorem wc_x_make_x_within_57 : GoodIn wq_x_make (va_wsS RX8 57 yX8_within wq_x_within) := goodIn_app (goodIn_of _ (by decide +kernel)) (fun w h => ⟨List.mem_append_right _ (List.mem_append_right _ (List.mem_append_right _ (List.mem_append_right _ (List.mem_append_right _ (List.mem_append_right _ (List.mem_append_right _ (List.mem_append_right _ (List.mem_append_right _ (h))))))))), (wg_x_within w h).2⟩)
def rm_x_make : Room := { frames := 7, cells := 7, slots := 261, locals := 171 }
set_option maxHeartbeats 8000000 in
set_option maxRecDepth 100000 in
theorem c_x_make (l : Launch) (dC : Nat → ClassId) (dI : Nat → Nat → Nat) (h : Nat) (a : Nat → Nat) (e : Nat) (cI cJ cO cE : ClassId) (L : Nat → Int64) (I : Nat → Int32) (M : Nat → Nat → Int64) (J : Nat → Nat → Int32) (n cap : Nat) (fE : Nat → Option Nat) (sd : Nat → Nat → Nat) (si : Nat → Nat → Int32) (sa : Nat → Nat → Nat → Int32) (dl : Nat → Nat) (b z mi : Nat) (p0 p1 p2 : Int32) (sz : Nat) (hX0 : InvX n cap fE sd dl b I J si) (hb0 : b + 0 < 2147483648) (hz0 : n = 0 → e = z) : Met l yX8_make wq_x_make rm_x_make (va_Pc [.ref h, .int p0, .int p1, .int p2] (fun U => U.heap.size = sz ∧ va_P (dC, dI) vwCl (xW h a e cI cJ cO cE L I M J n cap fE sd si sa dl) U.heap ∧ va_K (dC, dI) vwCl (xT cI cJ cO cE) U ∧ va_D (fun _ => True) (xW h a e cI cJ cO cE L I M J n cap fE sd si sa dl) ∧ pw_N U ∧ va_Z "java/util/ArrayList" "DEFAULTCAPACITY_EMPTY_ELEMENTDATA" "[Ljava/lang/Object;" (.ref z) (va_A (xW h a e cI cJ cO cE L I M J n cap fE sd si sa dl) sz) U U.heap ∧ va_T (.object "java/lang/Object") z 0 (fun _ => .null) (va_A (xW h a e cI cJ cO cE L I M J n cap fE sd si sa dl) sz) U U.heap ∧ va_AO "java/lang/Object" U ∧ va_Mi "[Ljava/lang/Object;" mi U ∧ va_Dc U)) (va_Qi (fun (r : Int32) (u : Nat × Nat × Nat × (Nat → Option Nat) × (Nat → Nat → Nat) × (Nat → Int32) × (Nat → Nat → Int64) × (Nat → Nat → Int32) × (Nat → Nat → Nat → Int32) × (Nat → Nat)) => ((0 ≤ p0 ∧ p0 ≤ 3 ∧ 0 ≤ p1 ∧ p1 ≤ 50 ∧ 0 ≤ p2 ∧ p2 ≤ 50 ∧ (p0 = 3 → p1 ≤ 0 ∧ p2 ≤ 0)) ∧ n < 40 ∧ r = nI n ∧ u.1 = n + 1 ∧ InvX u.1 u.2.2.1 u.2.2.2.1 u.2.2.2.2.1 (u.2.2.2.2.2.2.2.2.2) b (u.2.2.2.2.2.1) J (u.2.2.2.2.2.2.2.1) ∧ (∀ j : Nat, j ∉ [5, 6] → (u.2.2.2.2.2.1) j = I j) ∧ (∀ s9 q9 : Nat, s9 ≠ n → (u.2.2.2.2.2.2.2.1) s9 q9 = si s9 q9) ∧ (∀ s9 q9 : Nat, s9 ≠ n → (u.2.2.2.2.2.2.2.2.1) s9 q9 = sa s9 q9) ∧ (u.2.2.2.2.2.2.2.1) n 0 = p0 ∧ (∀ i : Nat, (u.2.2.2.2.2.2.2.2.1) n 1 i = 0)) ∨ ((¬ (0 ≤ p0 ∧ p0 ≤ 3 ∧ 0 ≤ p1 ∧ p1 ≤ 50 ∧ 0 ≤ p2 ∧ p2 ≤ 50 ∧ (p0 = 3 → p1 ≤ 0 ∧ p2 ≤ 0)) ∨ n = 40) ∧ r = (if 0 ≤ p0 ∧ p0 ≤ 3 ∧ 0 ≤ p1 ∧ p1 ≤ 50 ∧ 0 ≤ p2 ∧ p2 ≤ 50 ∧ (p0 = 3 → p1 ≤ 0 ∧ p2 ≤ 0) then -6 else -1) ∧ u = (n, e, cap, fE, sd, I, M, si, sa, dl))) (fun (u : Nat × Nat × Nat × (Nat → Option Nat) × (Nat → Nat → Nat) × (Nat → Int32) × (Nat → Nat → Int64) × (Nat → Nat → Int32) × (Nat → Nat → Nat → Int32) × (Nat → Nat)) (t : State) => va_P (dC, dI) vwCl (xW h a u.2.1 cI cJ cO cE L (u.2.2.2.2.2.1) (u.2.2.2.2.2.2.1) J u.1 (u.2.2.1) (u.2.2.2.1) (u.2.2.2.2.1) (u.2.2.2.2.2.2.2.1) (u.2.2.2.2.2.2.2.2.1) (u.2.2.2.2.2.2.2.2.2)) t.heap ∧ va_D (va_A (xW h a e cI cJ cO cE L I M J n cap fE sd si sa dl) sz) (xW h a u.2.1 cI cJ cO cE L (u.2.2.2.2.2.1) (u.2.2.2.2.2.2.1) J u.1 (u.2.2.1) (u.2.2.2.1) (u.2.2.2.2.1) (u.2.2.2.2.2.2.2.1) (u.2.2.2.2.2.2.2.2.1) (u.2.2.2.2.2.2.2.2.2))) (va_A (xW h a e cI cJ cO cE L I M J n cap fE sd si sa dl) sz)) 7 261 (va_A (xW h a e cI cJ cO cE L I M J n cap fE sd si sa dl) sz) := by
  have hn : n ≤ 40 := hX0.1.1
  have hX := hX0
  refine Met.ofW (cc := cX8_make) (maxL := 6) (ret := (some .int)) (by decide) rfl ?_
  intro p e9 s m args below meth c s₁ B hml hv
  obtain ⟨rfl, hsz, hP, hK, hD0, hN, hZ, hT, hO, hMi, hDc0⟩ := hv
  have hx := B.exec
  have hb := B.bytes
  have hr := B.returns
  have hts := atoms_spec (ws := wq_x_make) B.pre
  have hown : s.vm.findClass RX8 = some m.cls := findClass_of_methodNamed B.named
  have hlocks := B.notSynchronized
  subst hsz
  have hD := hD0.self (sz := s.heap.size)
  generalize hAe : va_A (xW h a e cI cJ cO cE L I M J n cap fE sd si sa dl) s.heap.size = A at hD hZ hT ⊢
  have hA : ∀ q : Nat, s.heap.size ≤ q → A q := fun q h => by rw [← hAe]; exact Or.inr h
  have hS : va_S A s.heap s.heap [] := va_S.rf
  have hl := lv_entry ([.ref h, .int p0, .int p1, .int p2]) (n := 6) (Nat.le_of_ble_eq_true rfl)
  rw [lg_entry_eq]
  generalize (lg_sl ([.ref h, .int p0, .int p1, .int p2]) ++ List.replicate (6 - (lg_sl ([.ref h, .int p0, .int p1, .int p2])).length) Slot.unset).toArray = ls at hl ⊢
  have hl : lv_has ls 6 [(0, .ref h), (1, .int p0), (2, .int p1), (3, .int p2)] := hl
  refine mw_Q (fun Q0 hQ => ?_)
  have jn46 : (0 ≤ p0 ∧ p0 ≤ 3 ∧ 0 ≤ p1 ∧ p1 ≤ 50 ∧ 0 ≤ p2 ∧ p2 ≤ 50 ∧ (p0 = 3 → p1 ≤ 0 ∧ p2 ≤ 0)) → ∀ (H : Heap) (locs : List Loc) (ls : Array Slot), va_P (dC, dI) vwCl (xW h a e cI cJ cO cE L I M J n cap fE sd si sa dl) H → va_D A (xW h a e cI cJ cO cE L I M J n cap fE sd si sa dl) → va_S A s.heap H locs → lv_has ls 6 [(0, .ref h), (1, .int p0), (2, .int p1), (3, .int p2)] → W p l e9 (headSpec wq_x_make rm_x_make).room s m ([.ref h, .int p0, .int p1, .int p2] : List Value).toArray below meth c H locs 0 0 Q0 (F0 m 46 ls []) := by
    intro hMK H locs ls hP hD hS hl
    refine lv_aload_n hx hb dX8_make_46 rfl (lv_at hl 0 rfl) ?_
    refine va_get (D := (dC, dI)) (ci := 9) (v := .ref (a 0)) (C := RX8) (T := TX8) (N := 14) hx hb hts in_x_make_X8 hown hK hP 0 rfl rfl 0 (by decide) (hts (.fieldLink RX8 10 "ServiceTree" "services" "Ljava/util/ArrayList;") (by decide +kernel)) (fun _ h9 => h9) rfl dX8_make_47 ?_
    have hFc := mw_free hD hS hA
    refine va_calli (va_runV (As := []) (rest := []) ⟨hx, hb, hml, hown, hts⟩ (c_x_size l dC dI h a e cI cJ cO cE L I M J n cap fE sd si sa dl (b)  H.size hX (by omega) ) (cwV 0 hts wc_x_make_x_size_61 rfl rfl rfl (by decide +kernel) ⟨Nat.le_of_ble_eq_true rfl, Nat.le_of_ble_eq_true rfl⟩) ⟨fun a9 U g mk q => by obtain ⟨q0, q1, qP, qK, qD, qN⟩ := q; exact ⟨q0, q1, qP, va_K.moved (u := U) (U := U.calling g mk a9) (Vm.Alike.refl U.vm) qK, qD, pw_N.same (u := U) (U := U.calling g mk a9) rfl qN⟩, va_recv hK hP (ci := 0) (q0 := 1) rfl rfl, fun U hU hW => ⟨rfl, by rw [hU], by rw [hU]; exact hP, va_K.moved hW.alike hK, hD.weaken (fun _ _ _ _ => trivial), pw_N.warm hW hN⟩⟩ rfl rfl hl.1 rfl (lv_room (Nat.le_of_ble_eq_true rfl)) dX8_make_50 ⟨Nat.le_of_ble_eq_true rfl, Nat.le_of_ble_eq_true rfl⟩) hS (fun q _ h => hFc q h) hFc (fun r1 u t H1 locs ht hvm hw hB hz1 hk1 hS => ?_)
    replace hP := hB.1
    rw [ht] at hP
    replace hD : va_D A (xW h a e cI cJ cO cE L I M J n cap fE sd si sa dl) := hB.2.weaken (fun _ q _ h9 => hFc q.1 h9)
    clear hB
    generalize H1 = H at hP hS ⊢
    replace hP : va_P (dC, dI) vwCl (xW h a e cI cJ cO cE L I M J n cap fE sd si sa dl) H := hP
    obtain rfl : r1 = nI n := hw
    refine lv_istore (lv' := [(5, .int (nI n)), (0, .ref h), (1, .int p0), (2, .int p1), (3, .int p2)]) hx hb dX8_make_53 hl (by decide) rfl (fun ls hl => ?_)
    refine lv_iload hx hb dX8_make_55 (lv_at hl 0 rfl) ?_
    refine lv_bipush (v := 40) hx hb dX8_make_57 (by decide) ?_
    refine lv_icmp_lt (tgt := 65) hx hb dX8_make_59 (by decide) (fun c2 => ?_) (fun c2 => ?_)
    · replace c2 : n < 40 := (nI_ltI (a := n) (b := 40) (by omega) (by omega)).mp c2
      have h40 : n < 40 := by omega
      refine lv_aload_n hx hb dX8_make_65 rfl (lv_at hl 1 rfl) ?_
      refine va_get (D := (dC, dI)) (ci := 9) (v := .ref (a 0)) (C := RX8) (T := TX8) (N := 14) hx hb hts in_x_make_X8 hown hK hP 0 rfl rfl 0 (by decide) (hts (.fieldLink RX8 10 "ServiceTree" "services" "Ljava/util/ArrayList;") (by decide +kernel)) (fun _ h9 => h9) rfl dX8_make_66 ?_
      refine va_new (ci := 8) (fs := [.int 0, .int 0, .int 0, .null, .null, .null, .int 0, .int 0, .int 0, .int 0, .int 0, .int 0]) (C := RX7) (T := TX7) (N := 12) hx hb hts in_x_make_X7 tyX7 tyX7_ok hown (hts (.classLink RX8 65 RX7) (by decide +kernel)) (hts (.instantiable RX7 12) (by decide +kernel)) (hts (.initialized RX7) (by decide +kernel)) hK hP hD hS hA rfl (fun j hj => dfX7 j hj) (Nat.le_of_ble_eq_true rfl) (Nat.le_of_ble_eq_true rfl) dX8_make_69 (fun q H hP hD hS => ?_)
      refine W.widen (k := 1) (n := 12) (by omega) (by omega) ?_
      refine lv_dup hx hb dX8_make_72 rfl ?_
      refine lv_iload_n hx hb dX8_make_73 rfl (lv_at hl 2 rfl) ?_
      refine lv_iload_n hx hb dX8_make_74 rfl (lv_at hl 3 rfl) ?_
      refine lv_iload_n hx hb dX8_make_75 rfl (lv_at hl 4 rfl) ?_
      refine lv_aload_n hx hb dX8_make_76 rfl (lv_at hl 1 rfl) ?_
      refine va_get (D := (dC, dI)) (ci := 9) (v := .int (I 0)) (C := RX8) (T := TX8) (N := 14) hx hb hts in_x_make_X8 hown hK hP 0 rfl rfl 9 (by decide) (hts (.fieldLink RX8 67 "ServiceTree" "now" "I") (by decide +kernel)) (fun _ h9 => h9) rfl dX8_make_77 ?_
      have hPc := xq_right hP
      have hDc := xd_right hD
      have hKc := hK.sub (tys' := []) [] rfl
      have hFc := xj_free hD hS hA
      refine va_callv (va_runI (As := [.int p0, .int p1, .int p2, .int (I 0)]) (rest := [.ref q, .ref (a 0)]) ⟨hx, hb, hml, hown, hts⟩ (c_s_service l dC dI q p0 p1 p2 (I 0) H.size) (cwI 4 hts wc_x_make_s_service_71 rfl rfl rfl (hts (.initialized RX7) (by decide +kernel)) (hts (.methodLink RX8 71 yX7_init) (by decide +kernel)) (hts (.instanceMethod yX7_init) (by decide +kernel)) rfl (by decide +kernel) ⟨Nat.le_of_ble_eq_true rfl, Nat.le_of_ble_eq_true rfl⟩) ⟨fun a9 U g9 mk q => by obtain ⟨q0, q1, qP, qK, qD, qN⟩ := q; exact ⟨q0, q1, qP, va_K.moved (u := U) (U := U.calling g9 mk a9) (Vm.Alike.refl U.vm) qK, qD, pw_N.same (u := U) (U := U.calling g9 mk a9) rfl qN⟩, fun U hU hW => ⟨rfl, by rw [hU], by rw [hU]; exact hPc, va_K.moved hW.alike hKc, hDc.weaken (fun _ _ _ _ => trivial), pw_N.warm hW hN⟩⟩ rfl rfl hl.1 rfl (lv_room (Nat.le_of_ble_eq_true rfl)) dX8_make_80 ⟨Nat.le_of_ble_eq_true rfl, Nat.le_of_ble_eq_true rfl⟩) hS (fun q _ h => hFc q h) hFc (fun u t H1 locs ht hvm hw hB hz1 hk1 hS => ?_)
      obtain ⟨l0, l1, t1, l2, t2, k0, k1, k2, dv, hdv, hP1, hK1, hD1⟩ := hB
      rw [ht] at hP1
      obtain ⟨hP, hD⟩ := xj_join hP hD hk1 hFc hP1 hD1
      generalize H1 = H at hP hS ⊢
      have hK2 := hK.app (va_K.moved hvm.symm hK1)
      replace hK2 : va_K (dC, dI) vwCl [(cI, .int), (cJ, .long), (cO, .array .long), (cE, .object "java/lang/Object"), (k0, .int), (k1, .int), (k2, .int)] s := hK2
      rw [show k0 = cI from xK_int hK2 (k1 := 4) (k2 := 0) rfl rfl, show k1 = cI from xK_int hK2 (k1 := 5) (k2 := 0) rfl rfl, show k2 = cI from xK_int hK2 (k1 := 6) (k2 := 0) rfl rfl] at hP hD
      clear hK2 hK1 hP1 hD1 hPc hDc hKc hFc
      refine W.widen (k := 6) (n := 61) (by omega) (by omega) ?_
      obtain ⟨w9, hw9⟩ : ∃ w9 : Int32, w9 = I 0 := ⟨_, rfl⟩
      rw [← hw9] at hP hD
      rw [xW_eq] at hP hD
      replace hP := xq_perm (xp_1 (h, .inr (9, [.ref (a 0), .ref (a 1), .ref (a 2), .ref (a 3), .ref (a 4), .ref (a 5), .ref (a 6), .long (L 0), .long (L 1), .int (I 0), .int (I 1), .int (I 2), .int (I 3), .int (I 4)])) (a 0, .inr (0, [.int (I 5), .ref e, .int (I 6)])) (q, .inr (8, [.int p0, .int p1, .int p2, .ref l0, .ref l1, .ref l2, .int 0, .int w9, .int 0, .int 0, .int 0, .int 0])) (xF2 a cI cJ cO L I M J) ((List.range (6 * n)).map (xP cI sd si sa dl)) (xE n e cap cE fE) [(l0, .inl (cI, 8, .inl (fun _ => 0))), (l1, .inr (7, [.ref t1, .int 0, .int 0, .int 1, .int 0, .int 1])), (t1, .inl (cI, 10, .inl (fun _ => 0))), (l2, .inr (1, [.ref t2, .int 0, .int 0, .int 0, .int (-1)])), (t2, .inl (cI, dv, .inl (fun _ => 0)))]) hP
      replace hD := xd_perm (xp_1 (h, .inr (9, [.ref (a 0), .ref (a 1), .ref (a 2), .ref (a 3), .ref (a 4), .ref (a 5), .ref (a 6), .long (L 0), .long (L 1), .int (I 0), .int (I 1), .int (I 2), .int (I 3), .int (I 4)])) (a 0, .inr (0, [.int (I 5), .ref e, .int (I 6)])) (q, .inr (8, [.int p0, .int p1, .int p2, .ref l0, .ref l1, .ref l2, .int 0, .int w9, .int 0, .int 0, .int 0, .int 0])) (xF2 a cI cJ cO L I M J) ((List.range (6 * n)).map (xP cI sd si sa dl)) (xE n e cap cE fE) [(l0, .inl (cI, 8, .inl (fun _ => 0))), (l1, .inr (7, [.ref t1, .int 0, .int 0, .int 1, .int 0, .int 1])), (t1, .inl (cI, 10, .inl (fun _ => 0))), (l2, .inr (1, [.ref t2, .int 0, .int 0, .int 0, .int (-1)])), (t2, .inl (cI, dv, .inl (fun _ => 0)))]) hD
      obtain ⟨X, hXd⟩ : ∃ X : va_W, X = ((h, .inr (9, [.ref (a 0), .ref (a 1), .ref (a 2), .ref (a 3), .ref (a 4), .ref (a 5), .ref (a 6), .long (L 0), .long (L 1), .int (I 0), .int (I 1), .int (I 2), .int (I 3), .int (I 4)])) :: (xF2 a cI cJ cO L I M J ++ (List.range (6 * n)).map (xP cI sd si sa dl))) ++ [(l0, .inl (cI, 8, .inl (fun _ => 0))), (l1, .inr (7, [.ref t1, .int 0, .int 0, .int 1, .int 0, .int 1])), (t1, .inl (cI, 10, .inl (fun _ => 0))), (l2, .inr (1, [.ref t2, .int 0, .int 0, .int 0, .int (-1)])), (t2, .inl (cI, dv, .inl (fun _ => 0)))] := ⟨_, rfl⟩
      rw [← hXd] at hP hD
      rw [hX.1.2.2.2.1] at hP hD
      have jn86 : ∀ (e1 n1 N1 : Nat) (g1 : Nat → Option Nat) (sd1 : Nat → Nat → Nat) (I1 : Nat → Int32) (si1 : Nat → Nat → Int32) (sa1 : Nat → Nat → Nat → Int32) (dl1 : Nat → Nat) (H : Heap) (locs : List Loc), (n1 = n + 1 ∧ InvX n1 N1 g1 sd1 dl1 b I1 J si1 ∧ (∀ j : Nat, j ∉ [5, 6] → I1 j = I j) ∧ (∀ s9 q9 : Nat, s9 ≠ n → si1 s9 q9 = si s9 q9) ∧ (∀ s9 q9 : Nat, s9 ≠ n → sa1 s9 q9 = sa s9 q9) ∧ si1 n 0 = p0 ∧ (∀ i : Nat, sa1 n 1 i = 0)) → va_P (dC, dI) vwCl (xW h a e1 cI cJ cO cE L I1 M J n1 N1 g1 sd1 si1 sa1 dl1) H → va_D A (xW h a e1 cI cJ cO cE L I1 M J n1 N1 g1 sd1 si1 sa1 dl1) → va_S A s.heap H locs → W p l e9 (headSpec wq_x_make rm_x_make).room s m ([.ref h, .int p0, .int p1, .int p2] : List Value).toArray below meth c H locs 7 261 Q0 (F0 m 86 ls [.int 1]) := by
        intro e1 n1 N1 g1 sd1 I1 si1 sa1 dl1 H locs hPF hP hD hS
        have hX := hPF.2.1
        refine lv_pop hx hb dX8_make_86 rfl ?_
        refine lv_aload_n hx hb dX8_make_87 rfl (lv_at hl 1 rfl) ?_
        refine va_get (D := (dC, dI)) (ci := 9) (v := .ref (a 6)) (C := RX8) (T := TX8) (N := 14) hx hb hts in_x_make_X8 hown hK hP 0 rfl rfl 6 (by decide) (hts (.fieldLink RX8 53 "ServiceTree" "inState" "[J") (by decide +kernel)) (fun _ h9 => h9) rfl dX8_make_88 ?_
        refine lv_iconst (v := 0) hx hb dX8_make_91 (by decide) ?_
        refine lv_dup2_11 hx hb dX8_make_92 rfl rfl ?_
        refine va_lald (n := 6) (f := M 9) hx hb hK hP 21 1 rfl rfl (vp_in_nI (n := 0) (by omega) (by omega)) dX8_make_93 ?_
        refine lv_topl (fun x3 ex3 => ?_)
        refine lv_iload hx hb dX8_make_94 (lv_at hl 0 rfl) ?_
        have hFc := mw_free hD hS hA
        refine va_calll (va_runS (As := [.int (nI n)]) (rest := [.long x3, .int 0, .ref (a 6)]) ⟨hx, hb, hml, hown, hts⟩ (c_x_only l dC dI h a e1 cI cJ cO cE L I1 M J n1 N1 g1 sd1 si1 sa1 dl1 (b) (nI n) H.size hX (by omega) ) (va_cwS 1 hts wc_x_make_x_only_78 rfl rfl rfl (by decide +kernel) ⟨Nat.le_of_ble_eq_true rfl, Nat.le_of_ble_eq_true rfl⟩) ⟨fun a9 U g mk q => by obtain ⟨q0, q1, qP, qK, qD, qN⟩ := q; exact ⟨q0, q1, qP, va_K.moved (u := U) (U := U.calling g mk a9) (Vm.Alike.refl U.vm) qK, qD, pw_N.same (u := U) (U := U.calling g mk a9) rfl qN⟩, fun U hU hW => ⟨rfl, by rw [hU], by rw [hU]; exact hP, va_K.moved hW.alike hK, hD.weaken (fun _ _ _ _ => trivial), pw_N.warm hW hN⟩⟩ rfl rfl hl.1 rfl (lv_room (Nat.le_of_ble_eq_true rfl)) dX8_make_96 ⟨Nat.le_of_ble_eq_true rfl, Nat.le_of_ble_eq_true rfl⟩) hS (fun q _ h => hFc q h) hFc (fun r4 u t H1 locs ht hvm hw hB hz1 hk1 hS => ?_)
        replace hP := hB.1
        rw [ht] at hP
        replace hD : va_D A (xW h a e1 cI cJ cO cE L I1 M J n1 N1 g1 sd1 si1 sa1 dl1) := hB.2.weaken (fun _ q _ h9 => hFc q.1 h9)
        clear hB
        generalize H1 = H at hP hS ⊢
        replace hP : va_P (dC, dI) vwCl (xW h a e1 cI cJ cO cE L I1 M J n1 N1 g1 sd1 si1 sa1 dl1) H := hP
        refine lv_lor hx hb dX8_make_99 ?_
        refine lv_topl (fun x5 ex5 => ?_)
        refine va_last (n := 6) (f := M 9) hx hb hK hP hD hS 21 1 rfl rfl (vp_in_nI (n := 0) (by omega) (by omega)) dX8_make_100 (fun H locs hP hD hS => ?_)
        rw [xM_9] at hP hD
        obtain ⟨M6, eM6⟩ : ∃ f9 : Nat → Nat → Int64, f9 = va_up M 9 (vp_updL (M 9) (0 : Int32).toNatClampNeg x5) := ⟨_, rfl⟩
        rw [← eM6] at hP hD
        refine lv_iload hx hb dX8_make_101 (lv_at hl 0 rfl) ?_
        rw [hQ]
        exact W.iret (v := (nI n)) hx hb hr (fun t ht hW => ⟨⟨(nI n), (n1, e1, N1, g1, sd1, I1, M6, si1, sa1, dl1), rfl, Or.inl ⟨hMK, h40, rfl, hPF⟩, by rw [ht]; exact hP, hD⟩, hS.F ht⟩) hS.2.2 dX8_make_103
      have jn85 : ∀ (e1 N : Nat) (g : Nat → Option Nat) (H : Heap) (locs : List Loc), (n < N ∧ N < 100) → ((∀ i : Nat, i < n → g i = fE i) ∧ g n = some q) → va_P (dC, dI) vwCl (X ++ [(a 0, .inr (0, [.int (I 5 + 1), .ref e1, .int (nI (n + 1))])), (e1, .inl (cE, N, .inr (.inr (.inr (.inr g))))), (q, .inr (8, [.int p0, .int p1, .int p2, .ref l0, .ref l1, .ref l2, .int 0, .int w9, .int 0, .int 0, .int 0, .int 0]))]) H → va_D A (X ++ [(a 0, .inr (0, [.int (I 5 + 1), .ref e1, .int (nI (n + 1))])), (e1, .inl (cE, N, .inr (.inr (.inr (.inr g))))), (q, .inr (8, [.int p0, .int p1, .int p2, .ref l0, .ref l1, .ref l2, .int 0, .int w9, .int 0, .int 0, .int 0, .int 0]))]) → va_S A s.heap H locs → W p l e9 (headSpec wq_x_make rm_x_make).room s m ([.ref h, .int p0, .int p1, .int p2] : List Value).toArray below meth c H locs 7 261 Q0 (F0 m 86 ls [.int 1]) := by
        intro e1 N g H locs hN2 hg hP hD hS
        rw [hXd] at hP hD
        replace hP := xq_perm (xp_2 (h, .inr (9, [.ref (a 0), .ref (a 1), .ref (a 2), .ref (a 3), .ref (a 4), .ref (a 5), .ref (a 6), .long (L 0), .long (L 1), .int (I 0), .int (I 1), .int (I 2), .int (I 3), .int (I 4)])) (a 0, .inr (0, [.int (I 5 + 1), .ref e1, .int (nI (n + 1))])) (e1, .inl (cE, N, .inr (.inr (.inr (.inr g))))) (q, .inr (8, [.int p0, .int p1, .int p2, .ref l0, .ref l1, .ref l2, .int 0, .int w9, .int 0, .int 0, .int 0, .int 0])) (xF2 a cI cJ cO L I M J) ((List.range (6 * n)).map (xP cI sd si sa dl)) [(l0, .inl (cI, 8, .inl (fun _ => 0))), (l1, .inr (7, [.ref t1, .int 0, .int 0, .int 1, .int 0, .int 1])), (t1, .inl (cI, 10, .inl (fun _ => 0))), (l2, .inr (1, [.ref t2, .int 0, .int 0, .int 0, .int (-1)])), (t2, .inl (cI, dv, .inl (fun _ => 0)))]) hP
        replace hD := xd_perm (xp_2 (h, .inr (9, [.ref (a 0), .ref (a 1), .ref (a 2), .ref (a 3), .ref (a 4), .ref (a 5), .ref (a 6), .long (L 0), .long (L 1), .int (I 0), .int (I 1), .int (I 2), .int (I 3), .int (I 4)])) (a 0, .inr (0, [.int (I 5 + 1), .ref e1, .int (nI (n + 1))])) (e1, .inl (cE, N, .inr (.inr (.inr (.inr g))))) (q, .inr (8, [.int p0, .int p1, .int p2, .ref l0, .ref l1, .ref l2, .int 0, .int w9, .int 0, .int 0, .int 0, .int 0])) (xF2 a cI cJ cO L I M J) ((List.range (6 * n)).map (xP cI sd si sa dl)) [(l0, .inl (cI, 8, .inl (fun _ => 0))), (l1, .inr (7, [.ref t1, .int 0, .int 0, .int 1, .int 0, .int 1])), (t1, .inl (cI, 10, .inl (fun _ => 0))), (l2, .inr (1, [.ref t2, .int 0, .int 0, .int 0, .int (-1)])), (t2, .inl (cI, dv, .inl (fun _ => 0)))]) hD
        rw [xW_add h a e cI cJ cO cE L I M J n cap fE sd si sa dl] at hP hD
        exact jn86 e1 (n + 1) N g _ _ _ _ _ H locs ⟨rfl, xInv_add hX h40 hN2 hg hdv, fun j hj => by rw [va_up_ne _ _ (fun q => hj (by rw [q]; decide)), va_up_ne _ _ (fun q => hj (by rw [q]; decide))], fun s9 q9 h9 => by simp [xsi, h9], fun s9 q9 h9 => by simp [xsa, h9], by simp [xsi], fun i => by simp [xsa]⟩ hP hD hS
      rcases Nat.eq_zero_or_pos n with hn0 | hn0
      · rw [show xE n e cap cE fE = [] from if_pos hn0, hz0 hn0, hn0] at hP hD
        replace hP : va_P (dC, dI) vwCl (X ++ [(a 0, .inr (0, [.int (I 5), .ref z, .int 0])), (q, .inr (8, [.int p0, .int p1, .int p2, .ref l0, .ref l1, .ref l2, .int 0, .int w9, .int 0, .int 0, .int 0, .int 0]))]) H := hP
        replace hD : va_D A (X ++ [(a 0, .inr (0, [.int (I 5), .ref z, .int 0])), (q, .inr (8, [.int p0, .int p1, .int p2, .ref l0, .ref l1, .ref l2, .int 0, .int w9, .int 0, .int 0, .int 0, .int 0]))]) := hD
        have hPc := xq_right hP
        have hDc := xd_right hD
        have hKc := hK.sub (tys' := []) [] rfl
        have hFc := xj_free hD hS hA
        refine va_calli (va_runV (As := [.ref q]) (rest := []) ⟨hx, hb, hml, hown, hts⟩ (c_l_addC l dC dI (a 0) (I 5) z fE q [.int p0, .int p1, .int p2, .ref l0, .ref l1, .ref l2, .int 0, .int w9, .int 0, .int 0, .int 0, .int 0] H.size) (cwV 1 hts wc_x_make_l_addC_74 rfl rfl rfl (by decide +kernel) ⟨Nat.le_of_ble_eq_true rfl, Nat.le_of_ble_eq_true rfl⟩) ⟨fun a9 U g9 mk q => by obtain ⟨q0, q1, qP, qK, qD, qN, qZ, qT, qO⟩ := q; exact ⟨q0, q1, qP, va_K.moved (u := U) (U := U.calling g9 mk a9) (Vm.Alike.refl U.vm) qK, qD, pw_N.same (u := U) (U := U.calling g9 mk a9) rfl qN, va_Z.moved (u := U) (U := U.calling g9 mk a9) (Vm.Alike.refl U.vm) qZ, va_T.moved (u := U) (U := U.calling g9 mk a9) (Vm.Alike.refl U.vm) qT, va_AO.moved (u := U) (U := U.calling g9 mk a9) (Vm.Alike.refl U.vm) qO⟩, va_recv hKc hPc (ci := 0) (q0 := 0) rfl rfl, fun U hU hW => ⟨rfl, by rw [hU], by rw [hU]; exact hPc, va_K.moved hW.alike hKc, hDc.weaken (fun _ _ _ _ => trivial), pw_N.warm hW hN, by rw [hU]; exact va_Z.moved hW.alike ((hZ.kept (fun a9 h1 h2 => hS.2.1 a9 h1 h2)).narrow hFc), by rw [hU]; exact va_T.moved hW.alike ((hT.kept (fun a9 h1 h2 => hS.2.1 a9 h1 h2)).narrow hFc), va_AO.moved hW.alike hO⟩⟩ rfl rfl hl.1 rfl (lv_room (Nat.le_of_ble_eq_true rfl)) dX8_make_83 ⟨Nat.le_of_ble_eq_true rfl, Nat.le_of_ble_eq_true rfl⟩) hS (fun q _ h => hFc q h) hFc (fun r u t H1 locs ht hvm hw hB hz1 hk1 hS => ?_)
        obtain ⟨e1, cG, N, g, hN2, hg, hP1, hK1, hD1⟩ := hB
        rw [ht] at hP1
        obtain ⟨hP, hD⟩ := xj_join hP hD hk1 hFc hP1 hD1
        have hK2 := hK.app (va_K.moved hvm.symm hK1)
        replace hK2 : va_K (dC, dI) vwCl [(cI, .int), (cJ, .long), (cO, .array .long), (cE, .object "java/lang/Object"), (cG, .object "java/lang/Object")] s := hK2
        rw [show cG = cE from xK_obj hK2 (k1 := 4) (k2 := 3) rfl rfl] at hP hD
        refine W.widen (k := 7) (n := 261) (by omega) (by omega) ?_
        replace hw : r = 1 := hw
        subst hw
        exact jn85 e1 N g H1 _ (by rw [hn0]; exact hN2) (by rw [hn0]; exact hg) (by rw [hn0]; exact hP) (by rw [hn0]; exact hD) hS
      rw [show xE n e cap cE fE = [(e, .inl (cE, cap, .inr (.inr (.inr (.inr fE)))))] from if_neg (by omega)] at hP hD
      rcases Nat.lt_or_ge n cap with hcap | hcap
      · replace hP : va_P (dC, dI) vwCl (X ++ [(a 0, .inr (0, [.int (I 5), .ref e, .int (nI n)])), (e, .inl (cE, cap, .inr (.inr (.inr (.inr fE))))), (q, .inr (8, [.int p0, .int p1, .int p2, .ref l0, .ref l1, .ref l2, .int 0, .int w9, .int 0, .int 0, .int 0, .int 0]))]) H := hP
        replace hD : va_D A (X ++ [(a 0, .inr (0, [.int (I 5), .ref e, .int (nI n)])), (e, .inl (cE, cap, .inr (.inr (.inr (.inr fE))))), (q, .inr (8, [.int p0, .int p1, .int p2, .ref l0, .ref l1, .ref l2, .int 0, .int w9, .int 0, .int 0, .int 0, .int 0]))]) := hD
        have hPc := xq_right hP
        have hDc := xd_right hD
        have hKc := hK.sub (tys' := [(cE, .object "java/lang/Object")]) [3] rfl
        have hFc := xj_free hD hS hA
        refine va_calli (va_runV (As := [.ref q]) (rest := []) ⟨hx, hb, hml, hown, hts⟩ (c_l_addA l dC dI (a 0) (I 5) e n cap cE fE q [.int p0, .int p1, .int p2, .ref l0, .ref l1, .ref l2, .int 0, .int w9, .int 0, .int 0, .int 0, .int 0] H.size hcap hX.1.2.2.1) (cwV 1 hts wc_x_make_l_addA_74 rfl rfl rfl (by decide +kernel) ⟨Nat.le_of_ble_eq_true rfl, Nat.le_of_ble_eq_true rfl⟩) ⟨fun a9 U g9 mk q => by obtain ⟨q0, q1, qP, qK, qD, qN⟩ := q; exact ⟨q0, q1, qP, va_K.moved (u := U) (U := U.calling g9 mk a9) (Vm.Alike.refl U.vm) qK, qD, pw_N.same (u := U) (U := U.calling g9 mk a9) rfl qN⟩, va_recv hKc hPc (ci := 0) (q0 := 0) rfl rfl, fun U hU hW => ⟨rfl, by rw [hU], by rw [hU]; exact hPc, va_K.moved hW.alike hKc, hDc.weaken (fun _ _ _ _ => trivial), pw_N.warm hW hN⟩⟩ rfl rfl hl.1 rfl (lv_room (Nat.le_of_ble_eq_true rfl)) dX8_make_83 ⟨Nat.le_of_ble_eq_true rfl, Nat.le_of_ble_eq_true rfl⟩) hS (fun q _ h => hFc q h) hFc (fun r u t H1 locs ht hvm hw hB hz1 hk1 hS => ?_)
        obtain ⟨e1, cG, N, g, hN2, hg, hP1, hK1, hD1⟩ := hB
        rw [ht] at hP1
        obtain ⟨hP, hD⟩ := xj_join hP hD hk1 hFc hP1 hD1
        have hK2 := hK.app (va_K.moved hvm.symm hK1)
        replace hK2 : va_K (dC, dI) vwCl [(cI, .int), (cJ, .long), (cO, .array .long), (cE, .object "java/lang/Object"), (cG, .object "java/lang/Object")] s := hK2
        rw [show cG = cE from xK_obj hK2 (k1 := 4) (k2 := 3) rfl rfl] at hP hD
        refine W.widen (k := 7) (n := 261) (by omega) (by omega) ?_
        replace hw : r = 1 := hw
        subst hw
        exact jn85 e1 N g H1 _ hN2 hg hP hD hS
      · have hcn : cap = n := Nat.le_antisymm hcap hX.1.2.1
        rw [hcn] at hP hD
        replace hP : va_P (dC, dI) vwCl (X ++ [(a 0, .inr (0, [.int (I 5), .ref e, .int (nI n)])), (e, .inl (cE, n, .inr (.inr (.inr (.inr fE))))), (q, .inr (8, [.int p0, .int p1, .int p2, .ref l0, .ref l1, .ref l2, .int 0, .int w9, .int 0, .int 0, .int 0, .int 0]))]) H := hP
        replace hD : va_D A (X ++ [(a 0, .inr (0, [.int (I 5), .ref e, .int (nI n)])), (e, .inl (cE, n, .inr (.inr (.inr (.inr fE))))), (q, .inr (8, [.int p0, .int p1, .int p2, .ref l0, .ref l1, .ref l2, .int 0, .int w9, .int 0, .int 0, .int 0, .int 0]))]) := hD
        have hPc := xq_right hP
        have hDc := xd_right hD
        have hKc := hK.sub (tys' := [(cE, .object "java/lang/Object")]) [3] rfl
        have hFc := xj_free hD hS hA
        have hLc : xL mi fE n (va_A [(a 0, .inr (0, [.int (I 5), .ref e, .int (nI n)])), (e, .inl (cE, n, .inr (.inr (.inr (.inr fE))))), (q, .inr (8, [.int p0, .int p1, .int p2, .ref l0, .ref l1, .ref l2, .int 0, .int w9, .int 0, .int 0, .int 0, .int 0]))] H.size) s H := by
          refine ⟨hMi, hDc0, hO, fun i hi y hy => ?_⟩
          rw [hX.1.2.2.2.2 i hi] at hy
          cases hy
          have hmem : xP cI sd si sa dl (6 * i + 0) ∈ X := by rw [hXd]; exact List.mem_append_left _ (List.mem_cons_of_mem _ (List.mem_append_right _ (List.mem_map.mpr ⟨6 * i + 0, List.mem_range.mpr (by omega), rfl⟩)))
          rw [xP_0] at hmem
          obtain ⟨j, hj⟩ := List.getElem?_of_mem hmem
          obtain ⟨r9, hr9, cv, g1, g2, g3, -⟩ := hP j _ (xq_al hj)
          exact ⟨⟨cv, g1, by rw [g3]; rfl, by rw [g2]; exact (hK.1 8 _ rfl).2.1⟩, (xj_out hP hD j _ hj).2⟩
        refine va_calli (va_runV (As := [.ref q]) (rest := []) ⟨hx, hb, hml, hown, hts⟩ (c_l_addB l dC dI (a 0) (I 5) e mi n cE fE q [.int p0, .int p1, .int p2, .ref l0, .ref l1, .ref l2, .int 0, .int w9, .int 0, .int 0, .int 0, .int 0] H.size hn0 (by omega)) (cwV 1 hts wc_x_make_l_addB_74 rfl rfl rfl (by decide +kernel) ⟨Nat.le_of_ble_eq_true rfl, Nat.le_of_ble_eq_true rfl⟩) ⟨fun a9 U g9 mk q => by obtain ⟨q0, q1, qP, qK, qD, qN, qL⟩ := q; exact ⟨q0, q1, qP, va_K.moved (u := U) (U := U.calling g9 mk a9) (Vm.Alike.refl U.vm) qK, qD, pw_N.same (u := U) (U := U.calling g9 mk a9) rfl qN, xL.moved (u := U) (U := U.calling g9 mk a9) (Vm.Alike.refl U.vm) qL⟩, va_recv hKc hPc (ci := 0) (q0 := 0) rfl rfl, fun U hU hW => ⟨rfl, by rw [hU], by rw [hU]; exact hPc, va_K.moved hW.alike hKc, hDc.weaken (fun _ _ _ _ => trivial), pw_N.warm hW hN, by rw [hU]; exact xL.moved hW.alike hLc⟩⟩ rfl rfl hl.1 rfl (lv_room (Nat.le_of_ble_eq_true rfl)) dX8_make_83 ⟨Nat.le_of_ble_eq_true rfl, Nat.le_of_ble_eq_true rfl⟩) hS (fun q _ h => hFc q h) hFc (fun r u t H1 locs ht hvm hw hB hz1 hk1 hS => ?_)
        obtain ⟨e1, cG, N, g, hN2, hg, hP1, hK1, hD1⟩ := hB
        rw [ht] at hP1
        obtain ⟨hP, hD⟩ := xj_join hP hD hk1 hFc hP1 hD1
        have hK2 := hK.app (va_K.moved hvm.symm hK1)
        replace hK2 : va_K (dC, dI) vwCl [(cI, .int), (cJ, .long), (cO, .array .long), (cE, .object "java/lang/Object"), (cG, .object "java/lang/Object")] s := hK2
        rw [show cG = cE from xK_obj hK2 (k1 := 4) (k2 := 3) rfl rfl] at hP hD
        refine W.widen (k := 7) (n := 261) (by omega) (by omega) ?_
        replace hw : r = 1 := hw
        subst hw
        exact jn85 e1 N g H1 _ hN2 hg hP hD hS
    · replace c2 : ¬ (n < 40) := fun q9 => c2 ((nI_ltI (a := n) (b := 40) (by omega) (by omega)).mpr q9)
      refine lv_bipush (v := (-6)) hx hb dX8_make_62 (by decide) ?_
      rw [hQ]
      refine W.widen (k := 7) (n := 261) (by omega) (by omega) ?_
      exact W.iret (v := (-6)) hx hb hr (fun t ht hW => ⟨⟨(-6), (n, e, cap, fE, sd, I, M, si, sa, dl), rfl, Or.inr ⟨Or.inr (by omega), (if_pos hMK).symm, rfl⟩, by rw [ht]; exact hP, hD⟩, hS.F ht⟩) hS.2.2 dX8_make_64
  refine lv_iload_n hx hb dX8_make_0 rfl (lv_at hl 1 rfl) ?_
  refine lv_iconst (v := 0) hx hb dX8_make_1 (by decide) ?_
  refine lv_iconst (v := 3) hx hb dX8_make_2 (by decide) ?_
  have hFc := mw_free hD hS hA
  refine va_calli (va_runS (As := [.int p0, .int 0, .int 3]) (rest := []) ⟨hx, hb, hml, hown, hts⟩ (c_x_within l dC dI h a e cI cJ cO cE L I M J n cap fE sd si sa dl (b) p0 0 3 s.heap.size hX (by omega) ) (va_cwS 3 hts wc_x_make_x_within_57 rfl rfl rfl (by decide +kernel) ⟨Nat.le_of_ble_eq_true rfl, Nat.le_of_ble_eq_true rfl⟩) ⟨fun a9 U g mk q => by obtain ⟨q0, q1, qP, qK, qD, qN⟩ := q; exact ⟨q0, q1, qP, va_K.moved (u := U) (U := U.calling g mk a9) (Vm.Alike.refl U.vm) qK, qD, pw_N.same (u := U) (U := U.calling g mk a9) rfl qN⟩, fun U hU hW => ⟨rfl, by rw [hU], by rw [hU]; exact hP, va_K.moved hW.alike hK, hD.weaken (fun _ _ _ _ => trivial), pw_N.warm hW hN⟩⟩ rfl rfl hl.1 rfl (lv_room (Nat.le_of_ble_eq_true rfl)) dX8_make_3 ⟨Nat.le_of_ble_eq_true rfl, Nat.le_of_ble_eq_true rfl⟩) hS (fun q _ h => hFc q h) hFc (fun r7 u t H1 locs ht hvm hw hB hz1 hk1 hS => ?_)
  replace hP := hB.1
  rw [ht] at hP
  replace hD : va_D A (xW h a e cI cJ cO cE L I M J n cap fE sd si sa dl) := hB.2.weaken (fun _ q _ h9 => hFc q.1 h9)
  clear hB
  generalize H1 = H at hP hS ⊢
  replace hP : va_P (dC, dI) vwCl (xW h a e cI cJ cO cE L I M J n cap fE sd si sa dl) H := hP
  rcases hw with ⟨rfl, haj8, hbj8⟩ | ⟨rfl, noj8⟩
  · refine lv_if_ne (tgt := 11) hx hb dX8_make_6 (by decide) (fun _ => ?_) (fun c9 => absurd c9 (by decide))
    refine lv_iload_n hx hb dX8_make_11 rfl (lv_at hl 1 rfl) ?_
    refine lv_iconst (v := 3) hx hb dX8_make_12 (by decide) ?_
    refine lv_icmp_ne (tgt := 20) hx hb dX8_make_13 (by decide) (fun c9 => ?_) (fun c9 => ?_)
    · refine lv_bipush (v := 50) hx hb dX8_make_20 (by decide) ?_
      refine lv_istore (lv' := [(4, .int 50), (0, .ref h), (1, .int p0), (2, .int p1), (3, .int p2)]) hx hb dX8_make_22 hl (by decide) rfl (fun ls hl => ?_)
      refine lv_iload_n hx hb dX8_make_24 rfl (lv_at hl 3 rfl) ?_
      refine lv_iconst (v := 0) hx hb dX8_make_25 (by decide) ?_
      refine lv_iload hx hb dX8_make_26 (lv_at hl 0 rfl) ?_
      have hFc := mw_free hD hS hA
      refine va_calli (va_runS (As := [.int p1, .int 0, .int 50]) (rest := []) ⟨hx, hb, hml, hown, hts⟩ (c_x_within l dC dI h a e cI cJ cO cE L I M J n cap fE sd si sa dl (b) p1 0 50 H.size hX (by omega) ) (va_cwS 3 hts wc_x_make_x_within_57 rfl rfl rfl (by decide +kernel) ⟨Nat.le_of_ble_eq_true rfl, Nat.le_of_ble_eq_true rfl⟩) ⟨fun a9 U g mk q => by obtain ⟨q0, q1, qP, qK, qD, qN⟩ := q; exact ⟨q0, q1, qP, va_K.moved (u := U) (U := U.calling g mk a9) (Vm.Alike.refl U.vm) qK, qD, pw_N.same (u := U) (U := U.calling g mk a9) rfl qN⟩, fun U hU hW => ⟨rfl, by rw [hU], by rw [hU]; exact hP, va_K.moved hW.alike hK, hD.weaken (fun _ _ _ _ => trivial), pw_N.warm hW hN⟩⟩ rfl rfl hl.1 rfl (lv_room (Nat.le_of_ble_eq_true rfl)) dX8_make_28 ⟨Nat.le_of_ble_eq_true rfl, Nat.le_of_ble_eq_true rfl⟩) hS (fun q _ h => hFc q h) hFc (fun r10 u t H1 locs ht hvm hw hB hz1 hk1 hS => ?_)
      replace hP := hB.1
      rw [ht] at hP
      replace hD : va_D A (xW h a e cI cJ cO cE L I M J n cap fE sd si sa dl) := hB.2.weaken (fun _ q _ h9 => hFc q.1 h9)
      clear hB
      generalize H1 = H at hP hS ⊢
      replace hP : va_P (dC, dI) vwCl (xW h a e cI cJ cO cE L I M J n cap fE sd si sa dl) H := hP
      rcases hw with ⟨rfl, haj11, hbj11⟩ | ⟨rfl, noj11⟩
      · refine lv_if_eq (tgt := 44) hx hb dX8_make_31 (by decide) (fun c9 => absurd c9 (by decide)) (fun _ => ?_)
        refine lv_iload_n hx hb dX8_make_34 rfl (lv_at hl 4 rfl) ?_
        refine lv_iconst (v := 0) hx hb dX8_make_35 (by decide) ?_
        refine lv_iload hx hb dX8_make_36 (lv_at hl 0 rfl) ?_
        have hFc := mw_free hD hS hA
        refine va_calli (va_runS (As := [.int p2, .int 0, .int 50]) (rest := []) ⟨hx, hb, hml, hown, hts⟩ (c_x_within l dC dI h a e cI cJ cO cE L I M J n cap fE sd si sa dl (b) p2 0 50 H.size hX (by omega) ) (va_cwS 3 hts wc_x_make_x_within_57 rfl rfl rfl (by decide +kernel) ⟨Nat.le_of_ble_eq_true rfl, Nat.le_of_ble_eq_true rfl⟩) ⟨fun a9 U g mk q => by obtain ⟨q0, q1, qP, qK, qD, qN⟩ := q; exact ⟨q0, q1, qP, va_K.moved (u := U) (U := U.calling g mk a9) (Vm.Alike.refl U.vm) qK, qD, pw_N.same (u := U) (U := U.calling g mk a9) rfl qN⟩, fun U hU hW => ⟨rfl, by rw [hU], by rw [hU]; exact hP, va_K.moved hW.alike hK, hD.weaken (fun _ _ _ _ => trivial), pw_N.warm hW hN⟩⟩ rfl rfl hl.1 rfl (lv_room (Nat.le_of_ble_eq_true rfl)) dX8_make_38 ⟨Nat.le_of_ble_eq_true rfl, Nat.le_of_ble_eq_true rfl⟩) hS (fun q _ h => hFc q h) hFc (fun r12 u t H1 locs ht hvm hw hB hz1 hk1 hS => ?_)
        replace hP := hB.1
        rw [ht] at hP
        replace hD : va_D A (xW h a e cI cJ cO cE L I M J n cap fE sd si sa dl) := hB.2.weaken (fun _ q _ h9 => hFc q.1 h9)
        clear hB
        generalize H1 = H at hP hS ⊢
        replace hP : va_P (dC, dI) vwCl (xW h a e cI cJ cO cE L I M J n cap fE sd si sa dl) H := hP
        rcases hw with ⟨rfl, haj13, hbj13⟩ | ⟨rfl, noj13⟩
        · refine lv_if_ne (tgt := 46) hx hb dX8_make_41 (by decide) (fun _ => ?_) (fun c9 => absurd c9 (by decide))
          exact jn46 (by have k0 := haj8; have k1 := hbj8; have k2 := c9; have k3 := haj11; have k4 := hbj11; have k5 := haj13; have k6 := hbj13; simp only [p1_le, p1_lt, p1_eq, p1_m6, p1_m1, p1_0, p1_1, p1_2, p1_3, p1_4, p1_5, p1_6, p1_7, p1_8, p1_9, p1_10, p1_11, p1_12, p1_13, p1_14, p1_15, p1_16, p1_17, p1_18, p1_19, p1_20, p1_40, p1_50, p1_200, p1_1000] at k0 k1 k2 k3 k4 k5 k6 ⊢; omega) _ _ _ hP hD hS (lv_sub hl [1, 2, 3, 4] rfl)
        · refine lv_if_ne (tgt := 46) hx hb dX8_make_41 (by decide) (fun c9 => absurd (by decide) c9) (fun _ => ?_)
          refine lv_iconst (v := (-1)) hx hb dX8_make_44 (by decide) ?_
          rw [hQ]
          refine W.widen (k := 7) (n := 261) (by omega) (by omega) ?_
          exact W.iret (v := (-1)) hx hb hr (fun t ht hW => ⟨⟨(-1), (n, e, cap, fE, sd, I, M, si, sa, dl), rfl, Or.inr ⟨Or.inl (by have k0 := haj8; have k1 := hbj8; have k2 := c9; have k3 := haj11; have k4 := hbj11; have k5 := noj13; simp only [p1_le, p1_lt, p1_eq, p1_m6, p1_m1, p1_0, p1_1, p1_2, p1_3, p1_4, p1_5, p1_6, p1_7, p1_8, p1_9, p1_10, p1_11, p1_12, p1_13, p1_14, p1_15, p1_16, p1_17, p1_18, p1_19, p1_20, p1_40, p1_50, p1_200, p1_1000] at k0 k1 k2 k3 k4 k5 ⊢; omega), (if_neg (by have k0 := haj8; have k1 := hbj8; have k2 := c9; have k3 := haj11; have k4 := hbj11; have k5 := noj13; simp only [p1_le, p1_lt, p1_eq, p1_m6, p1_m1, p1_0, p1_1, p1_2, p1_3, p1_4, p1_5, p1_6, p1_7, p1_8, p1_9, p1_10, p1_11, p1_12, p1_13, p1_14, p1_15, p1_16, p1_17, p1_18, p1_19, p1_20, p1_40, p1_50, p1_200, p1_1000] at k0 k1 k2 k3 k4 k5 ⊢; omega)).symm, rfl⟩, by rw [ht]; exact hP, hD⟩, hS.F ht⟩) hS.2.2 dX8_make_45
      · refine lv_if_eq (tgt := 44) hx hb dX8_make_31 (by decide) (fun _ => ?_) (fun c9 => absurd (by decide) c9)
        refine lv_iconst (v := (-1)) hx hb dX8_make_44 (by decide) ?_
        rw [hQ]
        refine W.widen (k := 7) (n := 261) (by omega) (by omega) ?_
        exact W.iret (v := (-1)) hx hb hr (fun t ht hW => ⟨⟨(-1), (n, e, cap, fE, sd, I, M, si, sa, dl), rfl, Or.inr ⟨Or.inl (by have k0 := haj8; have k1 := hbj8; have k2 := c9; have k3 := noj11; simp only [p1_le, p1_lt, p1_eq, p1_m6, p1_m1, p1_0, p1_1, p1_2, p1_3, p1_4, p1_5, p1_6, p1_7, p1_8, p1_9, p1_10, p1_11, p1_12, p1_13, p1_14, p1_15, p1_16, p1_17, p1_18, p1_19, p1_20, p1_40, p1_50, p1_200, p1_1000] at k0 k1 k2 k3 ⊢; omega), (if_neg (by have k0 := haj8; have k1 := hbj8; have k2 := c9; have k3 := noj11; simp only [p1_le, p1_lt, p1_eq, p1_m6, p1_m1, p1_0, p1_1, p1_2, p1_3, p1_4, p1_5, p1_6, p1_7, p1_8, p1_9, p1_10, p1_11, p1_12, p1_13, p1_14, p1_15, p1_16, p1_17, p1_18, p1_19, p1_20, p1_40, p1_50, p1_200, p1_1000] at k0 k1 k2 k3 ⊢; omega)).symm, rfl⟩, by rw [ht]; exact hP, hD⟩, hS.F ht⟩) hS.2.2 dX8_make_45
    · refine lv_iconst (v := 0) hx hb dX8_make_16 (by decide) ?_
      refine lv_goto (tgt := 22) hx hb dX8_make_17 (by decide) ?_
      refine lv_istore (lv' := [(4, .int 0), (0, .ref h), (1, .int p0), (2, .int p1), (3, .int p2)]) hx hb dX8_make_22 hl (by decide) rfl (fun ls hl => ?_)
      refine lv_iload_n hx hb dX8_make_24 rfl (lv_at hl 3 rfl) ?_
      refine lv_iconst (v := 0) hx hb dX8_make_25 (by decide) ?_
      refine lv_iload hx hb dX8_make_26 (lv_at hl 0 rfl) ?_
      have hFc := mw_free hD hS hA
      refine va_calli (va_runS (As := [.int p1, .int 0, .int 0]) (rest := []) ⟨hx, hb, hml, hown, hts⟩ (c_x_within l dC dI h a e cI cJ cO cE L I M J n cap fE sd si sa dl (b) p1 0 0 H.size hX (by omega) ) (va_cwS 3 hts wc_x_make_x_within_57 rfl rfl rfl (by decide +kernel) ⟨Nat.le_of_ble_eq_true rfl, Nat.le_of_ble_eq_true rfl⟩) ⟨fun a9 U g mk q => by obtain ⟨q0, q1, qP, qK, qD, qN⟩ := q; exact ⟨q0, q1, qP, va_K.moved (u := U) (U := U.calling g mk a9) (Vm.Alike.refl U.vm) qK, qD, pw_N.same (u := U) (U := U.calling g mk a9) rfl qN⟩, fun U hU hW => ⟨rfl, by rw [hU], by rw [hU]; exact hP, va_K.moved hW.alike hK, hD.weaken (fun _ _ _ _ => trivial), pw_N.warm hW hN⟩⟩ rfl rfl hl.1 rfl (lv_room (Nat.le_of_ble_eq_true rfl)) dX8_make_28 ⟨Nat.le_of_ble_eq_true rfl, Nat.le_of_ble_eq_true rfl⟩) hS (fun q _ h => hFc q h) hFc (fun r14 u t H1 locs ht hvm hw hB hz1 hk1 hS => ?_)
      replace hP := hB.1
      rw [ht] at hP
      replace hD : va_D A (xW h a e cI cJ cO cE L I M J n cap fE sd si sa dl) := hB.2.weaken (fun _ q _ h9 => hFc q.1 h9)
      clear hB
      generalize H1 = H at hP hS ⊢
      replace hP : va_P (dC, dI) vwCl (xW h a e cI cJ cO cE L I M J n cap fE sd si sa dl) H := hP
      rcases hw with ⟨rfl, haj15, hbj15⟩ | ⟨rfl, noj15⟩
      · refine lv_if_eq (tgt := 44) hx hb dX8_make_31 (by decide) (fun c9 => absurd c9 (by decide)) (fun _ => ?_)
        refine lv_iload_n hx hb dX8_make_34 rfl (lv_at hl 4 rfl) ?_
        refine lv_iconst (v := 0) hx hb dX8_make_35 (by decide) ?_
        refine lv_iload hx hb dX8_make_36 (lv_at hl 0 rfl) ?_
        have hFc := mw_free hD hS hA
        refine va_calli (va_runS (As := [.int p2, .int 0, .int 0]) (rest := []) ⟨hx, hb, hml, hown, hts⟩ (c_x_within l dC dI h a e cI cJ cO cE L I M J n cap fE sd si sa dl (b) p2 0 0 H.size hX (by omega) ) (va_cwS 3 hts wc_x_make_x_within_57 rfl rfl rfl (by decide +kernel) ⟨Nat.le_of_ble_eq_true rfl, Nat.le_of_ble_eq_true rfl⟩) ⟨fun a9 U g mk q => by obtain ⟨q0, q1, qP, qK, qD, qN⟩ := q; exact ⟨q0, q1, qP, va_K.moved (u := U) (U := U.calling g mk a9) (Vm.Alike.refl U.vm) qK, qD, pw_N.same (u := U) (U := U.calling g mk a9) rfl qN⟩, fun U hU hW => ⟨rfl, by rw [hU], by rw [hU]; exact hP, va_K.moved hW.alike hK, hD.weaken (fun _ _ _ _ => trivial), pw_N.warm hW hN⟩⟩ rfl rfl hl.1 rfl (lv_room (Nat.le_of_ble_eq_true rfl)) dX8_make_38 ⟨Nat.le_of_ble_eq_true rfl, Nat.le_of_ble_eq_true rfl⟩) hS (fun q _ h => hFc q h) hFc (fun r16 u t H1 locs ht hvm hw hB hz1 hk1 hS => ?_)
        replace hP := hB.1
        rw [ht] at hP
        replace hD : va_D A (xW h a e cI cJ cO cE L I M J n cap fE sd si sa dl) := hB.2.weaken (fun _ q _ h9 => hFc q.1 h9)
        clear hB
        generalize H1 = H at hP hS ⊢
        replace hP : va_P (dC, dI) vwCl (xW h a e cI cJ cO cE L I M J n cap fE sd si sa dl) H := hP
        rcases hw with ⟨rfl, haj17, hbj17⟩ | ⟨rfl, noj17⟩
        · refine lv_if_ne (tgt := 46) hx hb dX8_make_41 (by decide) (fun _ => ?_) (fun c9 => absurd c9 (by decide))
          exact jn46 (by have k0 := haj8; have k1 := hbj8; have k2 := c9; have k3 := haj15; have k4 := hbj15; have k5 := haj17; have k6 := hbj17; simp only [p1_le, p1_lt, p1_eq, p1_m6, p1_m1, p1_0, p1_1, p1_2, p1_3, p1_4, p1_5, p1_6, p1_7, p1_8, p1_9, p1_10, p1_11, p1_12, p1_13, p1_14, p1_15, p1_16, p1_17, p1_18, p1_19, p1_20, p1_40, p1_50, p1_200, p1_1000] at k0 k1 k2 k3 k4 k5 k6 ⊢; omega) _ _ _ hP hD hS (lv_sub hl [1, 2, 3, 4] rfl)
        · refine lv_if_ne (tgt := 46) hx hb dX8_make_41 (by decide) (fun c9 => absurd (by decide) c9) (fun _ => ?_)
          refine lv_iconst (v := (-1)) hx hb dX8_make_44 (by decide) ?_
          rw [hQ]
          refine W.widen (k := 7) (n := 261) (by omega) (by omega) ?_
          exact W.iret (v := (-1)) hx hb hr (fun t ht hW => ⟨⟨(-1), (n, e, cap, fE, sd, I, M, si, sa, dl), rfl, Or.inr ⟨Or.inl (by have k0 := haj8; have k1 := hbj8; have k2 := c9; have k3 := haj15; have k4 := hbj15; have k5 := noj17; simp only [p1_le, p1_lt, p1_eq, p1_m6, p1_m1, p1_0, p1_1, p1_2, p1_3, p1_4, p1_5, p1_6, p1_7, p1_8, p1_9, p1_10, p1_11, p1_12, p1_13, p1_14, p1_15, p1_16, p1_17, p1_18, p1_19, p1_20, p1_40, p1_50, p1_200, p1_1000] at k0 k1 k2 k3 k4 k5 ⊢; omega), (if_neg (by have k0 := haj8; have k1 := hbj8; have k2 := c9; have k3 := haj15; have k4 := hbj15; have k5 := noj17; simp only [p1_le, p1_lt, p1_eq, p1_m6, p1_m1, p1_0, p1_1, p1_2, p1_3, p1_4, p1_5, p1_6, p1_7, p1_8, p1_9, p1_10, p1_11, p1_12, p1_13, p1_14, p1_15, p1_16, p1_17, p1_18, p1_19, p1_20, p1_40, p1_50, p1_200, p1_1000] at k0 k1 k2 k3 k4 k5 ⊢; omega)).symm, rfl⟩, by rw [ht]; exact hP, hD⟩, hS.F ht⟩) hS.2.2 dX8_make_45
      · refine lv_if_eq (tgt := 44) hx hb dX8_make_31 (by decide) (fun _ => ?_) (fun c9 => absurd (by decide) c9)
        refine lv_iconst (v := (-1)) hx hb dX8_make_44 (by decide) ?_
        rw [hQ]
        refine W.widen (k := 7) (n := 261) (by omega) (by omega) ?_
        exact W.iret (v := (-1)) hx hb hr (fun t ht hW => ⟨⟨(-1), (n, e, cap, fE, sd, I, M, si, sa, dl), rfl, Or.inr ⟨Or.inl (by have k0 := haj8; have k1 := hbj8; have k2 := c9; have k3 := noj15; simp only [p1_le, p1_lt, p1_eq, p1_m6, p1_m1, p1_0, p1_1, p1_2, p1_3, p1_4, p1_5, p1_6, p1_7, p1_8, p1_9, p1_10, p1_11, p1_12, p1_13, p1_14, p1_15, p1_16, p1_17, p1_18, p1_19, p1_20, p1_40, p1_50, p1_200, p1_1000] at k0 k1 k2 k3 ⊢; omega), (if_neg (by have k0 := haj8; have k1 := hbj8; have k2 := c9; have k3 := noj15; simp only [p1_le, p1_lt, p1_eq, p1_m6, p1_m1, p1_0, p1_1, p1_2, p1_3, p1_4, p1_5, p1_6, p1_7, p1_8, p1_9, p1_10, p1_11, p1_12, p1_13, p1_14, p1_15, p1_16, p1_17, p1_18, p1_19, p1_20, p1_40, p1_50, p1_200, p1_1000] at k0 k1 k2 k3 ⊢; omega)).symm, rfl⟩, by rw [ht]; exact hP, hD⟩, hS.F ht⟩) hS.2.2 dX8_make_45
  · refine lv_if_ne (tgt := 11) hx hb dX8_make_6 (by decide) (fun c9 => absurd (by decide) c9) (fun _ => ?_)
    refine lv_iconst (v := (-1)) hx hb dX8_make_9 (by decide) ?_
    rw [hQ]
    refine W.widen (k := 7) (n := 261) (by omega) (by omega) ?_
    exact W.iret (v := (-1)) hx hb hr (fun t ht hW => ⟨⟨(-1), (n, e, cap, fE, sd, I, M, si, sa, dl), rfl, Or.inr ⟨Or.inl (by have k0 := noj8; simp only [p1_le, p1_lt, p1_eq, p1_m6, p1_m1, p1_0, p1_1, p1_2, p1_3, p1_4, p1_5, p1_6, p1_7, p1_8, p1_9, p1_10, p1_11, p1_12, p1_13, p1_14, p1_15, p1_16, p1_17, p1_18, p1_19, p1_20, p1_40, p1_50, p1_200, p1_1000] at k0 ⊢; omega), (if_neg (by have k0 := noj8; simp only [p1_le, p1_lt, p1_eq, p1_m6, p1_m1, p1_0, p1_1, p1_2, p1_3, p1_4, p1_5, p1_6, p1_7, p1_8, p1_9, p1_10, p1_11, p1_12, p1_13, p1_14, p1_15, p1_16, p1_17, p1_18, p1_19, p1_20, p1_40, p1_50, p1_200, p1_1000] at k0 ⊢; omega)).symm, rfl⟩, by rw [ht]; exact hP, hD⟩, hS.F ht⟩) hS.2.2 dX8_make_10
