theorem dJx4a65c_grow_92f84_0 : decode cJx4a65c_grow_92f84 0 = .ok (.aload_n 0, 1) := by decide +kernel
theorem dJx4a65c_grow_92f84_1 : decode cJx4a65c_grow_92f84 1 = .ok (.getfield 9, 3) := by decide +kernel
theorem dJx4a65c_grow_92f84_4 : decode cJx4a65c_grow_92f84 4 = .ok (.arraylength, 1) := by decide +kernel
theorem dJx4a65c_grow_92f84_5 : decode cJx4a65c_grow_92f84 5 = .ok (.istore_n 2, 1) := by decide +kernel
theorem dJx4a65c_grow_92f84_6 : decode cJx4a65c_grow_92f84 6 = .ok (.iload_n 2, 1) := by decide +kernel
theorem dJx4a65c_grow_92f84_7 : decode cJx4a65c_grow_92f84 7 = .ok (.ifCond .gt 13, 3) := by decide +kernel
theorem dJx4a65c_grow_92f84_10 : decode cJx4a65c_grow_92f84 10 = .ok (.aload_n 0, 1) := by decide +kernel
theorem dJx4a65c_grow_92f84_11 : decode cJx4a65c_grow_92f84 11 = .ok (.getfield 9, 3) := by decide +kernel
theorem dJx4a65c_grow_92f84_14 : decode cJx4a65c_grow_92f84 14 = .ok (.getstatic 39, 3) := by decide +kernel
theorem dJx4a65c_grow_92f84_17 : decode cJx4a65c_grow_92f84 17 = .ok (.if_acmp .eq 28, 3) := by decide +kernel
theorem dJx4a65c_grow_92f84_20 : decode cJx4a65c_grow_92f84 20 = .ok (.iload_n 2, 1) := by decide +kernel
theorem dJx4a65c_grow_92f84_21 : decode cJx4a65c_grow_92f84 21 = .ok (.iload_n 1, 1) := by decide +kernel
theorem dJx4a65c_grow_92f84_22 : decode cJx4a65c_grow_92f84 22 = .ok (.iload_n 2, 1) := by decide +kernel
theorem dJx4a65c_grow_92f84_23 : decode cJx4a65c_grow_92f84 23 = .ok (.isub, 1) := by decide +kernel
theorem dJx4a65c_grow_92f84_24 : decode cJx4a65c_grow_92f84 24 = .ok (.iload_n 2, 1) := by decide +kernel
theorem dJx4a65c_grow_92f84_25 : decode cJx4a65c_grow_92f84 25 = .ok (.iconst 1, 1) := by decide +kernel
theorem dJx4a65c_grow_92f84_26 : decode cJx4a65c_grow_92f84 26 = .ok (.ishr, 1) := by decide +kernel
theorem dJx4a65c_grow_92f84_27 : decode cJx4a65c_grow_92f84 27 = .ok (.invokestatic 73, 3) := by decide +kernel
theorem dJx4a65c_grow_92f84_30 : decode cJx4a65c_grow_92f84 30 = .ok (.istore_n 3, 1) := by decide +kernel
theorem dJx4a65c_grow_92f84_31 : decode cJx4a65c_grow_92f84 31 = .ok (.aload_n 0, 1) := by decide +kernel
theorem dJx4a65c_grow_92f84_32 : decode cJx4a65c_grow_92f84 32 = .ok (.aload_n 0, 1) := by decide +kernel
theorem dJx4a65c_grow_92f84_33 : decode cJx4a65c_grow_92f84 33 = .ok (.getfield 9, 3) := by decide +kernel
theorem dJx4a65c_grow_92f84_36 : decode cJx4a65c_grow_92f84 36 = .ok (.iload_n 3, 1) := by decide +kernel
theorem dJx4a65c_grow_92f84_37 : decode cJx4a65c_grow_92f84 37 = .ok (.invokestatic 66, 3) := by decide +kernel
theorem dJx4a65c_grow_92f84_40 : decode cJx4a65c_grow_92f84 40 = .ok (.dup_x1, 1) := by decide +kernel
theorem dJx4a65c_grow_92f84_41 : decode cJx4a65c_grow_92f84 41 = .ok (.putfield 9, 3) := by decide +kernel
theorem dJx4a65c_grow_92f84_44 : decode cJx4a65c_grow_92f84 44 = .ok (.areturn, 1) := by decide +kernel
theorem dJx4a65c_grow_92f84_45 : decode cJx4a65c_grow_92f84 45 = .ok (.aload_n 0, 1) := by decide +kernel
theorem dJx4a65c_grow_92f84_46 : decode cJx4a65c_grow_92f84 46 = .ok (.bipush 10, 2) := by decide +kernel
theorem dJx4a65c_grow_92f84_48 : decode cJx4a65c_grow_92f84 48 = .ok (.iload_n 1, 1) := by decide +kernel
theorem dJx4a65c_grow_92f84_49 : decode cJx4a65c_grow_92f84 49 = .ok (.invokestatic 79, 3) := by decide +kernel
theorem dJx4a65c_grow_92f84_52 : decode cJx4a65c_grow_92f84 52 = .ok (.anewarray 7, 3) := by decide +kernel
theorem dJx4a65c_grow_92f84_55 : decode cJx4a65c_grow_92f84 55 = .ok (.dup_x1, 1) := by decide +kernel
theorem dJx4a65c_grow_92f84_56 : decode cJx4a65c_grow_92f84 56 = .ok (.putfield 9, 3) := by decide +kernel
theorem dJx4a65c_grow_92f84_59 : decode cJx4a65c_grow_92f84 59 = .ok (.areturn, 1) := by decide +kernel
theorem dJx4a65c_grow_d5877_0 : decode cJx4a65c_grow_d5877 0 = .ok (.aload_n 0, 1) := by decide +kernel
theorem dJx4a65c_grow_d5877_1 : decode cJx4a65c_grow_d5877 1 = .ok (.aload_n 0, 1) := by decide +kernel
theorem dJx4a65c_grow_d5877_2 : decode cJx4a65c_grow_d5877 2 = .ok (.getfield 48, 3) := by decide +kernel
theorem dJx4a65c_grow_d5877_5 : decode cJx4a65c_grow_d5877 5 = .ok (.iconst 1, 1) := by decide +kernel
theorem dJx4a65c_grow_d5877_6 : decode cJx4a65c_grow_d5877 6 = .ok (.iadd, 1) := by decide +kernel
theorem dJx4a65c_grow_d5877_7 : decode cJx4a65c_grow_d5877 7 = .ok (.invokevirtual 69, 3) := by decide +kernel
theorem dJx4a65c_grow_d5877_10 : decode cJx4a65c_grow_d5877 10 = .ok (.areturn, 1) := by decide +kernel
theorem dJx4a65c_add_72be8_0 : decode cJx4a65c_add_72be8 0 = .ok (.iload_n 3, 1) := by decide +kernel
theorem dJx4a65c_add_72be8_1 : decode cJx4a65c_add_72be8 1 = .ok (.aload_n 2, 1) := by decide +kernel
theorem dJx4a65c_add_72be8_2 : decode cJx4a65c_add_72be8 2 = .ok (.arraylength, 1) := by decide +kernel
theorem dJx4a65c_add_72be8_3 : decode cJx4a65c_add_72be8 3 = .ok (.if_icmp .ne 8, 3) := by decide +kernel
theorem dJx4a65c_add_72be8_6 : decode cJx4a65c_add_72be8 6 = .ok (.aload_n 0, 1) := by decide +kernel
theorem dJx4a65c_add_72be8_7 : decode cJx4a65c_add_72be8 7 = .ok (.invokevirtual 129, 3) := by decide +kernel
theorem dJx4a65c_add_72be8_10 : decode cJx4a65c_add_72be8 10 = .ok (.astore_n 2, 1) := by decide +kernel
theorem dJx4a65c_add_72be8_11 : decode cJx4a65c_add_72be8 11 = .ok (.aload_n 2, 1) := by decide +kernel
theorem dJx4a65c_add_72be8_12 : decode cJx4a65c_add_72be8 12 = .ok (.iload_n 3, 1) := by decide +kernel
theorem dJx4a65c_add_72be8_13 : decode cJx4a65c_add_72be8 13 = .ok (.aload_n 1, 1) := by decide +kernel
theorem dJx4a65c_add_72be8_14 : decode cJx4a65c_add_72be8 14 = .ok (.aastore, 1) := by decide +kernel
theorem dJx4a65c_add_72be8_15 : decode cJx4a65c_add_72be8 15 = .ok (.aload_n 0, 1) := by decide +kernel
theorem dJx4a65c_add_72be8_16 : decode cJx4a65c_add_72be8 16 = .ok (.iload_n 3, 1) := by decide +kernel
theorem dJx4a65c_add_72be8_17 : decode cJx4a65c_add_72be8 17 = .ok (.iconst 1, 1) := by decide +kernel
theorem dJx4a65c_add_72be8_18 : decode cJx4a65c_add_72be8 18 = .ok (.iadd, 1) := by decide +kernel
theorem dJx4a65c_add_72be8_19 : decode cJx4a65c_add_72be8 19 = .ok (.putfield 48, 3) := by decide +kernel
theorem dJx4a65c_add_72be8_22 : decode cJx4a65c_add_72be8 22 = .ok (.return_, 1) := by decide +kernel
theorem dJx4a65c_add_9ea2d_0 : decode cJx4a65c_add_9ea2d 0 = .ok (.aload_n 0, 1) := by decide +kernel
theorem dJx4a65c_add_9ea2d_1 : decode cJx4a65c_add_9ea2d 1 = .ok (.dup, 1) := by decide +kernel
theorem dJx4a65c_add_9ea2d_2 : decode cJx4a65c_add_9ea2d 2 = .ok (.getfield 63, 3) := by decide +kernel
theorem dJx4a65c_add_9ea2d_5 : decode cJx4a65c_add_9ea2d 5 = .ok (.iconst 1, 1) := by decide +kernel
theorem dJx4a65c_add_9ea2d_6 : decode cJx4a65c_add_9ea2d 6 = .ok (.iadd, 1) := by decide +kernel
theorem dJx4a65c_add_9ea2d_7 : decode cJx4a65c_add_9ea2d 7 = .ok (.putfield 63, 3) := by decide +kernel
theorem dJx4a65c_add_9ea2d_10 : decode cJx4a65c_add_9ea2d 10 = .ok (.aload_n 0, 1) := by decide +kernel
theorem dJx4a65c_add_9ea2d_11 : decode cJx4a65c_add_9ea2d 11 = .ok (.aload_n 1, 1) := by decide +kernel
theorem dJx4a65c_add_9ea2d_12 : decode cJx4a65c_add_9ea2d 12 = .ok (.aload_n 0, 1) := by decide +kernel
theorem dJx4a65c_add_9ea2d_13 : decode cJx4a65c_add_9ea2d 13 = .ok (.getfield 9, 3) := by decide +kernel
theorem dJx4a65c_add_9ea2d_16 : decode cJx4a65c_add_9ea2d 16 = .ok (.aload_n 0, 1) := by decide +kernel
theorem dJx4a65c_add_9ea2d_17 : decode cJx4a65c_add_9ea2d 17 = .ok (.getfield 48, 3) := by decide +kernel
theorem dJx4a65c_add_9ea2d_20 : decode cJx4a65c_add_9ea2d 20 = .ok (.invokevirtual 131, 3) := by decide +kernel
theorem dJx4a65c_add_9ea2d_23 : decode cJx4a65c_add_9ea2d 23 = .ok (.iconst 1, 1) := by decide +kernel
theorem dJx4a65c_add_9ea2d_24 : decode cJx4a65c_add_9ea2d 24 = .ok (.ireturn, 1) := by decide +kernel
theorem dJ7_copyOf_1904c_0 : decode cJ7_copyOf_1904c 0 = .ok (.aload_n 0, 1) := by decide +kernel
theorem dJ7_copyOf_1904c_1 : decode cJ7_copyOf_1904c 1 = .ok (.iload_n 1, 1) := by decide +kernel
theorem dJ7_copyOf_1904c_2 : decode cJ7_copyOf_1904c 2 = .ok (.aload_n 0, 1) := by decide +kernel
theorem dJ7_copyOf_1904c_3 : decode cJ7_copyOf_1904c 3 = .ok (.invokevirtual 86, 3) := by decide +kernel
theorem dJ7_copyOf_1904c_6 : decode cJ7_copyOf_1904c 6 = .ok (.invokestatic 300, 3) := by decide +kernel
theorem dJ7_copyOf_1904c_9 : decode cJ7_copyOf_1904c 9 = .ok (.areturn, 1) := by decide +kernel
theorem dJ7_copyOf_6403c_0 : decode cJ7_copyOf_6403c 0 = .ok (.aload_n 2, 1) := by decide +kernel
theorem dJ7_copyOf_6403c_1 : decode cJ7_copyOf_6403c 1 = .ok (.ldc 110, 2) := by decide +kernel
theorem dJ7_copyOf_6403c_3 : decode cJ7_copyOf_6403c 3 = .ok (.if_acmp .ne 10, 3) := by decide +kernel
theorem dJ7_copyOf_6403c_6 : decode cJ7_copyOf_6403c 6 = .ok (.iload_n 1, 1) := by decide +kernel
theorem dJ7_copyOf_6403c_7 : decode cJ7_copyOf_6403c 7 = .ok (.anewarray 2, 3) := by decide +kernel
theorem dJ7_copyOf_6403c_10 : decode cJ7_copyOf_6403c 10 = .ok (.goto 14, 3) := by decide +kernel
theorem dJ7_copyOf_6403c_24 : decode cJ7_copyOf_6403c 24 = .ok (.astore_n 3, 1) := by decide +kernel
theorem dJ7_copyOf_6403c_25 : decode cJ7_copyOf_6403c 25 = .ok (.aload_n 0, 1) := by decide +kernel
theorem dJ7_copyOf_6403c_26 : decode cJ7_copyOf_6403c 26 = .ok (.iconst 0, 1) := by decide +kernel
theorem dJ7_copyOf_6403c_27 : decode cJ7_copyOf_6403c 27 = .ok (.aload_n 3, 1) := by decide +kernel
theorem dJ7_copyOf_6403c_28 : decode cJ7_copyOf_6403c 28 = .ok (.iconst 0, 1) := by decide +kernel
theorem dJ7_copyOf_6403c_29 : decode cJ7_copyOf_6403c 29 = .ok (.aload_n 0, 1) := by decide +kernel
theorem dJ7_copyOf_6403c_30 : decode cJ7_copyOf_6403c 30 = .ok (.arraylength, 1) := by decide +kernel
theorem dJ7_copyOf_6403c_31 : decode cJ7_copyOf_6403c 31 = .ok (.iload_n 1, 1) := by decide +kernel
theorem dJ7_copyOf_6403c_32 : decode cJ7_copyOf_6403c 32 = .ok (.invokestatic 304, 3) := by decide +kernel
theorem dJ7_copyOf_6403c_35 : decode cJ7_copyOf_6403c 35 = .ok (.invokestatic 150, 3) := by decide +kernel
theorem dJ7_copyOf_6403c_38 : decode cJ7_copyOf_6403c 38 = .ok (.aload_n 3, 1) := by decide +kernel
theorem dJ7_copyOf_6403c_39 : decode cJ7_copyOf_6403c 39 = .ok (.areturn, 1) := by decide +kernel
theorem dJ8_newLength_cabcc_0 : decode cJ8_newLength_cabcc 0 = .ok (.iload_n 0, 1) := by decide +kernel
theorem dJ8_newLength_cabcc_1 : decode cJ8_newLength_cabcc 1 = .ok (.iload_n 1, 1) := by decide +kernel
theorem dJ8_newLength_cabcc_2 : decode cJ8_newLength_cabcc 2 = .ok (.iload_n 2, 1) := by decide +kernel
theorem dJ8_newLength_cabcc_3 : decode cJ8_newLength_cabcc 3 = .ok (.invokestatic 194, 3) := by decide +kernel
theorem dJ8_newLength_cabcc_6 : decode cJ8_newLength_cabcc 6 = .ok (.iadd, 1) := by decide +kernel
theorem dJ8_newLength_cabcc_7 : decode cJ8_newLength_cabcc 7 = .ok (.istore_n 3, 1) := by decide +kernel
theorem dJ8_newLength_cabcc_8 : decode cJ8_newLength_cabcc 8 = .ok (.iconst 0, 1) := by decide +kernel
theorem dJ8_newLength_cabcc_9 : decode cJ8_newLength_cabcc 9 = .ok (.iload_n 3, 1) := by decide +kernel
theorem dJ8_newLength_cabcc_10 : decode cJ8_newLength_cabcc 10 = .ok (.if_icmp .ge 11, 3) := by decide +kernel
theorem dJ8_newLength_cabcc_13 : decode cJ8_newLength_cabcc 13 = .ok (.iload_n 3, 1) := by decide +kernel
theorem dJ8_newLength_cabcc_14 : decode cJ8_newLength_cabcc 14 = .ok (.ldc 200, 2) := by decide +kernel
theorem dJ8_newLength_cabcc_16 : decode cJ8_newLength_cabcc 16 = .ok (.if_icmp .gt 5, 3) := by decide +kernel
theorem dJ8_newLength_cabcc_19 : decode cJ8_newLength_cabcc 19 = .ok (.iload_n 3, 1) := by decide +kernel
theorem dJ8_newLength_cabcc_20 : decode cJ8_newLength_cabcc 20 = .ok (.ireturn, 1) := by decide +kernel
/-- what the list's growth leans on: the class object of Object[], and the elements' cells -/
def xL (mi : Nat) (f : Nat → Option Nat) (N : Nat) (A : Nat → Prop) (U : State) (H : Heap) : Prop := va_Mi "[Ljava/lang/Object;" mi U ∧ va_Dc U ∧ va_AO "java/lang/Object" U ∧ ∀ i : Nat, i < N → ∀ y : Nat, f i = some y → (∃ cv : Cell, H[y]? = some cv ∧ cv.vm.isStatics = false ∧ U.vm.findClass RX7 = some cv.cls) ∧ ¬ A y
theorem xL.moved {mi : Nat} {f : Nat → Option Nat} {N : Nat} {A : Nat → Prop} {u U : State} {H : Heap} (hvm : u.vm.Alike U.vm) (h : xL mi f N A u H) : xL mi f N A U H := by
  refine ⟨va_Mi.moved hvm h.1, va_Dc.moved hvm h.2.1, va_AO.moved hvm h.2.2.1, fun i hi y hy => ?_⟩
  obtain ⟨⟨cv, h1, h2, h3⟩, h4⟩ := h.2.2.2 i hi y hy
  exact ⟨⟨cv, h1, h2, by rw [hvm.findClass]; exact h3⟩, h4⟩
theorem xL.kept {mi : Nat} {f : Nat → Option Nat} {N : Nat} {A : Nat → Prop} {U : State} {H H1 : Heap} (h : xL mi f N A U H) (hq : ∀ a : Nat, a < H.size → ¬ A a → H1[a]? = H[a]?) : xL mi f N A U H1 := by
  refine ⟨h.1, h.2.1, h.2.2.1, fun i hi y hy => ?_⟩
  obtain ⟨⟨cv, h1, h2, h3⟩, h4⟩ := h.2.2.2 i hi y hy
  have hlt : y < H.size := by
    rcases Nat.lt_or_ge y H.size with q | q
    · exact q
    · rw [Array.getElem?_eq_none q] at h1; cases h1
  exact ⟨⟨cv, by rw [hq y hlt h4]; exact h1, h2, h3⟩, h4⟩
theorem xL.narrow {mi : Nat} {f : Nat → Option Nat} {N : Nat} {A B : Nat → Prop} {U : State} {H : Heap} (h : xL mi f N A U H) (hAB : ∀ q, B q → A q) : xL mi f N B U H := by
  refine ⟨h.1, h.2.1, h.2.2.1, fun i hi y hy => ?_⟩
  obtain ⟨h1, h4⟩ := h.2.2.2 i hi y hy
  exact ⟨h1, fun q => h4 (hAB y q)⟩
theorem xl_max {g : Nat} (h : g < 100) : ∃ w : Nat, 0 < w ∧ w ≤ g + 1 ∧ (if (1 : Int32) < nI g then nI g else 1) = nI w := by
  by_cases c : 1 < g
  · exact ⟨g, by omega, by omega, if_pos ((nI_ltI (a := 1) (b := g) (by omega) (by omega)).mpr c)⟩
  · exact ⟨1, by omega, by omega, if_neg (fun q => c ((nI_ltI (a := 1) (b := g) (by omega) (by omega)).mp q))⟩
theorem xl_0 : (0 : Int32).toNatClampNeg = 0 := by decide
def wq_l_newLength : List Cond := [.code yJ8_newLength_cabcc cJ8_newLength_cabcc 4 (some .int), .methodLink RJ8 194 Lib.Math.max.name, .static Lib.Math.max.name, .initialized "java/lang/Math", .code Lib.Math.max.name Lib.Math.max.code 2 (some .int), .constant RJ8 200 (2147483639)]
set_option maxRecDepth 20000 in
theorem wi_l_newLength : ∀ w ∈ wq_l_newLength, w ∈ lw_tbl := (by decide +kernel)
set_option maxRecDepth 20000 in
theorem wg_l_newLength : GoodIn wq_l_newLength wq_l_newLength := goodIn_sub (fun _ h => h) (by decide +kernel)
set_option maxHeartbeats 4000000 in
set_option maxRecDepth 100000 in
theorem c_l_newLength (l : Launch) (dC : Nat → ClassId) (dI : Nat → Nat → Nat) (n : Nat) (g : Nat) (sz : Nat) (hp0 : n < 100) (hp1 : g < 100) : Met l yJ8_newLength_cabcc wq_l_newLength ({ frames := 1, cells := 0, slots := 0, locals := 24 }) (va_Pc [.int (nI n), .int 1, .int (nI g)] (fun U => U.heap.size = sz ∧ va_P (dC, dI) vwCl [] U.heap ∧ va_K (dC, dI) vwCl [] U ∧ va_D (fun _ => True) [])) (va_Qi (fun (r : Int32) (_ : Unit) => ∃ w : Nat, 0 < w ∧ w ≤ g + 1 ∧ r = nI (n + w)) (fun (_ : Unit) (t : State) => True) (va_A [] sz)) 0 0 (va_A [] sz) := by
  refine Met.ofW (cc := cJ8_newLength_cabcc) (maxL := 4) (ret := (some .int)) (by decide) rfl ?_
  intro p e s m args below meth c s₁ B hml hv
  obtain ⟨rfl, hsz, hP, hK, hD0⟩ := hv
  have hx := B.exec
  have hb := B.bytes
  have hr := B.returns
  have hts := atoms_spec (ws := wq_l_newLength) B.pre
  have hown : s.vm.findClass RJ8 = some m.cls := findClass_of_methodNamed B.named
  have hlocks := B.notSynchronized
  subst hsz
  have hD := hD0.self (sz := s.heap.size)
  generalize hAe : va_A [] s.heap.size = A at hD ⊢
  have hA : ∀ q : Nat, s.heap.size ≤ q → A q := fun q h => by rw [← hAe]; exact Or.inr h
  have hS : va_S A s.heap s.heap [] := va_S.rf
  have hP : va_P (dC, dI) vwCl [] s.heap := hP
  have hl := lv_entry ([.int (nI n), .int 1, .int (nI g)]) (n := 4) (Nat.le_of_ble_eq_true rfl)
  rw [lg_entry_eq]
  generalize (lg_sl ([.int (nI n), .int 1, .int (nI g)]) ++ List.replicate (4 - (lg_sl ([.int (nI n), .int 1, .int (nI g)])).length) Slot.unset).toArray = ls at hl ⊢
  have hl : lv_has ls 4 [(0, .int (nI n)), (1, .int 1), (2, .int (nI g))] := hl
  refine lv_iload_n hx hb dJ8_newLength_cabcc_0 rfl (lv_at hl 0 rfl) ?_
  refine lv_iload_n hx hb dJ8_newLength_cabcc_1 rfl (lv_at hl 1 rfl) ?_
  refine lv_iload_n hx hb dJ8_newLength_cabcc_2 rfl (lv_at hl 2 rfl) ?_
  refine va_mmax hx hb (by rw [hml]; exact hl.1.symm) hown (hts (.methodLink RJ8 194 Lib.Math.max.name) (by decide +kernel)) (hts (.static Lib.Math.max.name) (by decide +kernel)) (hts (.initialized "java/lang/Math") (by decide +kernel)) (hts (.code Lib.Math.max.name Lib.Math.max.code 2 (some .int)) (by decide +kernel)) (Nat.le_of_ble_eq_true rfl) (Nat.le_of_ble_eq_true rfl) (Nat.le_of_ble_eq_true rfl) (Nat.le_of_ble_eq_true rfl) dJ8_newLength_cabcc_3 ?_
  obtain ⟨w, hw1, hw2, ew⟩ := xl_max hp1
  refine p1_topr (v := .int (nI w)) (congrArg Value.int ew) ?_
  refine lv_iadd hx hb dJ8_newLength_cabcc_6 ?_
  refine p1_topr (v := .int (nI (n + w))) (congrArg Value.int (nI_add n w)) ?_
  refine lv_istore_n (lv' := [(3, .int (nI (n + w))), (0, .int (nI n)), (1, .int 1), (2, .int (nI g))]) hx hb dJ8_newLength_cabcc_7 rfl hl (by decide) rfl (fun ls hl => ?_)
  refine lv_iconst (v := 0) hx hb dJ8_newLength_cabcc_8 (by decide) ?_
  refine lv_iload_n hx hb dJ8_newLength_cabcc_9 rfl (lv_at hl 0 rfl) ?_
  refine lv_icmp_ge (tgt := 21) hx hb dJ8_newLength_cabcc_10 (by decide) (fun c9 => absurd ((nI_leI (a := n + w) (b := 0) (by omega) (by omega)).mp c9) (by omega)) (fun _ => ?_)
  refine lv_iload_n hx hb dJ8_newLength_cabcc_13 rfl (lv_at hl 0 rfl) ?_
  refine lv_ldc (v := 2147483639) hx hb hown (hts (.constant RJ8 200 (2147483639)) (by decide +kernel)) dJ8_newLength_cabcc_14 ?_
  refine lv_icmp_gt (tgt := 21) hx hb dJ8_newLength_cabcc_16 (by decide) (fun c9 => absurd ((nI_ltI (a := 2147483639) (b := n + w) (by omega) (by omega)).mp c9) (by omega)) (fun _ => ?_)
  refine lv_iload_n hx hb dJ8_newLength_cabcc_19 rfl (lv_at hl 0 rfl) ?_
  exact W.iret (v := nI (n + w)) hx hb hr (fun t ht hW => ⟨⟨nI (n + w), (), rfl, ⟨w, hw1, hw2, rfl⟩, trivial⟩, hS.F ht⟩) hS.2.2 dJ8_newLength_cabcc_20
def wq_l_copyOf3 : List Cond := [.code yJ7_copyOf_6403c cJ7_copyOf_6403c 4 (some (.array (.object "java/lang/Object"))), .classLink RJ7 110 "[Ljava/lang/Object;", .classLink RJ7 2 "java/lang/Object", .methodLink RJ7 304 Lib.Math.min.name, .static Lib.Math.min.name, .initialized "java/lang/Math", .code Lib.Math.min.name Lib.Math.min.code 2 (some .int), .methodLink RJ7 150 arraycopyName, .native arraycopyName, .static arraycopyName, .initialized "java/lang/System"]
set_option maxRecDepth 20000 in
theorem wi_l_copyOf3 : ∀ w ∈ wq_l_copyOf3, w ∈ lw_tbl := (by decide +kernel)
set_option maxRecDepth 20000 in
theorem wg_l_copyOf3 : GoodIn wq_l_copyOf3 wq_l_copyOf3 := goodIn_sub (fun _ h => h) (by decide +kernel)
set_option maxHeartbeats 4000000 in
set_option maxRecDepth 100000 in
theorem c_l_copyOf3 (l : Launch) (dC : Nat → ClassId) (dI : Nat → Nat → Nat) (a : Nat) (mi : Nat) (n : Nat) (N : Nat) (cE : ClassId) (f : Nat → Option Nat) (sz : Nat) (hp0 : n < N) (hp1 : N < 200) : Met l yJ7_copyOf_6403c wq_l_copyOf3 ({ frames := 1, cells := 1, slots := 200, locals := 40 }) (va_Pc [.ref a, .int (nI N), .ref mi] (fun U => U.heap.size = sz ∧ va_P (dC, dI) vwCl [(a, .inl (cE, n, .inr (.inr (.inr (.inr f)))))] U.heap ∧ va_K (dC, dI) vwCl [(cE, .object "java/lang/Object")] U ∧ va_D (fun _ => True) [(a, .inl (cE, n, .inr (.inr (.inr (.inr f)))))] ∧ pw_N U ∧ xL mi f n (va_A [(a, .inl (cE, n, .inr (.inr (.inr (.inr f)))))] sz) U U.heap)) (va_Qr (fun (_ : Unit) => True) (fun (_ : Unit) (ra : Nat) (t : State) => ∃ (cG : ClassId) (g : Nat → Option Nat), (∀ i : Nat, i < n → g i = f i) ∧ va_P (dC, dI) vwCl [(a, .inl (cE, n, .inr (.inr (.inr (.inr f))))), (ra, .inl (cG, N, .inr (.inr (.inr (.inr g)))))] t.heap ∧ va_K (dC, dI) vwCl [(cG, .object "java/lang/Object")] t ∧ va_D (va_A [(a, .inl (cE, n, .inr (.inr (.inr (.inr f)))))] sz) [(a, .inl (cE, n, .inr (.inr (.inr (.inr f))))), (ra, .inl (cG, N, .inr (.inr (.inr (.inr g)))))]) (va_A [(a, .inl (cE, n, .inr (.inr (.inr (.inr f)))))] sz)) 1 200 (va_A [(a, .inl (cE, n, .inr (.inr (.inr (.inr f)))))] sz) := by
  refine Met.ofW (cc := cJ7_copyOf_6403c) (maxL := 4) (ret := (some (.array (.object "java/lang/Object")))) (by decide) rfl ?_
  intro p e s m args below meth c s₁ B hml hv
  obtain ⟨rfl, hsz, hP, hK, hD0, hN, hL⟩ := hv
  have hx := B.exec
  have hb := B.bytes
  have hr := B.returns
  have hts := atoms_spec (ws := wq_l_copyOf3) B.pre
  have hown : s.vm.findClass RJ7 = some m.cls := findClass_of_methodNamed B.named
  have hlocks := B.notSynchronized
  subst hsz
  have hD := hD0.self (sz := s.heap.size)
  generalize hAe : va_A [(a, .inl (cE, n, .inr (.inr (.inr (.inr f)))))] s.heap.size = A at hD hL ⊢
  have hA : ∀ q : Nat, s.heap.size ≤ q → A q := fun q h => by rw [← hAe]; exact Or.inr h
  have hS : va_S A s.heap s.heap [] := va_S.rf
  have hP : va_P (dC, dI) vwCl [(a, .inl (cE, n, .inr (.inr (.inr (.inr f)))))] s.heap := hP
  have hl := lv_entry ([.ref a, .int (nI N), .ref mi]) (n := 4) (Nat.le_of_ble_eq_true rfl)
  rw [lg_entry_eq]
  generalize (lg_sl ([.ref a, .int (nI N), .ref mi]) ++ List.replicate (4 - (lg_sl ([.ref a, .int (nI N), .ref mi])).length) Slot.unset).toArray = ls at hl ⊢
  have hl : lv_has ls 4 [(0, .ref a), (1, .int (nI N)), (2, .ref mi)] := hl
  refine lv_aload_n hx hb dJ7_copyOf_6403c_0 rfl (lv_at hl 2 rfl) ?_
  refine va_ldcM hx hb hown (hts (.classLink RJ7 110 "[Ljava/lang/Object;") (by decide +kernel)) hL.1 dJ7_copyOf_6403c_1 ?_
  refine lv_acmp_ne (rx := some mi) (ry := some mi) (tgt := 13) hx hb dJ7_copyOf_6403c_3 (by decide) (fun c9 => absurd rfl c9) (fun _ => ?_)
  refine lv_iload_n hx hb dJ7_copyOf_6403c_6 rfl (lv_at hl 1 rfl) ?_
  refine va_newq (C := "java/lang/Object") (N' := N) hx hb hown (hts (.classLink RJ7 2 "java/lang/Object") (by decide +kernel)) hL.2.2.1 hK hP hD hS hA (nI_pos (by omega)) (nI_clamp (by omega)) (by omega) (Nat.le_of_ble_eq_true rfl) (show 0 + N ≤ 200 by omega) dJ7_copyOf_6403c_7 (fun q cG H hK hP hD hS => ?_)
  replace hP : va_P (dC, dI) vwCl [(a, .inl (cE, n, .inr (.inr (.inr (.inr f))))), (q, .inl (cG, N, .inr (.inr (.inr (.inr (fun _ => none))))))] H := hP
  replace hD : va_D A [(a, .inl (cE, n, .inr (.inr (.inr (.inr f))))), (q, .inl (cG, N, .inr (.inr (.inr (.inr (fun _ => none))))))] := hD
  replace hK : va_K (dC, dI) vwCl [(cE, .object "java/lang/Object"), (cG, .object "java/lang/Object")] s := hK
  refine W.widen (k := 1) (n := 200) (by omega) (by omega) ?_
  refine lv_goto (tgt := 24) hx hb dJ7_copyOf_6403c_10 (by decide) ?_
  refine lv_astore_n (lv' := [(3, .ref q), (0, .ref a), (1, .int (nI N)), (2, .ref mi)]) hx hb dJ7_copyOf_6403c_24 rfl hl (by decide) rfl (fun ls hl => ?_)
  refine lv_aload_n hx hb dJ7_copyOf_6403c_25 rfl (lv_at hl 1 rfl) ?_
  refine lv_iconst (v := 0) hx hb dJ7_copyOf_6403c_26 (by decide) ?_
  refine lv_aload_n hx hb dJ7_copyOf_6403c_27 rfl (lv_at hl 0 rfl) ?_
  refine lv_iconst (v := 0) hx hb dJ7_copyOf_6403c_28 (by decide) ?_
  refine lv_aload_n hx hb dJ7_copyOf_6403c_29 rfl (lv_at hl 1 rfl) ?_
  refine va_alen (v := nI n) hx hb hK hP 0 0 rfl rfl rfl dJ7_copyOf_6403c_30 ?_
  refine lv_iload_n hx hb dJ7_copyOf_6403c_31 rfl (lv_at hl 2 rfl) ?_
  refine va_mmin hx hb (by rw [hml]; exact hl.1.symm) hown (hts (.methodLink RJ7 304 Lib.Math.min.name) (by decide +kernel)) (hts (.static Lib.Math.min.name) (by decide +kernel)) (hts (.initialized "java/lang/Math") (by decide +kernel)) (hts (.code Lib.Math.min.name Lib.Math.min.code 2 (some .int)) (by decide +kernel)) (Nat.le_of_ble_eq_true rfl) (Nat.le_of_ble_eq_true rfl) (Nat.le_of_ble_eq_true rfl) (Nat.le_of_ble_eq_true rfl) dJ7_copyOf_6403c_32 ?_
  refine p1_topr (v := .int (nI n)) (congrArg Value.int (if_neg (fun c9 => absurd ((nI_ltI (a := N) (b := n) (by omega) (by omega)).mp c9) (by omega)))) ?_
  have hL2 := hL.kept (fun a9 h1 h2 => hS.2.1 a9 h1 h2)
  have hca := hN (.castable RX7 "java/lang/Object") (by decide +kernel)
  refine va_copyq (E0 := "java/lang/Object") (E1 := "java/lang/Object") (C := RX7) (f := f) (g := fun _ => none) hx hb (by rw [hml]; exact hl.1.symm) hown (hts (.methodLink RJ7 150 arraycopyName) (by decide +kernel)) (hts (.native arraycopyName) (by decide +kernel)) (hts (.static arraycopyName) (by decide +kernel)) (hts (.initialized "java/lang/System") (by decide +kernel)) hK hP hD hS 0 1 0 1 rfl rfl rfl rfl (by decide) (by decide) (nI_pos (by omega)) (by rw [nI_clamp (show n < 2 ^ 31 by omega), xl_0]; omega) (by rw [nI_clamp (show n < 2 ^ 31 by omega), xl_0]; omega) (fun i9 hi9 y9 hy9 => (hL2.2.2.2 i9 (by rw [nI_clamp (show n < 2 ^ 31 by omega)] at hi9; exact hi9) y9 (by rw [xl_0, Nat.zero_add] at hy9; exact hy9)).1) (fun k1 k2 e1 e2 => by obtain ⟨c0, t1, f1, f2, f3⟩ := Cond.castable_spec (va_Nw.use (A := #[]) rfl hca); cases e1.symm.trans f2; cases e2.symm.trans f1; exact f3) (Nat.le_of_ble_eq_true rfl) (by decide +kernel) dJ7_copyOf_6403c_35 (fun H locs hP hD hS => ?_)
  replace hP : va_P (dC, dI) vwCl [(a, .inl (cE, n, .inr (.inr (.inr (.inr f))))), (q, .inl (cG, N, .inr (.inr (.inr (.inr (va_cpy f (fun _ => none) (0 : Int32).toNatClampNeg (0 : Int32).toNatClampNeg (nI n).toNatClampNeg))))))] H := hP
  replace hD : va_D A [(a, .inl (cE, n, .inr (.inr (.inr (.inr f))))), (q, .inl (cG, N, .inr (.inr (.inr (.inr (va_cpy f (fun _ => none) (0 : Int32).toNatClampNeg (0 : Int32).toNatClampNeg (nI n).toNatClampNeg))))))] := hD
  have hg : ∀ i : Nat, i < n → (va_cpy f (fun _ => none) (0 : Int32).toNatClampNeg (0 : Int32).toNatClampNeg (nI n).toNatClampNeg) i = f i := fun i hi => by rw [pk_cpy_in (by rw [xl_0]; omega) (by rw [nI_clamp (show n < 2 ^ 31 by omega), xl_0]; omega), xl_0]; congr 1; omega
  generalize (va_cpy f (fun _ => none) (0 : Int32).toNatClampNeg (0 : Int32).toNatClampNeg (nI n).toNatClampNeg) = g at hP hD hg
  refine lv_aload_n hx hb dJ7_copyOf_6403c_38 rfl (lv_at hl 0 rfl) ?_
  have hK9 := hK.sub (tys' := [(cG, .object "java/lang/Object")]) [1] rfl
  exact W.aret hx hb hr (Or.inr ⟨_, rfl⟩) (Or.inr ⟨_, rfl⟩) (fun t ht hW => ⟨⟨(), q, rfl, trivial, cG, g, hg, by rw [ht]; exact hP, va_K.moved hW.alike hK9, hD⟩, hS.F ht⟩) hS.2.2 dJ7_copyOf_6403c_39
def wq_l_copyOf2 : List Cond := [.code yJ7_copyOf_1904c cJ7_copyOf_1904c 2 (some (.array (.object "java/lang/Object"))), .methodLink RJ7 86 ⟨"java/lang/Object", "getClass", "()Ljava/lang/Class;"⟩, .selects "[Ljava/lang/Object;" ⟨"java/lang/Object", "getClass", "()Ljava/lang/Class;"⟩ ⟨"java/lang/Object", "getClass", "()Ljava/lang/Class;"⟩, .instanceMethod ⟨"java/lang/Object", "getClass", "()Ljava/lang/Class;"⟩, .native ⟨"java/lang/Object", "getClass", "()Ljava/lang/Class;"⟩, .methodLink RJ7 300 yJ7_copyOf_6403c, .static yJ7_copyOf_6403c, .initialized RJ7] ++ (wq_l_copyOf3)
set_option maxRecDepth 20000 in
theorem wi_l_copyOf2 : ∀ w ∈ wq_l_copyOf2, w ∈ lw_tbl := List.forall_mem_append.mpr ⟨(by decide +kernel), wi_l_copyOf3⟩
set_option maxRecDepth 20000 in
theorem wg_l_copyOf2 : GoodIn wq_l_copyOf2 wq_l_copyOf2 := goodIn_sub (fun _ h => h) (by decide +kernel)
set_option maxRecDepth 20000 in
theorem wc_l_copyOf2_l_copyOf3_300 : GoodIn wq_l_copyOf2 (va_wsS RJ7 300 yJ7_copyOf_6403c wq_l_copyOf3) := goodIn_app (goodIn_of _ (by decide +kernel)) (fun w h => ⟨List.mem_append_right _ (h), (wg_l_copyOf3 w h).2⟩)
set_option maxHeartbeats 4000000 in
set_option maxRecDepth 100000 in
theorem c_l_copyOf2 (l : Launch) (dC : Nat → ClassId) (dI : Nat → Nat → Nat) (a : Nat) (mi : Nat) (n : Nat) (N : Nat) (cE : ClassId) (f : Nat → Option Nat) (sz : Nat) (hp0 : n < N) (hp1 : N < 200) : Met l yJ7_copyOf_1904c wq_l_copyOf2 ({ frames := 2, cells := 1, slots := 200, locals := 63 }) (va_Pc [.ref a, .int (nI N)] (fun U => U.heap.size = sz ∧ va_P (dC, dI) vwCl [(a, .inl (cE, n, .inr (.inr (.inr (.inr f)))))] U.heap ∧ va_K (dC, dI) vwCl [(cE, .object "java/lang/Object")] U ∧ va_D (fun _ => True) [(a, .inl (cE, n, .inr (.inr (.inr (.inr f)))))] ∧ pw_N U ∧ xL mi f n (va_A [(a, .inl (cE, n, .inr (.inr (.inr (.inr f)))))] sz) U U.heap)) (va_Qr (fun (_ : Unit) => True) (fun (_ : Unit) (ra : Nat) (t : State) => ∃ (cG : ClassId) (g : Nat → Option Nat), (∀ i : Nat, i < n → g i = f i) ∧ va_P (dC, dI) vwCl [(a, .inl (cE, n, .inr (.inr (.inr (.inr f))))), (ra, .inl (cG, N, .inr (.inr (.inr (.inr g)))))] t.heap ∧ va_K (dC, dI) vwCl [(cG, .object "java/lang/Object")] t ∧ va_D (va_A [(a, .inl (cE, n, .inr (.inr (.inr (.inr f)))))] sz) [(a, .inl (cE, n, .inr (.inr (.inr (.inr f))))), (ra, .inl (cG, N, .inr (.inr (.inr (.inr g)))))]) (va_A [(a, .inl (cE, n, .inr (.inr (.inr (.inr f)))))] sz)) 1 200 (va_A [(a, .inl (cE, n, .inr (.inr (.inr (.inr f)))))] sz) := by
  refine Met.ofW (cc := cJ7_copyOf_1904c) (maxL := 2) (ret := (some (.array (.object "java/lang/Object")))) (by decide) rfl ?_
  intro p e s m args below meth c s₁ B hml hv
  obtain ⟨rfl, hsz, hP, hK, hD0, hN, hL⟩ := hv
  have hx := B.exec
  have hb := B.bytes
  have hr := B.returns
  have hts := atoms_spec (ws := wq_l_copyOf2) B.pre
  have hown : s.vm.findClass RJ7 = some m.cls := findClass_of_methodNamed B.named
  have hlocks := B.notSynchronized
  subst hsz
  have hD := hD0.self (sz := s.heap.size)
  generalize hAe : va_A [(a, .inl (cE, n, .inr (.inr (.inr (.inr f)))))] s.heap.size = A at hD hL ⊢
  have hA : ∀ q : Nat, s.heap.size ≤ q → A q := fun q h => by rw [← hAe]; exact Or.inr h
  have hS : va_S A s.heap s.heap [] := va_S.rf
  have hP : va_P (dC, dI) vwCl [(a, .inl (cE, n, .inr (.inr (.inr (.inr f)))))] s.heap := hP
  have hl := lv_entry ([.ref a, .int (nI N)]) (n := 2) (Nat.le_of_ble_eq_true rfl)
  rw [lg_entry_eq]
  generalize (lg_sl ([.ref a, .int (nI N)]) ++ List.replicate (2 - (lg_sl ([.ref a, .int (nI N)])).length) Slot.unset).toArray = ls at hl ⊢
  have hl : lv_has ls 2 [(0, .ref a), (1, .int (nI N))] := hl
  refine lv_aload_n hx hb dJ7_copyOf_1904c_0 rfl (lv_at hl 0 rfl) ?_
  refine lv_iload_n hx hb dJ7_copyOf_1904c_1 rfl (lv_at hl 1 rfl) ?_
  refine lv_aload_n hx hb dJ7_copyOf_1904c_2 rfl (lv_at hl 0 rfl) ?_
  refine va_getC hx hb (by rw [hml]; exact hl.1.symm) hown (hts (.methodLink RJ7 86 ⟨"java/lang/Object", "getClass", "()Ljava/lang/Class;"⟩) (by decide +kernel)) hL.2.1.use (hts (.selects "[Ljava/lang/Object;" ⟨"java/lang/Object", "getClass", "()Ljava/lang/Class;"⟩ ⟨"java/lang/Object", "getClass", "()Ljava/lang/Class;"⟩) (by decide +kernel)) (hts (.instanceMethod ⟨"java/lang/Object", "getClass", "()Ljava/lang/Class;"⟩) (by decide +kernel)) (hts (.native ⟨"java/lang/Object", "getClass", "()Ljava/lang/Class;"⟩) (by decide +kernel)) hL.1 ⟨_, hP 0 _ rfl, rfl, va_nmO (hK.2 0 _ rfl).2 (by decide +kernel)⟩ (Nat.le_of_ble_eq_true rfl) (Nat.le_of_ble_eq_true rfl) dJ7_copyOf_1904c_3 ?_
  have hPc := hP.sub (ws' := [(a, .inl (cE, n, .inr (.inr (.inr (.inr f)))))]) [0] rfl
  have hDc := hD.sub (ws' := [(a, .inl (cE, n, .inr (.inr (.inr (.inr f)))))]) [0] (by decide) rfl
  have hKc := hK.sub (tys' := [(cE, .object "java/lang/Object")]) [0] rfl
  have hFc := va_free (wc := [(a, .inl (cE, n, .inr (.inr (.inr (.inr f)))))]) hD hS hA [0] rfl
  refine va_callr (va_runS (As := [.ref a, .int (nI N), .ref mi]) (rest := []) ⟨hx, hb, hml, hown, hts⟩ (c_l_copyOf3 l dC dI a mi n N cE f s.heap.size hp0 hp1) (va_cwS 3 hts wc_l_copyOf2_l_copyOf3_300 rfl rfl rfl (by decide +kernel) ⟨Nat.le_of_ble_eq_true rfl, Nat.le_of_ble_eq_true rfl⟩) ⟨fun a9 U g9 mk q => by obtain ⟨q0, q1, qP, qK, qD, qN, qL⟩ := q; exact ⟨q0, q1, qP, va_K.moved (u := U) (U := U.calling g9 mk a9) (Vm.Alike.refl U.vm) qK, qD, pw_N.same (u := U) (U := U.calling g9 mk a9) rfl qN, xL.moved (u := U) (U := U.calling g9 mk a9) (Vm.Alike.refl U.vm) qL⟩, fun U hU hW => ⟨rfl, by rw [hU], by rw [hU]; exact hPc, va_K.moved hW.alike hKc, hDc.weaken (fun _ _ _ _ => trivial), pw_N.warm hW hN, by rw [hU]; exact xL.moved hW.alike ((hL.kept (fun a9 h1 h2 => hS.2.1 a9 h1 h2)).narrow hFc)⟩⟩ rfl rfl hl.1 rfl (lv_room (Nat.le_of_ble_eq_true rfl)) dJ7_copyOf_1904c_6 ⟨Nat.le_of_ble_eq_true rfl, Nat.le_of_ble_eq_true rfl⟩) hS (fun q _ h => hFc q h) hFc (fun u r1 t H1 locs ht hvm hw hB hz1 hk1 hS => ?_)
  obtain ⟨cG, g, hg, hP1, hK1, hD1⟩ := hB
  rw [ht] at hP1
  obtain ⟨hP, hD⟩ := va_join (wr := []) (w1 := [(a, .inl (cE, n, .inr (.inr (.inr (.inr f))))), (r1, .inl (cG, N, .inr (.inr (.inr (.inr g)))))]) hP hD [0] [] rfl rfl (by decide) (by decide) hk1 hFc hP1 hD1
  generalize H1 = H at hP hS ⊢
  replace hP : va_P (dC, dI) vwCl [(a, .inl (cE, n, .inr (.inr (.inr (.inr f))))), (r1, .inl (cG, N, .inr (.inr (.inr (.inr g)))))] H := hP
  replace hD : va_D A [(a, .inl (cE, n, .inr (.inr (.inr (.inr f))))), (r1, .inl (cG, N, .inr (.inr (.inr (.inr g)))))] := hD
  exact W.aret hx hb hr (Or.inr ⟨_, rfl⟩) (Or.inr ⟨_, rfl⟩) (fun t ht hW => ⟨⟨(), r1, rfl, trivial, cG, g, hg, by rw [ht]; exact hP, va_K.moved hW.alike (va_K.moved hvm.symm hK1), hD⟩, hS.F ht⟩) hS.2.2 dJ7_copyOf_1904c_9
def wq_l_growI : List Cond := [.code yJx4a65c_grow_92f84 cJx4a65c_grow_92f84 4 (some (.array (.object "java/lang/Object"))), .fieldLink RJx4a65c 9 "java/util/ArrayList" "elementData" "[Ljava/lang/Object;", .methodLink RJx4a65c 73 yJ8_newLength_cabcc, .static yJ8_newLength_cabcc, .initialized RJ8, .methodLink RJx4a65c 66 yJ7_copyOf_1904c, .static yJ7_copyOf_1904c, .initialized RJ7] ++ (wsJx4a65c0 ++ (wq_l_newLength ++ (wq_l_copyOf2)))
theorem in_l_growI_Jx4a65c : ∀ w ∈ wsJx4a65c0, w ∈ wq_l_growI := fun _ h => List.mem_append_right _ (List.mem_append_left _ (h))
set_option maxRecDepth 20000 in
theorem wi_l_growI : ∀ w ∈ wq_l_growI, w ∈ lw_tbl := List.forall_mem_append.mpr ⟨(by decide +kernel), List.forall_mem_append.mpr ⟨inKJx4a65c, List.forall_mem_append.mpr ⟨wi_l_newLength, wi_l_copyOf2⟩⟩⟩
set_option maxRecDepth 20000 in
theorem wg_l_growI : GoodIn wq_l_growI wq_l_growI := goodIn_sub (fun _ h => h) (by decide +kernel)
set_option maxRecDepth 20000 in
theorem wc_l_growI_l_newLength_73 : GoodIn wq_l_growI (va_wsS RJx4a65c 73 yJ8_newLength_cabcc wq_l_newLength) := goodIn_app (goodIn_of _ (by decide +kernel)) (fun w h => ⟨List.mem_append_right _ (List.mem_append_right _ (List.mem_append_left _ (h))), (wg_l_newLength w h).2⟩)
set_option maxRecDepth 20000 in
theorem wc_l_growI_l_copyOf2_66 : GoodIn wq_l_growI (va_wsS RJx4a65c 66 yJ7_copyOf_1904c wq_l_copyOf2) := goodIn_app (goodIn_of _ (by decide +kernel)) (fun w h => ⟨List.mem_append_right _ (List.mem_append_right _ (List.mem_append_right _ (h))), (wg_l_copyOf2 w h).2⟩)
set_option maxHeartbeats 4000000 in
set_option maxRecDepth 100000 in
theorem c_l_growI (l : Launch) (dC : Nat → ClassId) (dI : Nat → Nat → Nat) (h0 : Nat) (mc : Int32) (a : Nat) (mi : Nat) (n : Nat) (cE : ClassId) (f : Nat → Option Nat) (sz : Nat) (hp0 : 0 < n) (hp1 : n < 100) : Met l yJx4a65c_grow_92f84 wq_l_growI ({ frames := 3, cells := 1, slots := 200, locals := 84 }) (va_Pc [.ref h0, .int (nI (n + 1))] (fun U => U.heap.size = sz ∧ va_P (dC, dI) vwCl [(h0, .inr (0, [.int mc, .ref a, .int (nI n)])), (a, .inl (cE, n, .inr (.inr (.inr (.inr f)))))] U.heap ∧ va_K (dC, dI) vwCl [(cE, .object "java/lang/Object")] U ∧ va_D (fun _ => True) [(h0, .inr (0, [.int mc, .ref a, .int (nI n)])), (a, .inl (cE, n, .inr (.inr (.inr (.inr f)))))] ∧ pw_N U ∧ xL mi f n (va_A [(h0, .inr (0, [.int mc, .ref a, .int (nI n)])), (a, .inl (cE, n, .inr (.inr (.inr (.inr f)))))] sz) U U.heap)) (va_Qr (fun (_ : Unit) => True) (fun (_ : Unit) (ra : Nat) (t : State) => ∃ (cG : ClassId) (N : Nat) (g : Nat → Option Nat), (n < N ∧ N ≤ n + n / 2 + 1) ∧ (∀ i : Nat, i < n → g i = f i) ∧ va_P (dC, dI) vwCl [(h0, .inr (0, [.int mc, .ref ra, .int (nI n)])), (ra, .inl (cG, N, .inr (.inr (.inr (.inr g)))))] t.heap ∧ va_K (dC, dI) vwCl [(cG, .object "java/lang/Object")] t ∧ va_D (va_A [(h0, .inr (0, [.int mc, .ref a, .int (nI n)])), (a, .inl (cE, n, .inr (.inr (.inr (.inr f)))))] sz) [(h0, .inr (0, [.int mc, .ref ra, .int (nI n)])), (ra, .inl (cG, N, .inr (.inr (.inr (.inr g)))))]) (va_A [(h0, .inr (0, [.int mc, .ref a, .int (nI n)])), (a, .inl (cE, n, .inr (.inr (.inr (.inr f)))))] sz)) 1 200 (va_A [(h0, .inr (0, [.int mc, .ref a, .int (nI n)])), (a, .inl (cE, n, .inr (.inr (.inr (.inr f)))))] sz) := by
  refine Met.ofW (cc := cJx4a65c_grow_92f84) (maxL := 4) (ret := (some (.array (.object "java/lang/Object")))) (by decide) rfl ?_
  intro p e s m args below meth c s₁ B hml hv
  obtain ⟨rfl, hsz, hP, hK, hD0, hN, hL⟩ := hv
  have hx := B.exec
  have hb := B.bytes
  have hr := B.returns
  have hts := atoms_spec (ws := wq_l_growI) B.pre
  have hown : s.vm.findClass RJx4a65c = some m.cls := findClass_of_methodNamed B.named
  have hlocks := B.notSynchronized
  subst hsz
  have hD := hD0.self (sz := s.heap.size)
  generalize hAe : va_A [(h0, .inr (0, [.int mc, .ref a, .int (nI n)])), (a, .inl (cE, n, .inr (.inr (.inr (.inr f)))))] s.heap.size = A at hD hL ⊢
  have hA : ∀ q : Nat, s.heap.size ≤ q → A q := fun q h => by rw [← hAe]; exact Or.inr h
  have hS : va_S A s.heap s.heap [] := va_S.rf
  have hP : va_P (dC, dI) vwCl [(h0, .inr (0, [.int mc, .ref a, .int (nI n)])), (a, .inl (cE, n, .inr (.inr (.inr (.inr f)))))] s.heap := hP
  have hl := lv_entry ([.ref h0, .int (nI (n + 1))]) (n := 4) (Nat.le_of_ble_eq_true rfl)
  rw [lg_entry_eq]
  generalize (lg_sl ([.ref h0, .int (nI (n + 1))]) ++ List.replicate (4 - (lg_sl ([.ref h0, .int (nI (n + 1))])).length) Slot.unset).toArray = ls at hl ⊢
  have hl : lv_has ls 4 [(0, .ref h0), (1, .int (nI (n + 1)))] := hl
  refine lv_aload_n hx hb dJx4a65c_grow_92f84_0 rfl (lv_at hl 0 rfl) ?_
  refine va_get (D := (dC, dI)) (ci := 0) (v := .ref a) (C := RJx4a65c) (T := TJx4a65c) (N := 3) hx hb hts in_l_growI_Jx4a65c hown hK hP 0 rfl rfl 1 (by decide) (hts (.fieldLink RJx4a65c 9 "java/util/ArrayList" "elementData" "[Ljava/lang/Object;") (by decide +kernel)) (fun _ h9 => h9) rfl dJx4a65c_grow_92f84_1 ?_
  refine va_alen (v := nI n) hx hb hK hP 1 0 rfl rfl rfl dJx4a65c_grow_92f84_4 ?_
  refine lv_istore_n (lv' := [(2, .int (nI n)), (0, .ref h0), (1, .int (nI (n + 1)))]) hx hb dJx4a65c_grow_92f84_5 rfl hl (by decide) rfl (fun ls hl => ?_)
  refine lv_iload_n hx hb dJx4a65c_grow_92f84_6 rfl (lv_at hl 0 rfl) ?_
  refine lv_if_gt (tgt := 20) hx hb dJx4a65c_grow_92f84_7 (by decide) (fun _ => ?_) (fun c9 => absurd ((nI_ltI (a := 0) (b := n) (by omega) (by omega)).mpr hp0) c9)
  refine lv_iload_n hx hb dJx4a65c_grow_92f84_20 rfl (lv_at hl 0 rfl) ?_
  refine lv_iload_n hx hb dJx4a65c_grow_92f84_21 rfl (lv_at hl 2 rfl) ?_
  refine lv_iload_n hx hb dJx4a65c_grow_92f84_22 rfl (lv_at hl 0 rfl) ?_
  refine lv_isub hx hb dJx4a65c_grow_92f84_23 ?_
  refine p1_topr (v := .int 1) (congrArg Value.int (by rw [pk_sub (a := n + 1) (b := n) (by omega), Nat.add_sub_cancel_left]; rfl)) ?_
  refine lv_iload_n hx hb dJx4a65c_grow_92f84_24 rfl (lv_at hl 0 rfl) ?_
  refine lv_iconst (v := 1) hx hb dJx4a65c_grow_92f84_25 (by decide) ?_
  refine lv_ishr hx hb dJx4a65c_grow_92f84_26 ?_
  refine p1_topr (v := .int (nI (n / 2))) (congrArg Value.int (pk_shrN (n := n) (by omega) _ 1 (by decide))) ?_
  have hPc := hP.sub (ws' := []) [] rfl
  have hDc := hD.sub (ws' := []) [] (by decide) rfl
  have hKc := hK.sub (tys' := []) [] rfl
  have hFc := va_free (wc := []) hD hS hA [] rfl
  refine va_calli (va_runS (As := [.int (nI n), .int 1, .int (nI (n / 2))]) (rest := []) ⟨hx, hb, hml, hown, hts⟩ (c_l_newLength l dC dI n (n / 2) s.heap.size (by omega) (by omega)) (va_cwS 3 hts wc_l_growI_l_newLength_73 rfl rfl rfl (by decide +kernel) ⟨Nat.le_of_ble_eq_true rfl, Nat.le_of_ble_eq_true rfl⟩) ⟨fun a9 U g9 mk q => by obtain ⟨q0, q1, qP, qK, qD⟩ := q; exact ⟨q0, q1, qP, va_K.moved (u := U) (U := U.calling g9 mk a9) (Vm.Alike.refl U.vm) qK, qD⟩, fun U hU hW => ⟨rfl, by rw [hU], by rw [hU]; exact hPc, va_K.moved hW.alike hKc, hDc.weaken (fun _ _ _ _ => trivial)⟩⟩ rfl rfl hl.1 rfl (lv_room (Nat.le_of_ble_eq_true rfl)) dJx4a65c_grow_92f84_27 ⟨Nat.le_of_ble_eq_true rfl, Nat.le_of_ble_eq_true rfl⟩) hS (fun q _ h => hFc q h) hFc (fun r1 u t H1 locs ht hvm hw hB hz1 hk1 hS => ?_)
  obtain ⟨w, hw1, hw2, rfl⟩ := hw
  have hP1 : va_P (dC, dI) vwCl [] H1 := fun k q h => by simp at h
  have hD1 : va_D (va_A [] s.heap.size) [] := ⟨fun i j p q h => by simp at h, fun k q h => by simp at h⟩
  obtain ⟨hP, hD⟩ := va_join (wr := [(h0, .inr (0, [.int mc, .ref a, .int (nI n)])), (a, .inl (cE, n, .inr (.inr (.inr (.inr f)))))]) (w1 := []) hP hD [] [0, 1] rfl rfl (by decide) (by decide) hk1 hFc hP1 hD1
  generalize H1 = H at hP hS ⊢
  replace hP : va_P (dC, dI) vwCl [(h0, .inr (0, [.int mc, .ref a, .int (nI n)])), (a, .inl (cE, n, .inr (.inr (.inr (.inr f)))))] H := hP
  replace hD : va_D A [(h0, .inr (0, [.int mc, .ref a, .int (nI n)])), (a, .inl (cE, n, .inr (.inr (.inr (.inr f)))))] := hD
  refine lv_istore_n (lv' := [(3, .int (nI (n + w))), (2, .int (nI n)), (0, .ref h0), (1, .int (nI (n + 1)))]) hx hb dJx4a65c_grow_92f84_30 rfl hl (by decide) rfl (fun ls hl => ?_)
  refine lv_aload_n hx hb dJx4a65c_grow_92f84_31 rfl (lv_at hl 2 rfl) ?_
  refine lv_aload_n hx hb dJx4a65c_grow_92f84_32 rfl (lv_at hl 2 rfl) ?_
  refine va_get (D := (dC, dI)) (ci := 0) (v := .ref a) (C := RJx4a65c) (T := TJx4a65c) (N := 3) hx hb hts in_l_growI_Jx4a65c hown hK hP 0 rfl rfl 1 (by decide) (hts (.fieldLink RJx4a65c 9 "java/util/ArrayList" "elementData" "[Ljava/lang/Object;") (by decide +kernel)) (fun _ h9 => h9) rfl dJx4a65c_grow_92f84_33 ?_
  refine lv_iload_n hx hb dJx4a65c_grow_92f84_36 rfl (lv_at hl 0 rfl) ?_
  have hPc := hP.sub (ws' := [(a, .inl (cE, n, .inr (.inr (.inr (.inr f)))))]) [1] rfl
  have hDc := hD.sub (ws' := [(a, .inl (cE, n, .inr (.inr (.inr (.inr f)))))]) [1] (by decide) rfl
  have hKc := hK.sub (tys' := [(cE, .object "java/lang/Object")]) [0] rfl
  have hFc := va_free (wc := [(a, .inl (cE, n, .inr (.inr (.inr (.inr f)))))]) hD hS hA [1] rfl
  refine va_callr (va_runS (As := [.ref a, .int (nI (n + w))]) (rest := [.ref h0]) ⟨hx, hb, hml, hown, hts⟩ (c_l_copyOf2 l dC dI a mi n (n + w) cE f H.size (by omega) (by omega)) (va_cwS 2 hts wc_l_growI_l_copyOf2_66 rfl rfl rfl (by decide +kernel) ⟨Nat.le_of_ble_eq_true rfl, Nat.le_of_ble_eq_true rfl⟩) ⟨fun a9 U g9 mk q => by obtain ⟨q0, q1, qP, qK, qD, qN, qL⟩ := q; exact ⟨q0, q1, qP, va_K.moved (u := U) (U := U.calling g9 mk a9) (Vm.Alike.refl U.vm) qK, qD, pw_N.same (u := U) (U := U.calling g9 mk a9) rfl qN, xL.moved (u := U) (U := U.calling g9 mk a9) (Vm.Alike.refl U.vm) qL⟩, fun U hU hW => ⟨rfl, by rw [hU], by rw [hU]; exact hPc, va_K.moved hW.alike hKc, hDc.weaken (fun _ _ _ _ => trivial), pw_N.warm hW hN, by rw [hU]; exact xL.moved hW.alike ((hL.kept (fun a9 h1 h2 => hS.2.1 a9 h1 h2)).narrow hFc)⟩⟩ rfl rfl hl.1 rfl (lv_room (Nat.le_of_ble_eq_true rfl)) dJx4a65c_grow_92f84_37 ⟨Nat.le_of_ble_eq_true rfl, Nat.le_of_ble_eq_true rfl⟩) hS (fun q _ h => hFc q h) hFc (fun u r2 t H1 locs ht hvm hw hB hz1 hk1 hS => ?_)
  obtain ⟨cG, g, hg, hP1, hK1, hD1⟩ := hB
  rw [ht] at hP1
  obtain ⟨hP, hD⟩ := va_join (wr := [(h0, .inr (0, [.int mc, .ref a, .int (nI n)]))]) (w1 := [(a, .inl (cE, n, .inr (.inr (.inr (.inr f))))), (r2, .inl (cG, (n + w), .inr (.inr (.inr (.inr g)))))]) hP hD [1] [0] rfl rfl (by decide) (by decide) hk1 hFc hP1 hD1
  generalize H1 = H at hP hS ⊢
  replace hP : va_P (dC, dI) vwCl [(h0, .inr (0, [.int mc, .ref a, .int (nI n)])), (a, .inl (cE, n, .inr (.inr (.inr (.inr f))))), (r2, .inl (cG, (n + w), .inr (.inr (.inr (.inr g)))))] H := hP
  replace hD : va_D A [(h0, .inr (0, [.int mc, .ref a, .int (nI n)])), (a, .inl (cE, n, .inr (.inr (.inr (.inr f))))), (r2, .inl (cG, (n + w), .inr (.inr (.inr (.inr g)))))] := hD
  replace hK := hK.app (va_K.moved hvm.symm hK1)
  replace hK : va_K (dC, dI) vwCl [(cE, .object "java/lang/Object"), (cG, .object "java/lang/Object")] s := hK
  refine lv_dup_x1 hx hb dJx4a65c_grow_92f84_40 rfl rfl ?_
  refine va_put (D := (dC, dI)) (ci := 0) (fs := [.int mc, .ref a, .int (nI n)]) (v := .ref r2) (ty := .array (.object "java/lang/Object")) (C := RJx4a65c) (T := TJx4a65c) (N := 3) hx hb hts in_l_growI_Jx4a65c tyJx4a65c tyJx4a65c_ok nmJx4a65c hown hK hP hD hS 0 rfl rfl 1 (by decide) (hts (.fieldLink RJx4a65c 9 "java/util/ArrayList" "elementData" "[Ljava/lang/Object;") (by decide +kernel)) (fun _ h9 => h9) rfl (by decide +kernel) rfl rfl (Nat.le_of_ble_eq_true rfl) dJx4a65c_grow_92f84_41 (fun H locs hP hD hS => ?_)
  replace hP : va_P (dC, dI) vwCl [(h0, .inr (0, [.int mc, .ref r2, .int (nI n)])), (a, .inl (cE, n, .inr (.inr (.inr (.inr f))))), (r2, .inl (cG, (n + w), .inr (.inr (.inr (.inr g)))))] H := hP
  replace hD : va_D A [(h0, .inr (0, [.int mc, .ref r2, .int (nI n)])), (a, .inl (cE, n, .inr (.inr (.inr (.inr f))))), (r2, .inl (cG, (n + w), .inr (.inr (.inr (.inr g)))))] := hD
  have hP9 := hP.sub (ws' := [(h0, .inr (0, [.int mc, .ref r2, .int (nI n)])), (r2, .inl (cG, (n + w), .inr (.inr (.inr (.inr g)))))]) [0, 2] rfl
  have hD9 := hD.sub (ws' := [(h0, .inr (0, [.int mc, .ref r2, .int (nI n)])), (r2, .inl (cG, (n + w), .inr (.inr (.inr (.inr g)))))]) [0, 2] (by decide) rfl
  have hK9 := hK.sub (tys' := [(cG, .object "java/lang/Object")]) [1] rfl
  exact W.aret hx hb hr (Or.inr ⟨_, rfl⟩) (Or.inr ⟨_, rfl⟩) (fun t ht hW => ⟨⟨(), r2, rfl, trivial, cG, n + w, g, ⟨by omega, by omega⟩, hg, by rw [ht]; exact hP9, va_K.moved hW.alike hK9, hD9⟩, hS.F ht⟩) hS.2.2 dJx4a65c_grow_92f84_44
def wq_l_grow : List Cond := [.code yJx4a65c_grow_d5877 cJx4a65c_grow_d5877 1 (some (.array (.object "java/lang/Object"))), .fieldLink RJx4a65c 48 "java/util/ArrayList" "size" "I", .methodLink RJx4a65c 69 yJx4a65c_grow_92f84, .instanceMethod yJx4a65c_grow_92f84, .selects RJx4a65c yJx4a65c_grow_92f84 yJx4a65c_grow_92f84, .initialized RJx4a65c] ++ (wsJx4a65c0 ++ (wq_l_growI))
theorem in_l_grow_Jx4a65c : ∀ w ∈ wsJx4a65c0, w ∈ wq_l_grow := fun _ h => List.mem_append_right _ (List.mem_append_left _ (h))
set_option maxRecDepth 20000 in
theorem wi_l_grow : ∀ w ∈ wq_l_grow, w ∈ lw_tbl := List.forall_mem_append.mpr ⟨(by decide +kernel), List.forall_mem_append.mpr ⟨inKJx4a65c, wi_l_growI⟩⟩
set_option maxRecDepth 20000 in
theorem wg_l_grow : GoodIn wq_l_grow wq_l_grow := goodIn_sub (fun _ h => h) (by decide +kernel)
set_option maxRecDepth 20000 in
theorem wc_l_grow_l_growI_69 : GoodIn wq_l_grow (wsV RJx4a65c 69 RJx4a65c yJx4a65c_grow_92f84 wq_l_growI) := goodIn_app (goodIn_of _ (by decide +kernel)) (fun w h => ⟨List.mem_append_right _ (List.mem_append_right _ (h)), (wg_l_growI w h).2⟩)
set_option maxHeartbeats 4000000 in
set_option maxRecDepth 100000 in
theorem c_l_grow (l : Launch) (dC : Nat → ClassId) (dI : Nat → Nat → Nat) (h0 : Nat) (mc : Int32) (a : Nat) (mi : Nat) (n : Nat) (cE : ClassId) (f : Nat → Option Nat) (sz : Nat) (hp0 : 0 < n) (hp1 : n < 100) : Met l yJx4a65c_grow_d5877 wq_l_grow ({ frames := 4, cells := 1, slots := 200, locals := 107 }) (va_Pc [.ref h0] (fun U => U.heap.size = sz ∧ va_P (dC, dI) vwCl [(h0, .inr (0, [.int mc, .ref a, .int (nI n)])), (a, .inl (cE, n, .inr (.inr (.inr (.inr f)))))] U.heap ∧ va_K (dC, dI) vwCl [(cE, .object "java/lang/Object")] U ∧ va_D (fun _ => True) [(h0, .inr (0, [.int mc, .ref a, .int (nI n)])), (a, .inl (cE, n, .inr (.inr (.inr (.inr f)))))] ∧ pw_N U ∧ xL mi f n (va_A [(h0, .inr (0, [.int mc, .ref a, .int (nI n)])), (a, .inl (cE, n, .inr (.inr (.inr (.inr f)))))] sz) U U.heap)) (va_Qr (fun (_ : Unit) => True) (fun (_ : Unit) (ra : Nat) (t : State) => ∃ (cG : ClassId) (N : Nat) (g : Nat → Option Nat), (n < N ∧ N ≤ n + n / 2 + 1) ∧ (∀ i : Nat, i < n → g i = f i) ∧ va_P (dC, dI) vwCl [(h0, .inr (0, [.int mc, .ref ra, .int (nI n)])), (ra, .inl (cG, N, .inr (.inr (.inr (.inr g)))))] t.heap ∧ va_K (dC, dI) vwCl [(cG, .object "java/lang/Object")] t ∧ va_D (va_A [(h0, .inr (0, [.int mc, .ref a, .int (nI n)])), (a, .inl (cE, n, .inr (.inr (.inr (.inr f)))))] sz) [(h0, .inr (0, [.int mc, .ref ra, .int (nI n)])), (ra, .inl (cG, N, .inr (.inr (.inr (.inr g)))))]) (va_A [(h0, .inr (0, [.int mc, .ref a, .int (nI n)])), (a, .inl (cE, n, .inr (.inr (.inr (.inr f)))))] sz)) 1 200 (va_A [(h0, .inr (0, [.int mc, .ref a, .int (nI n)])), (a, .inl (cE, n, .inr (.inr (.inr (.inr f)))))] sz) := by
  refine Met.ofW (cc := cJx4a65c_grow_d5877) (maxL := 1) (ret := (some (.array (.object "java/lang/Object")))) (by decide) rfl ?_
  intro p e s m args below meth c s₁ B hml hv
  obtain ⟨rfl, hsz, hP, hK, hD0, hN, hL⟩ := hv
  have hx := B.exec
  have hb := B.bytes
  have hr := B.returns
  have hts := atoms_spec (ws := wq_l_grow) B.pre
  have hown : s.vm.findClass RJx4a65c = some m.cls := findClass_of_methodNamed B.named
  have hlocks := B.notSynchronized
  subst hsz
  have hD := hD0.self (sz := s.heap.size)
  generalize hAe : va_A [(h0, .inr (0, [.int mc, .ref a, .int (nI n)])), (a, .inl (cE, n, .inr (.inr (.inr (.inr f)))))] s.heap.size = A at hD hL ⊢
  have hA : ∀ q : Nat, s.heap.size ≤ q → A q := fun q h => by rw [← hAe]; exact Or.inr h
  have hS : va_S A s.heap s.heap [] := va_S.rf
  have hP : va_P (dC, dI) vwCl [(h0, .inr (0, [.int mc, .ref a, .int (nI n)])), (a, .inl (cE, n, .inr (.inr (.inr (.inr f)))))] s.heap := hP
  have hl := lv_entry ([.ref h0]) (n := 1) (Nat.le_of_ble_eq_true rfl)
  rw [lg_entry_eq]
  generalize (lg_sl ([.ref h0]) ++ List.replicate (1 - (lg_sl ([.ref h0])).length) Slot.unset).toArray = ls at hl ⊢
  have hl : lv_has ls 1 [(0, .ref h0)] := hl
  refine lv_aload_n hx hb dJx4a65c_grow_d5877_0 rfl (lv_at hl 0 rfl) ?_
  refine lv_aload_n hx hb dJx4a65c_grow_d5877_1 rfl (lv_at hl 0 rfl) ?_
  refine va_get (D := (dC, dI)) (ci := 0) (v := .int (nI n)) (C := RJx4a65c) (T := TJx4a65c) (N := 3) hx hb hts in_l_grow_Jx4a65c hown hK hP 0 rfl rfl 2 (by decide) (hts (.fieldLink RJx4a65c 48 "java/util/ArrayList" "size" "I") (by decide +kernel)) (fun _ h9 => h9) rfl dJx4a65c_grow_d5877_2 ?_
  refine lv_iconst (v := 1) hx hb dJx4a65c_grow_d5877_5 (by decide) ?_
  refine lv_iadd hx hb dJx4a65c_grow_d5877_6 ?_
  refine p1_topr (v := .int (nI (n + 1))) (congrArg Value.int (nI_1 n)) ?_
  have hPc := hP.sub (ws' := [(h0, .inr (0, [.int mc, .ref a, .int (nI n)])), (a, .inl (cE, n, .inr (.inr (.inr (.inr f)))))]) [0, 1] rfl
  have hDc := hD.sub (ws' := [(h0, .inr (0, [.int mc, .ref a, .int (nI n)])), (a, .inl (cE, n, .inr (.inr (.inr (.inr f)))))]) [0, 1] (by decide) rfl
  have hKc := hK.sub (tys' := [(cE, .object "java/lang/Object")]) [0] rfl
  have hFc := va_free (wc := [(h0, .inr (0, [.int mc, .ref a, .int (nI n)])), (a, .inl (cE, n, .inr (.inr (.inr (.inr f)))))]) hD hS hA [0, 1] rfl
  refine va_callr (va_runV (As := [.int (nI (n + 1))]) (rest := []) ⟨hx, hb, hml, hown, hts⟩ (c_l_growI l dC dI h0 mc a mi n cE f s.heap.size hp0 hp1) (cwV 1 hts wc_l_grow_l_growI_69 rfl rfl rfl (by decide +kernel) ⟨Nat.le_of_ble_eq_true rfl, Nat.le_of_ble_eq_true rfl⟩) ⟨fun a9 U g9 mk q => by obtain ⟨q0, q1, qP, qK, qD, qN, qL⟩ := q; exact ⟨q0, q1, qP, va_K.moved (u := U) (U := U.calling g9 mk a9) (Vm.Alike.refl U.vm) qK, qD, pw_N.same (u := U) (U := U.calling g9 mk a9) rfl qN, xL.moved (u := U) (U := U.calling g9 mk a9) (Vm.Alike.refl U.vm) qL⟩, va_recv hKc hPc (ci := 0) (q0 := 0) rfl rfl, fun U hU hW => ⟨rfl, by rw [hU], by rw [hU]; exact hPc, va_K.moved hW.alike hKc, hDc.weaken (fun _ _ _ _ => trivial), pw_N.warm hW hN, by rw [hU]; exact xL.moved hW.alike ((hL.kept (fun a9 h1 h2 => hS.2.1 a9 h1 h2)).narrow hFc)⟩⟩ rfl rfl hl.1 rfl (lv_room (Nat.le_of_ble_eq_true rfl)) dJx4a65c_grow_d5877_7 ⟨Nat.le_of_ble_eq_true rfl, Nat.le_of_ble_eq_true rfl⟩) hS (fun q _ h => hFc q h) hFc (fun u r1 t H1 locs ht hvm hw hB hz1 hk1 hS => ?_)
  obtain ⟨cG, N, g, hN2, hg, hP1, hK1, hD1⟩ := hB
  rw [ht] at hP1
  obtain ⟨hP, hD⟩ := va_join (wr := []) (w1 := [(h0, .inr (0, [.int mc, .ref r1, .int (nI n)])), (r1, .inl (cG, N, .inr (.inr (.inr (.inr g)))))]) hP hD [0, 1] [] rfl rfl (by decide) (by decide) hk1 hFc hP1 hD1
  generalize H1 = H at hP hS ⊢
  replace hP : va_P (dC, dI) vwCl [(h0, .inr (0, [.int mc, .ref r1, .int (nI n)])), (r1, .inl (cG, N, .inr (.inr (.inr (.inr g)))))] H := hP
  replace hD : va_D A [(h0, .inr (0, [.int mc, .ref r1, .int (nI n)])), (r1, .inl (cG, N, .inr (.inr (.inr (.inr g)))))] := hD
  exact W.aret hx hb hr (Or.inr ⟨_, rfl⟩) (Or.inr ⟨_, rfl⟩) (fun t ht hW => ⟨⟨(), r1, rfl, trivial, cG, N, g, hN2, hg, by rw [ht]; exact hP, va_K.moved hW.alike (va_K.moved hvm.symm hK1), hD⟩, hS.F ht⟩) hS.2.2 dJx4a65c_grow_d5877_10
def wq_l_growZI : List Cond := [.code yJx4a65c_grow_92f84 cJx4a65c_grow_92f84 4 (some (.array (.object "java/lang/Object"))), .fieldLink RJx4a65c 9 "java/util/ArrayList" "elementData" "[Ljava/lang/Object;", .fieldLink RJx4a65c 39 "java/util/ArrayList" "DEFAULTCAPACITY_EMPTY_ELEMENTDATA" "[Ljava/lang/Object;", .methodLink RJx4a65c 79 Lib.Math.max.name, .static Lib.Math.max.name, .initialized "java/lang/Math", .code Lib.Math.max.name Lib.Math.max.code 2 (some .int), .classLink RJx4a65c 7 "java/lang/Object"] ++ (wsJx4a65c0)
theorem in_l_growZI_Jx4a65c : ∀ w ∈ wsJx4a65c0, w ∈ wq_l_growZI := fun _ h => List.mem_append_right _ (h)
set_option maxRecDepth 20000 in
theorem wi_l_growZI : ∀ w ∈ wq_l_growZI, w ∈ lw_tbl := List.forall_mem_append.mpr ⟨(by decide +kernel), inKJx4a65c⟩
set_option maxRecDepth 20000 in
theorem wg_l_growZI : GoodIn wq_l_growZI wq_l_growZI := goodIn_sub (fun _ h => h) (by decide +kernel)
set_option maxHeartbeats 4000000 in
set_option maxRecDepth 100000 in
theorem c_l_growZI (l : Launch) (dC : Nat → ClassId) (dI : Nat → Nat → Nat) (h0 : Nat) (mc : Int32) (z : Nat) (sz : Nat)  : Met l yJx4a65c_grow_92f84 wq_l_growZI ({ frames := 1, cells := 1, slots := 10, locals := 24 }) (va_Pc [.ref h0, .int 1] (fun U => U.heap.size = sz ∧ va_P (dC, dI) vwCl [(h0, .inr (0, [.int mc, .ref z, .int 0]))] U.heap ∧ va_K (dC, dI) vwCl [] U ∧ va_D (fun _ => True) [(h0, .inr (0, [.int mc, .ref z, .int 0]))] ∧ pw_N U ∧ va_Z "java/util/ArrayList" "DEFAULTCAPACITY_EMPTY_ELEMENTDATA" "[Ljava/lang/Object;" (.ref z) (va_A [(h0, .inr (0, [.int mc, .ref z, .int 0]))] sz) U U.heap ∧ va_T (.object "java/lang/Object") z 0 (fun _ => .null) (va_A [(h0, .inr (0, [.int mc, .ref z, .int 0]))] sz) U U.heap ∧ va_AO "java/lang/Object" U)) (va_Qr (fun (_ : Unit) => True) (fun (_ : Unit) (ra : Nat) (t : State) => ∃ (cG : ClassId), va_P (dC, dI) vwCl [(h0, .inr (0, [.int mc, .ref ra, .int 0])), (ra, .inl (cG, 10, .inr (.inr (.inr (.inr (fun _ => none))))))] t.heap ∧ va_K (dC, dI) vwCl [(cG, .object "java/lang/Object")] t ∧ va_D (va_A [(h0, .inr (0, [.int mc, .ref z, .int 0]))] sz) [(h0, .inr (0, [.int mc, .ref ra, .int 0])), (ra, .inl (cG, 10, .inr (.inr (.inr (.inr (fun _ => none))))))]) (va_A [(h0, .inr (0, [.int mc, .ref z, .int 0]))] sz)) 1 10 (va_A [(h0, .inr (0, [.int mc, .ref z, .int 0]))] sz) := by
  refine Met.ofW (cc := cJx4a65c_grow_92f84) (maxL := 4) (ret := (some (.array (.object "java/lang/Object")))) (by decide) rfl ?_
  intro p e s m args below meth c s₁ B hml hv
  obtain ⟨rfl, hsz, hP, hK, hD0, hN, hZ, hT, hO⟩ := hv
  have hx := B.exec
  have hb := B.bytes
  have hr := B.returns
  have hts := atoms_spec (ws := wq_l_growZI) B.pre
  have hown : s.vm.findClass RJx4a65c = some m.cls := findClass_of_methodNamed B.named
  have hlocks := B.notSynchronized
  subst hsz
  have hD := hD0.self (sz := s.heap.size)
  generalize hAe : va_A [(h0, .inr (0, [.int mc, .ref z, .int 0]))] s.heap.size = A at hD hZ hT ⊢
  have hA : ∀ q : Nat, s.heap.size ≤ q → A q := fun q h => by rw [← hAe]; exact Or.inr h
  have hS : va_S A s.heap s.heap [] := va_S.rf
  have hP : va_P (dC, dI) vwCl [(h0, .inr (0, [.int mc, .ref z, .int 0]))] s.heap := hP
  have hl := lv_entry ([.ref h0, .int 1]) (n := 4) (Nat.le_of_ble_eq_true rfl)
  rw [lg_entry_eq]
  generalize (lg_sl ([.ref h0, .int 1]) ++ List.replicate (4 - (lg_sl ([.ref h0, .int 1])).length) Slot.unset).toArray = ls at hl ⊢
  have hl : lv_has ls 4 [(0, .ref h0), (1, .int 1)] := hl
  refine lv_aload_n hx hb dJx4a65c_grow_92f84_0 rfl (lv_at hl 0 rfl) ?_
  refine va_get (D := (dC, dI)) (ci := 0) (v := .ref z) (C := RJx4a65c) (T := TJx4a65c) (N := 3) hx hb hts in_l_growZI_Jx4a65c hown hK hP 0 rfl rfl 1 (by decide) (hts (.fieldLink RJx4a65c 9 "java/util/ArrayList" "elementData" "[Ljava/lang/Object;") (by decide +kernel)) (fun _ h9 => h9) rfl dJx4a65c_grow_92f84_1 ?_
  refine va_tlen (v := 0) hx hb hT hS rfl dJx4a65c_grow_92f84_4 ?_
  refine lv_istore_n (lv' := [(2, .int 0), (0, .ref h0), (1, .int 1)]) hx hb dJx4a65c_grow_92f84_5 rfl hl (by decide) rfl (fun ls hl => ?_)
  refine lv_iload_n hx hb dJx4a65c_grow_92f84_6 rfl (lv_at hl 0 rfl) ?_
  refine lv_if_gt (tgt := 20) hx hb dJx4a65c_grow_92f84_7 (by decide) (fun c9 => absurd c9 (by decide)) (fun _ => ?_)
  refine lv_aload_n hx hb dJx4a65c_grow_92f84_10 rfl (lv_at hl 1 rfl) ?_
  refine va_get (D := (dC, dI)) (ci := 0) (v := .ref z) (C := RJx4a65c) (T := TJx4a65c) (N := 3) hx hb hts in_l_growZI_Jx4a65c hown hK hP 0 rfl rfl 1 (by decide) (hts (.fieldLink RJx4a65c 9 "java/util/ArrayList" "elementData" "[Ljava/lang/Object;") (by decide +kernel)) (fun _ h9 => h9) rfl dJx4a65c_grow_92f84_11 ?_
  refine va_gets hx hb hZ hS hown (hts (.fieldLink RJx4a65c 39 "java/util/ArrayList" "DEFAULTCAPACITY_EMPTY_ELEMENTDATA" "[Ljava/lang/Object;") (by decide +kernel)) (fun _ h9 => h9) dJx4a65c_grow_92f84_14 ?_
  refine lv_acmp_eq (rx := some z) (ry := some z) (tgt := 45) hx hb dJx4a65c_grow_92f84_17 (by decide) (fun _ => ?_) (fun c9 => absurd rfl c9)
  refine lv_aload_n hx hb dJx4a65c_grow_92f84_45 rfl (lv_at hl 1 rfl) ?_
  refine lv_bipush (v := 10) hx hb dJx4a65c_grow_92f84_46 (by decide) ?_
  refine lv_iload_n hx hb dJx4a65c_grow_92f84_48 rfl (lv_at hl 2 rfl) ?_
  refine va_mmax hx hb (by rw [hml]; exact hl.1.symm) hown (hts (.methodLink RJx4a65c 79 Lib.Math.max.name) (by decide +kernel)) (hts (.static Lib.Math.max.name) (by decide +kernel)) (hts (.initialized "java/lang/Math") (by decide +kernel)) (hts (.code Lib.Math.max.name Lib.Math.max.code 2 (some .int)) (by decide +kernel)) (Nat.le_of_ble_eq_true rfl) (Nat.le_of_ble_eq_true rfl) (Nat.le_of_ble_eq_true rfl) (Nat.le_of_ble_eq_true rfl) dJx4a65c_grow_92f84_49 ?_
  refine p1_topr (v := .int 10) (congrArg Value.int (by decide)) ?_
  refine va_newq (C := "java/lang/Object") (N' := 10) hx hb hown (hts (.classLink RJx4a65c 7 "java/lang/Object") (by decide +kernel)) hO hK hP hD hS hA (by decide) (by decide) (by decide) (Nat.le_of_ble_eq_true rfl) (Nat.le_of_ble_eq_true rfl) dJx4a65c_grow_92f84_52 (fun q cG H hK hP hD hS => ?_)
  replace hP : va_P (dC, dI) vwCl [(h0, .inr (0, [.int mc, .ref z, .int 0])), (q, .inl (cG, 10, .inr (.inr (.inr (.inr (fun _ => none))))))] H := hP
  replace hD : va_D A [(h0, .inr (0, [.int mc, .ref z, .int 0])), (q, .inl (cG, 10, .inr (.inr (.inr (.inr (fun _ => none))))))] := hD
  replace hK : va_K (dC, dI) vwCl [(cG, .object "java/lang/Object")] s := hK
  refine W.widen (k := 1) (n := 10) (by omega) (by omega) ?_
  refine lv_dup_x1 hx hb dJx4a65c_grow_92f84_55 rfl rfl ?_
  refine va_put (D := (dC, dI)) (ci := 0) (fs := [.int mc, .ref z, .int 0]) (v := .ref q) (ty := .array (.object "java/lang/Object")) (C := RJx4a65c) (T := TJx4a65c) (N := 3) hx hb hts in_l_growZI_Jx4a65c tyJx4a65c tyJx4a65c_ok nmJx4a65c hown hK hP hD hS 0 rfl rfl 1 (by decide) (hts (.fieldLink RJx4a65c 9 "java/util/ArrayList" "elementData" "[Ljava/lang/Object;") (by decide +kernel)) (fun _ h9 => h9) rfl (by decide +kernel) rfl rfl (Nat.le_of_ble_eq_true rfl) dJx4a65c_grow_92f84_56 (fun H locs hP hD hS => ?_)
  replace hP : va_P (dC, dI) vwCl [(h0, .inr (0, [.int mc, .ref q, .int 0])), (q, .inl (cG, 10, .inr (.inr (.inr (.inr (fun _ => none))))))] H := hP
  replace hD : va_D A [(h0, .inr (0, [.int mc, .ref q, .int 0])), (q, .inl (cG, 10, .inr (.inr (.inr (.inr (fun _ => none))))))] := hD
  exact W.aret hx hb hr (Or.inr ⟨_, rfl⟩) (Or.inr ⟨_, rfl⟩) (fun t ht hW => ⟨⟨(), q, rfl, trivial, cG, by rw [ht]; exact hP, va_K.moved hW.alike hK, hD⟩, hS.F ht⟩) hS.2.2 dJx4a65c_grow_92f84_59
def wq_l_growZ : List Cond := [.code yJx4a65c_grow_d5877 cJx4a65c_grow_d5877 1 (some (.array (.object "java/lang/Object"))), .fieldLink RJx4a65c 48 "java/util/ArrayList" "size" "I", .methodLink RJx4a65c 69 yJx4a65c_grow_92f84, .instanceMethod yJx4a65c_grow_92f84, .selects RJx4a65c yJx4a65c_grow_92f84 yJx4a65c_grow_92f84, .initialized RJx4a65c] ++ (wsJx4a65c0 ++ (wq_l_growZI))
theorem in_l_growZ_Jx4a65c : ∀ w ∈ wsJx4a65c0, w ∈ wq_l_growZ := fun _ h => List.mem_append_right _ (List.mem_append_left _ (h))
set_option maxRecDepth 20000 in
theorem wi_l_growZ : ∀ w ∈ wq_l_growZ, w ∈ lw_tbl := List.forall_mem_append.mpr ⟨(by decide +kernel), List.forall_mem_append.mpr ⟨inKJx4a65c, wi_l_growZI⟩⟩
set_option maxRecDepth 20000 in
theorem wg_l_growZ : GoodIn wq_l_growZ wq_l_growZ := goodIn_sub (fun _ h => h) (by decide +kernel)
set_option maxRecDepth 20000 in
theorem wc_l_growZ_l_growZI_69 : GoodIn wq_l_growZ (wsV RJx4a65c 69 RJx4a65c yJx4a65c_grow_92f84 wq_l_growZI) := goodIn_app (goodIn_of _ (by decide +kernel)) (fun w h => ⟨List.mem_append_right _ (List.mem_append_right _ (h)), (wg_l_growZI w h).2⟩)
set_option maxHeartbeats 4000000 in
set_option maxRecDepth 100000 in
theorem c_l_growZ (l : Launch) (dC : Nat → ClassId) (dI : Nat → Nat → Nat) (h0 : Nat) (mc : Int32) (z : Nat) (sz : Nat)  : Met l yJx4a65c_grow_d5877 wq_l_growZ ({ frames := 2, cells := 1, slots := 10, locals := 47 }) (va_Pc [.ref h0] (fun U => U.heap.size = sz ∧ va_P (dC, dI) vwCl [(h0, .inr (0, [.int mc, .ref z, .int 0]))] U.heap ∧ va_K (dC, dI) vwCl [] U ∧ va_D (fun _ => True) [(h0, .inr (0, [.int mc, .ref z, .int 0]))] ∧ pw_N U ∧ va_Z "java/util/ArrayList" "DEFAULTCAPACITY_EMPTY_ELEMENTDATA" "[Ljava/lang/Object;" (.ref z) (va_A [(h0, .inr (0, [.int mc, .ref z, .int 0]))] sz) U U.heap ∧ va_T (.object "java/lang/Object") z 0 (fun _ => .null) (va_A [(h0, .inr (0, [.int mc, .ref z, .int 0]))] sz) U U.heap ∧ va_AO "java/lang/Object" U)) (va_Qr (fun (_ : Unit) => True) (fun (_ : Unit) (ra : Nat) (t : State) => ∃ (cG : ClassId), va_P (dC, dI) vwCl [(h0, .inr (0, [.int mc, .ref ra, .int 0])), (ra, .inl (cG, 10, .inr (.inr (.inr (.inr (fun _ => none))))))] t.heap ∧ va_K (dC, dI) vwCl [(cG, .object "java/lang/Object")] t ∧ va_D (va_A [(h0, .inr (0, [.int mc, .ref z, .int 0]))] sz) [(h0, .inr (0, [.int mc, .ref ra, .int 0])), (ra, .inl (cG, 10, .inr (.inr (.inr (.inr (fun _ => none))))))]) (va_A [(h0, .inr (0, [.int mc, .ref z, .int 0]))] sz)) 1 10 (va_A [(h0, .inr (0, [.int mc, .ref z, .int 0]))] sz) := by
  refine Met.ofW (cc := cJx4a65c_grow_d5877) (maxL := 1) (ret := (some (.array (.object "java/lang/Object")))) (by decide) rfl ?_
  intro p e s m args below meth c s₁ B hml hv
  obtain ⟨rfl, hsz, hP, hK, hD0, hN, hZ, hT, hO⟩ := hv
  have hx := B.exec
  have hb := B.bytes
  have hr := B.returns
  have hts := atoms_spec (ws := wq_l_growZ) B.pre
  have hown : s.vm.findClass RJx4a65c = some m.cls := findClass_of_methodNamed B.named
  have hlocks := B.notSynchronized
  subst hsz
  have hD := hD0.self (sz := s.heap.size)
  generalize hAe : va_A [(h0, .inr (0, [.int mc, .ref z, .int 0]))] s.heap.size = A at hD hZ hT ⊢
  have hA : ∀ q : Nat, s.heap.size ≤ q → A q := fun q h => by rw [← hAe]; exact Or.inr h
  have hS : va_S A s.heap s.heap [] := va_S.rf
  have hP : va_P (dC, dI) vwCl [(h0, .inr (0, [.int mc, .ref z, .int 0]))] s.heap := hP
  have hl := lv_entry ([.ref h0]) (n := 1) (Nat.le_of_ble_eq_true rfl)
  rw [lg_entry_eq]
  generalize (lg_sl ([.ref h0]) ++ List.replicate (1 - (lg_sl ([.ref h0])).length) Slot.unset).toArray = ls at hl ⊢
  have hl : lv_has ls 1 [(0, .ref h0)] := hl
  refine lv_aload_n hx hb dJx4a65c_grow_d5877_0 rfl (lv_at hl 0 rfl) ?_
  refine lv_aload_n hx hb dJx4a65c_grow_d5877_1 rfl (lv_at hl 0 rfl) ?_
  refine va_get (D := (dC, dI)) (ci := 0) (v := .int 0) (C := RJx4a65c) (T := TJx4a65c) (N := 3) hx hb hts in_l_growZ_Jx4a65c hown hK hP 0 rfl rfl 2 (by decide) (hts (.fieldLink RJx4a65c 48 "java/util/ArrayList" "size" "I") (by decide +kernel)) (fun _ h9 => h9) rfl dJx4a65c_grow_d5877_2 ?_
  refine lv_iconst (v := 1) hx hb dJx4a65c_grow_d5877_5 (by decide) ?_
  refine lv_iadd hx hb dJx4a65c_grow_d5877_6 ?_
  refine p1_topr (v := .int 1) (congrArg Value.int (by decide)) ?_
  have hPc := hP.sub (ws' := [(h0, .inr (0, [.int mc, .ref z, .int 0]))]) [0] rfl
  have hDc := hD.sub (ws' := [(h0, .inr (0, [.int mc, .ref z, .int 0]))]) [0] (by decide) rfl
  have hKc := hK.sub (tys' := []) [] rfl
  have hFc := va_free (wc := [(h0, .inr (0, [.int mc, .ref z, .int 0]))]) hD hS hA [0] rfl
  refine va_callr (va_runV (As := [.int 1]) (rest := []) ⟨hx, hb, hml, hown, hts⟩ (c_l_growZI l dC dI h0 mc z s.heap.size) (cwV 1 hts wc_l_growZ_l_growZI_69 rfl rfl rfl (by decide +kernel) ⟨Nat.le_of_ble_eq_true rfl, Nat.le_of_ble_eq_true rfl⟩) ⟨fun a9 U g9 mk q => by obtain ⟨q0, q1, qP, qK, qD, qN, qZ, qT, qO⟩ := q; exact ⟨q0, q1, qP, va_K.moved (u := U) (U := U.calling g9 mk a9) (Vm.Alike.refl U.vm) qK, qD, pw_N.same (u := U) (U := U.calling g9 mk a9) rfl qN, va_Z.moved (u := U) (U := U.calling g9 mk a9) (Vm.Alike.refl U.vm) qZ, va_T.moved (u := U) (U := U.calling g9 mk a9) (Vm.Alike.refl U.vm) qT, va_AO.moved (u := U) (U := U.calling g9 mk a9) (Vm.Alike.refl U.vm) qO⟩, va_recv hKc hPc (ci := 0) (q0 := 0) rfl rfl, fun U hU hW => ⟨rfl, by rw [hU], by rw [hU]; exact hPc, va_K.moved hW.alike hKc, hDc.weaken (fun _ _ _ _ => trivial), pw_N.warm hW hN, by rw [hU]; exact va_Z.moved hW.alike ((hZ.kept (fun a9 h1 h2 => hS.2.1 a9 h1 h2)).narrow hFc), by rw [hU]; exact va_T.moved hW.alike ((hT.kept (fun a9 h1 h2 => hS.2.1 a9 h1 h2)).narrow hFc), va_AO.moved hW.alike hO⟩⟩ rfl rfl hl.1 rfl (lv_room (Nat.le_of_ble_eq_true rfl)) dJx4a65c_grow_d5877_7 ⟨Nat.le_of_ble_eq_true rfl, Nat.le_of_ble_eq_true rfl⟩) hS (fun q _ h => hFc q h) hFc (fun u r1 t H1 locs ht hvm hw hB hz1 hk1 hS => ?_)
  obtain ⟨cG, hP1, hK1, hD1⟩ := hB
  rw [ht] at hP1
  obtain ⟨hP, hD⟩ := va_join (wr := []) (w1 := [(h0, .inr (0, [.int mc, .ref r1, .int 0])), (r1, .inl (cG, 10, .inr (.inr (.inr (.inr (fun _ => none))))))]) hP hD [0] [] rfl rfl (by decide) (by decide) hk1 hFc hP1 hD1
  generalize H1 = H at hP hS ⊢
  replace hP : va_P (dC, dI) vwCl [(h0, .inr (0, [.int mc, .ref r1, .int 0])), (r1, .inl (cG, 10, .inr (.inr (.inr (.inr (fun _ => none))))))] H := hP
  replace hD : va_D A [(h0, .inr (0, [.int mc, .ref r1, .int 0])), (r1, .inl (cG, 10, .inr (.inr (.inr (.inr (fun _ => none))))))] := hD
  exact W.aret hx hb hr (Or.inr ⟨_, rfl⟩) (Or.inr ⟨_, rfl⟩) (fun t ht hW => ⟨⟨(), r1, rfl, trivial, cG, by rw [ht]; exact hP, va_K.moved hW.alike (va_K.moved hvm.symm hK1), hD⟩, hS.F ht⟩) hS.2.2 dJx4a65c_grow_d5877_10
def wq_l_add3A : List Cond := [.code yJx4a65c_add_72be8 cJx4a65c_add_72be8 4 none, .fieldLink RJx4a65c 48 "java/util/ArrayList" "size" "I"] ++ (wsJx4a65c0)
theorem in_l_add3A_Jx4a65c : ∀ w ∈ wsJx4a65c0, w ∈ wq_l_add3A := fun _ h => List.mem_append_right _ (h)
set_option maxRecDepth 20000 in
theorem wi_l_add3A : ∀ w ∈ wq_l_add3A, w ∈ lw_tbl := List.forall_mem_append.mpr ⟨(by decide +kernel), inKJx4a65c⟩
set_option maxRecDepth 20000 in
theorem wg_l_add3A : GoodIn wq_l_add3A wq_l_add3A := goodIn_sub (fun _ h => h) (by decide +kernel)
set_option maxHeartbeats 4000000 in
set_option maxRecDepth 100000 in
theorem c_l_add3A (l : Launch) (dC : Nat → ClassId) (dI : Nat → Nat → Nat) (h0 : Nat) (mc : Int32) (a : Nat) (n : Nat) (M : Nat) (cE : ClassId) (f : Nat → Option Nat) (h1 : Nat) (vs : List Value) (sz : Nat) (hp0 : n < M) (hp1 : M < 100) : Met l yJx4a65c_add_72be8 wq_l_add3A ({ frames := 0, cells := 0, slots := 0, locals := 0 }) (va_Pc [.ref h0, .ref h1, .ref a, .int (nI n)] (fun U => U.heap.size = sz ∧ va_P (dC, dI) vwCl [(h0, .inr (0, [.int mc, .ref a, .int (nI n)])), (a, .inl (cE, M, .inr (.inr (.inr (.inr f))))), (h1, .inr (8, vs))] U.heap ∧ va_K (dC, dI) vwCl [(cE, .object "java/lang/Object")] U ∧ va_D (fun _ => True) [(h0, .inr (0, [.int mc, .ref a, .int (nI n)])), (a, .inl (cE, M, .inr (.inr (.inr (.inr f))))), (h1, .inr (8, vs))] ∧ pw_N U)) (va_Qv (fun (_ : Unit) => True) (fun (_ : Unit) (t : State) => ∃ (e1 : Nat) (cG : ClassId) (N : Nat) (g : Nat → Option Nat), (n < N ∧ N < 100) ∧ ((∀ i : Nat, i < n → g i = f i) ∧ g n = some h1) ∧ va_P (dC, dI) vwCl [(h0, .inr (0, [.int mc, .ref e1, .int (nI (n + 1))])), (e1, .inl (cG, N, .inr (.inr (.inr (.inr g))))), (h1, .inr (8, vs))] t.heap ∧ va_K (dC, dI) vwCl [(cG, .object "java/lang/Object")] t ∧ va_D (va_A [(h0, .inr (0, [.int mc, .ref a, .int (nI n)])), (a, .inl (cE, M, .inr (.inr (.inr (.inr f))))), (h1, .inr (8, vs))] sz) [(h0, .inr (0, [.int mc, .ref e1, .int (nI (n + 1))])), (e1, .inl (cG, N, .inr (.inr (.inr (.inr g))))), (h1, .inr (8, vs))]) (va_A [(h0, .inr (0, [.int mc, .ref a, .int (nI n)])), (a, .inl (cE, M, .inr (.inr (.inr (.inr f))))), (h1, .inr (8, vs))] sz)) 0 0 (va_A [(h0, .inr (0, [.int mc, .ref a, .int (nI n)])), (a, .inl (cE, M, .inr (.inr (.inr (.inr f))))), (h1, .inr (8, vs))] sz) := by
  refine Met.ofW (cc := cJx4a65c_add_72be8) (maxL := 4) (ret := none) (by decide) rfl ?_
  intro p e s m args below meth c s₁ B hml hv
  obtain ⟨rfl, hsz, hP, hK, hD0, hN⟩ := hv
  have hx := B.exec
  have hb := B.bytes
  have hr := B.returns
  have hts := atoms_spec (ws := wq_l_add3A) B.pre
  have hown : s.vm.findClass RJx4a65c = some m.cls := findClass_of_methodNamed B.named
  have hlocks := B.notSynchronized
  subst hsz
  have hD := hD0.self (sz := s.heap.size)
  generalize hAe : va_A [(h0, .inr (0, [.int mc, .ref a, .int (nI n)])), (a, .inl (cE, M, .inr (.inr (.inr (.inr f))))), (h1, .inr (8, vs))] s.heap.size = A at hD ⊢
  have hA : ∀ q : Nat, s.heap.size ≤ q → A q := fun q h => by rw [← hAe]; exact Or.inr h
  have hS : va_S A s.heap s.heap [] := va_S.rf
  have hP : va_P (dC, dI) vwCl [(h0, .inr (0, [.int mc, .ref a, .int (nI n)])), (a, .inl (cE, M, .inr (.inr (.inr (.inr f))))), (h1, .inr (8, vs))] s.heap := hP
  have hl := lv_entry ([.ref h0, .ref h1, .ref a, .int (nI n)]) (n := 4) (Nat.le_of_ble_eq_true rfl)
  rw [lg_entry_eq]
  generalize (lg_sl ([.ref h0, .ref h1, .ref a, .int (nI n)]) ++ List.replicate (4 - (lg_sl ([.ref h0, .ref h1, .ref a, .int (nI n)])).length) Slot.unset).toArray = ls at hl ⊢
  have hl : lv_has ls 4 [(0, .ref h0), (1, .ref h1), (2, .ref a), (3, .int (nI n))] := hl
  refine lv_iload_n hx hb dJx4a65c_add_72be8_0 rfl (lv_at hl 3 rfl) ?_
  refine lv_aload_n hx hb dJx4a65c_add_72be8_1 rfl (lv_at hl 2 rfl) ?_
  refine va_alen (v := nI M) hx hb hK hP 1 0 rfl rfl rfl dJx4a65c_add_72be8_2 ?_
  refine lv_icmp_ne (tgt := 11) hx hb dJx4a65c_add_72be8_3 (by decide) (fun _ => ?_) (fun c9 => absurd ((nI_eq (a := n) (b := M) (by omega) (by omega)).mp c9) (by omega))
  refine lv_aload_n hx hb dJx4a65c_add_72be8_11 rfl (lv_at hl 2 rfl) ?_
  refine lv_iload_n hx hb dJx4a65c_add_72be8_12 rfl (lv_at hl 3 rfl) ?_
  refine lv_aload_n hx hb dJx4a65c_add_72be8_13 rfl (lv_at hl 1 rfl) ?_
  have hca := hN (.castable RX7 "java/lang/Object") (by decide +kernel)
  refine va_astqO (E := "java/lang/Object") (r := (RX7, TX7, 12)) (ci := 8) (qk := 2) (n := M) (f := f) (i := (nI n)) hx hb hK hP hD hS 1 0 rfl rfl hca rfl rfl (vp_in_nI (n := n) (by omega) (by omega)) dJx4a65c_add_72be8_14 (fun H locs hP hD hS => ?_)
  replace hP : va_P (dC, dI) vwCl [(h0, .inr (0, [.int mc, .ref a, .int (nI n)])), (a, .inl (cE, M, .inr (.inr (.inr (.inr (va_up f (nI n).toNatClampNeg (some h1))))))), (h1, .inr (8, vs))] H := hP
  replace hD : va_D A [(h0, .inr (0, [.int mc, .ref a, .int (nI n)])), (a, .inl (cE, M, .inr (.inr (.inr (.inr (va_up f (nI n).toNatClampNeg (some h1))))))), (h1, .inr (8, vs))] := hD
  have hg2 : (∀ i : Nat, i < n → (va_up f (nI n).toNatClampNeg (some h1)) i = f i) ∧ (va_up f (nI n).toNatClampNeg (some h1)) n = some h1 := ⟨fun i hi => by rw [nI_clamp (show n < 2 ^ 31 by omega), va_up_ne _ _ (by omega)] <;> exact (fun _ _ => rfl : ∀ i : Nat, i < n → f i = f i) i hi, by rw [nI_clamp (show n < 2 ^ 31 by omega)]; exact va_up_self _ _ _⟩
  generalize (va_up f (nI n).toNatClampNeg (some h1)) = g2 at hP hD hg2
  refine lv_aload_n hx hb dJx4a65c_add_72be8_15 rfl (lv_at hl 0 rfl) ?_
  refine lv_iload_n hx hb dJx4a65c_add_72be8_16 rfl (lv_at hl 3 rfl) ?_
  refine lv_iconst (v := 1) hx hb dJx4a65c_add_72be8_17 (by decide) ?_
  refine lv_iadd hx hb dJx4a65c_add_72be8_18 ?_
  refine p1_topr (v := .int (nI (n + 1))) (congrArg Value.int (nI_1 n)) ?_
  refine va_put (D := (dC, dI)) (ci := 0) (fs := [.int mc, .ref a, .int (nI n)]) (v := .int (nI (n + 1))) (ty := .int) (C := RJx4a65c) (T := TJx4a65c) (N := 3) hx hb hts in_l_add3A_Jx4a65c tyJx4a65c tyJx4a65c_ok nmJx4a65c hown hK hP hD hS 0 rfl rfl 2 (by decide) (hts (.fieldLink RJx4a65c 48 "java/util/ArrayList" "size" "I") (by decide +kernel)) (fun _ h9 => h9) rfl (by decide +kernel) rfl rfl (Nat.le_of_ble_eq_true rfl) dJx4a65c_add_72be8_19 (fun H locs hP hD hS => ?_)
  replace hP : va_P (dC, dI) vwCl [(h0, .inr (0, [.int mc, .ref a, .int (nI (n + 1))])), (a, .inl (cE, M, .inr (.inr (.inr (.inr g2))))), (h1, .inr (8, vs))] H := hP
  replace hD : va_D A [(h0, .inr (0, [.int mc, .ref a, .int (nI (n + 1))])), (a, .inl (cE, M, .inr (.inr (.inr (.inr g2))))), (h1, .inr (8, vs))] := hD
  have hK9 := hK.sub (tys' := [(cE, .object "java/lang/Object")]) [0] rfl
  exact W.vret hx hb hr (fun t ht hW => ⟨⟨(), rfl, trivial, a, cE, M, g2, ⟨hp0, hp1⟩, hg2, by rw [ht]; exact hP, va_K.moved hW.alike hK9, hD⟩, hS.F ht⟩) hS.2.2 dJx4a65c_add_72be8_22
def wq_l_add3B : List Cond := [.code yJx4a65c_add_72be8 cJx4a65c_add_72be8 4 none, .fieldLink RJx4a65c 48 "java/util/ArrayList" "size" "I", .methodLink RJx4a65c 129 yJx4a65c_grow_d5877, .instanceMethod yJx4a65c_grow_d5877, .selects RJx4a65c yJx4a65c_grow_d5877 yJx4a65c_grow_d5877, .initialized RJx4a65c] ++ (wsJx4a65c0 ++ (wq_l_grow))
theorem in_l_add3B_Jx4a65c : ∀ w ∈ wsJx4a65c0, w ∈ wq_l_add3B := fun _ h => List.mem_append_right _ (List.mem_append_left _ (h))
set_option maxRecDepth 20000 in
theorem wi_l_add3B : ∀ w ∈ wq_l_add3B, w ∈ lw_tbl := List.forall_mem_append.mpr ⟨(by decide +kernel), List.forall_mem_append.mpr ⟨inKJx4a65c, wi_l_grow⟩⟩
set_option maxRecDepth 20000 in
theorem wg_l_add3B : GoodIn wq_l_add3B wq_l_add3B := goodIn_sub (fun _ h => h) (by decide +kernel)
set_option maxRecDepth 20000 in
theorem wc_l_add3B_l_grow_129 : GoodIn wq_l_add3B (wsV RJx4a65c 129 RJx4a65c yJx4a65c_grow_d5877 wq_l_grow) := goodIn_app (goodIn_of _ (by decide +kernel)) (fun w h => ⟨List.mem_append_right _ (List.mem_append_right _ (h)), (wg_l_grow w h).2⟩)
set_option maxHeartbeats 4000000 in
set_option maxRecDepth 100000 in
theorem c_l_add3B (l : Launch) (dC : Nat → ClassId) (dI : Nat → Nat → Nat) (h0 : Nat) (mc : Int32) (a : Nat) (mi : Nat) (n : Nat) (cE : ClassId) (f : Nat → Option Nat) (h1 : Nat) (vs : List Value) (sz : Nat) (hp0 : 0 < n) (hp1 : n < 60) : Met l yJx4a65c_add_72be8 wq_l_add3B ({ frames := 5, cells := 1, slots := 200, locals := 127 }) (va_Pc [.ref h0, .ref h1, .ref a, .int (nI n)] (fun U => U.heap.size = sz ∧ va_P (dC, dI) vwCl [(h0, .inr (0, [.int mc, .ref a, .int (nI n)])), (a, .inl (cE, n, .inr (.inr (.inr (.inr f))))), (h1, .inr (8, vs))] U.heap ∧ va_K (dC, dI) vwCl [(cE, .object "java/lang/Object")] U ∧ va_D (fun _ => True) [(h0, .inr (0, [.int mc, .ref a, .int (nI n)])), (a, .inl (cE, n, .inr (.inr (.inr (.inr f))))), (h1, .inr (8, vs))] ∧ pw_N U ∧ xL mi f n (va_A [(h0, .inr (0, [.int mc, .ref a, .int (nI n)])), (a, .inl (cE, n, .inr (.inr (.inr (.inr f))))), (h1, .inr (8, vs))] sz) U U.heap)) (va_Qv (fun (_ : Unit) => True) (fun (_ : Unit) (t : State) => ∃ (e1 : Nat) (cG : ClassId) (N : Nat) (g : Nat → Option Nat), (n < N ∧ N < 100) ∧ ((∀ i : Nat, i < n → g i = f i) ∧ g n = some h1) ∧ va_P (dC, dI) vwCl [(h0, .inr (0, [.int mc, .ref e1, .int (nI (n + 1))])), (e1, .inl (cG, N, .inr (.inr (.inr (.inr g))))), (h1, .inr (8, vs))] t.heap ∧ va_K (dC, dI) vwCl [(cG, .object "java/lang/Object")] t ∧ va_D (va_A [(h0, .inr (0, [.int mc, .ref a, .int (nI n)])), (a, .inl (cE, n, .inr (.inr (.inr (.inr f))))), (h1, .inr (8, vs))] sz) [(h0, .inr (0, [.int mc, .ref e1, .int (nI (n + 1))])), (e1, .inl (cG, N, .inr (.inr (.inr (.inr g))))), (h1, .inr (8, vs))]) (va_A [(h0, .inr (0, [.int mc, .ref a, .int (nI n)])), (a, .inl (cE, n, .inr (.inr (.inr (.inr f))))), (h1, .inr (8, vs))] sz)) 1 200 (va_A [(h0, .inr (0, [.int mc, .ref a, .int (nI n)])), (a, .inl (cE, n, .inr (.inr (.inr (.inr f))))), (h1, .inr (8, vs))] sz) := by
  refine Met.ofW (cc := cJx4a65c_add_72be8) (maxL := 4) (ret := none) (by decide) rfl ?_
  intro p e s m args below meth c s₁ B hml hv
  obtain ⟨rfl, hsz, hP, hK, hD0, hN, hL⟩ := hv
  have hx := B.exec
  have hb := B.bytes
  have hr := B.returns
  have hts := atoms_spec (ws := wq_l_add3B) B.pre
  have hown : s.vm.findClass RJx4a65c = some m.cls := findClass_of_methodNamed B.named
  have hlocks := B.notSynchronized
  subst hsz
  have hD := hD0.self (sz := s.heap.size)
  generalize hAe : va_A [(h0, .inr (0, [.int mc, .ref a, .int (nI n)])), (a, .inl (cE, n, .inr (.inr (.inr (.inr f))))), (h1, .inr (8, vs))] s.heap.size = A at hD hL ⊢
  have hA : ∀ q : Nat, s.heap.size ≤ q → A q := fun q h => by rw [← hAe]; exact Or.inr h
  have hS : va_S A s.heap s.heap [] := va_S.rf
  have hP : va_P (dC, dI) vwCl [(h0, .inr (0, [.int mc, .ref a, .int (nI n)])), (a, .inl (cE, n, .inr (.inr (.inr (.inr f))))), (h1, .inr (8, vs))] s.heap := hP
  have hl := lv_entry ([.ref h0, .ref h1, .ref a, .int (nI n)]) (n := 4) (Nat.le_of_ble_eq_true rfl)
  rw [lg_entry_eq]
  generalize (lg_sl ([.ref h0, .ref h1, .ref a, .int (nI n)]) ++ List.replicate (4 - (lg_sl ([.ref h0, .ref h1, .ref a, .int (nI n)])).length) Slot.unset).toArray = ls at hl ⊢
  have hl : lv_has ls 4 [(0, .ref h0), (1, .ref h1), (2, .ref a), (3, .int (nI n))] := hl
  refine lv_iload_n hx hb dJx4a65c_add_72be8_0 rfl (lv_at hl 3 rfl) ?_
  refine lv_aload_n hx hb dJx4a65c_add_72be8_1 rfl (lv_at hl 2 rfl) ?_
  refine va_alen (v := nI n) hx hb hK hP 1 0 rfl rfl rfl dJx4a65c_add_72be8_2 ?_
  refine lv_icmp_ne (tgt := 11) hx hb dJx4a65c_add_72be8_3 (by decide) (fun c9 => absurd rfl c9) (fun _ => ?_)
  refine lv_aload_n hx hb dJx4a65c_add_72be8_6 rfl (lv_at hl 0 rfl) ?_
  have hPc := hP.sub (ws' := [(h0, .inr (0, [.int mc, .ref a, .int (nI n)])), (a, .inl (cE, n, .inr (.inr (.inr (.inr f)))))]) [0, 1] rfl
  have hDc := hD.sub (ws' := [(h0, .inr (0, [.int mc, .ref a, .int (nI n)])), (a, .inl (cE, n, .inr (.inr (.inr (.inr f)))))]) [0, 1] (by decide) rfl
  have hKc := hK.sub (tys' := [(cE, .object "java/lang/Object")]) [0] rfl
  have hFc := va_free (wc := [(h0, .inr (0, [.int mc, .ref a, .int (nI n)])), (a, .inl (cE, n, .inr (.inr (.inr (.inr f)))))]) hD hS hA [0, 1] rfl
  refine va_callr (va_runV (As := []) (rest := []) ⟨hx, hb, hml, hown, hts⟩ (c_l_grow l dC dI h0 mc a mi n cE f s.heap.size hp0 (by omega)) (cwV 0 hts wc_l_add3B_l_grow_129 rfl rfl rfl (by decide +kernel) ⟨Nat.le_of_ble_eq_true rfl, Nat.le_of_ble_eq_true rfl⟩) ⟨fun a9 U g9 mk q => by obtain ⟨q0, q1, qP, qK, qD, qN, qL⟩ := q; exact ⟨q0, q1, qP, va_K.moved (u := U) (U := U.calling g9 mk a9) (Vm.Alike.refl U.vm) qK, qD, pw_N.same (u := U) (U := U.calling g9 mk a9) rfl qN, xL.moved (u := U) (U := U.calling g9 mk a9) (Vm.Alike.refl U.vm) qL⟩, va_recv hKc hPc (ci := 0) (q0 := 0) rfl rfl, fun U hU hW => ⟨rfl, by rw [hU], by rw [hU]; exact hPc, va_K.moved hW.alike hKc, hDc.weaken (fun _ _ _ _ => trivial), pw_N.warm hW hN, by rw [hU]; exact xL.moved hW.alike ((hL.kept (fun a9 h1 h2 => hS.2.1 a9 h1 h2)).narrow hFc)⟩⟩ rfl rfl hl.1 rfl (lv_room (Nat.le_of_ble_eq_true rfl)) dJx4a65c_add_72be8_7 ⟨Nat.le_of_ble_eq_true rfl, Nat.le_of_ble_eq_true rfl⟩) hS (fun q _ h => hFc q h) hFc (fun u r1 t H1 locs ht hvm hw hB hz1 hk1 hS => ?_)
  obtain ⟨cG, N, g, hN2, hg, hP1, hK1, hD1⟩ := hB
  rw [ht] at hP1
  obtain ⟨hP, hD⟩ := va_join (wr := [(h1, .inr (8, vs))]) (w1 := [(h0, .inr (0, [.int mc, .ref r1, .int (nI n)])), (r1, .inl (cG, N, .inr (.inr (.inr (.inr g)))))]) hP hD [0, 1] [2] rfl rfl (by decide) (by decide) hk1 hFc hP1 hD1
  generalize H1 = H at hP hS ⊢
  replace hP := hP.sub (ws' := [(h0, .inr (0, [.int mc, .ref r1, .int (nI n)])), (r1, .inl (cG, N, .inr (.inr (.inr (.inr g))))), (h1, .inr (8, vs))]) [1, 2, 0] rfl
  replace hD := hD.sub (ws' := [(h0, .inr (0, [.int mc, .ref r1, .int (nI n)])), (r1, .inl (cG, N, .inr (.inr (.inr (.inr g))))), (h1, .inr (8, vs))]) [1, 2, 0] (by decide) rfl
  replace hK := hK.app (va_K.moved hvm.symm hK1)
  replace hK : va_K (dC, dI) vwCl [(cE, .object "java/lang/Object"), (cG, .object "java/lang/Object")] s := hK
  refine lv_astore_n (lv' := [(2, .ref r1), (0, .ref h0), (1, .ref h1), (3, .int (nI n))]) hx hb dJx4a65c_add_72be8_10 rfl hl (by decide) rfl (fun ls hl => ?_)
  refine lv_aload_n hx hb dJx4a65c_add_72be8_11 rfl (lv_at hl 0 rfl) ?_
  refine lv_iload_n hx hb dJx4a65c_add_72be8_12 rfl (lv_at hl 3 rfl) ?_
  refine lv_aload_n hx hb dJx4a65c_add_72be8_13 rfl (lv_at hl 2 rfl) ?_
  have hca := hN (.castable RX7 "java/lang/Object") (by decide +kernel)
  refine va_astqO (E := "java/lang/Object") (r := (RX7, TX7, 12)) (ci := 8) (qk := 2) (n := N) (f := g) (i := (nI n)) hx hb hK hP hD hS 1 1 rfl rfl hca rfl rfl (vp_in_nI (n := n) (by omega) (by omega)) dJx4a65c_add_72be8_14 (fun H locs hP hD hS => ?_)
  replace hP : va_P (dC, dI) vwCl [(h0, .inr (0, [.int mc, .ref r1, .int (nI n)])), (r1, .inl (cG, N, .inr (.inr (.inr (.inr (va_up g (nI n).toNatClampNeg (some h1))))))), (h1, .inr (8, vs))] H := hP
  replace hD : va_D A [(h0, .inr (0, [.int mc, .ref r1, .int (nI n)])), (r1, .inl (cG, N, .inr (.inr (.inr (.inr (va_up g (nI n).toNatClampNeg (some h1))))))), (h1, .inr (8, vs))] := hD
  have hg2 : (∀ i : Nat, i < n → (va_up g (nI n).toNatClampNeg (some h1)) i = f i) ∧ (va_up g (nI n).toNatClampNeg (some h1)) n = some h1 := ⟨fun i hi => by rw [nI_clamp (show n < 2 ^ 31 by omega), va_up_ne _ _ (by omega)] <;> exact hg i hi, by rw [nI_clamp (show n < 2 ^ 31 by omega)]; exact va_up_self _ _ _⟩
  generalize (va_up g (nI n).toNatClampNeg (some h1)) = g2 at hP hD hg2
  refine lv_aload_n hx hb dJx4a65c_add_72be8_15 rfl (lv_at hl 1 rfl) ?_
  refine lv_iload_n hx hb dJx4a65c_add_72be8_16 rfl (lv_at hl 3 rfl) ?_
  refine lv_iconst (v := 1) hx hb dJx4a65c_add_72be8_17 (by decide) ?_
  refine lv_iadd hx hb dJx4a65c_add_72be8_18 ?_
  refine p1_topr (v := .int (nI (n + 1))) (congrArg Value.int (nI_1 n)) ?_
  refine va_put (D := (dC, dI)) (ci := 0) (fs := [.int mc, .ref r1, .int (nI n)]) (v := .int (nI (n + 1))) (ty := .int) (C := RJx4a65c) (T := TJx4a65c) (N := 3) hx hb hts in_l_add3B_Jx4a65c tyJx4a65c tyJx4a65c_ok nmJx4a65c hown hK hP hD hS 0 rfl rfl 2 (by decide) (hts (.fieldLink RJx4a65c 48 "java/util/ArrayList" "size" "I") (by decide +kernel)) (fun _ h9 => h9) rfl (by decide +kernel) rfl rfl (Nat.le_of_ble_eq_true rfl) dJx4a65c_add_72be8_19 (fun H locs hP hD hS => ?_)
  replace hP : va_P (dC, dI) vwCl [(h0, .inr (0, [.int mc, .ref r1, .int (nI (n + 1))])), (r1, .inl (cG, N, .inr (.inr (.inr (.inr g2))))), (h1, .inr (8, vs))] H := hP
  replace hD : va_D A [(h0, .inr (0, [.int mc, .ref r1, .int (nI (n + 1))])), (r1, .inl (cG, N, .inr (.inr (.inr (.inr g2))))), (h1, .inr (8, vs))] := hD
  have hK9 := hK.sub (tys' := [(cG, .object "java/lang/Object")]) [1] rfl
  exact W.vret hx hb hr (fun t ht hW => ⟨⟨(), rfl, trivial, r1, cG, N, g2, ⟨hN2.1, by omega⟩, hg2, by rw [ht]; exact hP, va_K.moved hW.alike hK9, hD⟩, hS.F ht⟩) hS.2.2 dJx4a65c_add_72be8_22
def wq_l_add3C : List Cond := [.code yJx4a65c_add_72be8 cJx4a65c_add_72be8 4 none, .fieldLink RJx4a65c 48 "java/util/ArrayList" "size" "I", .methodLink RJx4a65c 129 yJx4a65c_grow_d5877, .instanceMethod yJx4a65c_grow_d5877, .selects RJx4a65c yJx4a65c_grow_d5877 yJx4a65c_grow_d5877, .initialized RJx4a65c] ++ (wsJx4a65c0 ++ (wq_l_growZ))
theorem in_l_add3C_Jx4a65c : ∀ w ∈ wsJx4a65c0, w ∈ wq_l_add3C := fun _ h => List.mem_append_right _ (List.mem_append_left _ (h))
set_option maxRecDepth 20000 in
theorem wi_l_add3C : ∀ w ∈ wq_l_add3C, w ∈ lw_tbl := List.forall_mem_append.mpr ⟨(by decide +kernel), List.forall_mem_append.mpr ⟨inKJx4a65c, wi_l_growZ⟩⟩
set_option maxRecDepth 20000 in
theorem wg_l_add3C : GoodIn wq_l_add3C wq_l_add3C := goodIn_sub (fun _ h => h) (by decide +kernel)
set_option maxRecDepth 20000 in
theorem wc_l_add3C_l_growZ_129 : GoodIn wq_l_add3C (wsV RJx4a65c 129 RJx4a65c yJx4a65c_grow_d5877 wq_l_growZ) := goodIn_app (goodIn_of _ (by decide +kernel)) (fun w h => ⟨List.mem_append_right _ (List.mem_append_right _ (h)), (wg_l_growZ w h).2⟩)
set_option maxHeartbeats 4000000 in
set_option maxRecDepth 100000 in
theorem c_l_add3C (l : Launch) (dC : Nat → ClassId) (dI : Nat → Nat → Nat) (h0 : Nat) (mc : Int32) (z : Nat) (f : Nat → Option Nat) (h1 : Nat) (vs : List Value) (sz : Nat)  : Met l yJx4a65c_add_72be8 wq_l_add3C ({ frames := 3, cells := 1, slots := 10, locals := 67 }) (va_Pc [.ref h0, .ref h1, .ref z, .int 0] (fun U => U.heap.size = sz ∧ va_P (dC, dI) vwCl [(h0, .inr (0, [.int mc, .ref z, .int 0])), (h1, .inr (8, vs))] U.heap ∧ va_K (dC, dI) vwCl [] U ∧ va_D (fun _ => True) [(h0, .inr (0, [.int mc, .ref z, .int 0])), (h1, .inr (8, vs))] ∧ pw_N U ∧ va_Z "java/util/ArrayList" "DEFAULTCAPACITY_EMPTY_ELEMENTDATA" "[Ljava/lang/Object;" (.ref z) (va_A [(h0, .inr (0, [.int mc, .ref z, .int 0])), (h1, .inr (8, vs))] sz) U U.heap ∧ va_T (.object "java/lang/Object") z 0 (fun _ => .null) (va_A [(h0, .inr (0, [.int mc, .ref z, .int 0])), (h1, .inr (8, vs))] sz) U U.heap ∧ va_AO "java/lang/Object" U)) (va_Qv (fun (_ : Unit) => True) (fun (_ : Unit) (t : State) => ∃ (e1 : Nat) (cG : ClassId) (N : Nat) (g : Nat → Option Nat), (0 < N ∧ N < 100) ∧ ((∀ i : Nat, i < 0 → g i = f i) ∧ g 0 = some h1) ∧ va_P (dC, dI) vwCl [(h0, .inr (0, [.int mc, .ref e1, .int (nI (0 + 1))])), (e1, .inl (cG, N, .inr (.inr (.inr (.inr g))))), (h1, .inr (8, vs))] t.heap ∧ va_K (dC, dI) vwCl [(cG, .object "java/lang/Object")] t ∧ va_D (va_A [(h0, .inr (0, [.int mc, .ref z, .int 0])), (h1, .inr (8, vs))] sz) [(h0, .inr (0, [.int mc, .ref e1, .int (nI (0 + 1))])), (e1, .inl (cG, N, .inr (.inr (.inr (.inr g))))), (h1, .inr (8, vs))]) (va_A [(h0, .inr (0, [.int mc, .ref z, .int 0])), (h1, .inr (8, vs))] sz)) 1 10 (va_A [(h0, .inr (0, [.int mc, .ref z, .int 0])), (h1, .inr (8, vs))] sz) := by
  refine Met.ofW (cc := cJx4a65c_add_72be8) (maxL := 4) (ret := none) (by decide) rfl ?_
  intro p e s m args below meth c s₁ B hml hv
  obtain ⟨rfl, hsz, hP, hK, hD0, hN, hZ, hT, hO⟩ := hv
  have hx := B.exec
  have hb := B.bytes
  have hr := B.returns
  have hts := atoms_spec (ws := wq_l_add3C) B.pre
  have hown : s.vm.findClass RJx4a65c = some m.cls := findClass_of_methodNamed B.named
  have hlocks := B.notSynchronized
  subst hsz
  have hD := hD0.self (sz := s.heap.size)
  generalize hAe : va_A [(h0, .inr (0, [.int mc, .ref z, .int 0])), (h1, .inr (8, vs))] s.heap.size = A at hD hZ hT ⊢
  have hA : ∀ q : Nat, s.heap.size ≤ q → A q := fun q h => by rw [← hAe]; exact Or.inr h
  have hS : va_S A s.heap s.heap [] := va_S.rf
  have hP : va_P (dC, dI) vwCl [(h0, .inr (0, [.int mc, .ref z, .int 0])), (h1, .inr (8, vs))] s.heap := hP
  have hl := lv_entry ([.ref h0, .ref h1, .ref z, .int 0]) (n := 4) (Nat.le_of_ble_eq_true rfl)
  rw [lg_entry_eq]
  generalize (lg_sl ([.ref h0, .ref h1, .ref z, .int 0]) ++ List.replicate (4 - (lg_sl ([.ref h0, .ref h1, .ref z, .int 0])).length) Slot.unset).toArray = ls at hl ⊢
  have hl : lv_has ls 4 [(0, .ref h0), (1, .ref h1), (2, .ref z), (3, .int 0)] := hl
  refine lv_iload_n hx hb dJx4a65c_add_72be8_0 rfl (lv_at hl 3 rfl) ?_
  refine lv_aload_n hx hb dJx4a65c_add_72be8_1 rfl (lv_at hl 2 rfl) ?_
  refine va_tlen (v := 0) hx hb hT hS rfl dJx4a65c_add_72be8_2 ?_
  refine lv_icmp_ne (tgt := 11) hx hb dJx4a65c_add_72be8_3 (by decide) (fun c9 => absurd rfl c9) (fun _ => ?_)
  refine lv_aload_n hx hb dJx4a65c_add_72be8_6 rfl (lv_at hl 0 rfl) ?_
  have hPc := hP.sub (ws' := [(h0, .inr (0, [.int mc, .ref z, .int 0]))]) [0] rfl
  have hDc := hD.sub (ws' := [(h0, .inr (0, [.int mc, .ref z, .int 0]))]) [0] (by decide) rfl
  have hKc := hK.sub (tys' := []) [] rfl
  have hFc := va_free (wc := [(h0, .inr (0, [.int mc, .ref z, .int 0]))]) hD hS hA [0] rfl
  refine va_callr (va_runV (As := []) (rest := []) ⟨hx, hb, hml, hown, hts⟩ (c_l_growZ l dC dI h0 mc z s.heap.size) (cwV 0 hts wc_l_add3C_l_growZ_129 rfl rfl rfl (by decide +kernel) ⟨Nat.le_of_ble_eq_true rfl, Nat.le_of_ble_eq_true rfl⟩) ⟨fun a9 U g9 mk q => by obtain ⟨q0, q1, qP, qK, qD, qN, qZ, qT, qO⟩ := q; exact ⟨q0, q1, qP, va_K.moved (u := U) (U := U.calling g9 mk a9) (Vm.Alike.refl U.vm) qK, qD, pw_N.same (u := U) (U := U.calling g9 mk a9) rfl qN, va_Z.moved (u := U) (U := U.calling g9 mk a9) (Vm.Alike.refl U.vm) qZ, va_T.moved (u := U) (U := U.calling g9 mk a9) (Vm.Alike.refl U.vm) qT, va_AO.moved (u := U) (U := U.calling g9 mk a9) (Vm.Alike.refl U.vm) qO⟩, va_recv hKc hPc (ci := 0) (q0 := 0) rfl rfl, fun U hU hW => ⟨rfl, by rw [hU], by rw [hU]; exact hPc, va_K.moved hW.alike hKc, hDc.weaken (fun _ _ _ _ => trivial), pw_N.warm hW hN, by rw [hU]; exact va_Z.moved hW.alike ((hZ.kept (fun a9 h1 h2 => hS.2.1 a9 h1 h2)).narrow hFc), by rw [hU]; exact va_T.moved hW.alike ((hT.kept (fun a9 h1 h2 => hS.2.1 a9 h1 h2)).narrow hFc), va_AO.moved hW.alike hO⟩⟩ rfl rfl hl.1 rfl (lv_room (Nat.le_of_ble_eq_true rfl)) dJx4a65c_add_72be8_7 ⟨Nat.le_of_ble_eq_true rfl, Nat.le_of_ble_eq_true rfl⟩) hS (fun q _ h => hFc q h) hFc (fun u r1 t H1 locs ht hvm hw hB hz1 hk1 hS => ?_)
  obtain ⟨cG, hP1, hK1, hD1⟩ := hB
  rw [ht] at hP1
  obtain ⟨hP, hD⟩ := va_join (wr := [(h1, .inr (8, vs))]) (w1 := [(h0, .inr (0, [.int mc, .ref r1, .int 0])), (r1, .inl (cG, 10, .inr (.inr (.inr (.inr (fun _ => none))))))]) hP hD [0] [1] rfl rfl (by decide) (by decide) hk1 hFc hP1 hD1
  generalize H1 = H at hP hS ⊢
  replace hP := hP.sub (ws' := [(h0, .inr (0, [.int mc, .ref r1, .int 0])), (r1, .inl (cG, 10, .inr (.inr (.inr (.inr (fun _ => none)))))), (h1, .inr (8, vs))]) [1, 2, 0] rfl
  replace hD := hD.sub (ws' := [(h0, .inr (0, [.int mc, .ref r1, .int 0])), (r1, .inl (cG, 10, .inr (.inr (.inr (.inr (fun _ => none)))))), (h1, .inr (8, vs))]) [1, 2, 0] (by decide) rfl
  replace hK := hK.app (va_K.moved hvm.symm hK1)
  replace hK : va_K (dC, dI) vwCl [(cG, .object "java/lang/Object")] s := hK
  refine lv_astore_n (lv' := [(2, .ref r1), (0, .ref h0), (1, .ref h1), (3, .int 0)]) hx hb dJx4a65c_add_72be8_10 rfl hl (by decide) rfl (fun ls hl => ?_)
  refine lv_aload_n hx hb dJx4a65c_add_72be8_11 rfl (lv_at hl 0 rfl) ?_
  refine lv_iload_n hx hb dJx4a65c_add_72be8_12 rfl (lv_at hl 3 rfl) ?_
  refine lv_aload_n hx hb dJx4a65c_add_72be8_13 rfl (lv_at hl 2 rfl) ?_
  have hca := hN (.castable RX7 "java/lang/Object") (by decide +kernel)
  refine va_astqO (E := "java/lang/Object") (r := (RX7, TX7, 12)) (ci := 8) (qk := 2) (n := 10) (f := (fun _ => none)) (i := 0) hx hb hK hP hD hS 1 0 rfl rfl hca rfl rfl (vp_in_nI (n := 0) (by omega) (by omega)) dJx4a65c_add_72be8_14 (fun H locs hP hD hS => ?_)
  replace hP : va_P (dC, dI) vwCl [(h0, .inr (0, [.int mc, .ref r1, .int 0])), (r1, .inl (cG, 10, .inr (.inr (.inr (.inr (va_up (fun _ => none) (0 : Int32).toNatClampNeg (some h1))))))), (h1, .inr (8, vs))] H := hP
  replace hD : va_D A [(h0, .inr (0, [.int mc, .ref r1, .int 0])), (r1, .inl (cG, 10, .inr (.inr (.inr (.inr (va_up (fun _ => none) (0 : Int32).toNatClampNeg (some h1))))))), (h1, .inr (8, vs))] := hD
  have hg2 : (∀ i : Nat, i < 0 → (va_up (fun _ => none) (0 : Int32).toNatClampNeg (some h1)) i = f i) ∧ (va_up (fun _ => none) (0 : Int32).toNatClampNeg (some h1)) 0 = some h1 := ⟨fun i hi => by rw [xl_0, va_up_ne _ _ (by omega)] <;> exact (fun i hi => absurd hi (by omega) : ∀ i : Nat, i < 0 → (fun _ => none : Nat → Option Nat) i = f i) i hi, by rw [xl_0]; exact va_up_self _ _ _⟩
  generalize (va_up (fun _ => none) (0 : Int32).toNatClampNeg (some h1)) = g2 at hP hD hg2
  refine lv_aload_n hx hb dJx4a65c_add_72be8_15 rfl (lv_at hl 1 rfl) ?_
  refine lv_iload_n hx hb dJx4a65c_add_72be8_16 rfl (lv_at hl 3 rfl) ?_
  refine lv_iconst (v := 1) hx hb dJx4a65c_add_72be8_17 (by decide) ?_
  refine lv_iadd hx hb dJx4a65c_add_72be8_18 ?_
  refine p1_topr (v := .int (nI (0 + 1))) (congrArg Value.int (by decide)) ?_
  refine va_put (D := (dC, dI)) (ci := 0) (fs := [.int mc, .ref r1, .int 0]) (v := .int (nI (0 + 1))) (ty := .int) (C := RJx4a65c) (T := TJx4a65c) (N := 3) hx hb hts in_l_add3C_Jx4a65c tyJx4a65c tyJx4a65c_ok nmJx4a65c hown hK hP hD hS 0 rfl rfl 2 (by decide) (hts (.fieldLink RJx4a65c 48 "java/util/ArrayList" "size" "I") (by decide +kernel)) (fun _ h9 => h9) rfl (by decide +kernel) rfl rfl (Nat.le_of_ble_eq_true rfl) dJx4a65c_add_72be8_19 (fun H locs hP hD hS => ?_)
  replace hP : va_P (dC, dI) vwCl [(h0, .inr (0, [.int mc, .ref r1, .int (nI (0 + 1))])), (r1, .inl (cG, 10, .inr (.inr (.inr (.inr g2))))), (h1, .inr (8, vs))] H := hP
  replace hD : va_D A [(h0, .inr (0, [.int mc, .ref r1, .int (nI (0 + 1))])), (r1, .inl (cG, 10, .inr (.inr (.inr (.inr g2))))), (h1, .inr (8, vs))] := hD
  have hK9 := hK.sub (tys' := [(cG, .object "java/lang/Object")]) [0] rfl
  exact W.vret hx hb hr (fun t ht hW => ⟨⟨(), rfl, trivial, r1, cG, 10, g2, ⟨by omega, by omega⟩, hg2, by rw [ht]; exact hP, va_K.moved hW.alike hK9, hD⟩, hS.F ht⟩) hS.2.2 dJx4a65c_add_72be8_22
def wq_l_addA : List Cond := [.code yJx4a65c_add_9ea2d cJx4a65c_add_9ea2d 2 (some .boolean), .fieldLink RJx4a65c 63 "java/util/ArrayList" "modCount" "I", .sameField "java/util/ArrayList" "java/util/AbstractList" "modCount" "I", .fieldLink RJx4a65c 9 "java/util/ArrayList" "elementData" "[Ljava/lang/Object;", .fieldLink RJx4a65c 48 "java/util/ArrayList" "size" "I", .methodLink RJx4a65c 131 yJx4a65c_add_72be8, .instanceMethod yJx4a65c_add_72be8, .selects RJx4a65c yJx4a65c_add_72be8 yJx4a65c_add_72be8, .initialized RJx4a65c] ++ (wsJx4a65c0 ++ (wq_l_add3A))
theorem in_l_addA_Jx4a65c : ∀ w ∈ wsJx4a65c0, w ∈ wq_l_addA := fun _ h => List.mem_append_right _ (List.mem_append_left _ (h))
set_option maxRecDepth 20000 in
theorem wi_l_addA : ∀ w ∈ wq_l_addA, w ∈ lw_tbl := List.forall_mem_append.mpr ⟨(by decide +kernel), List.forall_mem_append.mpr ⟨inKJx4a65c, wi_l_add3A⟩⟩
set_option maxRecDepth 20000 in
theorem wg_l_addA : GoodIn wq_l_addA wq_l_addA := goodIn_sub (fun _ h => h) (by decide +kernel)
set_option maxRecDepth 20000 in
theorem wc_l_addA_l_add3A_131 : GoodIn wq_l_addA (wsV RJx4a65c 131 RJx4a65c yJx4a65c_add_72be8 wq_l_add3A) := goodIn_app (goodIn_of _ (by decide +kernel)) (fun w h => ⟨List.mem_append_right _ (List.mem_append_right _ (h)), (wg_l_add3A w h).2⟩)
set_option maxHeartbeats 4000000 in
set_option maxRecDepth 100000 in
theorem c_l_addA (l : Launch) (dC : Nat → ClassId) (dI : Nat → Nat → Nat) (h0 : Nat) (mc : Int32) (a : Nat) (n : Nat) (M : Nat) (cE : ClassId) (f : Nat → Option Nat) (h1 : Nat) (vs : List Value) (sz : Nat) (hp0 : n < M) (hp1 : M < 100) : Met l yJx4a65c_add_9ea2d wq_l_addA ({ frames := 1, cells := 0, slots := 0, locals := 23 }) (va_Pc [.ref h0, .ref h1] (fun U => U.heap.size = sz ∧ va_P (dC, dI) vwCl [(h0, .inr (0, [.int mc, .ref a, .int (nI n)])), (a, .inl (cE, M, .inr (.inr (.inr (.inr f))))), (h1, .inr (8, vs))] U.heap ∧ va_K (dC, dI) vwCl [(cE, .object "java/lang/Object")] U ∧ va_D (fun _ => True) [(h0, .inr (0, [.int mc, .ref a, .int (nI n)])), (a, .inl (cE, M, .inr (.inr (.inr (.inr f))))), (h1, .inr (8, vs))] ∧ pw_N U)) (va_Qi (fun (r : Int32) (_ : Unit) => r = 1) (fun (_ : Unit) (t : State) => ∃ (e1 : Nat) (cG : ClassId) (N : Nat) (g : Nat → Option Nat), (n < N ∧ N < 100) ∧ ((∀ i : Nat, i < n → g i = f i) ∧ g n = some h1) ∧ va_P (dC, dI) vwCl [(h0, .inr (0, [.int (mc + 1), .ref e1, .int (nI (n + 1))])), (e1, .inl (cG, N, .inr (.inr (.inr (.inr g))))), (h1, .inr (8, vs))] t.heap ∧ va_K (dC, dI) vwCl [(cG, .object "java/lang/Object")] t ∧ va_D (va_A [(h0, .inr (0, [.int mc, .ref a, .int (nI n)])), (a, .inl (cE, M, .inr (.inr (.inr (.inr f))))), (h1, .inr (8, vs))] sz) [(h0, .inr (0, [.int (mc + 1), .ref e1, .int (nI (n + 1))])), (e1, .inl (cG, N, .inr (.inr (.inr (.inr g))))), (h1, .inr (8, vs))]) (va_A [(h0, .inr (0, [.int mc, .ref a, .int (nI n)])), (a, .inl (cE, M, .inr (.inr (.inr (.inr f))))), (h1, .inr (8, vs))] sz)) 0 0 (va_A [(h0, .inr (0, [.int mc, .ref a, .int (nI n)])), (a, .inl (cE, M, .inr (.inr (.inr (.inr f))))), (h1, .inr (8, vs))] sz) := by
  refine Met.ofW (cc := cJx4a65c_add_9ea2d) (maxL := 2) (ret := (some .boolean)) (by decide) rfl ?_
  intro p e s m args below meth c s₁ B hml hv
  obtain ⟨rfl, hsz, hP, hK, hD0, hN⟩ := hv
  have hx := B.exec
  have hb := B.bytes
  have hr := B.returns
  have hts := atoms_spec (ws := wq_l_addA) B.pre
  have hown : s.vm.findClass RJx4a65c = some m.cls := findClass_of_methodNamed B.named
  have hlocks := B.notSynchronized
  subst hsz
  have hD := hD0.self (sz := s.heap.size)
  generalize hAe : va_A [(h0, .inr (0, [.int mc, .ref a, .int (nI n)])), (a, .inl (cE, M, .inr (.inr (.inr (.inr f))))), (h1, .inr (8, vs))] s.heap.size = A at hD ⊢
  have hA : ∀ q : Nat, s.heap.size ≤ q → A q := fun q h => by rw [← hAe]; exact Or.inr h
  have hS : va_S A s.heap s.heap [] := va_S.rf
  have hP : va_P (dC, dI) vwCl [(h0, .inr (0, [.int mc, .ref a, .int (nI n)])), (a, .inl (cE, M, .inr (.inr (.inr (.inr f))))), (h1, .inr (8, vs))] s.heap := hP
  have hl := lv_entry ([.ref h0, .ref h1]) (n := 2) (Nat.le_of_ble_eq_true rfl)
  rw [lg_entry_eq]
  generalize (lg_sl ([.ref h0, .ref h1]) ++ List.replicate (2 - (lg_sl ([.ref h0, .ref h1])).length) Slot.unset).toArray = ls at hl ⊢
  have hl : lv_has ls 2 [(0, .ref h0), (1, .ref h1)] := hl
  refine lv_aload_n hx hb dJx4a65c_add_9ea2d_0 rfl (lv_at hl 0 rfl) ?_
  refine lv_dup hx hb dJx4a65c_add_9ea2d_1 rfl ?_
  refine va_get (D := (dC, dI)) (ci := 0) (v := .int mc) (C := RJx4a65c) (T := TJx4a65c) (N := 3) hx hb hts in_l_addA_Jx4a65c hown hK hP 0 rfl rfl 0 (by decide) (hts (.fieldLink RJx4a65c 63 "java/util/ArrayList" "modCount" "I") (by decide +kernel)) (fun x9 h9 => u_same (hts (.sameField "java/util/ArrayList" "java/util/AbstractList" "modCount" "I") (by decide +kernel)) x9 h9) rfl dJx4a65c_add_9ea2d_2 ?_
  refine lv_iconst (v := 1) hx hb dJx4a65c_add_9ea2d_5 (by decide) ?_
  refine lv_iadd hx hb dJx4a65c_add_9ea2d_6 ?_
  refine va_put (D := (dC, dI)) (ci := 0) (fs := [.int mc, .ref a, .int (nI n)]) (v := .int (mc + 1)) (ty := .int) (C := RJx4a65c) (T := TJx4a65c) (N := 3) hx hb hts in_l_addA_Jx4a65c tyJx4a65c tyJx4a65c_ok nmJx4a65c hown hK hP hD hS 0 rfl rfl 0 (by decide) (hts (.fieldLink RJx4a65c 63 "java/util/ArrayList" "modCount" "I") (by decide +kernel)) (fun x9 h9 => u_same (hts (.sameField "java/util/ArrayList" "java/util/AbstractList" "modCount" "I") (by decide +kernel)) x9 h9) rfl (by decide +kernel) rfl rfl (Nat.le_of_ble_eq_true rfl) dJx4a65c_add_9ea2d_7 (fun H locs hP hD hS => ?_)
  replace hP : va_P (dC, dI) vwCl [(h0, .inr (0, [.int (mc + 1), .ref a, .int (nI n)])), (a, .inl (cE, M, .inr (.inr (.inr (.inr f))))), (h1, .inr (8, vs))] H := hP
  replace hD : va_D A [(h0, .inr (0, [.int (mc + 1), .ref a, .int (nI n)])), (a, .inl (cE, M, .inr (.inr (.inr (.inr f))))), (h1, .inr (8, vs))] := hD
  refine lv_aload_n hx hb dJx4a65c_add_9ea2d_10 rfl (lv_at hl 0 rfl) ?_
  refine lv_aload_n hx hb dJx4a65c_add_9ea2d_11 rfl (lv_at hl 1 rfl) ?_
  refine lv_aload_n hx hb dJx4a65c_add_9ea2d_12 rfl (lv_at hl 0 rfl) ?_
  refine va_get (D := (dC, dI)) (ci := 0) (v := .ref a) (C := RJx4a65c) (T := TJx4a65c) (N := 3) hx hb hts in_l_addA_Jx4a65c hown hK hP 0 rfl rfl 1 (by decide) (hts (.fieldLink RJx4a65c 9 "java/util/ArrayList" "elementData" "[Ljava/lang/Object;") (by decide +kernel)) (fun _ h9 => h9) rfl dJx4a65c_add_9ea2d_13 ?_
  refine lv_aload_n hx hb dJx4a65c_add_9ea2d_16 rfl (lv_at hl 0 rfl) ?_
  refine va_get (D := (dC, dI)) (ci := 0) (v := .int (nI n)) (C := RJx4a65c) (T := TJx4a65c) (N := 3) hx hb hts in_l_addA_Jx4a65c hown hK hP 0 rfl rfl 2 (by decide) (hts (.fieldLink RJx4a65c 48 "java/util/ArrayList" "size" "I") (by decide +kernel)) (fun _ h9 => h9) rfl dJx4a65c_add_9ea2d_17 ?_
  have hPc := hP.sub (ws' := [(h0, .inr (0, [.int (mc + 1), .ref a, .int (nI n)])), (a, .inl (cE, M, .inr (.inr (.inr (.inr f))))), (h1, .inr (8, vs))]) [0, 1, 2] rfl
  have hDc := hD.sub (ws' := [(h0, .inr (0, [.int (mc + 1), .ref a, .int (nI n)])), (a, .inl (cE, M, .inr (.inr (.inr (.inr f))))), (h1, .inr (8, vs))]) [0, 1, 2] (by decide) rfl
  have hKc := hK.sub (tys' := [(cE, .object "java/lang/Object")]) [0] rfl
  have hFc := va_free (wc := [(h0, .inr (0, [.int (mc + 1), .ref a, .int (nI n)])), (a, .inl (cE, M, .inr (.inr (.inr (.inr f))))), (h1, .inr (8, vs))]) hD hS hA [0, 1, 2] rfl
  refine va_callv (va_runV (As := [.ref h1, .ref a, .int (nI n)]) (rest := []) ⟨hx, hb, hml, hown, hts⟩ (c_l_add3A l dC dI h0 (mc + 1) a n M cE f h1 vs H.size hp0 hp1) (cwV 3 hts wc_l_addA_l_add3A_131 rfl rfl rfl (by decide +kernel) ⟨Nat.le_of_ble_eq_true rfl, Nat.le_of_ble_eq_true rfl⟩) ⟨fun a9 U g9 mk q => by obtain ⟨q0, q1, qP, qK, qD, qN⟩ := q; exact ⟨q0, q1, qP, va_K.moved (u := U) (U := U.calling g9 mk a9) (Vm.Alike.refl U.vm) qK, qD, pw_N.same (u := U) (U := U.calling g9 mk a9) rfl qN⟩, va_recv hKc hPc (ci := 0) (q0 := 0) rfl rfl, fun U hU hW => ⟨rfl, by rw [hU], by rw [hU]; exact hPc, va_K.moved hW.alike hKc, hDc.weaken (fun _ _ _ _ => trivial), pw_N.warm hW hN⟩⟩ rfl rfl hl.1 rfl (lv_room (Nat.le_of_ble_eq_true rfl)) dJx4a65c_add_9ea2d_20 ⟨Nat.le_of_ble_eq_true rfl, Nat.le_of_ble_eq_true rfl⟩) hS (fun q _ h => hFc q h) hFc (fun u t H1 locs ht hvm hw hB hz1 hk1 hS => ?_)
  obtain ⟨e1, cG, N, g, hN2, hg, hP1, hK1, hD1⟩ := hB
  rw [ht] at hP1
  obtain ⟨hP, hD⟩ := va_join (wr := []) (w1 := [(h0, .inr (0, [.int (mc + 1), .ref e1, .int (nI (n + 1))])), (e1, .inl (cG, N, .inr (.inr (.inr (.inr g))))), (h1, .inr (8, vs))]) hP hD [0, 1, 2] [] rfl rfl (by decide) (by decide) hk1 hFc hP1 hD1
  generalize H1 = H at hP hS ⊢
  replace hP : va_P (dC, dI) vwCl [(h0, .inr (0, [.int (mc + 1), .ref e1, .int (nI (n + 1))])), (e1, .inl (cG, N, .inr (.inr (.inr (.inr g))))), (h1, .inr (8, vs))] H := hP
  replace hD : va_D A [(h0, .inr (0, [.int (mc + 1), .ref e1, .int (nI (n + 1))])), (e1, .inl (cG, N, .inr (.inr (.inr (.inr g))))), (h1, .inr (8, vs))] := hD
  refine lv_iconst (v := 1) hx hb dJx4a65c_add_9ea2d_23 (by decide) ?_
  exact W.zret (v := 1) hx hb hr (by decide) (fun t ht hW => ⟨⟨1, (), rfl, rfl, e1, cG, N, g, hN2, hg, by rw [ht]; exact hP, va_K.moved hW.alike (va_K.moved hvm.symm hK1), hD⟩, hS.F ht⟩) hS.2.2 dJx4a65c_add_9ea2d_24
def wq_l_addB : List Cond := [.code yJx4a65c_add_9ea2d cJx4a65c_add_9ea2d 2 (some .boolean), .fieldLink RJx4a65c 63 "java/util/ArrayList" "modCount" "I", .sameField "java/util/ArrayList" "java/util/AbstractList" "modCount" "I", .fieldLink RJx4a65c 9 "java/util/ArrayList" "elementData" "[Ljava/lang/Object;", .fieldLink RJx4a65c 48 "java/util/ArrayList" "size" "I", .methodLink RJx4a65c 131 yJx4a65c_add_72be8, .instanceMethod yJx4a65c_add_72be8, .selects RJx4a65c yJx4a65c_add_72be8 yJx4a65c_add_72be8, .initialized RJx4a65c] ++ (wsJx4a65c0 ++ (wq_l_add3B))
theorem in_l_addB_Jx4a65c : ∀ w ∈ wsJx4a65c0, w ∈ wq_l_addB := fun _ h => List.mem_append_right _ (List.mem_append_left _ (h))
set_option maxRecDepth 20000 in
theorem wi_l_addB : ∀ w ∈ wq_l_addB, w ∈ lw_tbl := List.forall_mem_append.mpr ⟨(by decide +kernel), List.forall_mem_append.mpr ⟨inKJx4a65c, wi_l_add3B⟩⟩
set_option maxRecDepth 20000 in
theorem wg_l_addB : GoodIn wq_l_addB wq_l_addB := goodIn_sub (fun _ h => h) (by decide +kernel)
set_option maxRecDepth 20000 in
theorem wc_l_addB_l_add3B_131 : GoodIn wq_l_addB (wsV RJx4a65c 131 RJx4a65c yJx4a65c_add_72be8 wq_l_add3B) := goodIn_app (goodIn_of _ (by decide +kernel)) (fun w h => ⟨List.mem_append_right _ (List.mem_append_right _ (h)), (wg_l_add3B w h).2⟩)
set_option maxHeartbeats 4000000 in
set_option maxRecDepth 100000 in
theorem c_l_addB (l : Launch) (dC : Nat → ClassId) (dI : Nat → Nat → Nat) (h0 : Nat) (mc : Int32) (a : Nat) (mi : Nat) (n : Nat) (cE : ClassId) (f : Nat → Option Nat) (h1 : Nat) (vs : List Value) (sz : Nat) (hp0 : 0 < n) (hp1 : n < 60) : Met l yJx4a65c_add_9ea2d wq_l_addB ({ frames := 6, cells := 1, slots := 200, locals := 150 }) (va_Pc [.ref h0, .ref h1] (fun U => U.heap.size = sz ∧ va_P (dC, dI) vwCl [(h0, .inr (0, [.int mc, .ref a, .int (nI n)])), (a, .inl (cE, n, .inr (.inr (.inr (.inr f))))), (h1, .inr (8, vs))] U.heap ∧ va_K (dC, dI) vwCl [(cE, .object "java/lang/Object")] U ∧ va_D (fun _ => True) [(h0, .inr (0, [.int mc, .ref a, .int (nI n)])), (a, .inl (cE, n, .inr (.inr (.inr (.inr f))))), (h1, .inr (8, vs))] ∧ pw_N U ∧ xL mi f n (va_A [(h0, .inr (0, [.int mc, .ref a, .int (nI n)])), (a, .inl (cE, n, .inr (.inr (.inr (.inr f))))), (h1, .inr (8, vs))] sz) U U.heap)) (va_Qi (fun (r : Int32) (_ : Unit) => r = 1) (fun (_ : Unit) (t : State) => ∃ (e1 : Nat) (cG : ClassId) (N : Nat) (g : Nat → Option Nat), (n < N ∧ N < 100) ∧ ((∀ i : Nat, i < n → g i = f i) ∧ g n = some h1) ∧ va_P (dC, dI) vwCl [(h0, .inr (0, [.int (mc + 1), .ref e1, .int (nI (n + 1))])), (e1, .inl (cG, N, .inr (.inr (.inr (.inr g))))), (h1, .inr (8, vs))] t.heap ∧ va_K (dC, dI) vwCl [(cG, .object "java/lang/Object")] t ∧ va_D (va_A [(h0, .inr (0, [.int mc, .ref a, .int (nI n)])), (a, .inl (cE, n, .inr (.inr (.inr (.inr f))))), (h1, .inr (8, vs))] sz) [(h0, .inr (0, [.int (mc + 1), .ref e1, .int (nI (n + 1))])), (e1, .inl (cG, N, .inr (.inr (.inr (.inr g))))), (h1, .inr (8, vs))]) (va_A [(h0, .inr (0, [.int mc, .ref a, .int (nI n)])), (a, .inl (cE, n, .inr (.inr (.inr (.inr f))))), (h1, .inr (8, vs))] sz)) 1 200 (va_A [(h0, .inr (0, [.int mc, .ref a, .int (nI n)])), (a, .inl (cE, n, .inr (.inr (.inr (.inr f))))), (h1, .inr (8, vs))] sz) := by
  refine Met.ofW (cc := cJx4a65c_add_9ea2d) (maxL := 2) (ret := (some .boolean)) (by decide) rfl ?_
  intro p e s m args below meth c s₁ B hml hv
  obtain ⟨rfl, hsz, hP, hK, hD0, hN, hL⟩ := hv
  have hx := B.exec
  have hb := B.bytes
  have hr := B.returns
  have hts := atoms_spec (ws := wq_l_addB) B.pre
  have hown : s.vm.findClass RJx4a65c = some m.cls := findClass_of_methodNamed B.named
  have hlocks := B.notSynchronized
  subst hsz
  have hD := hD0.self (sz := s.heap.size)
  generalize hAe : va_A [(h0, .inr (0, [.int mc, .ref a, .int (nI n)])), (a, .inl (cE, n, .inr (.inr (.inr (.inr f))))), (h1, .inr (8, vs))] s.heap.size = A at hD hL ⊢
  have hA : ∀ q : Nat, s.heap.size ≤ q → A q := fun q h => by rw [← hAe]; exact Or.inr h
  have hS : va_S A s.heap s.heap [] := va_S.rf
  have hP : va_P (dC, dI) vwCl [(h0, .inr (0, [.int mc, .ref a, .int (nI n)])), (a, .inl (cE, n, .inr (.inr (.inr (.inr f))))), (h1, .inr (8, vs))] s.heap := hP
  have hl := lv_entry ([.ref h0, .ref h1]) (n := 2) (Nat.le_of_ble_eq_true rfl)
  rw [lg_entry_eq]
  generalize (lg_sl ([.ref h0, .ref h1]) ++ List.replicate (2 - (lg_sl ([.ref h0, .ref h1])).length) Slot.unset).toArray = ls at hl ⊢
  have hl : lv_has ls 2 [(0, .ref h0), (1, .ref h1)] := hl
  refine lv_aload_n hx hb dJx4a65c_add_9ea2d_0 rfl (lv_at hl 0 rfl) ?_
  refine lv_dup hx hb dJx4a65c_add_9ea2d_1 rfl ?_
  refine va_get (D := (dC, dI)) (ci := 0) (v := .int mc) (C := RJx4a65c) (T := TJx4a65c) (N := 3) hx hb hts in_l_addB_Jx4a65c hown hK hP 0 rfl rfl 0 (by decide) (hts (.fieldLink RJx4a65c 63 "java/util/ArrayList" "modCount" "I") (by decide +kernel)) (fun x9 h9 => u_same (hts (.sameField "java/util/ArrayList" "java/util/AbstractList" "modCount" "I") (by decide +kernel)) x9 h9) rfl dJx4a65c_add_9ea2d_2 ?_
  refine lv_iconst (v := 1) hx hb dJx4a65c_add_9ea2d_5 (by decide) ?_
  refine lv_iadd hx hb dJx4a65c_add_9ea2d_6 ?_
  refine va_put (D := (dC, dI)) (ci := 0) (fs := [.int mc, .ref a, .int (nI n)]) (v := .int (mc + 1)) (ty := .int) (C := RJx4a65c) (T := TJx4a65c) (N := 3) hx hb hts in_l_addB_Jx4a65c tyJx4a65c tyJx4a65c_ok nmJx4a65c hown hK hP hD hS 0 rfl rfl 0 (by decide) (hts (.fieldLink RJx4a65c 63 "java/util/ArrayList" "modCount" "I") (by decide +kernel)) (fun x9 h9 => u_same (hts (.sameField "java/util/ArrayList" "java/util/AbstractList" "modCount" "I") (by decide +kernel)) x9 h9) rfl (by decide +kernel) rfl rfl (Nat.le_of_ble_eq_true rfl) dJx4a65c_add_9ea2d_7 (fun H locs hP hD hS => ?_)
  replace hP : va_P (dC, dI) vwCl [(h0, .inr (0, [.int (mc + 1), .ref a, .int (nI n)])), (a, .inl (cE, n, .inr (.inr (.inr (.inr f))))), (h1, .inr (8, vs))] H := hP
  replace hD : va_D A [(h0, .inr (0, [.int (mc + 1), .ref a, .int (nI n)])), (a, .inl (cE, n, .inr (.inr (.inr (.inr f))))), (h1, .inr (8, vs))] := hD
  refine lv_aload_n hx hb dJx4a65c_add_9ea2d_10 rfl (lv_at hl 0 rfl) ?_
  refine lv_aload_n hx hb dJx4a65c_add_9ea2d_11 rfl (lv_at hl 1 rfl) ?_
  refine lv_aload_n hx hb dJx4a65c_add_9ea2d_12 rfl (lv_at hl 0 rfl) ?_
  refine va_get (D := (dC, dI)) (ci := 0) (v := .ref a) (C := RJx4a65c) (T := TJx4a65c) (N := 3) hx hb hts in_l_addB_Jx4a65c hown hK hP 0 rfl rfl 1 (by decide) (hts (.fieldLink RJx4a65c 9 "java/util/ArrayList" "elementData" "[Ljava/lang/Object;") (by decide +kernel)) (fun _ h9 => h9) rfl dJx4a65c_add_9ea2d_13 ?_
  refine lv_aload_n hx hb dJx4a65c_add_9ea2d_16 rfl (lv_at hl 0 rfl) ?_
  refine va_get (D := (dC, dI)) (ci := 0) (v := .int (nI n)) (C := RJx4a65c) (T := TJx4a65c) (N := 3) hx hb hts in_l_addB_Jx4a65c hown hK hP 0 rfl rfl 2 (by decide) (hts (.fieldLink RJx4a65c 48 "java/util/ArrayList" "size" "I") (by decide +kernel)) (fun _ h9 => h9) rfl dJx4a65c_add_9ea2d_17 ?_
  have hPc := hP.sub (ws' := [(h0, .inr (0, [.int (mc + 1), .ref a, .int (nI n)])), (a, .inl (cE, n, .inr (.inr (.inr (.inr f))))), (h1, .inr (8, vs))]) [0, 1, 2] rfl
  have hDc := hD.sub (ws' := [(h0, .inr (0, [.int (mc + 1), .ref a, .int (nI n)])), (a, .inl (cE, n, .inr (.inr (.inr (.inr f))))), (h1, .inr (8, vs))]) [0, 1, 2] (by decide) rfl
  have hKc := hK.sub (tys' := [(cE, .object "java/lang/Object")]) [0] rfl
  have hFc := va_free (wc := [(h0, .inr (0, [.int (mc + 1), .ref a, .int (nI n)])), (a, .inl (cE, n, .inr (.inr (.inr (.inr f))))), (h1, .inr (8, vs))]) hD hS hA [0, 1, 2] rfl
  refine va_callv (va_runV (As := [.ref h1, .ref a, .int (nI n)]) (rest := []) ⟨hx, hb, hml, hown, hts⟩ (c_l_add3B l dC dI h0 (mc + 1) a mi n cE f h1 vs H.size hp0 hp1) (cwV 3 hts wc_l_addB_l_add3B_131 rfl rfl rfl (by decide +kernel) ⟨Nat.le_of_ble_eq_true rfl, Nat.le_of_ble_eq_true rfl⟩) ⟨fun a9 U g9 mk q => by obtain ⟨q0, q1, qP, qK, qD, qN, qL⟩ := q; exact ⟨q0, q1, qP, va_K.moved (u := U) (U := U.calling g9 mk a9) (Vm.Alike.refl U.vm) qK, qD, pw_N.same (u := U) (U := U.calling g9 mk a9) rfl qN, xL.moved (u := U) (U := U.calling g9 mk a9) (Vm.Alike.refl U.vm) qL⟩, va_recv hKc hPc (ci := 0) (q0 := 0) rfl rfl, fun U hU hW => ⟨rfl, by rw [hU], by rw [hU]; exact hPc, va_K.moved hW.alike hKc, hDc.weaken (fun _ _ _ _ => trivial), pw_N.warm hW hN, by rw [hU]; exact xL.moved hW.alike ((hL.kept (fun a9 h1 h2 => hS.2.1 a9 h1 h2)).narrow hFc)⟩⟩ rfl rfl hl.1 rfl (lv_room (Nat.le_of_ble_eq_true rfl)) dJx4a65c_add_9ea2d_20 ⟨Nat.le_of_ble_eq_true rfl, Nat.le_of_ble_eq_true rfl⟩) hS (fun q _ h => hFc q h) hFc (fun u t H1 locs ht hvm hw hB hz1 hk1 hS => ?_)
  obtain ⟨e1, cG, N, g, hN2, hg, hP1, hK1, hD1⟩ := hB
  rw [ht] at hP1
  obtain ⟨hP, hD⟩ := va_join (wr := []) (w1 := [(h0, .inr (0, [.int (mc + 1), .ref e1, .int (nI (n + 1))])), (e1, .inl (cG, N, .inr (.inr (.inr (.inr g))))), (h1, .inr (8, vs))]) hP hD [0, 1, 2] [] rfl rfl (by decide) (by decide) hk1 hFc hP1 hD1
  generalize H1 = H at hP hS ⊢
  replace hP : va_P (dC, dI) vwCl [(h0, .inr (0, [.int (mc + 1), .ref e1, .int (nI (n + 1))])), (e1, .inl (cG, N, .inr (.inr (.inr (.inr g))))), (h1, .inr (8, vs))] H := hP
  replace hD : va_D A [(h0, .inr (0, [.int (mc + 1), .ref e1, .int (nI (n + 1))])), (e1, .inl (cG, N, .inr (.inr (.inr (.inr g))))), (h1, .inr (8, vs))] := hD
  refine lv_iconst (v := 1) hx hb dJx4a65c_add_9ea2d_23 (by decide) ?_
  exact W.zret (v := 1) hx hb hr (by decide) (fun t ht hW => ⟨⟨1, (), rfl, rfl, e1, cG, N, g, hN2, hg, by rw [ht]; exact hP, va_K.moved hW.alike (va_K.moved hvm.symm hK1), hD⟩, hS.F ht⟩) hS.2.2 dJx4a65c_add_9ea2d_24
def wq_l_addC : List Cond := [.code yJx4a65c_add_9ea2d cJx4a65c_add_9ea2d 2 (some .boolean), .fieldLink RJx4a65c 63 "java/util/ArrayList" "modCount" "I", .sameField "java/util/ArrayList" "java/util/AbstractList" "modCount" "I", .fieldLink RJx4a65c 9 "java/util/ArrayList" "elementData" "[Ljava/lang/Object;", .fieldLink RJx4a65c 48 "java/util/ArrayList" "size" "I", .methodLink RJx4a65c 131 yJx4a65c_add_72be8, .instanceMethod yJx4a65c_add_72be8, .selects RJx4a65c yJx4a65c_add_72be8 yJx4a65c_add_72be8, .initialized RJx4a65c] ++ (wsJx4a65c0 ++ (wq_l_add3C))
theorem in_l_addC_Jx4a65c : ∀ w ∈ wsJx4a65c0, w ∈ wq_l_addC := fun _ h => List.mem_append_right _ (List.mem_append_left _ (h))
set_option maxRecDepth 20000 in
theorem wi_l_addC : ∀ w ∈ wq_l_addC, w ∈ lw_tbl := List.forall_mem_append.mpr ⟨(by decide +kernel), List.forall_mem_append.mpr ⟨inKJx4a65c, wi_l_add3C⟩⟩
set_option maxRecDepth 20000 in
theorem wg_l_addC : GoodIn wq_l_addC wq_l_addC := goodIn_sub (fun _ h => h) (by decide +kernel)
set_option maxRecDepth 20000 in
theorem wc_l_addC_l_add3C_131 : GoodIn wq_l_addC (wsV RJx4a65c 131 RJx4a65c yJx4a65c_add_72be8 wq_l_add3C) := goodIn_app (goodIn_of _ (by decide +kernel)) (fun w h => ⟨List.mem_append_right _ (List.mem_append_right _ (h)), (wg_l_add3C w h).2⟩)
set_option maxHeartbeats 4000000 in
set_option maxRecDepth 100000 in
theorem c_l_addC (l : Launch) (dC : Nat → ClassId) (dI : Nat → Nat → Nat) (h0 : Nat) (mc : Int32) (z : Nat) (f : Nat → Option Nat) (h1 : Nat) (vs : List Value) (sz : Nat)  : Met l yJx4a65c_add_9ea2d wq_l_addC ({ frames := 4, cells := 1, slots := 10, locals := 90 }) (va_Pc [.ref h0, .ref h1] (fun U => U.heap.size = sz ∧ va_P (dC, dI) vwCl [(h0, .inr (0, [.int mc, .ref z, .int 0])), (h1, .inr (8, vs))] U.heap ∧ va_K (dC, dI) vwCl [] U ∧ va_D (fun _ => True) [(h0, .inr (0, [.int mc, .ref z, .int 0])), (h1, .inr (8, vs))] ∧ pw_N U ∧ va_Z "java/util/ArrayList" "DEFAULTCAPACITY_EMPTY_ELEMENTDATA" "[Ljava/lang/Object;" (.ref z) (va_A [(h0, .inr (0, [.int mc, .ref z, .int 0])), (h1, .inr (8, vs))] sz) U U.heap ∧ va_T (.object "java/lang/Object") z 0 (fun _ => .null) (va_A [(h0, .inr (0, [.int mc, .ref z, .int 0])), (h1, .inr (8, vs))] sz) U U.heap ∧ va_AO "java/lang/Object" U)) (va_Qi (fun (r : Int32) (_ : Unit) => r = 1) (fun (_ : Unit) (t : State) => ∃ (e1 : Nat) (cG : ClassId) (N : Nat) (g : Nat → Option Nat), (0 < N ∧ N < 100) ∧ ((∀ i : Nat, i < 0 → g i = f i) ∧ g 0 = some h1) ∧ va_P (dC, dI) vwCl [(h0, .inr (0, [.int (mc + 1), .ref e1, .int (nI (0 + 1))])), (e1, .inl (cG, N, .inr (.inr (.inr (.inr g))))), (h1, .inr (8, vs))] t.heap ∧ va_K (dC, dI) vwCl [(cG, .object "java/lang/Object")] t ∧ va_D (va_A [(h0, .inr (0, [.int mc, .ref z, .int 0])), (h1, .inr (8, vs))] sz) [(h0, .inr (0, [.int (mc + 1), .ref e1, .int (nI (0 + 1))])), (e1, .inl (cG, N, .inr (.inr (.inr (.inr g))))), (h1, .inr (8, vs))]) (va_A [(h0, .inr (0, [.int mc, .ref z, .int 0])), (h1, .inr (8, vs))] sz)) 1 10 (va_A [(h0, .inr (0, [.int mc, .ref z, .int 0])), (h1, .inr (8, vs))] sz) := by
  refine Met.ofW (cc := cJx4a65c_add_9ea2d) (maxL := 2) (ret := (some .boolean)) (by decide) rfl ?_
  intro p e s m args below meth c s₁ B hml hv
  obtain ⟨rfl, hsz, hP, hK, hD0, hN, hZ, hT, hO⟩ := hv
  have hx := B.exec
  have hb := B.bytes
  have hr := B.returns
  have hts := atoms_spec (ws := wq_l_addC) B.pre
  have hown : s.vm.findClass RJx4a65c = some m.cls := findClass_of_methodNamed B.named
  have hlocks := B.notSynchronized
  subst hsz
  have hD := hD0.self (sz := s.heap.size)
  generalize hAe : va_A [(h0, .inr (0, [.int mc, .ref z, .int 0])), (h1, .inr (8, vs))] s.heap.size = A at hD hZ hT ⊢
  have hA : ∀ q : Nat, s.heap.size ≤ q → A q := fun q h => by rw [← hAe]; exact Or.inr h
  have hS : va_S A s.heap s.heap [] := va_S.rf
  have hP : va_P (dC, dI) vwCl [(h0, .inr (0, [.int mc, .ref z, .int 0])), (h1, .inr (8, vs))] s.heap := hP
  have hl := lv_entry ([.ref h0, .ref h1]) (n := 2) (Nat.le_of_ble_eq_true rfl)
  rw [lg_entry_eq]
  generalize (lg_sl ([.ref h0, .ref h1]) ++ List.replicate (2 - (lg_sl ([.ref h0, .ref h1])).length) Slot.unset).toArray = ls at hl ⊢
  have hl : lv_has ls 2 [(0, .ref h0), (1, .ref h1)] := hl
  refine lv_aload_n hx hb dJx4a65c_add_9ea2d_0 rfl (lv_at hl 0 rfl) ?_
  refine lv_dup hx hb dJx4a65c_add_9ea2d_1 rfl ?_
  refine va_get (D := (dC, dI)) (ci := 0) (v := .int mc) (C := RJx4a65c) (T := TJx4a65c) (N := 3) hx hb hts in_l_addC_Jx4a65c hown hK hP 0 rfl rfl 0 (by decide) (hts (.fieldLink RJx4a65c 63 "java/util/ArrayList" "modCount" "I") (by decide +kernel)) (fun x9 h9 => u_same (hts (.sameField "java/util/ArrayList" "java/util/AbstractList" "modCount" "I") (by decide +kernel)) x9 h9) rfl dJx4a65c_add_9ea2d_2 ?_
  refine lv_iconst (v := 1) hx hb dJx4a65c_add_9ea2d_5 (by decide) ?_
  refine lv_iadd hx hb dJx4a65c_add_9ea2d_6 ?_
  refine va_put (D := (dC, dI)) (ci := 0) (fs := [.int mc, .ref z, .int 0]) (v := .int (mc + 1)) (ty := .int) (C := RJx4a65c) (T := TJx4a65c) (N := 3) hx hb hts in_l_addC_Jx4a65c tyJx4a65c tyJx4a65c_ok nmJx4a65c hown hK hP hD hS 0 rfl rfl 0 (by decide) (hts (.fieldLink RJx4a65c 63 "java/util/ArrayList" "modCount" "I") (by decide +kernel)) (fun x9 h9 => u_same (hts (.sameField "java/util/ArrayList" "java/util/AbstractList" "modCount" "I") (by decide +kernel)) x9 h9) rfl (by decide +kernel) rfl rfl (Nat.le_of_ble_eq_true rfl) dJx4a65c_add_9ea2d_7 (fun H locs hP hD hS => ?_)
  replace hP : va_P (dC, dI) vwCl [(h0, .inr (0, [.int (mc + 1), .ref z, .int 0])), (h1, .inr (8, vs))] H := hP
  replace hD : va_D A [(h0, .inr (0, [.int (mc + 1), .ref z, .int 0])), (h1, .inr (8, vs))] := hD
  refine lv_aload_n hx hb dJx4a65c_add_9ea2d_10 rfl (lv_at hl 0 rfl) ?_
  refine lv_aload_n hx hb dJx4a65c_add_9ea2d_11 rfl (lv_at hl 1 rfl) ?_
  refine lv_aload_n hx hb dJx4a65c_add_9ea2d_12 rfl (lv_at hl 0 rfl) ?_
  refine va_get (D := (dC, dI)) (ci := 0) (v := .ref z) (C := RJx4a65c) (T := TJx4a65c) (N := 3) hx hb hts in_l_addC_Jx4a65c hown hK hP 0 rfl rfl 1 (by decide) (hts (.fieldLink RJx4a65c 9 "java/util/ArrayList" "elementData" "[Ljava/lang/Object;") (by decide +kernel)) (fun _ h9 => h9) rfl dJx4a65c_add_9ea2d_13 ?_
  refine lv_aload_n hx hb dJx4a65c_add_9ea2d_16 rfl (lv_at hl 0 rfl) ?_
  refine va_get (D := (dC, dI)) (ci := 0) (v := .int 0) (C := RJx4a65c) (T := TJx4a65c) (N := 3) hx hb hts in_l_addC_Jx4a65c hown hK hP 0 rfl rfl 2 (by decide) (hts (.fieldLink RJx4a65c 48 "java/util/ArrayList" "size" "I") (by decide +kernel)) (fun _ h9 => h9) rfl dJx4a65c_add_9ea2d_17 ?_
  have hPc := hP.sub (ws' := [(h0, .inr (0, [.int (mc + 1), .ref z, .int 0])), (h1, .inr (8, vs))]) [0, 1] rfl
  have hDc := hD.sub (ws' := [(h0, .inr (0, [.int (mc + 1), .ref z, .int 0])), (h1, .inr (8, vs))]) [0, 1] (by decide) rfl
  have hKc := hK.sub (tys' := []) [] rfl
  have hFc := va_free (wc := [(h0, .inr (0, [.int (mc + 1), .ref z, .int 0])), (h1, .inr (8, vs))]) hD hS hA [0, 1] rfl
  refine va_callv (va_runV (As := [.ref h1, .ref z, .int 0]) (rest := []) ⟨hx, hb, hml, hown, hts⟩ (c_l_add3C l dC dI h0 (mc + 1) z f h1 vs H.size) (cwV 3 hts wc_l_addC_l_add3C_131 rfl rfl rfl (by decide +kernel) ⟨Nat.le_of_ble_eq_true rfl, Nat.le_of_ble_eq_true rfl⟩) ⟨fun a9 U g9 mk q => by obtain ⟨q0, q1, qP, qK, qD, qN, qZ, qT, qO⟩ := q; exact ⟨q0, q1, qP, va_K.moved (u := U) (U := U.calling g9 mk a9) (Vm.Alike.refl U.vm) qK, qD, pw_N.same (u := U) (U := U.calling g9 mk a9) rfl qN, va_Z.moved (u := U) (U := U.calling g9 mk a9) (Vm.Alike.refl U.vm) qZ, va_T.moved (u := U) (U := U.calling g9 mk a9) (Vm.Alike.refl U.vm) qT, va_AO.moved (u := U) (U := U.calling g9 mk a9) (Vm.Alike.refl U.vm) qO⟩, va_recv hKc hPc (ci := 0) (q0 := 0) rfl rfl, fun U hU hW => ⟨rfl, by rw [hU], by rw [hU]; exact hPc, va_K.moved hW.alike hKc, hDc.weaken (fun _ _ _ _ => trivial), pw_N.warm hW hN, by rw [hU]; exact va_Z.moved hW.alike ((hZ.kept (fun a9 h1 h2 => hS.2.1 a9 h1 h2)).narrow hFc), by rw [hU]; exact va_T.moved hW.alike ((hT.kept (fun a9 h1 h2 => hS.2.1 a9 h1 h2)).narrow hFc), va_AO.moved hW.alike hO⟩⟩ rfl rfl hl.1 rfl (lv_room (Nat.le_of_ble_eq_true rfl)) dJx4a65c_add_9ea2d_20 ⟨Nat.le_of_ble_eq_true rfl, Nat.le_of_ble_eq_true rfl⟩) hS (fun q _ h => hFc q h) hFc (fun u t H1 locs ht hvm hw hB hz1 hk1 hS => ?_)
  obtain ⟨e1, cG, N, g, hN2, hg, hP1, hK1, hD1⟩ := hB
  rw [ht] at hP1
  obtain ⟨hP, hD⟩ := va_join (wr := []) (w1 := [(h0, .inr (0, [.int (mc + 1), .ref e1, .int (nI (0 + 1))])), (e1, .inl (cG, N, .inr (.inr (.inr (.inr g))))), (h1, .inr (8, vs))]) hP hD [0, 1] [] rfl rfl (by decide) (by decide) hk1 hFc hP1 hD1
  generalize H1 = H at hP hS ⊢
  replace hP : va_P (dC, dI) vwCl [(h0, .inr (0, [.int (mc + 1), .ref e1, .int (nI (0 + 1))])), (e1, .inl (cG, N, .inr (.inr (.inr (.inr g))))), (h1, .inr (8, vs))] H := hP
  replace hD : va_D A [(h0, .inr (0, [.int (mc + 1), .ref e1, .int (nI (0 + 1))])), (e1, .inl (cG, N, .inr (.inr (.inr (.inr g))))), (h1, .inr (8, vs))] := hD
  refine lv_iconst (v := 1) hx hb dJx4a65c_add_9ea2d_23 (by decide) ?_
  exact W.zret (v := 1) hx hb hr (by decide) (fun t ht hW => ⟨⟨1, (), rfl, rfl, e1, cG, N, g, hN2, hg, by rw [ht]; exact hP, va_K.moved hW.alike (va_K.moved hvm.symm hK1), hD⟩, hS.F ht⟩) hS.2.2 dJx4a65c_add_9ea2d_24
