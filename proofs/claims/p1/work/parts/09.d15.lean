theorem dX8_only_0 : decode cX8_only 0 = .ok (.lconst 1, 1) := by decide +kernel
theorem dX8_only_1 : decode cX8_only 1 = .ok (.iload_n 0, 1) := by decide +kernel
theorem dX8_only_2 : decode cX8_only 2 = .ok (.lshl, 1) := by decide +kernel
theorem dX8_only_3 : decode cX8_only 3 = .ok (.lreturn, 1) := by decide +kernel
def wq_only0 : List Cond := [.code yX8_only cX8_only 1 (some .long)]
set_option maxRecDepth 20000 in
theorem wi_only0 : ∀ w ∈ wq_only0, w ∈ lw_tbl := (by decide +kernel)
set_option maxRecDepth 20000 in
theorem wg_only0 : GoodIn wq_only0 wq_only0 := goodIn_sub (fun _ h => h) (by decide +kernel)
set_option maxHeartbeats 4000000 in
set_option maxRecDepth 100000 in
theorem c_only0 (l : Launch) (dC : Nat → ClassId) (dI : Nat → Nat → Nat)  (sz : Nat) : Met l yX8_only wq_only0 ({ frames := 0, cells := 0, slots := 0, locals := 0 }) (va_Pc [.int 0] (fun U => U.heap.size = sz ∧ va_P (dC, dI) vwCl [] U.heap ∧ va_K (dC, dI) vwCl [] U ∧ va_D (fun _ => True) [] ∧ pw_N U)) (va_Ql (fun (r : Int64) (_ : Unit) => r = 1) (fun (_ : Unit) (t : State) => va_P (dC, dI) vwCl [] t.heap ∧ va_D (va_A [] sz) []) (va_A [] sz)) 0 0 (va_A [] sz) := by
  refine Met.ofW (cc := cX8_only) (maxL := 1) (ret := (some .long)) (by decide) rfl ?_
  intro p e s m args below meth c s₁ B hml hv
  obtain ⟨rfl, hsz, hP, hK, hD0, hN⟩ := hv
  have hx := B.exec
  have hb := B.bytes
  have hr := B.returns
  have hts := atoms_spec (ws := wq_only0) B.pre
  have hown : s.vm.findClass RX8 = some m.cls := findClass_of_methodNamed B.named
  have hlocks := B.notSynchronized
  subst hsz
  have hD := hD0.self (sz := s.heap.size)
  generalize hAe : va_A [] s.heap.size = A at hD ⊢
  have hA : ∀ q : Nat, s.heap.size ≤ q → A q := fun q h => by rw [← hAe]; exact Or.inr h
  have hS : va_S A s.heap s.heap [] := va_S.rf
  have hP : va_P (dC, dI) vwCl [] s.heap := hP
  have hl := lv_entry ([.int 0]) (n := 1) (Nat.le_of_ble_eq_true rfl)
  rw [lg_entry_eq]
  generalize (lg_sl ([.int 0]) ++ List.replicate (1 - (lg_sl ([.int 0])).length) Slot.unset).toArray = ls at hl ⊢
  have hl : lv_has ls 1 [(0, .int 0)] := hl
  refine lv_lconst (v := 1) hx hb dX8_only_0 (by decide) ?_
  refine lv_iload_n hx hb dX8_only_1 rfl (lv_at hl 0 rfl) ?_
  refine lv_lshl (v := 1) hx hb dX8_only_2 (by decide) ?_
  have hP9 := hP.sub (ws' := []) [] rfl
  have hD9 := hD.sub (ws' := []) [] (by decide) rfl
  exact W.lret (v := 1) hx hb hr (fun t ht hW => ⟨⟨1, (), rfl, rfl, by rw [ht]; exact hP9, hD9⟩, hS.F ht⟩) hS.2.2 dX8_only_3
