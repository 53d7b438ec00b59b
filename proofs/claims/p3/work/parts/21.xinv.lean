/-- what holds of the class's object between any two of its steps -/
def InvX (n cap : Nat) (fE : Nat → Option Nat) (sd : Nat → Nat → Nat) (dl : Nat → Nat) (b : Nat) (I : Nat → Int32) (J : Nat → Nat → Int32) (si : Nat → Nat → Int32) : Prop := (n ≤ 40 ∧ n ≤ cap ∧ cap < 100 ∧ I 6 = nI n ∧ ∀ s : Nat, s < n → fE s = some (sd s 0)) ∧ ((∃ p : Nat, p ≤ 40 ∧ I 9 = nI p) ∧ ∃ c : Nat, c ≤ b ∧ I 12 = nI c) ∧ (∀ j : Nat, ∃ x : Nat, x < 40 ∧ J 0 j = nI x) ∧ (∀ s : Nat, ∃ x : Nat, x ≤ 5 ∧ si s 6 = nI x) ∧ (∀ s : Nat, ∃ x : Nat, x < 10 ∧ si s 21 = nI x) ∧ (∀ s : Nat, ∃ x : Nat, x ≤ 10 ∧ si s 24 = nI x) ∧ (∀ s : Nat, (dl s = 20 ∨ dl s = 0) ∧ ∃ x : Nat, x ≤ dl s ∧ si s 32 = nI x) ∧ (∀ s : Nat, ∃ x : Nat, (x < dl s ∨ x = 0) ∧ si s 31 = nI x)
section INVX
variable {n cap b : Nat} {fE : Nat → Option Nat} {sd : Nat → Nat → Nat} {dl : Nat → Nat} {I : Nat → Int32} {J : Nat → Nat → Int32} {si : Nat → Nat → Int32}
theorem InvX.setI {j : Nat} {x : Int32} (h : InvX n cap fE sd dl b I J si) (hj : j ≠ 6 ∧ j ≠ 9 ∧ j ≠ 12) : InvX n cap fE sd dl b (va_up I j x) J si := by
  obtain ⟨⟨a1, a2, a3, a4, a5⟩, h2, h3⟩ := h
  have e6 : va_up I j x 6 = I 6 := va_up_ne I x hj.1.symm
  have e9 : va_up I j x 9 = I 9 := va_up_ne I x hj.2.1.symm
  have e12 : va_up I j x 12 = I 12 := va_up_ne I x hj.2.2.symm
  exact ⟨⟨a1, a2, a3, e6.trans a4, a5⟩, by rw [e9, e12]; exact h2, h3⟩
theorem InvX.set9 {x : Nat} (h : InvX n cap fE sd dl b I J si) (hx : x ≤ 40) : InvX n cap fE sd dl b (va_up I 9 (nI x)) J si := by
  obtain ⟨⟨a1, a2, a3, a4, a5⟩, h2, h3⟩ := h
  exact ⟨⟨a1, a2, a3, (va_up_ne I _ (by decide)).trans a4, a5⟩, ⟨⟨x, hx, va_up_self I 9 _⟩, by rw [va_up_ne I _ (by decide)]; exact h2.2⟩, h3⟩
theorem InvX.set12 {x : Nat} (h : InvX n cap fE sd dl b I J si) (hx : x ≤ b) : InvX n cap fE sd dl b (va_up I 12 (nI x)) J si := by
  obtain ⟨⟨a1, a2, a3, a4, a5⟩, h2, h3⟩ := h
  exact ⟨⟨a1, a2, a3, (va_up_ne I _ (by decide)).trans a4, a5⟩, ⟨by rw [va_up_ne I _ (by decide)]; exact h2.1, ⟨x, hx, va_up_self I 12 _⟩⟩, h3⟩
theorem InvX.mono {b2 : Nat} (h : InvX n cap fE sd dl b I J si) (hb : b ≤ b2) : InvX n cap fE sd dl b2 I J si := by
  obtain ⟨h1, ⟨h2, c, hc, ec⟩, h3⟩ := h
  exact ⟨h1, ⟨h2, c, Nat.le_trans hc hb, ec⟩, h3⟩
theorem InvX.setJ {j : Nat} {g : Nat → Int32} (h : InvX n cap fE sd dl b I J si) (hj : j ≠ 0) : InvX n cap fE sd dl b I (va_up J j g) si := by
  obtain ⟨h1, h2, h3, h4⟩ := h
  exact ⟨h1, h2, by rw [va_up_ne J g hj.symm]; exact h3, h4⟩
theorem InvX.setJ0 {i x : Nat} (h : InvX n cap fE sd dl b I J si) (hx : x < 40) : InvX n cap fE sd dl b I (va_up J 0 (upd (J 0) i (nI x))) si := by
  obtain ⟨h1, h2, h3, h4⟩ := h
  refine ⟨h1, h2, ?_, h4⟩
  rw [va_up_self]
  intro j
  by_cases ej : j = i
  · subst ej; exact ⟨x, hx, pk_us⟩
  · obtain ⟨y, hy, ey⟩ := h3 j; exact ⟨y, hy, (pk_un ej).trans ey⟩
theorem up2_ne {α : Type} {f : Nat → Nat → α} {s q s2 q2 : Nat} {x : α} (h : q2 ≠ q) : up2 f s q x s2 q2 = f s2 q2 := by simp [up2, h]
theorem InvX.setsi {s q : Nat} {x : Int32} (h : InvX n cap fE sd dl b I J si) (hq : q ≠ 6 ∧ q ≠ 21 ∧ q ≠ 24 ∧ q ≠ 31 ∧ q ≠ 32) : InvX n cap fE sd dl b I J (up2 si s q x) := by
  obtain ⟨h1, h2, h3, h4, h5, h6, h7, h8⟩ := h
  refine ⟨h1, h2, h3, fun t => ?_, fun t => ?_, fun t => ?_, fun t => ?_, fun t => ?_⟩
  · rw [up2_ne hq.1.symm]; exact h4 t
  · rw [up2_ne hq.2.1.symm]; exact h5 t
  · rw [up2_ne hq.2.2.1.symm]; exact h6 t
  · rw [up2_ne hq.2.2.2.2.symm]; exact h7 t
  · rw [up2_ne hq.2.2.2.1.symm]; exact h8 t
theorem up2_or {α : Type} {f : Nat → Nat → α} {s q : Nat} {x : α} {P : Nat → α → Prop} (h : ∀ t : Nat, P t (f t q)) (hx : P s x) : ∀ t : Nat, P t (up2 f s q x t q) := by
  intro t
  by_cases e : t = s
  · subst e; simp [up2]; exact hx
  · simp [up2, e]; exact h t
theorem InvX.set6 {s x : Nat} (h : InvX n cap fE sd dl b I J si) (hx : x ≤ 5) : InvX n cap fE sd dl b I J (up2 si s 6 (nI x)) := by
  obtain ⟨h1, h2, h3, h4, h5, h6, h7, h8⟩ := h
  refine ⟨h1, h2, h3, up2_or (P := fun _ v => ∃ x : Nat, x ≤ 5 ∧ v = nI x) h4 ⟨x, hx, rfl⟩, fun t => ?_, fun t => ?_, fun t => ?_, fun t => ?_⟩
  · rw [up2_ne (by decide)]; exact h5 t
  · rw [up2_ne (by decide)]; exact h6 t
  · rw [up2_ne (by decide)]; exact h7 t
  · rw [up2_ne (by decide)]; exact h8 t
theorem InvX.set21 {s x : Nat} (h : InvX n cap fE sd dl b I J si) (hx : x < 10) : InvX n cap fE sd dl b I J (up2 si s 21 (nI x)) := by
  obtain ⟨h1, h2, h3, h4, h5, h6, h7, h8⟩ := h
  refine ⟨h1, h2, h3, fun t => ?_, up2_or (P := fun _ v => ∃ x : Nat, x < 10 ∧ v = nI x) h5 ⟨x, hx, rfl⟩, fun t => ?_, fun t => ?_, fun t => ?_⟩
  · rw [up2_ne (by decide)]; exact h4 t
  · rw [up2_ne (by decide)]; exact h6 t
  · rw [up2_ne (by decide)]; exact h7 t
  · rw [up2_ne (by decide)]; exact h8 t
theorem InvX.set24 {s x : Nat} (h : InvX n cap fE sd dl b I J si) (hx : x ≤ 10) : InvX n cap fE sd dl b I J (up2 si s 24 (nI x)) := by
  obtain ⟨h1, h2, h3, h4, h5, h6, h7, h8⟩ := h
  refine ⟨h1, h2, h3, fun t => ?_, fun t => ?_, up2_or (P := fun _ v => ∃ x : Nat, x ≤ 10 ∧ v = nI x) h6 ⟨x, hx, rfl⟩, fun t => ?_, fun t => ?_⟩
  · rw [up2_ne (by decide)]; exact h4 t
  · rw [up2_ne (by decide)]; exact h5 t
  · rw [up2_ne (by decide)]; exact h7 t
  · rw [up2_ne (by decide)]; exact h8 t
theorem InvX.set32 {s x : Nat} (h : InvX n cap fE sd dl b I J si) (hx : x ≤ dl s) : InvX n cap fE sd dl b I J (up2 si s 32 (nI x)) := by
  obtain ⟨h1, h2, h3, h4, h5, h6, h7, h8⟩ := h
  refine ⟨h1, h2, h3, fun t => ?_, fun t => ?_, fun t => ?_, up2_or (P := fun t v => (dl t = 20 ∨ dl t = 0) ∧ ∃ x : Nat, x ≤ dl t ∧ v = nI x) h7 ⟨(h7 s).1, x, hx, rfl⟩, fun t => ?_⟩
  · rw [up2_ne (by decide)]; exact h4 t
  · rw [up2_ne (by decide)]; exact h5 t
  · rw [up2_ne (by decide)]; exact h6 t
  · rw [up2_ne (by decide)]; exact h8 t
theorem InvX.set31 {s x : Nat} (h : InvX n cap fE sd dl b I J si) (hx : x < dl s ∨ x = 0) : InvX n cap fE sd dl b I J (up2 si s 31 (nI x)) := by
  obtain ⟨h1, h2, h3, h4, h5, h6, h7, h8⟩ := h
  refine ⟨h1, h2, h3, fun t => ?_, fun t => ?_, fun t => ?_, fun t => ?_, up2_or (P := fun t v => ∃ x : Nat, (x < dl t ∨ x = 0) ∧ v = nI x) h8 ⟨x, hx, rfl⟩⟩
  · rw [up2_ne (by decide)]; exact h4 t
  · rw [up2_ne (by decide)]; exact h5 t
  · rw [up2_ne (by decide)]; exact h6 t
  · rw [up2_ne (by decide)]; exact h7 t
end INVX
theorem xw_ofWF {l : Launch} {y : MethodName} {ws ws' : List Cond} {rm : Room} {Pc : Array Value → State → Prop} {Qc : Array Value → State → Outcome → State → Prop} {mc ms : Nat} {free : Addr → Prop} {cc : ByteArray} {maxL : Nat} {ret : Option FieldType}
    (hy : plainFor y = true) (hw : ws = Cond.code y cc maxL ret :: ws')
    (body : ∀ p e s m args below meth c s₁, BodyLoose p l y (headSpec ws rm) cc maxL ret e s m args below meth c s₁ → c.maxLocals = maxL → Pc args s →
      W p l e (headSpec ws rm).room s m args below meth c s.heap [] 0 0 (MQ below Qc args s mc ms free) (entryFrame m args maxL)) : Met l y ws rm Pc Qc mc ms free := by
  refine MetFree.of_bodySF (code := cc) (maxLocals := maxL) (ret := ret) hy ?_ ?_
  · intro args s m h hn
    obtain ⟨meth, c, h1, h2, h3, h4, h5, h6, -, -⟩ := Cond.code_spec hn (atoms_spec (ws := ws) h _ (by rw [hw]; exact List.mem_cons_self))
    exact ⟨meth, c, h1, h2, h3, h4, h5, h6⟩
  · intro p e s m args below meth c s₁ B hml hP _
    have hh0 : s₁.heap = s.heap := by rw [B.state]; rfl
    obtain ⟨t, a1, o, b1, b2, b3⟩ := body p e s m args below meth c s₁ B hml hP s₁ hh0 (Stand.of_body B)
    exact ⟨t, o, a1, b1, b2, ⟨b3.1, b3.2⟩⟩
theorem nx_xor (a b : Nat) : nI a ^^^ nI b = nI (a ^^^ b) := by
  apply Int32.toBitVec_inj.1
  show BitVec.ofNat 32 a ^^^ BitVec.ofNat 32 b = BitVec.ofNat 32 (a ^^^ b)
  apply BitVec.eq_of_getLsbD_eq
  intro i hi
  simp [hi]
theorem xw_xor {x : Nat} {y : Int32} (hx : x < 2147483648) (e : y = nI x ^^^ 2000) : 0 ≤ y := by
  have h : nI x ^^^ 2000 = nI (x ^^^ 2000) := nx_xor x 2000
  rw [e, h]
  exact nI_pos' (Nat.xor_lt_two_pow (n := 31) (by omega) (by decide))
theorem xw_within {x y : Int32} {z : Nat} (hz : z < 1000) (h0 : 0 ≤ x) (h1 : x ≤ y) (ey : y = nI z - 1) : ∃ j : Nat, j < z ∧ x = nI j := by
  have e : (nI z - 1).toInt = (z : Int) - 1 := pk_sub_toInt (a := z) (b := 1) (by omega) (by omega)
  rw [ey] at h1
  simp only [p1_le, p1_0, e] at h0 h1
  obtain ⟨j, hj, ej⟩ := nI_of (x := x) (by simp only [p1_lt, p1_0]; omega)
  rw [ej, nI_toInt hj] at h1
  exact ⟨j, by omega, ej⟩
theorem xw_without {x y : Int32} {z : Nat} (hz : z < 1000) (h : x < 0 ∨ y < x) (ey : y = nI z - 1) : x < 0 ∨ nI z ≤ x := by
  have e : (nI z - 1).toInt = (z : Int) - 1 := pk_sub_toInt (a := z) (b := 1) (by omega) (by omega)
  rcases h with h | h
  · exact Or.inl h
  · right
    rw [ey] at h
    simp only [p1_lt, p1_le, e, nI_toInt (show z < 2 ^ 31 by omega)] at h ⊢
    omega
theorem xw_clamp (x : Int32) {a b : Int32} (ea : a = if (7 : Int32) < x then 7 else x) (eb : b = if (0 : Int32) < a then a else 0) : ∃ j : Nat, j ≤ 7 ∧ b = nI j := by
  have h0 : ¬ b < 0 := by
    rw [eb]; split
    · rename_i h; simp only [p1_lt, p1_0] at h ⊢; omega
    · decide
  have h7 : b ≤ 7 := by
    rw [eb]; split
    · rw [ea]; split
      · decide
      · rename_i h9; simp only [p1_lt, p1_le, p1_7] at h9 ⊢; omega
    · decide
  exact nI_of2 (by decide) h0 h7
theorem xw_up2 {α : Type} {f g : Nat → Nat → α} {s q : Nat} {x : α} {WR : List Nat} (hq : q ∈ WR) (h : ∀ s9 q9 : Nat, q9 ∉ WR → f s9 q9 = g s9 q9) : ∀ s9 q9 : Nat, q9 ∉ WR → up2 f s q x s9 q9 = g s9 q9 := by
  intro s9 q9 h9
  have e : q9 ≠ q := fun e => h9 (by rw [e]; exact hq)
  rw [up2_ne e]
  exact h s9 q9 h9
theorem xw_tr2 {α : Type} {f g f2 : Nat → Nat → α} {W1 WR : List Nat} (hs : ∀ j : Nat, j ∈ W1 → j ∈ WR) (h1 : ∀ s9 q9 : Nat, q9 ∉ W1 → f2 s9 q9 = f s9 q9) (h : ∀ s9 q9 : Nat, q9 ∉ WR → f s9 q9 = g s9 q9) : ∀ s9 q9 : Nat, q9 ∉ WR → f2 s9 q9 = g s9 q9 := fun s9 q9 hj => (h1 s9 q9 (fun q => hj (hs q9 q))).trans (h s9 q9 hj)
theorem xAt_fr (h : Nat) (a : Nat → Nat) (e : Nat) (cI cJ cO cE : ClassId) (L : Nat → Int64) (I : Nat → Int32) (M : Nat → Nat → Int64) (J : Nat → Nat → Int32) (n cap : Nat) (fE : Nat → Option Nat) (sd : Nat → Nat → Nat) (si : Nat → Nat → Int32) (sa : Nat → Nat → Nat → Int32) (dl : Nat → Nat) {o : Nat} (ho : o < 4) : (xW h a e cI cJ cO cE L I M J n cap fE sd si sa dl)[5 + o]? = some (a (20 + o), .inl (cJ, 40, .inr (.inl (M o)))) := by
  rcases (show o = 0 ∨ o = 1 ∨ o = 2 ∨ o = 3 by omega) with rfl | rfl | rfl | rfl <;> rfl
theorem xAt_to (h : Nat) (a : Nat → Nat) (e : Nat) (cI cJ cO cE : ClassId) (L : Nat → Int64) (I : Nat → Int32) (M : Nat → Nat → Int64) (J : Nat → Nat → Int32) (n cap : Nat) (fE : Nat → Option Nat) (sd : Nat → Nat → Nat) (si : Nat → Nat → Int32) (sa : Nat → Nat → Nat → Int32) (dl : Nat → Nat) {o : Nat} (ho : o < 4) : (xW h a e cI cJ cO cE L I M J n cap fE sd si sa dl)[9 + o]? = some (a (24 + o), .inl (cJ, 40, .inr (.inl (M (4 + o))))) := by
  rcases (show o = 0 ∨ o = 1 ∨ o = 2 ∨ o = 3 by omega) with rfl | rfl | rfl | rfl <;> rfl
theorem xM_fr (h : Nat) (a : Nat → Nat) (e : Nat) (cI cJ cO cE : ClassId) (L : Nat → Int64) (I : Nat → Int32) (M : Nat → Nat → Int64) (J : Nat → Nat → Int32) (n cap : Nat) (fE : Nat → Option Nat) (sd : Nat → Nat → Nat) (si : Nat → Nat → Int32) (sa : Nat → Nat → Nat → Int32) (dl : Nat → Nat) {o : Nat} (ho : o < 4) (g : Nat → Int64) : (xW h a e cI cJ cO cE L I M J n cap fE sd si sa dl).set (5 + o) (a (20 + o), .inl (cJ, 40, .inr (.inl g))) = xW h a e cI cJ cO cE L I (va_up M o g) J n cap fE sd si sa dl := by
  rcases (show o = 0 ∨ o = 1 ∨ o = 2 ∨ o = 3 by omega) with rfl | rfl | rfl | rfl
  · exact xM_0 h a e cI cJ cO cE L I M J n cap fE sd si sa dl g
  · exact xM_1 h a e cI cJ cO cE L I M J n cap fE sd si sa dl g
  · exact xM_2 h a e cI cJ cO cE L I M J n cap fE sd si sa dl g
  · exact xM_3 h a e cI cJ cO cE L I M J n cap fE sd si sa dl g
theorem xM_to (h : Nat) (a : Nat → Nat) (e : Nat) (cI cJ cO cE : ClassId) (L : Nat → Int64) (I : Nat → Int32) (M : Nat → Nat → Int64) (J : Nat → Nat → Int32) (n cap : Nat) (fE : Nat → Option Nat) (sd : Nat → Nat → Nat) (si : Nat → Nat → Int32) (sa : Nat → Nat → Nat → Int32) (dl : Nat → Nat) {o : Nat} (ho : o < 4) (g : Nat → Int64) : (xW h a e cI cJ cO cE L I M J n cap fE sd si sa dl).set (9 + o) (a (24 + o), .inl (cJ, 40, .inr (.inl g))) = xW h a e cI cJ cO cE L I (va_up M (4 + o) g) J n cap fE sd si sa dl := by
  rcases (show o = 0 ∨ o = 1 ∨ o = 2 ∨ o = 3 by omega) with rfl | rfl | rfl | rfl
  · exact xM_4 h a e cI cJ cO cE L I M J n cap fE sd si sa dl g
  · exact xM_5 h a e cI cJ cO cE L I M J n cap fE sd si sa dl g
  · exact xM_6 h a e cI cJ cO cE L I M J n cap fE sd si sa dl g
  · exact xM_7 h a e cI cJ cO cE L I M J n cap fE sd si sa dl g
