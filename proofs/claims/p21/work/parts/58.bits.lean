section
def bL (x : Int64) (s : Nat) : Bool := x.toBitVec.getLsbD s
theorem bL_ext {x y : Int64} (h : ∀ s, s < 64 → bL x s = bL y s) : x = y := Int64.toBitVec_inj.mp (BitVec.eq_of_getLsbD_eq (fun i hi => h i hi))
theorem bL_or (x y : Int64) (s : Nat) : bL (x ||| y) s = (bL x s || bL y s) := by unfold bL; rw [Int64.toBitVec_or, BitVec.getLsbD_or]
theorem bL_and (x y : Int64) (s : Nat) : bL (x &&& y) s = (bL x s && bL y s) := by unfold bL; rw [Int64.toBitVec_and, BitVec.getLsbD_and]
theorem bL_xor (x y : Int64) (s : Nat) : bL (x ^^^ y) s = (bL x s ^^ bL y s) := by unfold bL; rw [Int64.toBitVec_xor, BitVec.getLsbD_xor]
theorem bL_m1 : ∀ s, s < 64 → bL (-1) s = true := by decide +kernel
theorem bL_0 (s : Nat) : bL 0 s = false := BitVec.getLsbD_zero
theorem bL_big {x : Int64} {s : Nat} (h : 64 ≤ s) : bL x s = false := BitVec.getLsbD_of_ge _ _ h
theorem bL_not (x : Int64) {s : Nat} (hs : s < 64) : bL (x ^^^ (-1)) s = !bL x s := by rw [bL_xor, bL_m1 s hs]; cases bL x s <;> rfl
def oL (t : Nat) : Int64 := (1 : Int64) <<< ((nI t).toInt64 &&& 63)
theorem oL_bv : ∀ t, t < 64 → (oL t).toBitVec = BitVec.twoPow 64 t := by decide +kernel
theorem bL_only {t : Nat} (ht : t < 64) (s : Nat) : bL (oL t) s = decide (s = t) := by
  unfold bL
  rw [oL_bv t ht, BitVec.getLsbD_twoPow]
  by_cases h : s = t
  · subst h; simp [ht]
  · simp [h, Ne.symm h]
theorem bL_zero_iff {x : Int64} : x = 0 ↔ ∀ s, s < 64 → bL x s = false := by
  constructor
  · intro h s _; rw [h]; exact bL_0 s
  · intro h; exact bL_ext (fun s hs => by rw [h s hs, bL_0])
theorem bL_cnt : ∀ k, k < 64 → ((nI k).toInt64.toUInt64 &&& Int64.toUInt64 63).toNat = k := by decide +kernel
theorem bL_shift {w : Int64} {u : UInt64} {j : Nat} (hj : j < 64) (hu : u.toNat = j) : ((w.toUInt64 >>> u).toInt64 &&& 1) = 0 ↔ bL w j = false := by
  have hm : ((w.toUInt64 >>> u).toInt64 &&& 1).toBitVec = (w.toBitVec >>> j) &&& 1#64 := by
    show (w.toUInt64 >>> u).toInt64.toBitVec &&& (1 : Int64).toBitVec = _
    congr 1
    show (w.toUInt64 >>> u).toBitVec = _
    rw [UInt64.toBitVec_shiftRight]
    show w.toBitVec >>> (u.toBitVec % 64) = _
    have e : (u.toBitVec % 64).toNat = j := by
      rw [BitVec.toNat_umod]
      show u.toNat % 64 = j
      rw [hu]; exact Nat.mod_eq_of_lt hj
    show BitVec.ushiftRight w.toBitVec (u.toBitVec % 64).toNat = BitVec.ushiftRight w.toBitVec j
    rw [e]
  constructor
  · intro h
    have h1 : ((w.toUInt64 >>> u).toInt64 &&& 1).toBitVec = 0#64 := by rw [h]; rfl
    rw [hm] at h1
    have h2 := congrArg (fun b => b.getLsbD 0) h1
    simp [BitVec.getLsbD_and, BitVec.getLsbD_ushiftRight] at h2
    exact h2
  · intro h
    apply Int64.toBitVec_inj.mp
    rw [hm]
    show _ = 0#64
    apply BitVec.eq_of_getLsbD_eq
    intro i hi
    rw [BitVec.getLsbD_and, BitVec.getLsbD_ushiftRight]
    by_cases e : i = 0
    · subst e
      have h3 : w.toBitVec.getLsbD (j + 0) = false := h
      rw [h3]; simp
    · simp [e]
def uS (f : Nat → Int64) (S : Int64) : Nat → Int64
  | 0 => 0
  | k + 1 => if bL S k then uS f S k ||| f k else uS f S k
theorem bL_uS (f : Nat → Int64) (S : Int64) (t : Nat) : ∀ k, bL (uS f S k) t = true ↔ ∃ s, s < k ∧ bL S s = true ∧ bL (f s) t = true
  | 0 => by
    constructor
    · intro h; rw [show uS f S 0 = 0 from rfl, bL_0] at h; cases h
    · rintro ⟨s, hs, _⟩; omega
  | k + 1 => by
    have ih := bL_uS f S t k
    by_cases hb : bL S k = true
    · rw [show uS f S (k + 1) = uS f S k ||| f k from if_pos hb, bL_or, Bool.or_eq_true, ih]
      constructor
      · rintro (⟨s, h1, h2, h3⟩ | h)
        · exact ⟨s, by omega, h2, h3⟩
        · exact ⟨k, by omega, hb, h⟩
      · rintro ⟨s, h1, h2, h3⟩
        by_cases e : s = k
        · subst e; exact Or.inr h3
        · exact Or.inl ⟨s, by omega, h2, h3⟩
    · rw [show uS f S (k + 1) = uS f S k from if_neg hb, ih]
      constructor
      · rintro ⟨s, h1, h2, h3⟩; exact ⟨s, by omega, h2, h3⟩
      · rintro ⟨s, h1, h2, h3⟩
        by_cases e : s = k
        · subst e; exact absurd h2 hb
        · exact ⟨s, by omega, h2, h3⟩
def Clo (E : Nat → Nat → Prop) (S : Nat → Prop) (x : Nat) : Prop := ∀ T : Nat → Prop, (∀ y, S y → T y) → (∀ y z, T y → E y z → T z) → T x
theorem Clo.base {E : Nat → Nat → Prop} {S : Nat → Prop} {x : Nat} (h : S x) : Clo E S x := fun _ h1 _ => h1 x h
theorem Clo.step {E : Nat → Nat → Prop} {S : Nat → Prop} {x y : Nat} (h : Clo E S x) (e : E x y) : Clo E S y := fun T h1 h2 => h2 x y (h T h1 h2) e
theorem Clo.least {E : Nat → Nat → Prop} {S T : Nat → Prop} (h1 : ∀ y, S y → T y) (h2 : ∀ y z, T y → E y z → T z) {x : Nat} (h : Clo E S x) : T x := h T h1 h2
def cN (p : Nat → Bool) : Nat → Nat
  | 0 => 0
  | k + 1 => cN p k + (if p k then 1 else 0)
theorem cN_le (p : Nat → Bool) : ∀ k, cN p k ≤ k
  | 0 => Nat.le_refl _
  | k + 1 => by have h := cN_le p k; show cN p k + _ ≤ k + 1; split <;> omega
theorem cN_mono {p q : Nat → Bool} : ∀ {k : Nat}, (∀ i, i < k → p i = true → q i = true) → cN p k ≤ cN q k
  | 0, _ => Nat.le_refl _
  | k + 1, h => by
    have h1 := cN_mono (p := p) (q := q) (k := k) (fun i hi => h i (by omega))
    show cN p k + (if p k then 1 else 0) ≤ cN q k + (if q k then 1 else 0)
    by_cases e : p k = true
    · rw [if_pos e, if_pos (h k (by omega) e)]; omega
    · rw [if_neg e]; omega
theorem cN_lt {p q : Nat → Bool} : ∀ {k j : Nat}, (∀ i, i < k → p i = true → q i = true) → j < k → p j = false → q j = true → cN p k < cN q k
  | 0, _, _, hj, _, _ => by omega
  | k + 1, j, h, hj, hp, hq => by
    have h1 := cN_mono (p := p) (q := q) (k := k) (fun i hi => h i (by omega))
    show cN p k + (if p k then 1 else 0) < cN q k + (if q k then 1 else 0)
    by_cases e : j = k
    · subst e
      rw [if_pos hq, hp, if_neg (by decide)]; omega
    · have h2 := cN_lt (p := p) (q := q) (k := k) (j := j) (fun i hi => h i (by omega)) (by omega) hp hq
      by_cases e2 : p k = true
      · rw [if_pos e2, if_pos (h k (by omega) e2)]; omega
      · rw [if_neg e2]; omega
def itL (g : Int64 → Int64) : Nat → Int64 → Int64
  | 0, x => x
  | k + 1, x => g (itL g k x)
theorem itL_fix {g : Int64 → Int64} {x : Int64} {k : Nat} (h : g (itL g k x) = itL g k x) : ∀ d, itL g (k + d) x = itL g k x
  | 0 => rfl
  | d + 1 => by show g (itL g (k + d) x) = _; rw [itL_fix h d, h]
theorem itL_stop (g : Int64 → Int64) (x : Int64) (hg : ∀ y s, bL y s = true → bL (g y) s = true) (h40 : ∀ y s, bL (g y) s = true → bL y s = false → s < 40) : g (itL g 40 x) = itL g 40 x := by
  have key : ∀ k, g (itL g k x) = itL g k x ∨ k + cN (bL x) 40 ≤ cN (bL (itL g k x)) 40 := by
    intro k
    induction k with
    | zero => right; show 0 + cN (bL x) 40 ≤ cN (bL x) 40; omega
    | succ k ih =>
      rcases ih with h | h
      · left
        show g (g (itL g k x)) = g (itL g k x)
        rw [h, h]
      · by_cases e : g (itL g k x) = itL g k x
        · left
          show g (g (itL g k x)) = g (itL g k x)
          rw [e, e]
        · right
          have hex : ∃ s, bL (g (itL g k x)) s = true ∧ bL (itL g k x) s = false := by
            refine Classical.byContradiction (fun hn => e (bL_ext (fun s _ => ?_)))
            by_cases h1 : bL (itL g k x) s = true
            · rw [h1, hg _ s h1]
            · have h1' : bL (itL g k x) s = false := by revert h1; cases bL (itL g k x) s <;> simp
              rw [h1']
              refine Classical.byContradiction (fun h2 => hn ⟨s, ?_, h1'⟩)
              revert h2; cases bL (g (itL g k x)) s <;> simp
          obtain ⟨s, h1, h2⟩ := hex
          have h3 := cN_lt (p := bL (itL g k x)) (q := bL (g (itL g k x))) (k := 40) (j := s) (fun i _ => hg _ i) (h40 _ s h1 h2) h2 h1
          show k + 1 + cN (bL x) 40 ≤ cN (bL (g (itL g k x))) 40
          omega
  have hle : ∀ k, cN (bL (itL g k x)) 40 ≤ 40 := fun k => cN_le _ 40
  rcases key 40 with h | h
  · exact h
  · have hl := hle 40
    have hfull : cN (bL (itL g 40 x)) 40 = 40 := by omega
    refine bL_ext (fun s _ => ?_)
    by_cases h1 : bL (itL g 40 x) s = true
    · rw [h1, hg _ s h1]
    · have h1' : bL (itL g 40 x) s = false := by revert h1; cases bL (itL g 40 x) s <;> simp
      rw [h1']
      refine Classical.byContradiction (fun h2 => ?_)
      have h2' : bL (g (itL g 40 x)) s = true := by revert h2; cases bL (g (itL g 40 x)) s <;> simp
      have h3 := cN_lt (p := bL (itL g 40 x)) (q := bL (g (itL g 40 x))) (k := 40) (j := s) (fun i _ => hg _ i) (h40 _ s h2' h1') h1' h2'
      have h4 := cN_le (bL (g (itL g 40 x))) 40
      omega

end
section
def jb {α β : Type} (r : α) (k : α → β) : β := k r
theorem jb_gen {α β : Type} {r : α} {k : α → β} {R : β} (h : R = jb r k) : ∃ K : α, K = r ∧ R = k K := ⟨r, rfl, h⟩
def bnd {α β : Type} (a : α) (k : α → β) : β := k a
theorem bnd_s {α β : Type} {a x : α} {k : α → β} {R : β} (h : R = bnd a k) (e : x = a) : R = k x := by rw [h, e]; rfl
theorem ite_t {α : Type} {c : Prop} [Decidable c] {A B R : α} (h : R = ite c A B) (hc : c) : R = A := by rw [h, if_pos hc]
theorem ite_f {α : Type} {c : Prop} [Decidable c] {A B R : α} (h : R = ite c A B) (hc : ¬ c) : R = B := by rw [h, if_neg hc]
theorem lp_gen {α β : Type} {f : α → β} {k : α} {R : β} (h : R = f k) : ∃ K : α, K = k ∧ R = f K := ⟨k, rfl, h⟩
def bn2 {α0 α1 β : Type} (a : α0 × α1) (k : α0 → α1 → β) : β := k (a.1) (a.2)
theorem bn2_s {α0 α1 β : Type} {a : α0 × α1} {x0 : α0} {x1 : α1} {k : α0 → α1 → β} {R : β} (h : R = bn2 a k) (e : (x0, x1) = a) : R = k x0 x1 := by rw [h, ← e]; rfl
def bn3 {α0 α1 α2 β : Type} (a : α0 × α1 × α2) (k : α0 → α1 → α2 → β) : β := k (a.1) (a.2.1) (a.2.2)
theorem bn3_s {α0 α1 α2 β : Type} {a : α0 × α1 × α2} {x0 : α0} {x1 : α1} {x2 : α2} {k : α0 → α1 → α2 → β} {R : β} (h : R = bn3 a k) (e : (x0, x1, x2) = a) : R = k x0 x1 x2 := by rw [h, ← e]; rfl
def bn5 {α0 α1 α2 α3 α4 β : Type} (a : α0 × α1 × α2 × α3 × α4) (k : α0 → α1 → α2 → α3 → α4 → β) : β := k (a.1) (a.2.1) (a.2.2.1) (a.2.2.2.1) (a.2.2.2.2)
theorem bn5_s {α0 α1 α2 α3 α4 β : Type} {a : α0 × α1 × α2 × α3 × α4} {x0 : α0} {x1 : α1} {x2 : α2} {x3 : α3} {x4 : α4} {k : α0 → α1 → α2 → α3 → α4 → β} {R : β} (h : R = bn5 a k) (e : (x0, x1, x2, x3, x4) = a) : R = k x0 x1 x2 x3 x4 := by rw [h, ← e]; rfl
theorem lp_app1 {α0 β : Type} {k K : α0 → β} {R : β} {x0 : α0} (h : K = k) (hE : R = K x0) : R = k x0 := by rw [hE, h]
theorem lp_app2 {α0 α1 β : Type} {k K : α0 → α1 → β} {R : β} {x0 : α0} {x1 : α1} (h : K = k) (hE : R = K x0 x1) : R = k x0 x1 := by rw [hE, h]
theorem lp_app3 {α0 α1 α2 β : Type} {k K : α0 → α1 → α2 → β} {R : β} {x0 : α0} {x1 : α1} {x2 : α2} (h : K = k) (hE : R = K x0 x1 x2) : R = k x0 x1 x2 := by rw [hE, h]
theorem lp_app4 {α0 α1 α2 α3 β : Type} {k K : α0 → α1 → α2 → α3 → β} {R : β} {x0 : α0} {x1 : α1} {x2 : α2} {x3 : α3} (h : K = k) (hE : R = K x0 x1 x2 x3) : R = k x0 x1 x2 x3 := by rw [hE, h]
theorem lp_app6 {α0 α1 α2 α3 α4 α5 β : Type} {k K : α0 → α1 → α2 → α3 → α4 → α5 → β} {R : β} {x0 : α0} {x1 : α1} {x2 : α2} {x3 : α3} {x4 : α4} {x5 : α5} (h : K = k) (hE : R = K x0 x1 x2 x3 x4 x5) : R = k x0 x1 x2 x3 x4 x5 := by rw [hE, h]
theorem xw_pred {x : Int32} {z : Nat} (hz : z ≤ 1000) (h : x < nI z) : x ≤ nI z - 1 := by
  have e : (nI z - 1).toInt = (z : Int) - 1 := pk_sub_toInt (a := z) (b := 1) (by omega) (by omega)
  rw [Int32.le_iff_toInt_le, e]
  rw [Int32.lt_iff_toInt_lt, nI_toInt (by omega)] at h
  omega

end
section
def wq_y_within : List Cond := [.code yX8_within cX8_within 3 (some .boolean)]
set_option maxRecDepth 20000 in
theorem wi_y_within : ∀ w ∈ wq_y_within, w ∈ lw_tbl := (wix [273] rfl)
set_option maxRecDepth 20000 in
theorem wg_y_within : GoodIn wq_y_within wq_y_within := goodIn_sub (fun _ h => h) (by decide +kernel)
def rm_y_within : Room := { frames := 0, cells := 0, slots := 0, locals := 0 }
set_option maxHeartbeats 4000000 in
set_option maxRecDepth 100000 in
theorem c_y_within (l : Launch) (dC : Nat → ClassId) (dI : Nat → Nat → Nat) (h : Nat) (a : Nat → Nat) (e : Nat) (cI cJ cO cE : ClassId) (L : Nat → Int64) (I : Nat → Int32) (M : Nat → Nat → Int64) (J : Nat → Nat → Int32) (n cap : Nat) (fE : Nat → Option Nat) (sd : Nat → Nat → Nat) (si : Nat → Nat → Int32) (sa : Nat → Nat → Nat → Int32) (dl : Nat → Nat) (b : Nat) (p0 : Int32) (p1 : Int32) (p2 : Int32) (sz : Nat) (hX0 : InvX n cap fE sd dl b I J si) (hb0 : b + 0 < 2147483648)  : Met l yX8_within wq_y_within rm_y_within (va_Pc [.int p0, .int p1, .int p2] (fun U => U.heap.size = sz ∧ va_P (dC, dI) vwCl (xW h a e cI cJ cO cE L I M J n cap fE sd si sa dl) U.heap ∧ va_K (dC, dI) vwCl (xT cI cJ cO cE) U ∧ va_D (fun _ => True) (xW h a e cI cJ cO cE L I M J n cap fE sd si sa dl) ∧ pw_N U)) (va_Qi (fun (r : Int32) (u : Unit) => ((r = 1 ∧ p1 ≤ p0 ∧ p0 ≤ p2) ∨ (r = 0 ∧ ¬ (p1 ≤ p0 ∧ p0 ≤ p2)))) (fun (u : Unit) (t : State) => va_P (dC, dI) vwCl (xW h a e cI cJ cO cE L I M J n cap fE sd si sa dl) t.heap ∧ va_D (va_A (xW h a e cI cJ cO cE L I M J n cap fE sd si sa dl) sz) (xW h a e cI cJ cO cE L I M J n cap fE sd si sa dl)) (va_A (xW h a e cI cJ cO cE L I M J n cap fE sd si sa dl) sz)) 0 0 (va_A (xW h a e cI cJ cO cE L I M J n cap fE sd si sa dl) sz) := by
  have hn : n ≤ 40 := hX0.1.1
  have hX := hX0
  refine Met.ofW (cc := cX8_within) (maxL := 3) (ret := (some .boolean)) (by decide) rfl ?_
  intro p e9 s m args below meth c s₁ B hml hv
  obtain ⟨rfl, hsz, hP, hK, hD0, hN⟩ := hv
  have hx := B.exec
  have hb := B.bytes
  have hr := B.returns
  have hts := atoms_spec (ws := wq_y_within) B.pre
  have hown : s.vm.findClass RX8 = some m.cls := findClass_of_methodNamed B.named
  have hlocks := B.notSynchronized
  subst hsz
  have hD := hD0.self (sz := s.heap.size)
  generalize hAe : va_A (xW h a e cI cJ cO cE L I M J n cap fE sd si sa dl) s.heap.size = A at hD ⊢
  have hA : ∀ q : Nat, s.heap.size ≤ q → A q := fun q h => by rw [← hAe]; exact Or.inr h
  have hS : va_S A s.heap s.heap [] := va_S.rf
  have hl := lv_entry ([.int p0, .int p1, .int p2]) (n := 3) (Nat.le_of_ble_eq_true rfl)
  rw [lg_entry_eq]
  generalize (lg_sl ([.int p0, .int p1, .int p2]) ++ List.replicate (3 - (lg_sl ([.int p0, .int p1, .int p2])).length) Slot.unset).toArray = ls at hl ⊢
  have hl : lv_has ls 3 [(0, .int p0), (1, .int p1), (2, .int p2)] := hl
  obtain ⟨RES, hZ9⟩ : ∃ R9 : Unit, R9 = R9 := ⟨(), rfl⟩
  refine lv_iload_n hx hb dX8_within_0 rfl (lv_at hl 0 rfl) ?_
  refine lv_iload_n hx hb dX8_within_1 rfl (lv_at hl 1 rfl) ?_
  refine lv_icmp_lt (tgt := 14) hx hb dX8_within_2 (by decide) (fun c1 => ?_) (fun c1 => ?_)
  · skip
    refine lv_iconst (v := 0) hx hb dX8_within_14 (by decide) ?_
    exact W.zret (v := 0) hx hb hr (by decide) (fun t ht hW => ⟨⟨0, (), rfl, Or.inr ⟨rfl, fun q9 => absurd c1 (Int32.not_lt.mpr q9.1)⟩, by rw [ht]; exact hP, hD⟩, hS.F ht⟩) hS.2.2 dX8_within_15
  · skip
    refine lv_iload_n hx hb dX8_within_5 rfl (lv_at hl 0 rfl) ?_
    refine lv_iload_n hx hb dX8_within_6 rfl (lv_at hl 2 rfl) ?_
    refine lv_icmp_gt (tgt := 14) hx hb dX8_within_7 (by decide) (fun c2 => ?_) (fun c2 => ?_)
    · skip
      refine lv_iconst (v := 0) hx hb dX8_within_14 (by decide) ?_
      exact W.zret (v := 0) hx hb hr (by decide) (fun t ht hW => ⟨⟨0, (), rfl, Or.inr ⟨rfl, fun q9 => absurd c2 (Int32.not_lt.mpr q9.2)⟩, by rw [ht]; exact hP, hD⟩, hS.F ht⟩) hS.2.2 dX8_within_15
    · skip
      refine lv_iconst (v := 1) hx hb dX8_within_10 (by decide) ?_
      refine lv_goto (tgt := 15) hx hb dX8_within_11 (by decide) ?_
      exact W.zret (v := 1) hx hb hr (by decide) (fun t ht hW => ⟨⟨1, (), rfl, Or.inl ⟨rfl, Int32.not_lt.mp c1, Int32.not_lt.mp c2⟩, by rw [ht]; exact hP, hD⟩, hS.F ht⟩) hS.2.2 dX8_within_15
def f_y_only (n : Nat) (dl : Nat → Nat) (sv : Nat)  : Int64 := bnd ((1 : Int64) <<< ((nI sv).toInt64 &&& 63)) (fun (x1 : Int64) => (x1))
def wq_y_only : List Cond := [.code yX8_only cX8_only 1 (some .long)]
set_option maxRecDepth 20000 in
theorem wi_y_only : ∀ w ∈ wq_y_only, w ∈ lw_tbl := (wix [444] rfl)
set_option maxRecDepth 20000 in
theorem wg_y_only : GoodIn wq_y_only wq_y_only := goodIn_sub (fun _ h => h) (by decide +kernel)
def rm_y_only : Room := { frames := 0, cells := 0, slots := 0, locals := 0 }
set_option maxHeartbeats 4000000 in
set_option maxRecDepth 100000 in
theorem c_y_only (l : Launch) (dC : Nat → ClassId) (dI : Nat → Nat → Nat) (h : Nat) (a : Nat → Nat) (e : Nat) (cI cJ cO cE : ClassId) (L : Nat → Int64) (I : Nat → Int32) (M : Nat → Nat → Int64) (J : Nat → Nat → Int32) (n cap : Nat) (fE : Nat → Option Nat) (sd : Nat → Nat → Nat) (si : Nat → Nat → Int32) (sa : Nat → Nat → Nat → Int32) (dl : Nat → Nat) (b : Nat) (sv : Nat) (sz : Nat) (hX0 : InvX n cap fE sd dl b I J si) (hb0 : b + 0 < 2147483648)  : Met l yX8_only wq_y_only rm_y_only (va_Pc [.int (nI sv)] (fun U => U.heap.size = sz ∧ va_P (dC, dI) vwCl (xW h a e cI cJ cO cE L I M J n cap fE sd si sa dl) U.heap ∧ va_K (dC, dI) vwCl (xT cI cJ cO cE) U ∧ va_D (fun _ => True) (xW h a e cI cJ cO cE L I M J n cap fE sd si sa dl) ∧ pw_N U)) (va_Ql (fun (r : Int64) (u : Unit) => (r = f_y_only n dl sv )) (fun (u : Unit) (t : State) => va_P (dC, dI) vwCl (xW h a e cI cJ cO cE L I M J n cap fE sd si sa dl) t.heap ∧ va_D (va_A (xW h a e cI cJ cO cE L I M J n cap fE sd si sa dl) sz) (xW h a e cI cJ cO cE L I M J n cap fE sd si sa dl)) (va_A (xW h a e cI cJ cO cE L I M J n cap fE sd si sa dl) sz)) 0 0 (va_A (xW h a e cI cJ cO cE L I M J n cap fE sd si sa dl) sz) := by
  have hn : n ≤ 40 := hX0.1.1
  have hX := hX0
  refine Met.ofW (cc := cX8_only) (maxL := 1) (ret := (some .long)) (by decide) rfl ?_
  intro p e9 s m args below meth c s₁ B hml hv
  obtain ⟨rfl, hsz, hP, hK, hD0, hN⟩ := hv
  have hx := B.exec
  have hb := B.bytes
  have hr := B.returns
  have hts := atoms_spec (ws := wq_y_only) B.pre
  have hown : s.vm.findClass RX8 = some m.cls := findClass_of_methodNamed B.named
  have hlocks := B.notSynchronized
  subst hsz
  have hD := hD0.self (sz := s.heap.size)
  generalize hAe : va_A (xW h a e cI cJ cO cE L I M J n cap fE sd si sa dl) s.heap.size = A at hD ⊢
  have hA : ∀ q : Nat, s.heap.size ≤ q → A q := fun q h => by rw [← hAe]; exact Or.inr h
  have hS : va_S A s.heap s.heap [] := va_S.rf
  have hl := lv_entry ([.int (nI sv)]) (n := 1) (Nat.le_of_ble_eq_true rfl)
  rw [lg_entry_eq]
  generalize (lg_sl ([.int (nI sv)]) ++ List.replicate (1 - (lg_sl ([.int (nI sv)])).length) Slot.unset).toArray = ls at hl ⊢
  have hl : lv_has ls 1 [(0, .int (nI sv))] := hl
  obtain ⟨RES, hR0⟩ : ∃ R9, R9 = f_y_only n dl sv  := ⟨_, rfl⟩
  have hZ9 := hR0
  unfold f_y_only at hZ9
  refine lv_lconst (v := 1) hx hb dX8_only_0 (by decide) ?_
  refine lv_iload_n hx hb dX8_only_1 rfl (lv_at hl 0 rfl) ?_
  refine lv_lshl hx hb dX8_only_2 rfl ?_
  refine lv_topl (fun x1 ex1 => ?_)
  replace hZ9 := bnd_s hZ9 ex1
  exact W.lret (v := x1) hx hb hr (fun t ht hW => ⟨⟨x1, (), rfl, hZ9.symm.trans hR0, by rw [ht]; exact hP, hD⟩, hS.F ht⟩) hS.2.2 dX8_only_3
def f_y_holds (n : Nat) (dl : Nat → Nat) (p0 : Int64) (sv : Nat)  : Int32 := bnd ((p0.toUInt64 >>> ((nI sv).toInt64.toUInt64 &&& Int64.toUInt64 63)).toInt64) (fun (x1 : Int64) => bnd (x1 &&& (1 : Int64)) (fun (x2 : Int64) => bnd (lg_cmp x2 (0 : Int64)) (fun (x3 : Int32) => if x3 = (0 : Int32) then (((0 : Int32))) else (((1 : Int32))))))
def wq_y_holds : List Cond := [.code yX8_holds cX8_holds 3 (some .boolean)]
set_option maxRecDepth 20000 in
theorem wi_y_holds : ∀ w ∈ wq_y_holds, w ∈ lw_tbl := (wix [489] rfl)
set_option maxRecDepth 20000 in
theorem wg_y_holds : GoodIn wq_y_holds wq_y_holds := goodIn_sub (fun _ h => h) (by decide +kernel)
def rm_y_holds : Room := { frames := 0, cells := 0, slots := 0, locals := 0 }
set_option maxHeartbeats 4000000 in
set_option maxRecDepth 100000 in
theorem c_y_holds (l : Launch) (dC : Nat → ClassId) (dI : Nat → Nat → Nat) (h : Nat) (a : Nat → Nat) (e : Nat) (cI cJ cO cE : ClassId) (L : Nat → Int64) (I : Nat → Int32) (M : Nat → Nat → Int64) (J : Nat → Nat → Int32) (n cap : Nat) (fE : Nat → Option Nat) (sd : Nat → Nat → Nat) (si : Nat → Nat → Int32) (sa : Nat → Nat → Nat → Int32) (dl : Nat → Nat) (b : Nat) (p0 : Int64) (sv : Nat) (sz : Nat) (hX0 : InvX n cap fE sd dl b I J si) (hb0 : b + 0 < 2147483648)  : Met l yX8_holds wq_y_holds rm_y_holds (va_Pc [.long p0, .int (nI sv)] (fun U => U.heap.size = sz ∧ va_P (dC, dI) vwCl (xW h a e cI cJ cO cE L I M J n cap fE sd si sa dl) U.heap ∧ va_K (dC, dI) vwCl (xT cI cJ cO cE) U ∧ va_D (fun _ => True) (xW h a e cI cJ cO cE L I M J n cap fE sd si sa dl) ∧ pw_N U)) (va_Qi (fun (r : Int32) (u : Unit) => ((r = f_y_holds n dl p0 sv ) ∧ (r = 0 ∨ r = 1))) (fun (u : Unit) (t : State) => va_P (dC, dI) vwCl (xW h a e cI cJ cO cE L I M J n cap fE sd si sa dl) t.heap ∧ va_D (va_A (xW h a e cI cJ cO cE L I M J n cap fE sd si sa dl) sz) (xW h a e cI cJ cO cE L I M J n cap fE sd si sa dl)) (va_A (xW h a e cI cJ cO cE L I M J n cap fE sd si sa dl) sz)) 0 0 (va_A (xW h a e cI cJ cO cE L I M J n cap fE sd si sa dl) sz) := by
  have hn : n ≤ 40 := hX0.1.1
  have hX := hX0
  refine Met.ofW (cc := cX8_holds) (maxL := 3) (ret := (some .boolean)) (by decide) rfl ?_
  intro p e9 s m args below meth c s₁ B hml hv
  obtain ⟨rfl, hsz, hP, hK, hD0, hN⟩ := hv
  have hx := B.exec
  have hb := B.bytes
  have hr := B.returns
  have hts := atoms_spec (ws := wq_y_holds) B.pre
  have hown : s.vm.findClass RX8 = some m.cls := findClass_of_methodNamed B.named
  have hlocks := B.notSynchronized
  subst hsz
  have hD := hD0.self (sz := s.heap.size)
  generalize hAe : va_A (xW h a e cI cJ cO cE L I M J n cap fE sd si sa dl) s.heap.size = A at hD ⊢
  have hA : ∀ q : Nat, s.heap.size ≤ q → A q := fun q h => by rw [← hAe]; exact Or.inr h
  have hS : va_S A s.heap s.heap [] := va_S.rf
  have hl := lv_entry ([.long p0, .int (nI sv)]) (n := 3) (Nat.le_of_ble_eq_true rfl)
  rw [lg_entry_eq]
  generalize (lg_sl ([.long p0, .int (nI sv)]) ++ List.replicate (3 - (lg_sl ([.long p0, .int (nI sv)])).length) Slot.unset).toArray = ls at hl ⊢
  have hl : lv_has ls 3 [(0, .long p0), (2, .int (nI sv))] := hl
  obtain ⟨RES, hR0⟩ : ∃ R9, R9 = f_y_holds n dl p0 sv  := ⟨_, rfl⟩
  have hZ9 := hR0
  unfold f_y_holds at hZ9
  refine lv_lload_n hx hb dX8_holds_0 rfl (lv_at hl 0 rfl) ?_
  refine lv_iload_n hx hb dX8_holds_1 rfl (lv_at hl 1 rfl) ?_
  refine lv_lushr hx hb dX8_holds_2 rfl ?_
  refine lv_topl (fun x1 ex1 => ?_)
  replace hZ9 := bnd_s hZ9 ex1
  refine lv_lconst (v := 1) hx hb dX8_holds_3 (by decide) ?_
  refine lv_land hx hb dX8_holds_4 ?_
  refine lv_topl (fun x2 ex2 => ?_)
  replace hZ9 := bnd_s hZ9 ex2
  refine lv_lconst (v := 0) hx hb dX8_holds_5 (by decide) ?_
  refine W.lcmp hx hb dX8_holds_6 ?_
  refine lv_topi (fun x3 ex3 => ?_)
  replace hZ9 := bnd_s hZ9 ex3
  refine lv_if_eq (tgt := 14) hx hb dX8_holds_7 (by decide) (fun c4 => ?_) (fun c4 => ?_)
  · replace hZ9 := ite_t hZ9 c4
    refine lv_iconst (v := 0) hx hb dX8_holds_14 (by decide) ?_
    exact W.zret (v := 0) hx hb hr (by decide) (fun t ht hW => ⟨⟨0, (), rfl, ⟨hZ9.symm.trans hR0, Or.inl rfl⟩, by rw [ht]; exact hP, hD⟩, hS.F ht⟩) hS.2.2 dX8_holds_15
  · replace hZ9 := ite_f hZ9 c4
    refine lv_iconst (v := 1) hx hb dX8_holds_10 (by decide) ?_
    refine lv_goto (tgt := 15) hx hb dX8_holds_11 (by decide) ?_
    exact W.zret (v := 1) hx hb hr (by decide) (fun t ht hW => ⟨⟨1, (), rfl, ⟨hZ9.symm.trans hR0, Or.inr rfl⟩, by rw [ht]; exact hP, hD⟩, hS.F ht⟩) hS.2.2 dX8_holds_15
def wq_y_size : List Cond := ([.code yJx4a65c_size_8abf5 cJx4a65c_size_8abf5 1 (some .int), .fieldLink RJx4a65c 48 "java/util/ArrayList" "size" "I"] : List Cond) ++ (wsJx4a65c0)
theorem in_y_size_Jx4a65c : ∀ w ∈ wsJx4a65c0, w ∈ wq_y_size := fun _ h => List.mem_append_right _ (h)
set_option maxRecDepth 20000 in
theorem wi_y_size : ∀ w ∈ wq_y_size, w ∈ lw_tbl := List.forall_mem_append.mpr ⟨(wix [277, 103] rfl), inKJx4a65c⟩
set_option maxRecDepth 20000 in
theorem wg_y_size : GoodIn wq_y_size wq_y_size := goodIn_sub (fun _ h => h) (by decide +kernel)
def rm_y_size : Room := { frames := 0, cells := 0, slots := 0, locals := 0 }
set_option maxHeartbeats 4000000 in
set_option maxRecDepth 100000 in
theorem c_y_size (l : Launch) (dC : Nat → ClassId) (dI : Nat → Nat → Nat) (h : Nat) (a : Nat → Nat) (e : Nat) (cI cJ cO cE : ClassId) (L : Nat → Int64) (I : Nat → Int32) (M : Nat → Nat → Int64) (J : Nat → Nat → Int32) (n cap : Nat) (fE : Nat → Option Nat) (sd : Nat → Nat → Nat) (si : Nat → Nat → Int32) (sa : Nat → Nat → Nat → Int32) (dl : Nat → Nat) (b : Nat)  (sz : Nat) (hX0 : InvX n cap fE sd dl b I J si) (hb0 : b + 0 < 2147483648)  : Met l yJx4a65c_size_8abf5 wq_y_size rm_y_size (va_Pc [.ref (a 0)] (fun U => U.heap.size = sz ∧ va_P (dC, dI) vwCl (xW h a e cI cJ cO cE L I M J n cap fE sd si sa dl) U.heap ∧ va_K (dC, dI) vwCl (xT cI cJ cO cE) U ∧ va_D (fun _ => True) (xW h a e cI cJ cO cE L I M J n cap fE sd si sa dl) ∧ pw_N U)) (va_Qi (fun (r : Int32) (u : Unit) => (r = nI n)) (fun (u : Unit) (t : State) => va_P (dC, dI) vwCl (xW h a e cI cJ cO cE L I M J n cap fE sd si sa dl) t.heap ∧ va_D (va_A (xW h a e cI cJ cO cE L I M J n cap fE sd si sa dl) sz) (xW h a e cI cJ cO cE L I M J n cap fE sd si sa dl)) (va_A (xW h a e cI cJ cO cE L I M J n cap fE sd si sa dl) sz)) 0 0 (va_A (xW h a e cI cJ cO cE L I M J n cap fE sd si sa dl) sz) := by
  have hn : n ≤ 40 := hX0.1.1
  have hX := hX0
  refine Met.ofW (cc := cJx4a65c_size_8abf5) (maxL := 1) (ret := (some .int)) (by decide) rfl ?_
  intro p e9 s m args below meth c s₁ B hml hv
  obtain ⟨rfl, hsz, hP, hK, hD0, hN⟩ := hv
  have hx := B.exec
  have hb := B.bytes
  have hr := B.returns
  have hts := atoms_spec (ws := wq_y_size) B.pre
  have hown : s.vm.findClass RJx4a65c = some m.cls := findClass_of_methodNamed B.named
  have hlocks := B.notSynchronized
  subst hsz
  have hD := hD0.self (sz := s.heap.size)
  generalize hAe : va_A (xW h a e cI cJ cO cE L I M J n cap fE sd si sa dl) s.heap.size = A at hD ⊢
  have hA : ∀ q : Nat, s.heap.size ≤ q → A q := fun q h => by rw [← hAe]; exact Or.inr h
  have hS : va_S A s.heap s.heap [] := va_S.rf
  have hl := lv_entry ([.ref (a 0)]) (n := 1) (Nat.le_of_ble_eq_true rfl)
  rw [lg_entry_eq]
  generalize (lg_sl ([.ref (a 0)]) ++ List.replicate (1 - (lg_sl ([.ref (a 0)])).length) Slot.unset).toArray = ls at hl ⊢
  have hl : lv_has ls 1 [(0, .ref (a 0))] := hl
  obtain ⟨RES, hZ9⟩ : ∃ R9 : Unit, R9 = R9 := ⟨(), rfl⟩
  refine lv_aload_n hx hb dJx4a65c_size_8abf5_0 rfl (lv_at hl 0 rfl) ?_
  refine va_get (D := (dC, dI)) (ci := 0) (v := .int (I 6)) (C := RJx4a65c) (T := TJx4a65c) (N := 3) hx hb hts in_y_size_Jx4a65c hown hK hP 1 rfl rfl 2 (by decide) (hts (.fieldLink RJx4a65c 48 "java/util/ArrayList" "size" "I") (by decide +kernel)) (fun _ h9 => h9) rfl dJx4a65c_size_8abf5_1 ?_
  refine p1_topr (v := .int (nI n)) (congrArg Value.int hX.1.2.2.2.1) ?_
  exact W.iret (v := (nI n)) hx hb hr (fun t ht hW => ⟨⟨(nI n), (), rfl, rfl, by rw [ht]; exact hP, hD⟩, hS.F ht⟩) hS.2.2 dJx4a65c_size_8abf5_4
def f_y_left (n : Nat) (dl : Nat → Nat)  (L : Nat → Int64) : Int64 := bnd (L 5) (fun (x1 : Int64) => bnd (L 6) (fun (x2 : Int64) => bnd (x1 ||| x2) (fun (x3 : Int64) => (x3))))
def wq_y_left : List Cond := ([.code yX3_left cX3_left 1 (some .long), .fieldLink RX3 15 "ServiceTree$Jobs" "starts" "J", .fieldLink RX3 19 "ServiceTree$Jobs" "stops" "J"] : List Cond) ++ (wsX30)
theorem in_y_left_X3 : ∀ w ∈ wsX30, w ∈ wq_y_left := fun _ h => List.mem_append_right _ (h)
set_option maxRecDepth 20000 in
theorem wi_y_left : ∀ w ∈ wq_y_left, w ∈ lw_tbl := List.forall_mem_append.mpr ⟨(wix [486, 166, 168] rfl), inKX3⟩
set_option maxRecDepth 20000 in
theorem wg_y_left : GoodIn wq_y_left wq_y_left := goodIn_sub (fun _ h => h) (by decide +kernel)
def rm_y_left : Room := { frames := 0, cells := 0, slots := 0, locals := 0 }
set_option maxHeartbeats 4000000 in
set_option maxRecDepth 100000 in
theorem c_y_left (l : Launch) (dC : Nat → ClassId) (dI : Nat → Nat → Nat) (h : Nat) (a : Nat → Nat) (e : Nat) (cI cJ cO cE : ClassId) (L : Nat → Int64) (I : Nat → Int32) (M : Nat → Nat → Int64) (J : Nat → Nat → Int32) (n cap : Nat) (fE : Nat → Option Nat) (sd : Nat → Nat → Nat) (si : Nat → Nat → Int32) (sa : Nat → Nat → Nat → Int32) (dl : Nat → Nat) (b : Nat)  (sz : Nat) (hX0 : InvX n cap fE sd dl b I J si) (hb0 : b + 0 < 2147483648)  : Met l yX3_left wq_y_left rm_y_left (va_Pc [.ref (a 3)] (fun U => U.heap.size = sz ∧ va_P (dC, dI) vwCl (xW h a e cI cJ cO cE L I M J n cap fE sd si sa dl) U.heap ∧ va_K (dC, dI) vwCl (xT cI cJ cO cE) U ∧ va_D (fun _ => True) (xW h a e cI cJ cO cE L I M J n cap fE sd si sa dl) ∧ pw_N U)) (va_Ql (fun (r : Int64) (u : Unit) => (r = f_y_left n dl  L)) (fun (u : Unit) (t : State) => va_P (dC, dI) vwCl (xW h a e cI cJ cO cE L I M J n cap fE sd si sa dl) t.heap ∧ va_D (va_A (xW h a e cI cJ cO cE L I M J n cap fE sd si sa dl) sz) (xW h a e cI cJ cO cE L I M J n cap fE sd si sa dl)) (va_A (xW h a e cI cJ cO cE L I M J n cap fE sd si sa dl) sz)) 0 0 (va_A (xW h a e cI cJ cO cE L I M J n cap fE sd si sa dl) sz) := by
  have hn : n ≤ 40 := hX0.1.1
  have hX := hX0
  refine Met.ofW (cc := cX3_left) (maxL := 1) (ret := (some .long)) (by decide) rfl ?_
  intro p e9 s m args below meth c s₁ B hml hv
  obtain ⟨rfl, hsz, hP, hK, hD0, hN⟩ := hv
  have hx := B.exec
  have hb := B.bytes
  have hr := B.returns
  have hts := atoms_spec (ws := wq_y_left) B.pre
  have hown : s.vm.findClass RX3 = some m.cls := findClass_of_methodNamed B.named
  have hlocks := B.notSynchronized
  subst hsz
  have hD := hD0.self (sz := s.heap.size)
  generalize hAe : va_A (xW h a e cI cJ cO cE L I M J n cap fE sd si sa dl) s.heap.size = A at hD ⊢
  have hA : ∀ q : Nat, s.heap.size ≤ q → A q := fun q h => by rw [← hAe]; exact Or.inr h
  have hS : va_S A s.heap s.heap [] := va_S.rf
  have hl := lv_entry ([.ref (a 3)]) (n := 1) (Nat.le_of_ble_eq_true rfl)
  rw [lg_entry_eq]
  generalize (lg_sl ([.ref (a 3)]) ++ List.replicate (1 - (lg_sl ([.ref (a 3)])).length) Slot.unset).toArray = ls at hl ⊢
  have hl : lv_has ls 1 [(0, .ref (a 3))] := hl
  obtain ⟨RES, hR0⟩ : ∃ R9, R9 = f_y_left n dl  L := ⟨_, rfl⟩
  have hZ9 := hR0
  unfold f_y_left at hZ9
  refine lv_aload_n hx hb dX3_left_0 rfl (lv_at hl 0 rfl) ?_
  refine va_get (D := (dC, dI)) (ci := 4) (v := .long (L 5)) (C := RX3) (T := TX3) (N := 4) hx hb hts in_y_left_X3 hown hK hP 14 rfl rfl 1 (by decide) (hts (.fieldLink RX3 15 "ServiceTree$Jobs" "starts" "J") (by decide +kernel)) (fun _ h9 => h9) rfl dX3_left_1 ?_
  refine lv_topl (fun x1 ex1 => ?_)
  replace hZ9 := bnd_s hZ9 ex1
  refine lv_aload_n hx hb dX3_left_4 rfl (lv_at hl 0 rfl) ?_
  refine va_get (D := (dC, dI)) (ci := 4) (v := .long (L 6)) (C := RX3) (T := TX3) (N := 4) hx hb hts in_y_left_X3 hown hK hP 14 rfl rfl 2 (by decide) (hts (.fieldLink RX3 19 "ServiceTree$Jobs" "stops" "J") (by decide +kernel)) (fun _ h9 => h9) rfl dX3_left_5 ?_
  refine lv_topl (fun x2 ex2 => ?_)
  replace hZ9 := bnd_s hZ9 ex2
  refine lv_lor hx hb dX3_left_8 ?_
  refine lv_topl (fun x3 ex3 => ?_)
  replace hZ9 := bnd_s hZ9 ex3
  exact W.lret (v := x3) hx hb hr (fun t ht hW => ⟨⟨x3, (), rfl, hZ9.symm.trans hR0, by rw [ht]; exact hP, hD⟩, hS.F ht⟩) hS.2.2 dX3_left_9
def f_y_take (n : Nat) (dl : Nat → Nat) (p0 : Int64) (p1 : Int64) (L : Nat → Int64) : (Nat → Int64) := bnd (va_up L 5 p0) (fun (L1 : Nat → Int64) => bnd (va_up L1 6 p1) (fun (L2 : Nat → Int64) => bnd (va_up L2 7 0) (fun (L3 : Nat → Int64) => (L3))))
def wq_y_take : List Cond := ([.code yX3_take cX3_take 5 none, .fieldLink RX3 15 "ServiceTree$Jobs" "starts" "J", .fieldLink RX3 19 "ServiceTree$Jobs" "stops" "J", .fieldLink RX3 22 "ServiceTree$Jobs" "begun" "J"] : List Cond) ++ (wsX30)
theorem in_y_take_X3 : ∀ w ∈ wsX30, w ∈ wq_y_take := fun _ h => List.mem_append_right _ (h)
set_option maxRecDepth 20000 in
theorem wi_y_take : ∀ w ∈ wq_y_take, w ∈ lw_tbl := List.forall_mem_append.mpr ⟨(wix [629, 166, 168, 169] rfl), inKX3⟩
set_option maxRecDepth 20000 in
theorem wg_y_take : GoodIn wq_y_take wq_y_take := goodIn_sub (fun _ h => h) (by decide +kernel)
def rm_y_take : Room := { frames := 0, cells := 0, slots := 0, locals := 0 }
set_option maxHeartbeats 4000000 in
set_option maxRecDepth 100000 in
theorem c_y_take (l : Launch) (dC : Nat → ClassId) (dI : Nat → Nat → Nat) (h : Nat) (a : Nat → Nat) (e : Nat) (cI cJ cO cE : ClassId) (L : Nat → Int64) (I : Nat → Int32) (M : Nat → Nat → Int64) (J : Nat → Nat → Int32) (n cap : Nat) (fE : Nat → Option Nat) (sd : Nat → Nat → Nat) (si : Nat → Nat → Int32) (sa : Nat → Nat → Nat → Int32) (dl : Nat → Nat) (b : Nat) (p0 : Int64) (p1 : Int64) (sz : Nat) (hX0 : InvX n cap fE sd dl b I J si) (hb0 : b + 0 < 2147483648)  : Met l yX3_take wq_y_take rm_y_take (va_Pc [.ref (a 3), .long p0, .long p1] (fun U => U.heap.size = sz ∧ va_P (dC, dI) vwCl (xW h a e cI cJ cO cE L I M J n cap fE sd si sa dl) U.heap ∧ va_K (dC, dI) vwCl (xT cI cJ cO cE) U ∧ va_D (fun _ => True) (xW h a e cI cJ cO cE L I M J n cap fE sd si sa dl) ∧ pw_N U)) (va_Qv (fun (u : (Nat → Int64)) => InvX n cap fE sd dl (b + 0) I J si ∧ (∀ j9 : Nat, j9 ∉ ([5, 6, 7] : List Nat) → u j9 = L j9) ∧ (u = f_y_take n dl p0 p1 L)) (fun (u : (Nat → Int64)) (t : State) => va_P (dC, dI) vwCl (xW h a e cI cJ cO cE u I M J n cap fE sd si sa dl) t.heap ∧ va_D (va_A (xW h a e cI cJ cO cE L I M J n cap fE sd si sa dl) sz) (xW h a e cI cJ cO cE u I M J n cap fE sd si sa dl)) (va_A (xW h a e cI cJ cO cE L I M J n cap fE sd si sa dl) sz)) 0 0 (va_A (xW h a e cI cJ cO cE L I M J n cap fE sd si sa dl) sz) := by
  have hn : n ≤ 40 := hX0.1.1
  have hX := hX0
  have hUL : ∀ j9 : Nat, j9 ∉ ([5, 6, 7] : List Nat) → L j9 = L j9 := fun _ _ => rfl
  refine Met.ofW (cc := cX3_take) (maxL := 5) (ret := none) (by decide) rfl ?_
  intro p e9 s m args below meth c s₁ B hml hv
  obtain ⟨rfl, hsz, hP, hK, hD0, hN⟩ := hv
  have hx := B.exec
  have hb := B.bytes
  have hr := B.returns
  have hts := atoms_spec (ws := wq_y_take) B.pre
  have hown : s.vm.findClass RX3 = some m.cls := findClass_of_methodNamed B.named
  have hlocks := B.notSynchronized
  subst hsz
  have hD := hD0.self (sz := s.heap.size)
  generalize hAe : va_A (xW h a e cI cJ cO cE L I M J n cap fE sd si sa dl) s.heap.size = A at hD ⊢
  have hA : ∀ q : Nat, s.heap.size ≤ q → A q := fun q h => by rw [← hAe]; exact Or.inr h
  have hS : va_S A s.heap s.heap [] := va_S.rf
  have hl := lv_entry ([.ref (a 3), .long p0, .long p1]) (n := 5) (Nat.le_of_ble_eq_true rfl)
  rw [lg_entry_eq]
  generalize (lg_sl ([.ref (a 3), .long p0, .long p1]) ++ List.replicate (5 - (lg_sl ([.ref (a 3), .long p0, .long p1])).length) Slot.unset).toArray = ls at hl ⊢
  have hl : lv_has ls 5 [(0, .ref (a 3)), (1, .long p0), (3, .long p1)] := hl
  obtain ⟨RES, hR0⟩ : ∃ R9, R9 = f_y_take n dl p0 p1 L := ⟨_, rfl⟩
  have hZ9 := hR0
  unfold f_y_take at hZ9
  refine lv_aload_n hx hb dX3_take_0 rfl (lv_at hl 0 rfl) ?_
  refine lv_lload_n hx hb dX3_take_1 rfl (lv_at hl 1 rfl) ?_
  refine va_put (D := (dC, dI)) (ci := 4) (fs := [.ref (a 1), .long (L 5), .long (L 6), .long (L 7)]) (v := .long p0) (ty := .long) (C := RX3) (T := TX3) (N := 4) hx hb hts in_y_take_X3 tyX3 tyX3_ok nmX3 hown hK hP hD hS 14 rfl rfl 1 (by decide) (hts (.fieldLink RX3 15 "ServiceTree$Jobs" "starts" "J") (by decide +kernel)) (fun _ h9 => h9) rfl (by decide +kernel) rfl rfl (Nat.le_of_ble_eq_true rfl) dX3_take_2 (fun H locs hP hD hS => ?_)
  replace hP : va_P (dC, dI) vwCl ((xW h a e cI cJ cO cE L I M J n cap fE sd si sa dl).set 14 (a 3, .inr (4, [.ref (a 1), .long p0, .long (L 6), .long (L 7)]))) H := hP
  replace hD : va_D A ((xW h a e cI cJ cO cE L I M J n cap fE sd si sa dl).set 14 (a 3, .inr (4, [.ref (a 1), .long p0, .long (L 6), .long (L 7)]))) := hD
  rw [xF_L5] at hP hD
  obtain ⟨L1, eL1⟩ : ∃ f9 : Nat → Int64, f9 = va_up L 5 p0 := ⟨_, rfl⟩
  rw [← eL1] at hP hD
  replace hZ9 := bnd_s hZ9 eL1
  replace hUL : ∀ j9 : Nat, j9 ∉ ([5, 6, 7] : List Nat) → L1 j9 = L j9 := by rw [eL1]; exact mw_up (by decide) hUL
  refine lv_aload_n hx hb dX3_take_5 rfl (lv_at hl 0 rfl) ?_
  refine lv_lload_n hx hb dX3_take_6 rfl (lv_at hl 2 rfl) ?_
  refine va_put (D := (dC, dI)) (ci := 4) (fs := [.ref (a 1), .long (L1 5), .long (L1 6), .long (L1 7)]) (v := .long p1) (ty := .long) (C := RX3) (T := TX3) (N := 4) hx hb hts in_y_take_X3 tyX3 tyX3_ok nmX3 hown hK hP hD hS 14 rfl rfl 2 (by decide) (hts (.fieldLink RX3 19 "ServiceTree$Jobs" "stops" "J") (by decide +kernel)) (fun _ h9 => h9) rfl (by decide +kernel) rfl rfl (Nat.le_of_ble_eq_true rfl) dX3_take_7 (fun H locs hP hD hS => ?_)
  replace hP : va_P (dC, dI) vwCl ((xW h a e cI cJ cO cE L1 I M J n cap fE sd si sa dl).set 14 (a 3, .inr (4, [.ref (a 1), .long (L1 5), .long p1, .long (L1 7)]))) H := hP
  replace hD : va_D A ((xW h a e cI cJ cO cE L1 I M J n cap fE sd si sa dl).set 14 (a 3, .inr (4, [.ref (a 1), .long (L1 5), .long p1, .long (L1 7)]))) := hD
  rw [xF_L6] at hP hD
  obtain ⟨L2, eL2⟩ : ∃ f9 : Nat → Int64, f9 = va_up L1 6 p1 := ⟨_, rfl⟩
  rw [← eL2] at hP hD
  replace hZ9 := bnd_s hZ9 eL2
  replace hUL : ∀ j9 : Nat, j9 ∉ ([5, 6, 7] : List Nat) → L2 j9 = L j9 := by rw [eL2]; exact mw_up (by decide) hUL
  refine lv_aload_n hx hb dX3_take_10 rfl (lv_at hl 0 rfl) ?_
  refine lv_lconst (v := 0) hx hb dX3_take_11 (by decide) ?_
  refine va_put (D := (dC, dI)) (ci := 4) (fs := [.ref (a 1), .long (L2 5), .long (L2 6), .long (L2 7)]) (v := .long 0) (ty := .long) (C := RX3) (T := TX3) (N := 4) hx hb hts in_y_take_X3 tyX3 tyX3_ok nmX3 hown hK hP hD hS 14 rfl rfl 3 (by decide) (hts (.fieldLink RX3 22 "ServiceTree$Jobs" "begun" "J") (by decide +kernel)) (fun _ h9 => h9) rfl (by decide +kernel) rfl rfl (Nat.le_of_ble_eq_true rfl) dX3_take_12 (fun H locs hP hD hS => ?_)
  replace hP : va_P (dC, dI) vwCl ((xW h a e cI cJ cO cE L2 I M J n cap fE sd si sa dl).set 14 (a 3, .inr (4, [.ref (a 1), .long (L2 5), .long (L2 6), .long 0]))) H := hP
  replace hD : va_D A ((xW h a e cI cJ cO cE L2 I M J n cap fE sd si sa dl).set 14 (a 3, .inr (4, [.ref (a 1), .long (L2 5), .long (L2 6), .long 0]))) := hD
  rw [xF_L7] at hP hD
  obtain ⟨L3, eL3⟩ : ∃ f9 : Nat → Int64, f9 = va_up L2 7 0 := ⟨_, rfl⟩
  rw [← eL3] at hP hD
  replace hZ9 := bnd_s hZ9 eL3
  replace hUL : ∀ j9 : Nat, j9 ∉ ([5, 6, 7] : List Nat) → L3 j9 = L j9 := by rw [eL3]; exact mw_up (by decide) hUL
  exact W.vret hx hb hr (fun t ht hW => ⟨⟨L3, rfl, ⟨hX.mono (by omega), hUL, hZ9.symm.trans hR0⟩, by rw [ht]; exact hP, hD⟩, hS.F ht⟩) hS.2.2 dX3_take_15
def f_y_jbegin (n : Nat) (dl : Nat → Nat) (sv : Nat) (L : Nat → Int64) : (Nat → Int64) := bnd (L 7) (fun (x1 : Int64) => bnd (f_y_only n dl sv ) (fun (r2 : Int64) => bnd (x1 ||| r2) (fun (x3 : Int64) => bnd (va_up L 7 x3) (fun (L4 : Nat → Int64) => (L4)))))
def wq_y_jbegin : List Cond := ([.code yX3_begin cX3_begin 2 none, .fieldLink RX3 22 "ServiceTree$Jobs" "begun" "J", .initialized RX8, .static yX8_only] : List Cond) ++ (wsX30 ++ (wq_y_only))
theorem in_y_jbegin_X3 : ∀ w ∈ wsX30, w ∈ wq_y_jbegin := fun _ h => List.mem_append_right _ (List.mem_append_left _ (h))
set_option maxRecDepth 20000 in
theorem wi_y_jbegin : ∀ w ∈ wq_y_jbegin, w ∈ lw_tbl := List.forall_mem_append.mpr ⟨(wix [663, 169, 60, 443] rfl), List.forall_mem_append.mpr ⟨inKX3, wi_y_only⟩⟩
set_option maxRecDepth 20000 in
theorem wg_y_jbegin : GoodIn wq_y_jbegin wq_y_jbegin := goodIn_sub (fun _ h => h) (by decide +kernel)
theorem wc_y_jbegin_y_only_38 : GoodIn wq_y_jbegin wq_y_only := (fun w h => ⟨List.mem_append_right _ (List.mem_append_right _ (h)), (wg_y_only w h).2⟩)
def rm_y_jbegin : Room := { frames := 1, cells := 0, slots := 0, locals := 20 }
set_option maxHeartbeats 4000000 in
set_option maxRecDepth 100000 in
theorem c_y_jbegin (l : Launch) (dC : Nat → ClassId) (dI : Nat → Nat → Nat) (h : Nat) (a : Nat → Nat) (e : Nat) (cI cJ cO cE : ClassId) (L : Nat → Int64) (I : Nat → Int32) (M : Nat → Nat → Int64) (J : Nat → Nat → Int32) (n cap : Nat) (fE : Nat → Option Nat) (sd : Nat → Nat → Nat) (si : Nat → Nat → Int32) (sa : Nat → Nat → Nat → Int32) (dl : Nat → Nat) (b : Nat) (sv : Nat) (sz : Nat) (hX0 : InvX n cap fE sd dl b I J si) (hb0 : b + 0 < 2147483648)  : Met l yX3_begin wq_y_jbegin rm_y_jbegin (va_Pc [.ref (a 3), .int (nI sv)] (fun U => U.heap.size = sz ∧ va_P (dC, dI) vwCl (xW h a e cI cJ cO cE L I M J n cap fE sd si sa dl) U.heap ∧ va_K (dC, dI) vwCl (xT cI cJ cO cE) U ∧ va_D (fun _ => True) (xW h a e cI cJ cO cE L I M J n cap fE sd si sa dl) ∧ pw_N U)) (va_Qv (fun (u : (Nat → Int64)) => InvX n cap fE sd dl (b + 0) I J si ∧ (∀ j9 : Nat, j9 ∉ ([7] : List Nat) → u j9 = L j9) ∧ (u = f_y_jbegin n dl sv L)) (fun (u : (Nat → Int64)) (t : State) => va_P (dC, dI) vwCl (xW h a e cI cJ cO cE u I M J n cap fE sd si sa dl) t.heap ∧ va_D (va_A (xW h a e cI cJ cO cE L I M J n cap fE sd si sa dl) sz) (xW h a e cI cJ cO cE u I M J n cap fE sd si sa dl)) (va_A (xW h a e cI cJ cO cE L I M J n cap fE sd si sa dl) sz)) 0 0 (va_A (xW h a e cI cJ cO cE L I M J n cap fE sd si sa dl) sz) := by
  have hn : n ≤ 40 := hX0.1.1
  have hX := hX0
  have hUL : ∀ j9 : Nat, j9 ∉ ([7] : List Nat) → L j9 = L j9 := fun _ _ => rfl
  refine Met.ofW (cc := cX3_begin) (maxL := 2) (ret := none) (by decide) rfl ?_
  intro p e9 s m args below meth c s₁ B hml hv
  obtain ⟨rfl, hsz, hP, hK, hD0, hN⟩ := hv
  have hx := B.exec
  have hb := B.bytes
  have hr := B.returns
  have hts := atoms_spec (ws := wq_y_jbegin) B.pre
  have hown : s.vm.findClass RX3 = some m.cls := findClass_of_methodNamed B.named
  have hlocks := B.notSynchronized
  subst hsz
  have hD := hD0.self (sz := s.heap.size)
  generalize hAe : va_A (xW h a e cI cJ cO cE L I M J n cap fE sd si sa dl) s.heap.size = A at hD ⊢
  have hA : ∀ q : Nat, s.heap.size ≤ q → A q := fun q h => by rw [← hAe]; exact Or.inr h
  have hS : va_S A s.heap s.heap [] := va_S.rf
  have hl := lv_entry ([.ref (a 3), .int (nI sv)]) (n := 2) (Nat.le_of_ble_eq_true rfl)
  rw [lg_entry_eq]
  generalize (lg_sl ([.ref (a 3), .int (nI sv)]) ++ List.replicate (2 - (lg_sl ([.ref (a 3), .int (nI sv)])).length) Slot.unset).toArray = ls at hl ⊢
  have hl : lv_has ls 2 [(0, .ref (a 3)), (1, .int (nI sv))] := hl
  obtain ⟨RES, hR0⟩ : ∃ R9, R9 = f_y_jbegin n dl sv L := ⟨_, rfl⟩
  have hZ9 := hR0
  unfold f_y_jbegin at hZ9
  refine lv_aload_n hx hb dX3_begin_0 rfl (lv_at hl 0 rfl) ?_
  refine lv_dup hx hb dX3_begin_1 rfl ?_
  refine va_get (D := (dC, dI)) (ci := 4) (v := .long (L 7)) (C := RX3) (T := TX3) (N := 4) hx hb hts in_y_jbegin_X3 hown hK hP 14 rfl rfl 3 (by decide) (hts (.fieldLink RX3 22 "ServiceTree$Jobs" "begun" "J") (by decide +kernel)) (fun _ h9 => h9) rfl dX3_begin_2 ?_
  refine lv_topl (fun x1 ex1 => ?_)
  replace hZ9 := bnd_s hZ9 ex1
  refine lv_iload_n hx hb dX3_begin_5 rfl (lv_at hl 1 rfl) ?_
  have hFc := mw_free hD hS hA
  refine va_calll (va_runSN (As := [.int (nI sv)]) (rest := [.long x1, .ref (a 3)]) ⟨hx, hb, hml, hown, hts⟩ (c_y_only l dC dI h a e cI cJ cO cE L I M J n cap fE sd si sa dl (b) sv s.heap.size hX (by omega) ) ⟨va_cnB 1 hts wc_y_jbegin_y_only_38 rfl rfl rfl (hN (.methodLinkNest RX3 38 yX8_only "ServiceTree") (by decide +kernel)) (hts (.initialized RX8) (by decide +kernel)) (by decide +kernel) ⟨Nat.le_of_ble_eq_true rfl, Nat.le_of_ble_eq_true rfl⟩, hts (.static yX8_only) (by decide +kernel), trivial⟩ ⟨fun a9 U g mk q => by obtain ⟨q0, q1, qP, qK, qD, qN⟩ := q; exact ⟨q0, q1, qP, va_K.moved (u := U) (U := U.calling g mk a9) (Vm.Alike.refl U.vm) qK, qD, pw_N.same (u := U) (U := U.calling g mk a9) rfl qN⟩, fun U hU hW => ⟨rfl, by rw [hU], by rw [hU]; exact hP, va_K.moved hW.alike hK, hD.weaken (fun _ _ _ _ => trivial), pw_N.warm hW hN⟩⟩ rfl rfl hl.1 rfl (lv_room (Nat.le_of_ble_eq_true rfl)) dX3_begin_6 ⟨Nat.le_of_ble_eq_true rfl, Nat.le_of_ble_eq_true rfl⟩) hS (fun q _ h => hFc q h) hFc (fun r2 u t H1 locs ht hvm hw hB hz1 hk1 hS => ?_)
  replace hP := hB.1
  rw [ht] at hP
  replace hD : va_D A (xW h a e cI cJ cO cE L I M J n cap fE sd si sa dl) := hB.2.weaken (fun _ q _ h9 => hFc q.1 h9)
  clear hB
  generalize H1 = H at hP hS ⊢
  replace hP : va_P (dC, dI) vwCl (xW h a e cI cJ cO cE L I M J n cap fE sd si sa dl) H := hP
  replace hw : r2 = f_y_only n dl sv  := hw
  replace hZ9 := bnd_s hZ9 hw
  refine lv_lor hx hb dX3_begin_9 ?_
  refine lv_topl (fun x3 ex3 => ?_)
  replace hZ9 := bnd_s hZ9 ex3
  refine va_put (D := (dC, dI)) (ci := 4) (fs := [.ref (a 1), .long (L 5), .long (L 6), .long (L 7)]) (v := .long x3) (ty := .long) (C := RX3) (T := TX3) (N := 4) hx hb hts in_y_jbegin_X3 tyX3 tyX3_ok nmX3 hown hK hP hD hS 14 rfl rfl 3 (by decide) (hts (.fieldLink RX3 22 "ServiceTree$Jobs" "begun" "J") (by decide +kernel)) (fun _ h9 => h9) rfl (by decide +kernel) rfl rfl (Nat.le_of_ble_eq_true rfl) dX3_begin_10 (fun H locs hP hD hS => ?_)
  replace hP : va_P (dC, dI) vwCl ((xW h a e cI cJ cO cE L I M J n cap fE sd si sa dl).set 14 (a 3, .inr (4, [.ref (a 1), .long (L 5), .long (L 6), .long x3]))) H := hP
  replace hD : va_D A ((xW h a e cI cJ cO cE L I M J n cap fE sd si sa dl).set 14 (a 3, .inr (4, [.ref (a 1), .long (L 5), .long (L 6), .long x3]))) := hD
  rw [xF_L7] at hP hD
  obtain ⟨L4, eL4⟩ : ∃ f9 : Nat → Int64, f9 = va_up L 7 x3 := ⟨_, rfl⟩
  rw [← eL4] at hP hD
  replace hZ9 := bnd_s hZ9 eL4
  replace hUL : ∀ j9 : Nat, j9 ∉ ([7] : List Nat) → L4 j9 = L j9 := by rw [eL4]; exact mw_up (by decide) hUL
  exact W.vret hx hb hr (fun t ht hW => ⟨⟨L4, rfl, ⟨hX.mono (by omega), hUL, hZ9.symm.trans hR0⟩, by rw [ht]; exact hP, hD⟩, hS.F ht⟩) hS.2.2 dX3_begin_13
def f_y_jend (n : Nat) (dl : Nat → Nat) (sv : Nat) (L : Nat → Int64) : (Nat → Int64) := bnd ((1 : Int64) <<< ((nI sv).toInt64 &&& 63)) (fun (x1 : Int64) => bnd (x1 ^^^ (-1 : Int64)) (fun (x2 : Int64) => bnd (L 5) (fun (x3 : Int64) => bnd (x3 &&& x2) (fun (x4 : Int64) => bnd (va_up L 5 x4) (fun (L5 : Nat → Int64) => bnd (L5 6) (fun (x6 : Int64) => bnd (x6 &&& x2) (fun (x7 : Int64) => bnd (va_up L5 6 x7) (fun (L8 : Nat → Int64) => bnd (L8 7) (fun (x9 : Int64) => bnd (x9 &&& x2) (fun (x10 : Int64) => bnd (va_up L8 7 x10) (fun (L11 : Nat → Int64) => (L11))))))))))))
def wq_y_jend : List Cond := ([.code yX3_end cX3_end 4 none, .constantLong RX3 45 (-1), .fieldLink RX3 15 "ServiceTree$Jobs" "starts" "J", .fieldLink RX3 19 "ServiceTree$Jobs" "stops" "J", .fieldLink RX3 22 "ServiceTree$Jobs" "begun" "J"] : List Cond) ++ (wsX30)
theorem in_y_jend_X3 : ∀ w ∈ wsX30, w ∈ wq_y_jend := fun _ h => List.mem_append_right _ (h)
set_option maxRecDepth 20000 in
theorem wi_y_jend : ∀ w ∈ wq_y_jend, w ∈ lw_tbl := List.forall_mem_append.mpr ⟨(wix [624, 625, 166, 168, 169] rfl), inKX3⟩
set_option maxRecDepth 20000 in
theorem wg_y_jend : GoodIn wq_y_jend wq_y_jend := goodIn_sub (fun _ h => h) (by decide +kernel)
def rm_y_jend : Room := { frames := 0, cells := 0, slots := 0, locals := 0 }
set_option maxHeartbeats 4000000 in
set_option maxRecDepth 100000 in
theorem c_y_jend (l : Launch) (dC : Nat → ClassId) (dI : Nat → Nat → Nat) (h : Nat) (a : Nat → Nat) (e : Nat) (cI cJ cO cE : ClassId) (L : Nat → Int64) (I : Nat → Int32) (M : Nat → Nat → Int64) (J : Nat → Nat → Int32) (n cap : Nat) (fE : Nat → Option Nat) (sd : Nat → Nat → Nat) (si : Nat → Nat → Int32) (sa : Nat → Nat → Nat → Int32) (dl : Nat → Nat) (b : Nat) (sv : Nat) (sz : Nat) (hX0 : InvX n cap fE sd dl b I J si) (hb0 : b + 0 < 2147483648)  : Met l yX3_end wq_y_jend rm_y_jend (va_Pc [.ref (a 3), .int (nI sv)] (fun U => U.heap.size = sz ∧ va_P (dC, dI) vwCl (xW h a e cI cJ cO cE L I M J n cap fE sd si sa dl) U.heap ∧ va_K (dC, dI) vwCl (xT cI cJ cO cE) U ∧ va_D (fun _ => True) (xW h a e cI cJ cO cE L I M J n cap fE sd si sa dl) ∧ pw_N U)) (va_Qv (fun (u : (Nat → Int64)) => InvX n cap fE sd dl (b + 0) I J si ∧ (∀ j9 : Nat, j9 ∉ ([5, 6, 7] : List Nat) → u j9 = L j9) ∧ (u = f_y_jend n dl sv L)) (fun (u : (Nat → Int64)) (t : State) => va_P (dC, dI) vwCl (xW h a e cI cJ cO cE u I M J n cap fE sd si sa dl) t.heap ∧ va_D (va_A (xW h a e cI cJ cO cE L I M J n cap fE sd si sa dl) sz) (xW h a e cI cJ cO cE u I M J n cap fE sd si sa dl)) (va_A (xW h a e cI cJ cO cE L I M J n cap fE sd si sa dl) sz)) 0 0 (va_A (xW h a e cI cJ cO cE L I M J n cap fE sd si sa dl) sz) := by
  have hn : n ≤ 40 := hX0.1.1
  have hX := hX0
  have hUL : ∀ j9 : Nat, j9 ∉ ([5, 6, 7] : List Nat) → L j9 = L j9 := fun _ _ => rfl
  refine Met.ofW (cc := cX3_end) (maxL := 4) (ret := none) (by decide) rfl ?_
  intro p e9 s m args below meth c s₁ B hml hv
  obtain ⟨rfl, hsz, hP, hK, hD0, hN⟩ := hv
  have hx := B.exec
  have hb := B.bytes
  have hr := B.returns
  have hts := atoms_spec (ws := wq_y_jend) B.pre
  have hown : s.vm.findClass RX3 = some m.cls := findClass_of_methodNamed B.named
  have hlocks := B.notSynchronized
  subst hsz
  have hD := hD0.self (sz := s.heap.size)
  generalize hAe : va_A (xW h a e cI cJ cO cE L I M J n cap fE sd si sa dl) s.heap.size = A at hD ⊢
  have hA : ∀ q : Nat, s.heap.size ≤ q → A q := fun q h => by rw [← hAe]; exact Or.inr h
  have hS : va_S A s.heap s.heap [] := va_S.rf
  have hl := lv_entry ([.ref (a 3), .int (nI sv)]) (n := 4) (Nat.le_of_ble_eq_true rfl)
  rw [lg_entry_eq]
  generalize (lg_sl ([.ref (a 3), .int (nI sv)]) ++ List.replicate (4 - (lg_sl ([.ref (a 3), .int (nI sv)])).length) Slot.unset).toArray = ls at hl ⊢
  have hl : lv_has ls 4 [(0, .ref (a 3)), (1, .int (nI sv))] := hl
  obtain ⟨RES, hR0⟩ : ∃ R9, R9 = f_y_jend n dl sv L := ⟨_, rfl⟩
  have hZ9 := hR0
  unfold f_y_jend at hZ9
  refine lv_lconst (v := 1) hx hb dX3_end_0 (by decide) ?_
  refine lv_iload_n hx hb dX3_end_1 rfl (lv_at hl 1 rfl) ?_
  refine lv_lshl hx hb dX3_end_2 rfl ?_
  refine lv_topl (fun x1 ex1 => ?_)
  replace hZ9 := bnd_s hZ9 ex1
  refine lv_ldc2 (v := (-1)) hx hb hown (hts (.constantLong RX3 45 (-1)) (by decide +kernel)) dX3_end_3 ?_
  refine lv_lxor hx hb dX3_end_6 ?_
  refine lv_topl (fun x2 ex2 => ?_)
  replace hZ9 := bnd_s hZ9 ex2
  refine lv_lstore_n (lv' := [(2, .long x2), (0, .ref (a 3)), (1, .int (nI sv))]) hx hb dX3_end_7 rfl hl (by decide) rfl (fun ls hl => ?_)
  refine lv_aload_n hx hb dX3_end_8 rfl (lv_at hl 1 rfl) ?_
  refine lv_dup hx hb dX3_end_9 rfl ?_
  refine va_get (D := (dC, dI)) (ci := 4) (v := .long (L 5)) (C := RX3) (T := TX3) (N := 4) hx hb hts in_y_jend_X3 hown hK hP 14 rfl rfl 1 (by decide) (hts (.fieldLink RX3 15 "ServiceTree$Jobs" "starts" "J") (by decide +kernel)) (fun _ h9 => h9) rfl dX3_end_10 ?_
  refine lv_topl (fun x3 ex3 => ?_)
  replace hZ9 := bnd_s hZ9 ex3
  refine lv_lload_n hx hb dX3_end_13 rfl (lv_at hl 0 rfl) ?_
  refine lv_land hx hb dX3_end_14 ?_
  refine lv_topl (fun x4 ex4 => ?_)
  replace hZ9 := bnd_s hZ9 ex4
  refine va_put (D := (dC, dI)) (ci := 4) (fs := [.ref (a 1), .long (L 5), .long (L 6), .long (L 7)]) (v := .long x4) (ty := .long) (C := RX3) (T := TX3) (N := 4) hx hb hts in_y_jend_X3 tyX3 tyX3_ok nmX3 hown hK hP hD hS 14 rfl rfl 1 (by decide) (hts (.fieldLink RX3 15 "ServiceTree$Jobs" "starts" "J") (by decide +kernel)) (fun _ h9 => h9) rfl (by decide +kernel) rfl rfl (Nat.le_of_ble_eq_true rfl) dX3_end_15 (fun H locs hP hD hS => ?_)
  replace hP : va_P (dC, dI) vwCl ((xW h a e cI cJ cO cE L I M J n cap fE sd si sa dl).set 14 (a 3, .inr (4, [.ref (a 1), .long x4, .long (L 6), .long (L 7)]))) H := hP
  replace hD : va_D A ((xW h a e cI cJ cO cE L I M J n cap fE sd si sa dl).set 14 (a 3, .inr (4, [.ref (a 1), .long x4, .long (L 6), .long (L 7)]))) := hD
  rw [xF_L5] at hP hD
  obtain ⟨L5, eL5⟩ : ∃ f9 : Nat → Int64, f9 = va_up L 5 x4 := ⟨_, rfl⟩
  rw [← eL5] at hP hD
  replace hZ9 := bnd_s hZ9 eL5
  replace hUL : ∀ j9 : Nat, j9 ∉ ([5, 6, 7] : List Nat) → L5 j9 = L j9 := by rw [eL5]; exact mw_up (by decide) hUL
  refine lv_aload_n hx hb dX3_end_18 rfl (lv_at hl 1 rfl) ?_
  refine lv_dup hx hb dX3_end_19 rfl ?_
  refine va_get (D := (dC, dI)) (ci := 4) (v := .long (L5 6)) (C := RX3) (T := TX3) (N := 4) hx hb hts in_y_jend_X3 hown hK hP 14 rfl rfl 2 (by decide) (hts (.fieldLink RX3 19 "ServiceTree$Jobs" "stops" "J") (by decide +kernel)) (fun _ h9 => h9) rfl dX3_end_20 ?_
  refine lv_topl (fun x6 ex6 => ?_)
  replace hZ9 := bnd_s hZ9 ex6
  refine lv_lload_n hx hb dX3_end_23 rfl (lv_at hl 0 rfl) ?_
  refine lv_land hx hb dX3_end_24 ?_
  refine lv_topl (fun x7 ex7 => ?_)
  replace hZ9 := bnd_s hZ9 ex7
  refine va_put (D := (dC, dI)) (ci := 4) (fs := [.ref (a 1), .long (L5 5), .long (L5 6), .long (L5 7)]) (v := .long x7) (ty := .long) (C := RX3) (T := TX3) (N := 4) hx hb hts in_y_jend_X3 tyX3 tyX3_ok nmX3 hown hK hP hD hS 14 rfl rfl 2 (by decide) (hts (.fieldLink RX3 19 "ServiceTree$Jobs" "stops" "J") (by decide +kernel)) (fun _ h9 => h9) rfl (by decide +kernel) rfl rfl (Nat.le_of_ble_eq_true rfl) dX3_end_25 (fun H locs hP hD hS => ?_)
  replace hP : va_P (dC, dI) vwCl ((xW h a e cI cJ cO cE L5 I M J n cap fE sd si sa dl).set 14 (a 3, .inr (4, [.ref (a 1), .long (L5 5), .long x7, .long (L5 7)]))) H := hP
  replace hD : va_D A ((xW h a e cI cJ cO cE L5 I M J n cap fE sd si sa dl).set 14 (a 3, .inr (4, [.ref (a 1), .long (L5 5), .long x7, .long (L5 7)]))) := hD
  rw [xF_L6] at hP hD
  obtain ⟨L8, eL8⟩ : ∃ f9 : Nat → Int64, f9 = va_up L5 6 x7 := ⟨_, rfl⟩
  rw [← eL8] at hP hD
  replace hZ9 := bnd_s hZ9 eL8
  replace hUL : ∀ j9 : Nat, j9 ∉ ([5, 6, 7] : List Nat) → L8 j9 = L j9 := by rw [eL8]; exact mw_up (by decide) hUL
  refine lv_aload_n hx hb dX3_end_28 rfl (lv_at hl 1 rfl) ?_
  refine lv_dup hx hb dX3_end_29 rfl ?_
  refine va_get (D := (dC, dI)) (ci := 4) (v := .long (L8 7)) (C := RX3) (T := TX3) (N := 4) hx hb hts in_y_jend_X3 hown hK hP 14 rfl rfl 3 (by decide) (hts (.fieldLink RX3 22 "ServiceTree$Jobs" "begun" "J") (by decide +kernel)) (fun _ h9 => h9) rfl dX3_end_30 ?_
  refine lv_topl (fun x9 ex9 => ?_)
  replace hZ9 := bnd_s hZ9 ex9
  refine lv_lload_n hx hb dX3_end_33 rfl (lv_at hl 0 rfl) ?_
  refine lv_land hx hb dX3_end_34 ?_
  refine lv_topl (fun x10 ex10 => ?_)
  replace hZ9 := bnd_s hZ9 ex10
  refine va_put (D := (dC, dI)) (ci := 4) (fs := [.ref (a 1), .long (L8 5), .long (L8 6), .long (L8 7)]) (v := .long x10) (ty := .long) (C := RX3) (T := TX3) (N := 4) hx hb hts in_y_jend_X3 tyX3 tyX3_ok nmX3 hown hK hP hD hS 14 rfl rfl 3 (by decide) (hts (.fieldLink RX3 22 "ServiceTree$Jobs" "begun" "J") (by decide +kernel)) (fun _ h9 => h9) rfl (by decide +kernel) rfl rfl (Nat.le_of_ble_eq_true rfl) dX3_end_35 (fun H locs hP hD hS => ?_)
  replace hP : va_P (dC, dI) vwCl ((xW h a e cI cJ cO cE L8 I M J n cap fE sd si sa dl).set 14 (a 3, .inr (4, [.ref (a 1), .long (L8 5), .long (L8 6), .long x10]))) H := hP
  replace hD : va_D A ((xW h a e cI cJ cO cE L8 I M J n cap fE sd si sa dl).set 14 (a 3, .inr (4, [.ref (a 1), .long (L8 5), .long (L8 6), .long x10]))) := hD
  rw [xF_L7] at hP hD
  obtain ⟨L11, eL11⟩ : ∃ f9 : Nat → Int64, f9 = va_up L8 7 x10 := ⟨_, rfl⟩
  rw [← eL11] at hP hD
  replace hZ9 := bnd_s hZ9 eL11
  replace hUL : ∀ j9 : Nat, j9 ∉ ([5, 6, 7] : List Nat) → L11 j9 = L j9 := by rw [eL11]; exact mw_up (by decide) hUL
  exact W.vret hx hb hr (fun t ht hW => ⟨⟨L11, rfl, ⟨hX.mono (by omega), hUL, hZ9.symm.trans hR0⟩, by rw [ht]; exact hP, hD⟩, hS.F ht⟩) hS.2.2 dX3_end_38
def f_y_from (n : Nat) (dl : Nat → Nat) (ov : Nat) (av : Nat) (M : Nat → Nat → Int64) : Int64 := bnd (M ov (nI av).toNatClampNeg) (fun (x1 : Int64) => (x1))
def wq_y_from : List Cond := ([.code yX5_from cX5_from 3 (some .long), .fieldLink RX5 11 "ServiceTree$Relations" "froms" "[[J"] : List Cond) ++ (wsX50)
theorem in_y_from_X5 : ∀ w ∈ wsX50, w ∈ wq_y_from := fun _ h => List.mem_append_right _ (h)
set_option maxRecDepth 20000 in
theorem wi_y_from : ∀ w ∈ wq_y_from, w ∈ lw_tbl := List.forall_mem_append.mpr ⟨(wix [658, 122] rfl), inKX5⟩
set_option maxRecDepth 20000 in
theorem wg_y_from : GoodIn wq_y_from wq_y_from := goodIn_sub (fun _ h => h) (by decide +kernel)
def rm_y_from : Room := { frames := 0, cells := 0, slots := 0, locals := 0 }
set_option maxHeartbeats 4000000 in
set_option maxRecDepth 100000 in
theorem c_y_from (l : Launch) (dC : Nat → ClassId) (dI : Nat → Nat → Nat) (h : Nat) (a : Nat → Nat) (e : Nat) (cI cJ cO cE : ClassId) (L : Nat → Int64) (I : Nat → Int32) (M : Nat → Nat → Int64) (J : Nat → Nat → Int32) (n cap : Nat) (fE : Nat → Option Nat) (sd : Nat → Nat → Nat) (si : Nat → Nat → Int32) (sa : Nat → Nat → Nat → Int32) (dl : Nat → Nat) (b : Nat) (ov : Nat) (av : Nat) (sz : Nat) (hX0 : InvX n cap fE sd dl b I J si) (hb0 : b + 0 < 2147483648) (hp0 : ov < 4) (hp1 : av < 40) : Met l yX5_from wq_y_from rm_y_from (va_Pc [.ref (a 1), .int (nI ov), .int (nI av)] (fun U => U.heap.size = sz ∧ va_P (dC, dI) vwCl (xW h a e cI cJ cO cE L I M J n cap fE sd si sa dl) U.heap ∧ va_K (dC, dI) vwCl (xT cI cJ cO cE) U ∧ va_D (fun _ => True) (xW h a e cI cJ cO cE L I M J n cap fE sd si sa dl) ∧ pw_N U)) (va_Ql (fun (r : Int64) (u : Unit) => (r = f_y_from n dl ov av M)) (fun (u : Unit) (t : State) => va_P (dC, dI) vwCl (xW h a e cI cJ cO cE L I M J n cap fE sd si sa dl) t.heap ∧ va_D (va_A (xW h a e cI cJ cO cE L I M J n cap fE sd si sa dl) sz) (xW h a e cI cJ cO cE L I M J n cap fE sd si sa dl)) (va_A (xW h a e cI cJ cO cE L I M J n cap fE sd si sa dl) sz)) 0 0 (va_A (xW h a e cI cJ cO cE L I M J n cap fE sd si sa dl) sz) := by
  have hn : n ≤ 40 := hX0.1.1
  have hX := hX0
  refine Met.ofW (cc := cX5_from) (maxL := 3) (ret := (some .long)) (by decide) rfl ?_
  intro p e9 s m args below meth c s₁ B hml hv
  obtain ⟨rfl, hsz, hP, hK, hD0, hN⟩ := hv
  have hx := B.exec
  have hb := B.bytes
  have hr := B.returns
  have hts := atoms_spec (ws := wq_y_from) B.pre
  have hown : s.vm.findClass RX5 = some m.cls := findClass_of_methodNamed B.named
  have hlocks := B.notSynchronized
  subst hsz
  have hD := hD0.self (sz := s.heap.size)
  generalize hAe : va_A (xW h a e cI cJ cO cE L I M J n cap fE sd si sa dl) s.heap.size = A at hD ⊢
  have hA : ∀ q : Nat, s.heap.size ≤ q → A q := fun q h => by rw [← hAe]; exact Or.inr h
  have hS : va_S A s.heap s.heap [] := va_S.rf
  have hl := lv_entry ([.ref (a 1), .int (nI ov), .int (nI av)]) (n := 3) (Nat.le_of_ble_eq_true rfl)
  rw [lg_entry_eq]
  generalize (lg_sl ([.ref (a 1), .int (nI ov), .int (nI av)]) ++ List.replicate (3 - (lg_sl ([.ref (a 1), .int (nI ov), .int (nI av)])).length) Slot.unset).toArray = ls at hl ⊢
  have hl : lv_has ls 3 [(0, .ref (a 1)), (1, .int (nI ov)), (2, .int (nI av))] := hl
  obtain ⟨RES, hR0⟩ : ∃ R9, R9 = f_y_from n dl ov av M := ⟨_, rfl⟩
  have hZ9 := hR0
  unfold f_y_from at hZ9
  refine lv_aload_n hx hb dX5_from_0 rfl (lv_at hl 0 rfl) ?_
  refine va_get (D := (dC, dI)) (ci := 6) (v := .ref (a 10)) (C := RX5) (T := TX5) (N := 3) hx hb hts in_y_from_X5 hown hK hP 2 rfl rfl 0 (by decide) (hts (.fieldLink RX5 11 "ServiceTree$Relations" "froms" "[[J") (by decide +kernel)) (fun _ h9 => h9) rfl dX5_from_1 ?_
  refine lv_iload_n hx hb dX5_from_4 rfl (lv_at hl 1 rfl) ?_
  refine p1_aldA (n := 4) (f := fun i => if i < 4 then some (a (20 + i)) else none) hx hb hK hP 3 2 rfl rfl (vp_in_nI (n := ov) (by omega) (by decide)) dX5_from_5 ?_
  refine p1_topr (v := .ref (a (20 + ov))) (by rw [nI_clamp (by omega), if_pos (by omega)]; rfl) ?_
  refine lv_iload_n hx hb dX5_from_6 rfl (lv_at hl 2 rfl) ?_
  refine va_lald (n := 40) (f := M ov) hx hb hK hP (5 + ov) 1 (xAt_fr h a e cI cJ cO cE L I M J n cap fE sd si sa dl (o := ov) (by omega)) rfl (vp_in_nI (n := av) (by omega) (by omega)) dX5_from_7 ?_
  refine lv_topl (fun x1 ex1 => ?_)
  replace hZ9 := bnd_s hZ9 ex1
  exact W.lret (v := x1) hx hb hr (fun t ht hW => ⟨⟨x1, (), rfl, hZ9.symm.trans hR0, by rw [ht]; exact hP, hD⟩, hS.F ht⟩) hS.2.2 dX5_from_8
def f_y_told (n : Nat) (dl : Nat → Nat) (ov : Nat) (av : Nat) (bv : Nat) (M : Nat → Nat → Int64) : Int32 := bnd (M ov (nI av).toNatClampNeg) (fun (x1 : Int64) => bnd (f_y_holds n dl x1 bv ) (fun (r2 : Int32) => (r2)))
def wq_y_told : List Cond := ([.code yX5_told cX5_told 4 (some .boolean), .fieldLink RX5 11 "ServiceTree$Relations" "froms" "[[J", .initialized RX8, .static yX8_holds] : List Cond) ++ (wsX50 ++ (wq_y_holds))
theorem in_y_told_X5 : ∀ w ∈ wsX50, w ∈ wq_y_told := fun _ h => List.mem_append_right _ (List.mem_append_left _ (h))
set_option maxRecDepth 20000 in
theorem wi_y_told : ∀ w ∈ wq_y_told, w ∈ lw_tbl := List.forall_mem_append.mpr ⟨(wix [493, 122, 60, 488] rfl), List.forall_mem_append.mpr ⟨inKX5, wi_y_holds⟩⟩
set_option maxRecDepth 20000 in
theorem wg_y_told : GoodIn wq_y_told wq_y_told := goodIn_sub (fun _ h => h) (by decide +kernel)
theorem wc_y_told_y_holds_19 : GoodIn wq_y_told wq_y_holds := (fun w h => ⟨List.mem_append_right _ (List.mem_append_right _ (h)), (wg_y_holds w h).2⟩)
def rm_y_told : Room := { frames := 1, cells := 0, slots := 0, locals := 22 }
set_option maxHeartbeats 4000000 in
set_option maxRecDepth 100000 in
theorem c_y_told (l : Launch) (dC : Nat → ClassId) (dI : Nat → Nat → Nat) (h : Nat) (a : Nat → Nat) (e : Nat) (cI cJ cO cE : ClassId) (L : Nat → Int64) (I : Nat → Int32) (M : Nat → Nat → Int64) (J : Nat → Nat → Int32) (n cap : Nat) (fE : Nat → Option Nat) (sd : Nat → Nat → Nat) (si : Nat → Nat → Int32) (sa : Nat → Nat → Nat → Int32) (dl : Nat → Nat) (b : Nat) (ov : Nat) (av : Nat) (bv : Nat) (sz : Nat) (hX0 : InvX n cap fE sd dl b I J si) (hb0 : b + 0 < 2147483648) (hp0 : ov < 4) (hp1 : av < 40) : Met l yX5_told wq_y_told rm_y_told (va_Pc [.ref (a 1), .int (nI ov), .int (nI av), .int (nI bv)] (fun U => U.heap.size = sz ∧ va_P (dC, dI) vwCl (xW h a e cI cJ cO cE L I M J n cap fE sd si sa dl) U.heap ∧ va_K (dC, dI) vwCl (xT cI cJ cO cE) U ∧ va_D (fun _ => True) (xW h a e cI cJ cO cE L I M J n cap fE sd si sa dl) ∧ pw_N U)) (va_Qi (fun (r : Int32) (u : Unit) => ((r = f_y_told n dl ov av bv M) ∧ (r = 0 ∨ r = 1))) (fun (u : Unit) (t : State) => va_P (dC, dI) vwCl (xW h a e cI cJ cO cE L I M J n cap fE sd si sa dl) t.heap ∧ va_D (va_A (xW h a e cI cJ cO cE L I M J n cap fE sd si sa dl) sz) (xW h a e cI cJ cO cE L I M J n cap fE sd si sa dl)) (va_A (xW h a e cI cJ cO cE L I M J n cap fE sd si sa dl) sz)) 0 0 (va_A (xW h a e cI cJ cO cE L I M J n cap fE sd si sa dl) sz) := by
  have hn : n ≤ 40 := hX0.1.1
  have hX := hX0
  refine Met.ofW (cc := cX5_told) (maxL := 4) (ret := (some .boolean)) (by decide) rfl ?_
  intro p e9 s m args below meth c s₁ B hml hv
  obtain ⟨rfl, hsz, hP, hK, hD0, hN⟩ := hv
  have hx := B.exec
  have hb := B.bytes
  have hr := B.returns
  have hts := atoms_spec (ws := wq_y_told) B.pre
  have hown : s.vm.findClass RX5 = some m.cls := findClass_of_methodNamed B.named
  have hlocks := B.notSynchronized
  subst hsz
  have hD := hD0.self (sz := s.heap.size)
  generalize hAe : va_A (xW h a e cI cJ cO cE L I M J n cap fE sd si sa dl) s.heap.size = A at hD ⊢
  have hA : ∀ q : Nat, s.heap.size ≤ q → A q := fun q h => by rw [← hAe]; exact Or.inr h
  have hS : va_S A s.heap s.heap [] := va_S.rf
  have hl := lv_entry ([.ref (a 1), .int (nI ov), .int (nI av), .int (nI bv)]) (n := 4) (Nat.le_of_ble_eq_true rfl)
  rw [lg_entry_eq]
  generalize (lg_sl ([.ref (a 1), .int (nI ov), .int (nI av), .int (nI bv)]) ++ List.replicate (4 - (lg_sl ([.ref (a 1), .int (nI ov), .int (nI av), .int (nI bv)])).length) Slot.unset).toArray = ls at hl ⊢
  have hl : lv_has ls 4 [(0, .ref (a 1)), (1, .int (nI ov)), (2, .int (nI av)), (3, .int (nI bv))] := hl
  obtain ⟨RES, hR0⟩ : ∃ R9, R9 = f_y_told n dl ov av bv M := ⟨_, rfl⟩
  have hZ9 := hR0
  unfold f_y_told at hZ9
  refine lv_aload_n hx hb dX5_told_0 rfl (lv_at hl 0 rfl) ?_
  refine va_get (D := (dC, dI)) (ci := 6) (v := .ref (a 10)) (C := RX5) (T := TX5) (N := 3) hx hb hts in_y_told_X5 hown hK hP 2 rfl rfl 0 (by decide) (hts (.fieldLink RX5 11 "ServiceTree$Relations" "froms" "[[J") (by decide +kernel)) (fun _ h9 => h9) rfl dX5_told_1 ?_
  refine lv_iload_n hx hb dX5_told_4 rfl (lv_at hl 1 rfl) ?_
  refine p1_aldA (n := 4) (f := fun i => if i < 4 then some (a (20 + i)) else none) hx hb hK hP 3 2 rfl rfl (vp_in_nI (n := ov) (by omega) (by decide)) dX5_told_5 ?_
  refine p1_topr (v := .ref (a (20 + ov))) (by rw [nI_clamp (by omega), if_pos (by omega)]; rfl) ?_
  refine lv_iload_n hx hb dX5_told_6 rfl (lv_at hl 2 rfl) ?_
  refine va_lald (n := 40) (f := M ov) hx hb hK hP (5 + ov) 1 (xAt_fr h a e cI cJ cO cE L I M J n cap fE sd si sa dl (o := ov) (by omega)) rfl (vp_in_nI (n := av) (by omega) (by omega)) dX5_told_7 ?_
  refine lv_topl (fun x1 ex1 => ?_)
  replace hZ9 := bnd_s hZ9 ex1
  refine lv_iload_n hx hb dX5_told_8 rfl (lv_at hl 3 rfl) ?_
  have hFc := mw_free hD hS hA
  refine va_calli (va_runSN (As := [.long x1, .int (nI bv)]) (rest := []) ⟨hx, hb, hml, hown, hts⟩ (c_y_holds l dC dI h a e cI cJ cO cE L I M J n cap fE sd si sa dl (b) x1 bv s.heap.size hX (by omega) ) ⟨va_cnB 2 hts wc_y_told_y_holds_19 rfl rfl rfl (hN (.methodLinkNest RX5 19 yX8_holds "ServiceTree") (by decide +kernel)) (hts (.initialized RX8) (by decide +kernel)) (by decide +kernel) ⟨Nat.le_of_ble_eq_true rfl, Nat.le_of_ble_eq_true rfl⟩, hts (.static yX8_holds) (by decide +kernel), trivial⟩ ⟨fun a9 U g mk q => by obtain ⟨q0, q1, qP, qK, qD, qN⟩ := q; exact ⟨q0, q1, qP, va_K.moved (u := U) (U := U.calling g mk a9) (Vm.Alike.refl U.vm) qK, qD, pw_N.same (u := U) (U := U.calling g mk a9) rfl qN⟩, fun U hU hW => ⟨rfl, by rw [hU], by rw [hU]; exact hP, va_K.moved hW.alike hK, hD.weaken (fun _ _ _ _ => trivial), pw_N.warm hW hN⟩⟩ rfl rfl hl.1 rfl (lv_room (Nat.le_of_ble_eq_true rfl)) dX5_told_9 ⟨Nat.le_of_ble_eq_true rfl, Nat.le_of_ble_eq_true rfl⟩) hS (fun q _ h => hFc q h) hFc (fun r2 u t H1 locs ht hvm hw hB hz1 hk1 hS => ?_)
  replace hP := hB.1
  rw [ht] at hP
  replace hD : va_D A (xW h a e cI cJ cO cE L I M J n cap fE sd si sa dl) := hB.2.weaken (fun _ q _ h9 => hFc q.1 h9)
  clear hB
  generalize H1 = H at hP hS ⊢
  replace hP : va_P (dC, dI) vwCl (xW h a e cI cJ cO cE L I M J n cap fE sd si sa dl) H := hP
  obtain ⟨hw, hwe⟩ := hw
  replace hw : r2 = f_y_holds n dl x1 bv  := hw
  replace hZ9 := bnd_s hZ9 hw
  have br2 := hwe
  exact W.zret (v := r2) hx hb hr (mw_nb br2) (fun t ht hW => ⟨⟨r2, (), rfl, ⟨hZ9.symm.trans hR0, br2⟩, by rw [ht]; exact hP, hD⟩, hS.F ht⟩) hS.2.2 dX5_told_12
def f_y_wow1 (n : Nat) (dl : Nat → Nat) (ov : Nat) (av : Nat) (bv : Nat) (M : Nat → Nat → Int64) : (Nat → Nat → Int64) := bnd (M ov (nI av).toNatClampNeg) (fun (x1 : Int64) => bnd (f_y_only n dl bv ) (fun (r2 : Int64) => bnd (x1 ||| r2) (fun (x3 : Int64) => bnd (va_up M ov (vp_updL (M ov) (nI av).toNatClampNeg x3)) (fun (M4 : Nat → Nat → Int64) => bnd (M4 (4 + ov) (nI bv).toNatClampNeg) (fun (x5 : Int64) => bnd (f_y_only n dl av ) (fun (r6 : Int64) => bnd (x5 ||| r6) (fun (x7 : Int64) => bnd (va_up M4 (4 + ov) (vp_updL (M4 (4 + ov)) (nI bv).toNatClampNeg x7)) (fun (M8 : Nat → Nat → Int64) => (M8)))))))))
def wq_y_wow1 : List Cond := ([.code yX5_writeOneWay cX5_writeOneWay 5 none, .fieldLink RX5 11 "ServiceTree$Relations" "froms" "[[J", .initialized RX8, .static yX8_only, .fieldLink RX5 16 "ServiceTree$Relations" "tos" "[[J"] : List Cond) ++ (wsX50 ++ (wq_y_only))
theorem in_y_wow1_X5 : ∀ w ∈ wsX50, w ∈ wq_y_wow1 := fun _ h => List.mem_append_right _ (List.mem_append_left _ (h))
set_option maxRecDepth 20000 in
theorem wi_y_wow1 : ∀ w ∈ wq_y_wow1, w ∈ lw_tbl := List.forall_mem_append.mpr ⟨(wix [506, 122, 60, 443, 123] rfl), List.forall_mem_append.mpr ⟨inKX5, wi_y_only⟩⟩
set_option maxRecDepth 20000 in
theorem wg_y_wow1 : GoodIn wq_y_wow1 wq_y_wow1 := goodIn_sub (fun _ h => h) (by decide +kernel)
theorem wc_y_wow1_y_only_34 : GoodIn wq_y_wow1 wq_y_only := (fun w h => ⟨List.mem_append_right _ (List.mem_append_right _ (h)), (wg_y_only w h).2⟩)
def rm_y_wow1 : Room := { frames := 1, cells := 0, slots := 0, locals := 20 }
set_option maxHeartbeats 4000000 in
set_option maxRecDepth 100000 in
theorem c_y_wow1 (l : Launch) (dC : Nat → ClassId) (dI : Nat → Nat → Nat) (h : Nat) (a : Nat → Nat) (e : Nat) (cI cJ cO cE : ClassId) (L : Nat → Int64) (I : Nat → Int32) (M : Nat → Nat → Int64) (J : Nat → Nat → Int32) (n cap : Nat) (fE : Nat → Option Nat) (sd : Nat → Nat → Nat) (si : Nat → Nat → Int32) (sa : Nat → Nat → Nat → Int32) (dl : Nat → Nat) (b : Nat) (ov : Nat) (av : Nat) (bv : Nat) (sz : Nat) (hX0 : InvX n cap fE sd dl b I J si) (hb0 : b + 0 < 2147483648) (hp0 : ov < 4) (hp1 : av < 40) (hp2 : bv < 40) : Met l yX5_writeOneWay wq_y_wow1 rm_y_wow1 (va_Pc [.ref (a 1), .int (nI ov), .int (nI av), .int (nI bv), .int 1] (fun U => U.heap.size = sz ∧ va_P (dC, dI) vwCl (xW h a e cI cJ cO cE L I M J n cap fE sd si sa dl) U.heap ∧ va_K (dC, dI) vwCl (xT cI cJ cO cE) U ∧ va_D (fun _ => True) (xW h a e cI cJ cO cE L I M J n cap fE sd si sa dl) ∧ pw_N U)) (va_Qv (fun (u : (Nat → Nat → Int64)) => InvX n cap fE sd dl (b + 0) I J si ∧ (∀ j9 : Nat, j9 ∉ ([0, 1, 2, 3, 4, 5, 6, 7] : List Nat) → u j9 = M j9) ∧ (u = f_y_wow1 n dl ov av bv M)) (fun (u : (Nat → Nat → Int64)) (t : State) => va_P (dC, dI) vwCl (xW h a e cI cJ cO cE L I u J n cap fE sd si sa dl) t.heap ∧ va_D (va_A (xW h a e cI cJ cO cE L I M J n cap fE sd si sa dl) sz) (xW h a e cI cJ cO cE L I u J n cap fE sd si sa dl)) (va_A (xW h a e cI cJ cO cE L I M J n cap fE sd si sa dl) sz)) 0 0 (va_A (xW h a e cI cJ cO cE L I M J n cap fE sd si sa dl) sz) := by
  have hn : n ≤ 40 := hX0.1.1
  have hX := hX0
  have hUM : ∀ j9 : Nat, j9 ∉ ([0, 1, 2, 3, 4, 5, 6, 7] : List Nat) → M j9 = M j9 := fun _ _ => rfl
  refine Met.ofW (cc := cX5_writeOneWay) (maxL := 5) (ret := none) (by decide) rfl ?_
  intro p e9 s m args below meth c s₁ B hml hv
  obtain ⟨rfl, hsz, hP, hK, hD0, hN⟩ := hv
  have hx := B.exec
  have hb := B.bytes
  have hr := B.returns
  have hts := atoms_spec (ws := wq_y_wow1) B.pre
  have hown : s.vm.findClass RX5 = some m.cls := findClass_of_methodNamed B.named
  have hlocks := B.notSynchronized
  subst hsz
  have hD := hD0.self (sz := s.heap.size)
  generalize hAe : va_A (xW h a e cI cJ cO cE L I M J n cap fE sd si sa dl) s.heap.size = A at hD ⊢
  have hA : ∀ q : Nat, s.heap.size ≤ q → A q := fun q h => by rw [← hAe]; exact Or.inr h
  have hS : va_S A s.heap s.heap [] := va_S.rf
  have hl := lv_entry ([.ref (a 1), .int (nI ov), .int (nI av), .int (nI bv), .int 1]) (n := 5) (Nat.le_of_ble_eq_true rfl)
  rw [lg_entry_eq]
  generalize (lg_sl ([.ref (a 1), .int (nI ov), .int (nI av), .int (nI bv), .int 1]) ++ List.replicate (5 - (lg_sl ([.ref (a 1), .int (nI ov), .int (nI av), .int (nI bv), .int 1])).length) Slot.unset).toArray = ls at hl ⊢
  have hl : lv_has ls 5 [(0, .ref (a 1)), (1, .int (nI ov)), (2, .int (nI av)), (3, .int (nI bv)), (4, .int 1)] := hl
  obtain ⟨RES, hR0⟩ : ∃ R9, R9 = f_y_wow1 n dl ov av bv M := ⟨_, rfl⟩
  have hZ9 := hR0
  unfold f_y_wow1 at hZ9
  refine lv_aload_n hx hb dX5_writeOneWay_0 rfl (lv_at hl 0 rfl) ?_
  refine va_get (D := (dC, dI)) (ci := 6) (v := .ref (a 10)) (C := RX5) (T := TX5) (N := 3) hx hb hts in_y_wow1_X5 hown hK hP 2 rfl rfl 0 (by decide) (hts (.fieldLink RX5 11 "ServiceTree$Relations" "froms" "[[J") (by decide +kernel)) (fun _ h9 => h9) rfl dX5_writeOneWay_1 ?_
  refine lv_iload_n hx hb dX5_writeOneWay_4 rfl (lv_at hl 1 rfl) ?_
  refine p1_aldA (n := 4) (f := fun i => if i < 4 then some (a (20 + i)) else none) hx hb hK hP 3 2 rfl rfl (vp_in_nI (n := ov) (by omega) (by decide)) dX5_writeOneWay_5 ?_
  refine p1_topr (v := .ref (a (20 + ov))) (by rw [nI_clamp (by omega), if_pos (by omega)]; rfl) ?_
  refine lv_iload_n hx hb dX5_writeOneWay_6 rfl (lv_at hl 2 rfl) ?_
  refine lv_iload hx hb dX5_writeOneWay_7 (lv_at hl 4 rfl) ?_
  refine lv_if_eq (tgt := 28) hx hb dX5_writeOneWay_9 (by decide) (fun c9 => absurd c9 (by decide)) (fun _ => ?_)
  refine lv_aload_n hx hb dX5_writeOneWay_12 rfl (lv_at hl 0 rfl) ?_
  refine va_get (D := (dC, dI)) (ci := 6) (v := .ref (a 10)) (C := RX5) (T := TX5) (N := 3) hx hb hts in_y_wow1_X5 hown hK hP 2 rfl rfl 0 (by decide) (hts (.fieldLink RX5 11 "ServiceTree$Relations" "froms" "[[J") (by decide +kernel)) (fun _ h9 => h9) rfl dX5_writeOneWay_13 ?_
  refine lv_iload_n hx hb dX5_writeOneWay_16 rfl (lv_at hl 1 rfl) ?_
  refine p1_aldA (n := 4) (f := fun i => if i < 4 then some (a (20 + i)) else none) hx hb hK hP 3 2 rfl rfl (vp_in_nI (n := ov) (by omega) (by decide)) dX5_writeOneWay_17 ?_
  refine p1_topr (v := .ref (a (20 + ov))) (by rw [nI_clamp (by omega), if_pos (by omega)]; rfl) ?_
  refine lv_iload_n hx hb dX5_writeOneWay_18 rfl (lv_at hl 2 rfl) ?_
  refine va_lald (n := 40) (f := M ov) hx hb hK hP (5 + ov) 1 (xAt_fr h a e cI cJ cO cE L I M J n cap fE sd si sa dl (o := ov) (by omega)) rfl (vp_in_nI (n := av) (by omega) (by omega)) dX5_writeOneWay_19 ?_
  refine lv_topl (fun x1 ex1 => ?_)
  replace hZ9 := bnd_s hZ9 ex1
  refine lv_iload_n hx hb dX5_writeOneWay_20 rfl (lv_at hl 3 rfl) ?_
  have hFc := mw_free hD hS hA
  refine va_calll (va_runSN (As := [.int (nI bv)]) (rest := [.long x1, .int (nI av), .ref (a (20 + ov))]) ⟨hx, hb, hml, hown, hts⟩ (c_y_only l dC dI h a e cI cJ cO cE L I M J n cap fE sd si sa dl (b) bv s.heap.size hX (by omega) ) ⟨va_cnB 1 hts wc_y_wow1_y_only_34 rfl rfl rfl (hN (.methodLinkNest RX5 34 yX8_only "ServiceTree") (by decide +kernel)) (hts (.initialized RX8) (by decide +kernel)) (by decide +kernel) ⟨Nat.le_of_ble_eq_true rfl, Nat.le_of_ble_eq_true rfl⟩, hts (.static yX8_only) (by decide +kernel), trivial⟩ ⟨fun a9 U g mk q => by obtain ⟨q0, q1, qP, qK, qD, qN⟩ := q; exact ⟨q0, q1, qP, va_K.moved (u := U) (U := U.calling g mk a9) (Vm.Alike.refl U.vm) qK, qD, pw_N.same (u := U) (U := U.calling g mk a9) rfl qN⟩, fun U hU hW => ⟨rfl, by rw [hU], by rw [hU]; exact hP, va_K.moved hW.alike hK, hD.weaken (fun _ _ _ _ => trivial), pw_N.warm hW hN⟩⟩ rfl rfl hl.1 rfl (lv_room (Nat.le_of_ble_eq_true rfl)) dX5_writeOneWay_21 ⟨Nat.le_of_ble_eq_true rfl, Nat.le_of_ble_eq_true rfl⟩) hS (fun q _ h => hFc q h) hFc (fun r2 u t H1 locs ht hvm hw hB hz1 hk1 hS => ?_)
  replace hP := hB.1
  rw [ht] at hP
  replace hD : va_D A (xW h a e cI cJ cO cE L I M J n cap fE sd si sa dl) := hB.2.weaken (fun _ q _ h9 => hFc q.1 h9)
  clear hB
  generalize H1 = H at hP hS ⊢
  replace hP : va_P (dC, dI) vwCl (xW h a e cI cJ cO cE L I M J n cap fE sd si sa dl) H := hP
  replace hw : r2 = f_y_only n dl bv  := hw
  replace hZ9 := bnd_s hZ9 hw
  refine lv_lor hx hb dX5_writeOneWay_24 ?_
  refine lv_topl (fun x3 ex3 => ?_)
  replace hZ9 := bnd_s hZ9 ex3
  refine lv_goto (tgt := 45) hx hb dX5_writeOneWay_25 (by decide) ?_
  refine va_last (n := 40) (f := M ov) hx hb hK hP hD hS (5 + ov) 1 (xAt_fr h a e cI cJ cO cE L I M J n cap fE sd si sa dl (o := ov) (by omega)) rfl (vp_in_nI (n := av) (by omega) (by omega)) dX5_writeOneWay_45 (fun H locs hP hD hS => ?_)
  rw [xM_fr h a e cI cJ cO cE L I M J n cap fE sd si sa dl (o := ov) (by omega)] at hP hD
  obtain ⟨M4, eM4⟩ : ∃ f9 : Nat → Nat → Int64, f9 = va_up M ov (vp_updL (M ov) (nI av).toNatClampNeg x3) := ⟨_, rfl⟩
  rw [← eM4] at hP hD
  replace hZ9 := bnd_s hZ9 eM4
  replace hUM : ∀ j9 : Nat, j9 ∉ ([0, 1, 2, 3, 4, 5, 6, 7] : List Nat) → M4 j9 = M j9 := by rw [eM4]; exact mw_up (by simp only [List.mem_cons, List.mem_nil_iff, or_false]; omega) hUM
  refine lv_aload_n hx hb dX5_writeOneWay_46 rfl (lv_at hl 0 rfl) ?_
  refine va_get (D := (dC, dI)) (ci := 6) (v := .ref (a 11)) (C := RX5) (T := TX5) (N := 3) hx hb hts in_y_wow1_X5 hown hK hP 2 rfl rfl 1 (by decide) (hts (.fieldLink RX5 16 "ServiceTree$Relations" "tos" "[[J") (by decide +kernel)) (fun _ h9 => h9) rfl dX5_writeOneWay_47 ?_
  refine lv_iload_n hx hb dX5_writeOneWay_50 rfl (lv_at hl 1 rfl) ?_
  refine p1_aldA (n := 4) (f := fun i => if i < 4 then some (a (24 + i)) else none) hx hb hK hP 4 2 rfl rfl (vp_in_nI (n := ov) (by omega) (by decide)) dX5_writeOneWay_51 ?_
  refine p1_topr (v := .ref (a (24 + ov))) (by rw [nI_clamp (by omega), if_pos (by omega)]; rfl) ?_
  refine lv_iload_n hx hb dX5_writeOneWay_52 rfl (lv_at hl 3 rfl) ?_
  refine lv_iload hx hb dX5_writeOneWay_53 (lv_at hl 4 rfl) ?_
  refine lv_if_eq (tgt := 74) hx hb dX5_writeOneWay_55 (by decide) (fun c9 => absurd c9 (by decide)) (fun _ => ?_)
  refine lv_aload_n hx hb dX5_writeOneWay_58 rfl (lv_at hl 0 rfl) ?_
  refine va_get (D := (dC, dI)) (ci := 6) (v := .ref (a 11)) (C := RX5) (T := TX5) (N := 3) hx hb hts in_y_wow1_X5 hown hK hP 2 rfl rfl 1 (by decide) (hts (.fieldLink RX5 16 "ServiceTree$Relations" "tos" "[[J") (by decide +kernel)) (fun _ h9 => h9) rfl dX5_writeOneWay_59 ?_
  refine lv_iload_n hx hb dX5_writeOneWay_62 rfl (lv_at hl 1 rfl) ?_
  refine p1_aldA (n := 4) (f := fun i => if i < 4 then some (a (24 + i)) else none) hx hb hK hP 4 2 rfl rfl (vp_in_nI (n := ov) (by omega) (by decide)) dX5_writeOneWay_63 ?_
  refine p1_topr (v := .ref (a (24 + ov))) (by rw [nI_clamp (by omega), if_pos (by omega)]; rfl) ?_
  refine lv_iload_n hx hb dX5_writeOneWay_64 rfl (lv_at hl 3 rfl) ?_
  refine va_lald (n := 40) (f := M4 (4 + ov)) hx hb hK hP (9 + ov) 1 (xAt_to h a e cI cJ cO cE L I M4 J n cap fE sd si sa dl (o := ov) (by omega)) rfl (vp_in_nI (n := bv) (by omega) (by omega)) dX5_writeOneWay_65 ?_
  refine lv_topl (fun x5 ex5 => ?_)
  replace hZ9 := bnd_s hZ9 ex5
  refine lv_iload_n hx hb dX5_writeOneWay_66 rfl (lv_at hl 2 rfl) ?_
  have hFc := mw_free hD hS hA
  refine va_calll (va_runSN (As := [.int (nI av)]) (rest := [.long x5, .int (nI bv), .ref (a (24 + ov))]) ⟨hx, hb, hml, hown, hts⟩ (c_y_only l dC dI h a e cI cJ cO cE L I M4 J n cap fE sd si sa dl (b) av H.size hX (by omega) ) ⟨va_cnB 1 hts wc_y_wow1_y_only_34 rfl rfl rfl (hN (.methodLinkNest RX5 34 yX8_only "ServiceTree") (by decide +kernel)) (hts (.initialized RX8) (by decide +kernel)) (by decide +kernel) ⟨Nat.le_of_ble_eq_true rfl, Nat.le_of_ble_eq_true rfl⟩, hts (.static yX8_only) (by decide +kernel), trivial⟩ ⟨fun a9 U g mk q => by obtain ⟨q0, q1, qP, qK, qD, qN⟩ := q; exact ⟨q0, q1, qP, va_K.moved (u := U) (U := U.calling g mk a9) (Vm.Alike.refl U.vm) qK, qD, pw_N.same (u := U) (U := U.calling g mk a9) rfl qN⟩, fun U hU hW => ⟨rfl, by rw [hU], by rw [hU]; exact hP, va_K.moved hW.alike hK, hD.weaken (fun _ _ _ _ => trivial), pw_N.warm hW hN⟩⟩ rfl rfl hl.1 rfl (lv_room (Nat.le_of_ble_eq_true rfl)) dX5_writeOneWay_67 ⟨Nat.le_of_ble_eq_true rfl, Nat.le_of_ble_eq_true rfl⟩) hS (fun q _ h => hFc q h) hFc (fun r6 u t H1 locs ht hvm hw hB hz1 hk1 hS => ?_)
  replace hP := hB.1
  rw [ht] at hP
  replace hD : va_D A (xW h a e cI cJ cO cE L I M4 J n cap fE sd si sa dl) := hB.2.weaken (fun _ q _ h9 => hFc q.1 h9)
  clear hB
  generalize H1 = H at hP hS ⊢
  replace hP : va_P (dC, dI) vwCl (xW h a e cI cJ cO cE L I M4 J n cap fE sd si sa dl) H := hP
  replace hw : r6 = f_y_only n dl av  := hw
  replace hZ9 := bnd_s hZ9 hw
  refine lv_lor hx hb dX5_writeOneWay_70 ?_
  refine lv_topl (fun x7 ex7 => ?_)
  replace hZ9 := bnd_s hZ9 ex7
  refine lv_goto (tgt := 91) hx hb dX5_writeOneWay_71 (by decide) ?_
  refine va_last (n := 40) (f := M4 (4 + ov)) hx hb hK hP hD hS (9 + ov) 1 (xAt_to h a e cI cJ cO cE L I M4 J n cap fE sd si sa dl (o := ov) (by omega)) rfl (vp_in_nI (n := bv) (by omega) (by omega)) dX5_writeOneWay_91 (fun H locs hP hD hS => ?_)
  rw [xM_to h a e cI cJ cO cE L I M4 J n cap fE sd si sa dl (o := ov) (by omega)] at hP hD
  obtain ⟨M8, eM8⟩ : ∃ f9 : Nat → Nat → Int64, f9 = va_up M4 (4 + ov) (vp_updL (M4 (4 + ov)) (nI bv).toNatClampNeg x7) := ⟨_, rfl⟩
  rw [← eM8] at hP hD
  replace hZ9 := bnd_s hZ9 eM8
  replace hUM : ∀ j9 : Nat, j9 ∉ ([0, 1, 2, 3, 4, 5, 6, 7] : List Nat) → M8 j9 = M j9 := by rw [eM8]; exact mw_up (by simp only [List.mem_cons, List.mem_nil_iff, or_false]; omega) hUM
  exact W.vret hx hb hr (fun t ht hW => ⟨⟨M8, rfl, ⟨hX.mono (by omega), hUM, hZ9.symm.trans hR0⟩, by rw [ht]; exact hP, hD⟩, hS.F ht⟩) hS.2.2 dX5_writeOneWay_92
def f_y_wow0 (n : Nat) (dl : Nat → Nat) (ov : Nat) (av : Nat) (bv : Nat) (M : Nat → Nat → Int64) : (Nat → Nat → Int64) := bnd (M ov (nI av).toNatClampNeg) (fun (x1 : Int64) => bnd (f_y_only n dl bv ) (fun (r2 : Int64) => bnd (r2 ^^^ (-1 : Int64)) (fun (x3 : Int64) => bnd (x1 &&& x3) (fun (x4 : Int64) => bnd (va_up M ov (vp_updL (M ov) (nI av).toNatClampNeg x4)) (fun (M5 : Nat → Nat → Int64) => bnd (M5 (4 + ov) (nI bv).toNatClampNeg) (fun (x6 : Int64) => bnd (f_y_only n dl av ) (fun (r7 : Int64) => bnd (r7 ^^^ (-1 : Int64)) (fun (x8 : Int64) => bnd (x6 &&& x8) (fun (x9 : Int64) => bnd (va_up M5 (4 + ov) (vp_updL (M5 (4 + ov)) (nI bv).toNatClampNeg x9)) (fun (M10 : Nat → Nat → Int64) => (M10)))))))))))
def wq_y_wow0 : List Cond := ([.code yX5_writeOneWay cX5_writeOneWay 5 none, .fieldLink RX5 11 "ServiceTree$Relations" "froms" "[[J", .initialized RX8, .static yX8_only, .constantLong RX5 38 (-1), .fieldLink RX5 16 "ServiceTree$Relations" "tos" "[[J"] : List Cond) ++ (wsX50 ++ (wq_y_only))
theorem in_y_wow0_X5 : ∀ w ∈ wsX50, w ∈ wq_y_wow0 := fun _ h => List.mem_append_right _ (List.mem_append_left _ (h))
set_option maxRecDepth 20000 in
theorem wi_y_wow0 : ∀ w ∈ wq_y_wow0, w ∈ lw_tbl := List.forall_mem_append.mpr ⟨(wix [506, 122, 60, 443, 508, 123] rfl), List.forall_mem_append.mpr ⟨inKX5, wi_y_only⟩⟩
set_option maxRecDepth 20000 in
theorem wg_y_wow0 : GoodIn wq_y_wow0 wq_y_wow0 := goodIn_sub (fun _ h => h) (by decide +kernel)
theorem wc_y_wow0_y_only_34 : GoodIn wq_y_wow0 wq_y_only := (fun w h => ⟨List.mem_append_right _ (List.mem_append_right _ (h)), (wg_y_only w h).2⟩)
def rm_y_wow0 : Room := { frames := 1, cells := 0, slots := 0, locals := 20 }
set_option maxHeartbeats 4000000 in
set_option maxRecDepth 100000 in
theorem c_y_wow0 (l : Launch) (dC : Nat → ClassId) (dI : Nat → Nat → Nat) (h : Nat) (a : Nat → Nat) (e : Nat) (cI cJ cO cE : ClassId) (L : Nat → Int64) (I : Nat → Int32) (M : Nat → Nat → Int64) (J : Nat → Nat → Int32) (n cap : Nat) (fE : Nat → Option Nat) (sd : Nat → Nat → Nat) (si : Nat → Nat → Int32) (sa : Nat → Nat → Nat → Int32) (dl : Nat → Nat) (b : Nat) (ov : Nat) (av : Nat) (bv : Nat) (sz : Nat) (hX0 : InvX n cap fE sd dl b I J si) (hb0 : b + 0 < 2147483648) (hp0 : ov < 4) (hp1 : av < 40) (hp2 : bv < 40) : Met l yX5_writeOneWay wq_y_wow0 rm_y_wow0 (va_Pc [.ref (a 1), .int (nI ov), .int (nI av), .int (nI bv), .int 0] (fun U => U.heap.size = sz ∧ va_P (dC, dI) vwCl (xW h a e cI cJ cO cE L I M J n cap fE sd si sa dl) U.heap ∧ va_K (dC, dI) vwCl (xT cI cJ cO cE) U ∧ va_D (fun _ => True) (xW h a e cI cJ cO cE L I M J n cap fE sd si sa dl) ∧ pw_N U)) (va_Qv (fun (u : (Nat → Nat → Int64)) => InvX n cap fE sd dl (b + 0) I J si ∧ (∀ j9 : Nat, j9 ∉ ([0, 1, 2, 3, 4, 5, 6, 7] : List Nat) → u j9 = M j9) ∧ (u = f_y_wow0 n dl ov av bv M)) (fun (u : (Nat → Nat → Int64)) (t : State) => va_P (dC, dI) vwCl (xW h a e cI cJ cO cE L I u J n cap fE sd si sa dl) t.heap ∧ va_D (va_A (xW h a e cI cJ cO cE L I M J n cap fE sd si sa dl) sz) (xW h a e cI cJ cO cE L I u J n cap fE sd si sa dl)) (va_A (xW h a e cI cJ cO cE L I M J n cap fE sd si sa dl) sz)) 0 0 (va_A (xW h a e cI cJ cO cE L I M J n cap fE sd si sa dl) sz) := by
  have hn : n ≤ 40 := hX0.1.1
  have hX := hX0
  have hUM : ∀ j9 : Nat, j9 ∉ ([0, 1, 2, 3, 4, 5, 6, 7] : List Nat) → M j9 = M j9 := fun _ _ => rfl
  refine Met.ofW (cc := cX5_writeOneWay) (maxL := 5) (ret := none) (by decide) rfl ?_
  intro p e9 s m args below meth c s₁ B hml hv
  obtain ⟨rfl, hsz, hP, hK, hD0, hN⟩ := hv
  have hx := B.exec
  have hb := B.bytes
  have hr := B.returns
  have hts := atoms_spec (ws := wq_y_wow0) B.pre
  have hown : s.vm.findClass RX5 = some m.cls := findClass_of_methodNamed B.named
  have hlocks := B.notSynchronized
  subst hsz
  have hD := hD0.self (sz := s.heap.size)
  generalize hAe : va_A (xW h a e cI cJ cO cE L I M J n cap fE sd si sa dl) s.heap.size = A at hD ⊢
  have hA : ∀ q : Nat, s.heap.size ≤ q → A q := fun q h => by rw [← hAe]; exact Or.inr h
  have hS : va_S A s.heap s.heap [] := va_S.rf
  have hl := lv_entry ([.ref (a 1), .int (nI ov), .int (nI av), .int (nI bv), .int 0]) (n := 5) (Nat.le_of_ble_eq_true rfl)
  rw [lg_entry_eq]
  generalize (lg_sl ([.ref (a 1), .int (nI ov), .int (nI av), .int (nI bv), .int 0]) ++ List.replicate (5 - (lg_sl ([.ref (a 1), .int (nI ov), .int (nI av), .int (nI bv), .int 0])).length) Slot.unset).toArray = ls at hl ⊢
  have hl : lv_has ls 5 [(0, .ref (a 1)), (1, .int (nI ov)), (2, .int (nI av)), (3, .int (nI bv)), (4, .int 0)] := hl
  obtain ⟨RES, hR0⟩ : ∃ R9, R9 = f_y_wow0 n dl ov av bv M := ⟨_, rfl⟩
  have hZ9 := hR0
  unfold f_y_wow0 at hZ9
  refine lv_aload_n hx hb dX5_writeOneWay_0 rfl (lv_at hl 0 rfl) ?_
  refine va_get (D := (dC, dI)) (ci := 6) (v := .ref (a 10)) (C := RX5) (T := TX5) (N := 3) hx hb hts in_y_wow0_X5 hown hK hP 2 rfl rfl 0 (by decide) (hts (.fieldLink RX5 11 "ServiceTree$Relations" "froms" "[[J") (by decide +kernel)) (fun _ h9 => h9) rfl dX5_writeOneWay_1 ?_
  refine lv_iload_n hx hb dX5_writeOneWay_4 rfl (lv_at hl 1 rfl) ?_
  refine p1_aldA (n := 4) (f := fun i => if i < 4 then some (a (20 + i)) else none) hx hb hK hP 3 2 rfl rfl (vp_in_nI (n := ov) (by omega) (by decide)) dX5_writeOneWay_5 ?_
  refine p1_topr (v := .ref (a (20 + ov))) (by rw [nI_clamp (by omega), if_pos (by omega)]; rfl) ?_
  refine lv_iload_n hx hb dX5_writeOneWay_6 rfl (lv_at hl 2 rfl) ?_
  refine lv_iload hx hb dX5_writeOneWay_7 (lv_at hl 4 rfl) ?_
  refine lv_if_eq (tgt := 28) hx hb dX5_writeOneWay_9 (by decide) (fun _ => ?_) (fun c9 => absurd (by decide) c9)
  refine lv_aload_n hx hb dX5_writeOneWay_28 rfl (lv_at hl 0 rfl) ?_
  refine va_get (D := (dC, dI)) (ci := 6) (v := .ref (a 10)) (C := RX5) (T := TX5) (N := 3) hx hb hts in_y_wow0_X5 hown hK hP 2 rfl rfl 0 (by decide) (hts (.fieldLink RX5 11 "ServiceTree$Relations" "froms" "[[J") (by decide +kernel)) (fun _ h9 => h9) rfl dX5_writeOneWay_29 ?_
  refine lv_iload_n hx hb dX5_writeOneWay_32 rfl (lv_at hl 1 rfl) ?_
  refine p1_aldA (n := 4) (f := fun i => if i < 4 then some (a (20 + i)) else none) hx hb hK hP 3 2 rfl rfl (vp_in_nI (n := ov) (by omega) (by decide)) dX5_writeOneWay_33 ?_
  refine p1_topr (v := .ref (a (20 + ov))) (by rw [nI_clamp (by omega), if_pos (by omega)]; rfl) ?_
  refine lv_iload_n hx hb dX5_writeOneWay_34 rfl (lv_at hl 2 rfl) ?_
  refine va_lald (n := 40) (f := M ov) hx hb hK hP (5 + ov) 1 (xAt_fr h a e cI cJ cO cE L I M J n cap fE sd si sa dl (o := ov) (by omega)) rfl (vp_in_nI (n := av) (by omega) (by omega)) dX5_writeOneWay_35 ?_
  refine lv_topl (fun x1 ex1 => ?_)
  replace hZ9 := bnd_s hZ9 ex1
  refine lv_iload_n hx hb dX5_writeOneWay_36 rfl (lv_at hl 3 rfl) ?_
  have hFc := mw_free hD hS hA
  refine va_calll (va_runSN (As := [.int (nI bv)]) (rest := [.long x1, .int (nI av), .ref (a (20 + ov))]) ⟨hx, hb, hml, hown, hts⟩ (c_y_only l dC dI h a e cI cJ cO cE L I M J n cap fE sd si sa dl (b) bv s.heap.size hX (by omega) ) ⟨va_cnB 1 hts wc_y_wow0_y_only_34 rfl rfl rfl (hN (.methodLinkNest RX5 34 yX8_only "ServiceTree") (by decide +kernel)) (hts (.initialized RX8) (by decide +kernel)) (by decide +kernel) ⟨Nat.le_of_ble_eq_true rfl, Nat.le_of_ble_eq_true rfl⟩, hts (.static yX8_only) (by decide +kernel), trivial⟩ ⟨fun a9 U g mk q => by obtain ⟨q0, q1, qP, qK, qD, qN⟩ := q; exact ⟨q0, q1, qP, va_K.moved (u := U) (U := U.calling g mk a9) (Vm.Alike.refl U.vm) qK, qD, pw_N.same (u := U) (U := U.calling g mk a9) rfl qN⟩, fun U hU hW => ⟨rfl, by rw [hU], by rw [hU]; exact hP, va_K.moved hW.alike hK, hD.weaken (fun _ _ _ _ => trivial), pw_N.warm hW hN⟩⟩ rfl rfl hl.1 rfl (lv_room (Nat.le_of_ble_eq_true rfl)) dX5_writeOneWay_37 ⟨Nat.le_of_ble_eq_true rfl, Nat.le_of_ble_eq_true rfl⟩) hS (fun q _ h => hFc q h) hFc (fun r2 u t H1 locs ht hvm hw hB hz1 hk1 hS => ?_)
  replace hP := hB.1
  rw [ht] at hP
  replace hD : va_D A (xW h a e cI cJ cO cE L I M J n cap fE sd si sa dl) := hB.2.weaken (fun _ q _ h9 => hFc q.1 h9)
  clear hB
  generalize H1 = H at hP hS ⊢
  replace hP : va_P (dC, dI) vwCl (xW h a e cI cJ cO cE L I M J n cap fE sd si sa dl) H := hP
  replace hw : r2 = f_y_only n dl bv  := hw
  replace hZ9 := bnd_s hZ9 hw
  refine lv_ldc2 (v := (-1)) hx hb hown (hts (.constantLong RX5 38 (-1)) (by decide +kernel)) dX5_writeOneWay_40 ?_
  refine lv_lxor hx hb dX5_writeOneWay_43 ?_
  refine lv_topl (fun x3 ex3 => ?_)
  replace hZ9 := bnd_s hZ9 ex3
  refine lv_land hx hb dX5_writeOneWay_44 ?_
  refine lv_topl (fun x4 ex4 => ?_)
  replace hZ9 := bnd_s hZ9 ex4
  refine va_last (n := 40) (f := M ov) hx hb hK hP hD hS (5 + ov) 1 (xAt_fr h a e cI cJ cO cE L I M J n cap fE sd si sa dl (o := ov) (by omega)) rfl (vp_in_nI (n := av) (by omega) (by omega)) dX5_writeOneWay_45 (fun H locs hP hD hS => ?_)
  rw [xM_fr h a e cI cJ cO cE L I M J n cap fE sd si sa dl (o := ov) (by omega)] at hP hD
  obtain ⟨M5, eM5⟩ : ∃ f9 : Nat → Nat → Int64, f9 = va_up M ov (vp_updL (M ov) (nI av).toNatClampNeg x4) := ⟨_, rfl⟩
  rw [← eM5] at hP hD
  replace hZ9 := bnd_s hZ9 eM5
  replace hUM : ∀ j9 : Nat, j9 ∉ ([0, 1, 2, 3, 4, 5, 6, 7] : List Nat) → M5 j9 = M j9 := by rw [eM5]; exact mw_up (by simp only [List.mem_cons, List.mem_nil_iff, or_false]; omega) hUM
  refine lv_aload_n hx hb dX5_writeOneWay_46 rfl (lv_at hl 0 rfl) ?_
  refine va_get (D := (dC, dI)) (ci := 6) (v := .ref (a 11)) (C := RX5) (T := TX5) (N := 3) hx hb hts in_y_wow0_X5 hown hK hP 2 rfl rfl 1 (by decide) (hts (.fieldLink RX5 16 "ServiceTree$Relations" "tos" "[[J") (by decide +kernel)) (fun _ h9 => h9) rfl dX5_writeOneWay_47 ?_
  refine lv_iload_n hx hb dX5_writeOneWay_50 rfl (lv_at hl 1 rfl) ?_
  refine p1_aldA (n := 4) (f := fun i => if i < 4 then some (a (24 + i)) else none) hx hb hK hP 4 2 rfl rfl (vp_in_nI (n := ov) (by omega) (by decide)) dX5_writeOneWay_51 ?_
  refine p1_topr (v := .ref (a (24 + ov))) (by rw [nI_clamp (by omega), if_pos (by omega)]; rfl) ?_
  refine lv_iload_n hx hb dX5_writeOneWay_52 rfl (lv_at hl 3 rfl) ?_
  refine lv_iload hx hb dX5_writeOneWay_53 (lv_at hl 4 rfl) ?_
  refine lv_if_eq (tgt := 74) hx hb dX5_writeOneWay_55 (by decide) (fun _ => ?_) (fun c9 => absurd (by decide) c9)
  refine lv_aload_n hx hb dX5_writeOneWay_74 rfl (lv_at hl 0 rfl) ?_
  refine va_get (D := (dC, dI)) (ci := 6) (v := .ref (a 11)) (C := RX5) (T := TX5) (N := 3) hx hb hts in_y_wow0_X5 hown hK hP 2 rfl rfl 1 (by decide) (hts (.fieldLink RX5 16 "ServiceTree$Relations" "tos" "[[J") (by decide +kernel)) (fun _ h9 => h9) rfl dX5_writeOneWay_75 ?_
  refine lv_iload_n hx hb dX5_writeOneWay_78 rfl (lv_at hl 1 rfl) ?_
  refine p1_aldA (n := 4) (f := fun i => if i < 4 then some (a (24 + i)) else none) hx hb hK hP 4 2 rfl rfl (vp_in_nI (n := ov) (by omega) (by decide)) dX5_writeOneWay_79 ?_
  refine p1_topr (v := .ref (a (24 + ov))) (by rw [nI_clamp (by omega), if_pos (by omega)]; rfl) ?_
  refine lv_iload_n hx hb dX5_writeOneWay_80 rfl (lv_at hl 3 rfl) ?_
  refine va_lald (n := 40) (f := M5 (4 + ov)) hx hb hK hP (9 + ov) 1 (xAt_to h a e cI cJ cO cE L I M5 J n cap fE sd si sa dl (o := ov) (by omega)) rfl (vp_in_nI (n := bv) (by omega) (by omega)) dX5_writeOneWay_81 ?_
  refine lv_topl (fun x6 ex6 => ?_)
  replace hZ9 := bnd_s hZ9 ex6
  refine lv_iload_n hx hb dX5_writeOneWay_82 rfl (lv_at hl 2 rfl) ?_
  have hFc := mw_free hD hS hA
  refine va_calll (va_runSN (As := [.int (nI av)]) (rest := [.long x6, .int (nI bv), .ref (a (24 + ov))]) ⟨hx, hb, hml, hown, hts⟩ (c_y_only l dC dI h a e cI cJ cO cE L I M5 J n cap fE sd si sa dl (b) av H.size hX (by omega) ) ⟨va_cnB 1 hts wc_y_wow0_y_only_34 rfl rfl rfl (hN (.methodLinkNest RX5 34 yX8_only "ServiceTree") (by decide +kernel)) (hts (.initialized RX8) (by decide +kernel)) (by decide +kernel) ⟨Nat.le_of_ble_eq_true rfl, Nat.le_of_ble_eq_true rfl⟩, hts (.static yX8_only) (by decide +kernel), trivial⟩ ⟨fun a9 U g mk q => by obtain ⟨q0, q1, qP, qK, qD, qN⟩ := q; exact ⟨q0, q1, qP, va_K.moved (u := U) (U := U.calling g mk a9) (Vm.Alike.refl U.vm) qK, qD, pw_N.same (u := U) (U := U.calling g mk a9) rfl qN⟩, fun U hU hW => ⟨rfl, by rw [hU], by rw [hU]; exact hP, va_K.moved hW.alike hK, hD.weaken (fun _ _ _ _ => trivial), pw_N.warm hW hN⟩⟩ rfl rfl hl.1 rfl (lv_room (Nat.le_of_ble_eq_true rfl)) dX5_writeOneWay_83 ⟨Nat.le_of_ble_eq_true rfl, Nat.le_of_ble_eq_true rfl⟩) hS (fun q _ h => hFc q h) hFc (fun r7 u t H1 locs ht hvm hw hB hz1 hk1 hS => ?_)
  replace hP := hB.1
  rw [ht] at hP
  replace hD : va_D A (xW h a e cI cJ cO cE L I M5 J n cap fE sd si sa dl) := hB.2.weaken (fun _ q _ h9 => hFc q.1 h9)
  clear hB
  generalize H1 = H at hP hS ⊢
  replace hP : va_P (dC, dI) vwCl (xW h a e cI cJ cO cE L I M5 J n cap fE sd si sa dl) H := hP
  replace hw : r7 = f_y_only n dl av  := hw
  replace hZ9 := bnd_s hZ9 hw
  refine lv_ldc2 (v := (-1)) hx hb hown (hts (.constantLong RX5 38 (-1)) (by decide +kernel)) dX5_writeOneWay_86 ?_
  refine lv_lxor hx hb dX5_writeOneWay_89 ?_
  refine lv_topl (fun x8 ex8 => ?_)
  replace hZ9 := bnd_s hZ9 ex8
  refine lv_land hx hb dX5_writeOneWay_90 ?_
  refine lv_topl (fun x9 ex9 => ?_)
  replace hZ9 := bnd_s hZ9 ex9
  refine va_last (n := 40) (f := M5 (4 + ov)) hx hb hK hP hD hS (9 + ov) 1 (xAt_to h a e cI cJ cO cE L I M5 J n cap fE sd si sa dl (o := ov) (by omega)) rfl (vp_in_nI (n := bv) (by omega) (by omega)) dX5_writeOneWay_91 (fun H locs hP hD hS => ?_)
  rw [xM_to h a e cI cJ cO cE L I M5 J n cap fE sd si sa dl (o := ov) (by omega)] at hP hD
  obtain ⟨M10, eM10⟩ : ∃ f9 : Nat → Nat → Int64, f9 = va_up M5 (4 + ov) (vp_updL (M5 (4 + ov)) (nI bv).toNatClampNeg x9) := ⟨_, rfl⟩
  rw [← eM10] at hP hD
  replace hZ9 := bnd_s hZ9 eM10
  replace hUM : ∀ j9 : Nat, j9 ∉ ([0, 1, 2, 3, 4, 5, 6, 7] : List Nat) → M10 j9 = M j9 := by rw [eM10]; exact mw_up (by simp only [List.mem_cons, List.mem_nil_iff, or_false]; omega) hUM
  exact W.vret hx hb hr (fun t ht hW => ⟨⟨M10, rfl, ⟨hX.mono (by omega), hUM, hZ9.symm.trans hR0⟩, by rw [ht]; exact hP, hD⟩, hS.F ht⟩) hS.2.2 dX5_writeOneWay_92
def f_y_write1 (n : Nat) (dl : Nat → Nat) (ov : Nat) (av : Nat) (bv : Nat) (M : Nat → Nat → Int64) : (Nat → Nat → Int64) := bnd (f_y_wow1 n dl ov av bv M) (fun (M2 : Nat → Nat → Int64) => if ov = 3 then (bnd (f_y_wow1 n dl ov bv av M2) (fun (M5 : Nat → Nat → Int64) => (M5))) else ((M2)))
def wq_y_write1 : List Cond := ([.code yX5_write cX5_write 5 none, .methodLink RX5 31 yX5_writeOneWay, .instanceMethod yX5_writeOneWay, .selects RX5 yX5_writeOneWay yX5_writeOneWay, .initialized RX5] : List Cond) ++ (wq_y_wow1)
set_option maxRecDepth 20000 in
theorem wi_y_write1 : ∀ w ∈ wq_y_write1, w ∈ lw_tbl := List.forall_mem_append.mpr ⟨(wix [502, 503, 505, 6, 64] rfl), wi_y_wow1⟩
set_option maxRecDepth 20000 in
theorem wg_y_write1 : GoodIn wq_y_write1 wq_y_write1 := goodIn_sub (fun _ h => h) (by decide +kernel)
set_option maxRecDepth 20000 in
theorem wc_y_write1_y_wow1_31 : GoodIn wq_y_write1 (wsV RX5 31 RX5 yX5_writeOneWay wq_y_wow1) := goodIn_app (goodIn_of _ (by decide +kernel)) (fun w h => ⟨List.mem_append_right _ (h), (wg_y_wow1 w h).2⟩)
def rm_y_write1 : Room := { frames := 2, cells := 0, slots := 0, locals := 44 }
set_option maxHeartbeats 4000000 in
set_option maxRecDepth 100000 in
theorem c_y_write1 (l : Launch) (dC : Nat → ClassId) (dI : Nat → Nat → Nat) (h : Nat) (a : Nat → Nat) (e : Nat) (cI cJ cO cE : ClassId) (L : Nat → Int64) (I : Nat → Int32) (M : Nat → Nat → Int64) (J : Nat → Nat → Int32) (n cap : Nat) (fE : Nat → Option Nat) (sd : Nat → Nat → Nat) (si : Nat → Nat → Int32) (sa : Nat → Nat → Nat → Int32) (dl : Nat → Nat) (b : Nat) (ov : Nat) (av : Nat) (bv : Nat) (sz : Nat) (hX0 : InvX n cap fE sd dl b I J si) (hb0 : b + 0 < 2147483648) (hp0 : ov < 4) (hp1 : av < 40) (hp2 : bv < 40) : Met l yX5_write wq_y_write1 rm_y_write1 (va_Pc [.ref (a 1), .int (nI ov), .int (nI av), .int (nI bv), .int 1] (fun U => U.heap.size = sz ∧ va_P (dC, dI) vwCl (xW h a e cI cJ cO cE L I M J n cap fE sd si sa dl) U.heap ∧ va_K (dC, dI) vwCl (xT cI cJ cO cE) U ∧ va_D (fun _ => True) (xW h a e cI cJ cO cE L I M J n cap fE sd si sa dl) ∧ pw_N U)) (va_Qv (fun (u : (Nat → Nat → Int64)) => InvX n cap fE sd dl (b + 0) I J si ∧ (∀ j9 : Nat, j9 ∉ ([0, 1, 2, 3, 4, 5, 6, 7] : List Nat) → u j9 = M j9) ∧ (u = f_y_write1 n dl ov av bv M)) (fun (u : (Nat → Nat → Int64)) (t : State) => va_P (dC, dI) vwCl (xW h a e cI cJ cO cE L I u J n cap fE sd si sa dl) t.heap ∧ va_D (va_A (xW h a e cI cJ cO cE L I M J n cap fE sd si sa dl) sz) (xW h a e cI cJ cO cE L I u J n cap fE sd si sa dl)) (va_A (xW h a e cI cJ cO cE L I M J n cap fE sd si sa dl) sz)) 0 0 (va_A (xW h a e cI cJ cO cE L I M J n cap fE sd si sa dl) sz) := by
  have hn : n ≤ 40 := hX0.1.1
  have hX := hX0
  have hUM : ∀ j9 : Nat, j9 ∉ ([0, 1, 2, 3, 4, 5, 6, 7] : List Nat) → M j9 = M j9 := fun _ _ => rfl
  refine Met.ofW (cc := cX5_write) (maxL := 5) (ret := none) (by decide) rfl ?_
  intro p e9 s m args below meth c s₁ B hml hv
  obtain ⟨rfl, hsz, hP, hK, hD0, hN⟩ := hv
  have hx := B.exec
  have hb := B.bytes
  have hr := B.returns
  have hts := atoms_spec (ws := wq_y_write1) B.pre
  have hown : s.vm.findClass RX5 = some m.cls := findClass_of_methodNamed B.named
  have hlocks := B.notSynchronized
  subst hsz
  have hD := hD0.self (sz := s.heap.size)
  generalize hAe : va_A (xW h a e cI cJ cO cE L I M J n cap fE sd si sa dl) s.heap.size = A at hD ⊢
  have hA : ∀ q : Nat, s.heap.size ≤ q → A q := fun q h => by rw [← hAe]; exact Or.inr h
  have hS : va_S A s.heap s.heap [] := va_S.rf
  have hl := lv_entry ([.ref (a 1), .int (nI ov), .int (nI av), .int (nI bv), .int 1]) (n := 5) (Nat.le_of_ble_eq_true rfl)
  rw [lg_entry_eq]
  generalize (lg_sl ([.ref (a 1), .int (nI ov), .int (nI av), .int (nI bv), .int 1]) ++ List.replicate (5 - (lg_sl ([.ref (a 1), .int (nI ov), .int (nI av), .int (nI bv), .int 1])).length) Slot.unset).toArray = ls at hl ⊢
  have hl : lv_has ls 5 [(0, .ref (a 1)), (1, .int (nI ov)), (2, .int (nI av)), (3, .int (nI bv)), (4, .int 1)] := hl
  obtain ⟨RES, hR0⟩ : ∃ R9, R9 = f_y_write1 n dl ov av bv M := ⟨_, rfl⟩
  have hZ9 := hR0
  unfold f_y_write1 at hZ9
  refine lv_aload_n hx hb dX5_write_0 rfl (lv_at hl 0 rfl) ?_
  refine lv_iload_n hx hb dX5_write_1 rfl (lv_at hl 1 rfl) ?_
  refine lv_iload_n hx hb dX5_write_2 rfl (lv_at hl 2 rfl) ?_
  refine lv_iload_n hx hb dX5_write_3 rfl (lv_at hl 3 rfl) ?_
  refine lv_iload hx hb dX5_write_4 (lv_at hl 4 rfl) ?_
  have hFc := mw_free hD hS hA
  refine va_callv (va_runV (As := [.int (nI ov), .int (nI av), .int (nI bv), .int 1]) (rest := []) ⟨hx, hb, hml, hown, hts⟩ (c_y_wow1 l dC dI h a e cI cJ cO cE L I M J n cap fE sd si sa dl (b) ov av bv s.heap.size hX (by omega) (by omega) (by omega) (by omega)) (cwV 4 hts wc_y_write1_y_wow1_31 rfl rfl rfl (by decide +kernel) ⟨Nat.le_of_ble_eq_true rfl, Nat.le_of_ble_eq_true rfl⟩) ⟨fun a9 U g mk q => by obtain ⟨q0, q1, qP, qK, qD, qN⟩ := q; exact ⟨q0, q1, qP, va_K.moved (u := U) (U := U.calling g mk a9) (Vm.Alike.refl U.vm) qK, qD, pw_N.same (u := U) (U := U.calling g mk a9) rfl qN⟩, va_recv hK hP (ci := 6) (q0 := 2) rfl rfl, fun U hU hW => ⟨rfl, by rw [hU], by rw [hU]; exact hP, va_K.moved hW.alike hK, hD.weaken (fun _ _ _ _ => trivial), pw_N.warm hW hN⟩⟩ rfl rfl hl.1 rfl (lv_room (Nat.le_of_ble_eq_true rfl)) dX5_write_6 ⟨Nat.le_of_ble_eq_true rfl, Nat.le_of_ble_eq_true rfl⟩) hS (fun q _ h => hFc q h) hFc (fun u t H1 locs ht hvm hw hB hz1 hk1 hS => ?_)
  obtain ⟨M2, rfl⟩ : ∃ z9, z9 = u := ⟨_, rfl⟩
  replace hP := hB.1
  rw [ht] at hP
  replace hD : va_D A (xW h a e cI cJ cO cE L I M2 J n cap fE sd si sa dl) := hB.2.weaken (fun _ q _ h9 => hFc q.1 h9)
  clear hB
  generalize H1 = H at hP hS ⊢
  replace hP : va_P (dC, dI) vwCl (xW h a e cI cJ cO cE L I M2 J n cap fE sd si sa dl) H := hP
  obtain ⟨hwX, whUM, hw⟩ := hw
  replace hX : InvX n cap fE sd dl (b) I J si := hwX
  replace hUM : ∀ j9 : Nat, j9 ∉ ([0, 1, 2, 3, 4, 5, 6, 7] : List Nat) → M2 j9 = M j9 := mw_tr (by decide) whUM hUM
  replace hw : M2 = f_y_wow1 n dl ov av bv M := hw
  replace hZ9 := bnd_s hZ9 hw
  refine lv_iload_n hx hb dX5_write_9 rfl (lv_at hl 1 rfl) ?_
  refine lv_iconst (v := 3) hx hb dX5_write_10 (by decide) ?_
  refine lv_icmp_ne (tgt := 23) hx hb dX5_write_11 (by decide) (fun c3 => ?_) (fun c3 => ?_)
  · replace c3 : ¬ (ov = 3) := fun q9 => c3 ((nI_eq (a := ov) (b := 3) (by omega) (by omega)).mpr q9)
    replace hZ9 := ite_f hZ9 c3
    exact W.vret hx hb hr (fun t ht hW => ⟨⟨M2, rfl, ⟨hX.mono (by omega), hUM, hZ9.symm.trans hR0⟩, by rw [ht]; exact hP, hD⟩, hS.F ht⟩) hS.2.2 dX5_write_23
  · replace c3 : ov = 3 := (nI_eq (a := ov) (b := 3) (by omega) (by omega)).mp c3
    replace hZ9 := ite_t hZ9 c3
    refine lv_aload_n hx hb dX5_write_14 rfl (lv_at hl 0 rfl) ?_
    refine lv_iload_n hx hb dX5_write_15 rfl (lv_at hl 1 rfl) ?_
    refine lv_iload_n hx hb dX5_write_16 rfl (lv_at hl 3 rfl) ?_
    refine lv_iload_n hx hb dX5_write_17 rfl (lv_at hl 2 rfl) ?_
    refine lv_iload hx hb dX5_write_18 (lv_at hl 4 rfl) ?_
    have hFc := mw_free hD hS hA
    refine va_callv (va_runV (As := [.int (nI ov), .int (nI bv), .int (nI av), .int 1]) (rest := []) ⟨hx, hb, hml, hown, hts⟩ (c_y_wow1 l dC dI h a e cI cJ cO cE L I M2 J n cap fE sd si sa dl (b) ov bv av H.size hX (by omega) (by omega) (by omega) (by omega)) (cwV 4 hts wc_y_write1_y_wow1_31 rfl rfl rfl (by decide +kernel) ⟨Nat.le_of_ble_eq_true rfl, Nat.le_of_ble_eq_true rfl⟩) ⟨fun a9 U g mk q => by obtain ⟨q0, q1, qP, qK, qD, qN⟩ := q; exact ⟨q0, q1, qP, va_K.moved (u := U) (U := U.calling g mk a9) (Vm.Alike.refl U.vm) qK, qD, pw_N.same (u := U) (U := U.calling g mk a9) rfl qN⟩, va_recv hK hP (ci := 6) (q0 := 2) rfl rfl, fun U hU hW => ⟨rfl, by rw [hU], by rw [hU]; exact hP, va_K.moved hW.alike hK, hD.weaken (fun _ _ _ _ => trivial), pw_N.warm hW hN⟩⟩ rfl rfl hl.1 rfl (lv_room (Nat.le_of_ble_eq_true rfl)) dX5_write_20 ⟨Nat.le_of_ble_eq_true rfl, Nat.le_of_ble_eq_true rfl⟩) hS (fun q _ h => hFc q h) hFc (fun u t H1 locs ht hvm hw hB hz1 hk1 hS => ?_)
    obtain ⟨M5, rfl⟩ : ∃ z9, z9 = u := ⟨_, rfl⟩
    replace hP := hB.1
    rw [ht] at hP
    replace hD : va_D A (xW h a e cI cJ cO cE L I M5 J n cap fE sd si sa dl) := hB.2.weaken (fun _ q _ h9 => hFc q.1 h9)
    clear hB
    generalize H1 = H at hP hS ⊢
    replace hP : va_P (dC, dI) vwCl (xW h a e cI cJ cO cE L I M5 J n cap fE sd si sa dl) H := hP
    obtain ⟨hwX, whUM, hw⟩ := hw
    replace hX : InvX n cap fE sd dl (b) I J si := hwX
    replace hUM : ∀ j9 : Nat, j9 ∉ ([0, 1, 2, 3, 4, 5, 6, 7] : List Nat) → M5 j9 = M j9 := mw_tr (by decide) whUM hUM
    replace hw : M5 = f_y_wow1 n dl ov bv av M2 := hw
    replace hZ9 := bnd_s hZ9 hw
    exact W.vret hx hb hr (fun t ht hW => ⟨⟨M5, rfl, ⟨hX.mono (by omega), hUM, hZ9.symm.trans hR0⟩, by rw [ht]; exact hP, hD⟩, hS.F ht⟩) hS.2.2 dX5_write_23
def f_y_write0 (n : Nat) (dl : Nat → Nat) (ov : Nat) (av : Nat) (bv : Nat) (M : Nat → Nat → Int64) : (Nat → Nat → Int64) := bnd (f_y_wow0 n dl ov av bv M) (fun (M2 : Nat → Nat → Int64) => if ov = 3 then (bnd (f_y_wow0 n dl ov bv av M2) (fun (M5 : Nat → Nat → Int64) => (M5))) else ((M2)))
def wq_y_write0 : List Cond := ([.code yX5_write cX5_write 5 none, .methodLink RX5 31 yX5_writeOneWay, .instanceMethod yX5_writeOneWay, .selects RX5 yX5_writeOneWay yX5_writeOneWay, .initialized RX5] : List Cond) ++ (wq_y_wow0)
set_option maxRecDepth 20000 in
theorem wi_y_write0 : ∀ w ∈ wq_y_write0, w ∈ lw_tbl := List.forall_mem_append.mpr ⟨(wix [502, 503, 505, 6, 64] rfl), wi_y_wow0⟩
set_option maxRecDepth 20000 in
theorem wg_y_write0 : GoodIn wq_y_write0 wq_y_write0 := goodIn_sub (fun _ h => h) (by decide +kernel)
set_option maxRecDepth 20000 in
theorem wc_y_write0_y_wow0_31 : GoodIn wq_y_write0 (wsV RX5 31 RX5 yX5_writeOneWay wq_y_wow0) := goodIn_app (goodIn_of _ (by decide +kernel)) (fun w h => ⟨List.mem_append_right _ (h), (wg_y_wow0 w h).2⟩)
def rm_y_write0 : Room := { frames := 2, cells := 0, slots := 0, locals := 44 }
set_option maxHeartbeats 4000000 in
set_option maxRecDepth 100000 in
theorem c_y_write0 (l : Launch) (dC : Nat → ClassId) (dI : Nat → Nat → Nat) (h : Nat) (a : Nat → Nat) (e : Nat) (cI cJ cO cE : ClassId) (L : Nat → Int64) (I : Nat → Int32) (M : Nat → Nat → Int64) (J : Nat → Nat → Int32) (n cap : Nat) (fE : Nat → Option Nat) (sd : Nat → Nat → Nat) (si : Nat → Nat → Int32) (sa : Nat → Nat → Nat → Int32) (dl : Nat → Nat) (b : Nat) (ov : Nat) (av : Nat) (bv : Nat) (sz : Nat) (hX0 : InvX n cap fE sd dl b I J si) (hb0 : b + 0 < 2147483648) (hp0 : ov < 4) (hp1 : av < 40) (hp2 : bv < 40) : Met l yX5_write wq_y_write0 rm_y_write0 (va_Pc [.ref (a 1), .int (nI ov), .int (nI av), .int (nI bv), .int 0] (fun U => U.heap.size = sz ∧ va_P (dC, dI) vwCl (xW h a e cI cJ cO cE L I M J n cap fE sd si sa dl) U.heap ∧ va_K (dC, dI) vwCl (xT cI cJ cO cE) U ∧ va_D (fun _ => True) (xW h a e cI cJ cO cE L I M J n cap fE sd si sa dl) ∧ pw_N U)) (va_Qv (fun (u : (Nat → Nat → Int64)) => InvX n cap fE sd dl (b + 0) I J si ∧ (∀ j9 : Nat, j9 ∉ ([0, 1, 2, 3, 4, 5, 6, 7] : List Nat) → u j9 = M j9) ∧ (u = f_y_write0 n dl ov av bv M)) (fun (u : (Nat → Nat → Int64)) (t : State) => va_P (dC, dI) vwCl (xW h a e cI cJ cO cE L I u J n cap fE sd si sa dl) t.heap ∧ va_D (va_A (xW h a e cI cJ cO cE L I M J n cap fE sd si sa dl) sz) (xW h a e cI cJ cO cE L I u J n cap fE sd si sa dl)) (va_A (xW h a e cI cJ cO cE L I M J n cap fE sd si sa dl) sz)) 0 0 (va_A (xW h a e cI cJ cO cE L I M J n cap fE sd si sa dl) sz) := by
  have hn : n ≤ 40 := hX0.1.1
  have hX := hX0
  have hUM : ∀ j9 : Nat, j9 ∉ ([0, 1, 2, 3, 4, 5, 6, 7] : List Nat) → M j9 = M j9 := fun _ _ => rfl
  refine Met.ofW (cc := cX5_write) (maxL := 5) (ret := none) (by decide) rfl ?_
  intro p e9 s m args below meth c s₁ B hml hv
  obtain ⟨rfl, hsz, hP, hK, hD0, hN⟩ := hv
  have hx := B.exec
  have hb := B.bytes
  have hr := B.returns
  have hts := atoms_spec (ws := wq_y_write0) B.pre
  have hown : s.vm.findClass RX5 = some m.cls := findClass_of_methodNamed B.named
  have hlocks := B.notSynchronized
  subst hsz
  have hD := hD0.self (sz := s.heap.size)
  generalize hAe : va_A (xW h a e cI cJ cO cE L I M J n cap fE sd si sa dl) s.heap.size = A at hD ⊢
  have hA : ∀ q : Nat, s.heap.size ≤ q → A q := fun q h => by rw [← hAe]; exact Or.inr h
  have hS : va_S A s.heap s.heap [] := va_S.rf
  have hl := lv_entry ([.ref (a 1), .int (nI ov), .int (nI av), .int (nI bv), .int 0]) (n := 5) (Nat.le_of_ble_eq_true rfl)
  rw [lg_entry_eq]
  generalize (lg_sl ([.ref (a 1), .int (nI ov), .int (nI av), .int (nI bv), .int 0]) ++ List.replicate (5 - (lg_sl ([.ref (a 1), .int (nI ov), .int (nI av), .int (nI bv), .int 0])).length) Slot.unset).toArray = ls at hl ⊢
  have hl : lv_has ls 5 [(0, .ref (a 1)), (1, .int (nI ov)), (2, .int (nI av)), (3, .int (nI bv)), (4, .int 0)] := hl
  obtain ⟨RES, hR0⟩ : ∃ R9, R9 = f_y_write0 n dl ov av bv M := ⟨_, rfl⟩
  have hZ9 := hR0
  unfold f_y_write0 at hZ9
  refine lv_aload_n hx hb dX5_write_0 rfl (lv_at hl 0 rfl) ?_
  refine lv_iload_n hx hb dX5_write_1 rfl (lv_at hl 1 rfl) ?_
  refine lv_iload_n hx hb dX5_write_2 rfl (lv_at hl 2 rfl) ?_
  refine lv_iload_n hx hb dX5_write_3 rfl (lv_at hl 3 rfl) ?_
  refine lv_iload hx hb dX5_write_4 (lv_at hl 4 rfl) ?_
  have hFc := mw_free hD hS hA
  refine va_callv (va_runV (As := [.int (nI ov), .int (nI av), .int (nI bv), .int 0]) (rest := []) ⟨hx, hb, hml, hown, hts⟩ (c_y_wow0 l dC dI h a e cI cJ cO cE L I M J n cap fE sd si sa dl (b) ov av bv s.heap.size hX (by omega) (by omega) (by omega) (by omega)) (cwV 4 hts wc_y_write0_y_wow0_31 rfl rfl rfl (by decide +kernel) ⟨Nat.le_of_ble_eq_true rfl, Nat.le_of_ble_eq_true rfl⟩) ⟨fun a9 U g mk q => by obtain ⟨q0, q1, qP, qK, qD, qN⟩ := q; exact ⟨q0, q1, qP, va_K.moved (u := U) (U := U.calling g mk a9) (Vm.Alike.refl U.vm) qK, qD, pw_N.same (u := U) (U := U.calling g mk a9) rfl qN⟩, va_recv hK hP (ci := 6) (q0 := 2) rfl rfl, fun U hU hW => ⟨rfl, by rw [hU], by rw [hU]; exact hP, va_K.moved hW.alike hK, hD.weaken (fun _ _ _ _ => trivial), pw_N.warm hW hN⟩⟩ rfl rfl hl.1 rfl (lv_room (Nat.le_of_ble_eq_true rfl)) dX5_write_6 ⟨Nat.le_of_ble_eq_true rfl, Nat.le_of_ble_eq_true rfl⟩) hS (fun q _ h => hFc q h) hFc (fun u t H1 locs ht hvm hw hB hz1 hk1 hS => ?_)
  obtain ⟨M2, rfl⟩ : ∃ z9, z9 = u := ⟨_, rfl⟩
  replace hP := hB.1
  rw [ht] at hP
  replace hD : va_D A (xW h a e cI cJ cO cE L I M2 J n cap fE sd si sa dl) := hB.2.weaken (fun _ q _ h9 => hFc q.1 h9)
  clear hB
  generalize H1 = H at hP hS ⊢
  replace hP : va_P (dC, dI) vwCl (xW h a e cI cJ cO cE L I M2 J n cap fE sd si sa dl) H := hP
  obtain ⟨hwX, whUM, hw⟩ := hw
  replace hX : InvX n cap fE sd dl (b) I J si := hwX
  replace hUM : ∀ j9 : Nat, j9 ∉ ([0, 1, 2, 3, 4, 5, 6, 7] : List Nat) → M2 j9 = M j9 := mw_tr (by decide) whUM hUM
  replace hw : M2 = f_y_wow0 n dl ov av bv M := hw
  replace hZ9 := bnd_s hZ9 hw
  refine lv_iload_n hx hb dX5_write_9 rfl (lv_at hl 1 rfl) ?_
  refine lv_iconst (v := 3) hx hb dX5_write_10 (by decide) ?_
  refine lv_icmp_ne (tgt := 23) hx hb dX5_write_11 (by decide) (fun c3 => ?_) (fun c3 => ?_)
  · replace c3 : ¬ (ov = 3) := fun q9 => c3 ((nI_eq (a := ov) (b := 3) (by omega) (by omega)).mpr q9)
    replace hZ9 := ite_f hZ9 c3
    exact W.vret hx hb hr (fun t ht hW => ⟨⟨M2, rfl, ⟨hX.mono (by omega), hUM, hZ9.symm.trans hR0⟩, by rw [ht]; exact hP, hD⟩, hS.F ht⟩) hS.2.2 dX5_write_23
  · replace c3 : ov = 3 := (nI_eq (a := ov) (b := 3) (by omega) (by omega)).mp c3
    replace hZ9 := ite_t hZ9 c3
    refine lv_aload_n hx hb dX5_write_14 rfl (lv_at hl 0 rfl) ?_
    refine lv_iload_n hx hb dX5_write_15 rfl (lv_at hl 1 rfl) ?_
    refine lv_iload_n hx hb dX5_write_16 rfl (lv_at hl 3 rfl) ?_
    refine lv_iload_n hx hb dX5_write_17 rfl (lv_at hl 2 rfl) ?_
    refine lv_iload hx hb dX5_write_18 (lv_at hl 4 rfl) ?_
    have hFc := mw_free hD hS hA
    refine va_callv (va_runV (As := [.int (nI ov), .int (nI bv), .int (nI av), .int 0]) (rest := []) ⟨hx, hb, hml, hown, hts⟩ (c_y_wow0 l dC dI h a e cI cJ cO cE L I M2 J n cap fE sd si sa dl (b) ov bv av H.size hX (by omega) (by omega) (by omega) (by omega)) (cwV 4 hts wc_y_write0_y_wow0_31 rfl rfl rfl (by decide +kernel) ⟨Nat.le_of_ble_eq_true rfl, Nat.le_of_ble_eq_true rfl⟩) ⟨fun a9 U g mk q => by obtain ⟨q0, q1, qP, qK, qD, qN⟩ := q; exact ⟨q0, q1, qP, va_K.moved (u := U) (U := U.calling g mk a9) (Vm.Alike.refl U.vm) qK, qD, pw_N.same (u := U) (U := U.calling g mk a9) rfl qN⟩, va_recv hK hP (ci := 6) (q0 := 2) rfl rfl, fun U hU hW => ⟨rfl, by rw [hU], by rw [hU]; exact hP, va_K.moved hW.alike hK, hD.weaken (fun _ _ _ _ => trivial), pw_N.warm hW hN⟩⟩ rfl rfl hl.1 rfl (lv_room (Nat.le_of_ble_eq_true rfl)) dX5_write_20 ⟨Nat.le_of_ble_eq_true rfl, Nat.le_of_ble_eq_true rfl⟩) hS (fun q _ h => hFc q h) hFc (fun u t H1 locs ht hvm hw hB hz1 hk1 hS => ?_)
    obtain ⟨M5, rfl⟩ : ∃ z9, z9 = u := ⟨_, rfl⟩
    replace hP := hB.1
    rw [ht] at hP
    replace hD : va_D A (xW h a e cI cJ cO cE L I M5 J n cap fE sd si sa dl) := hB.2.weaken (fun _ q _ h9 => hFc q.1 h9)
    clear hB
    generalize H1 = H at hP hS ⊢
    replace hP : va_P (dC, dI) vwCl (xW h a e cI cJ cO cE L I M5 J n cap fE sd si sa dl) H := hP
    obtain ⟨hwX, whUM, hw⟩ := hw
    replace hX : InvX n cap fE sd dl (b) I J si := hwX
    replace hUM : ∀ j9 : Nat, j9 ∉ ([0, 1, 2, 3, 4, 5, 6, 7] : List Nat) → M5 j9 = M j9 := mw_tr (by decide) whUM hUM
    replace hw : M5 = f_y_wow0 n dl ov bv av M2 := hw
    replace hZ9 := bnd_s hZ9 hw
    exact W.vret hx hb hr (fun t ht hW => ⟨⟨M5, rfl, ⟨hX.mono (by omega), hUM, hZ9.symm.trans hR0⟩, by rw [ht]; exact hP, hD⟩, hS.F ht⟩) hS.2.2 dX5_write_23
def f_y_radd (n : Nat) (dl : Nat → Nat) (ov : Nat) (av : Nat) (bv : Nat) (I : Nat → Int32) (M : Nat → Nat → Int64) : (Nat → Int32) × (Nat → Nat → Int64) := bnd (f_y_write1 n dl ov av bv M) (fun (M2 : Nat → Nat → Int64) => bnd (I 7) (fun (x3 : Int32) => bnd (x3 + (1 : Int32)) (fun (x4 : Int32) => bnd (va_up I 7 x4) (fun (I5 : Nat → Int32) => (I5, M2)))))
def wq_y_radd : List Cond := ([.code yX5_add cX5_add 4 none, .fieldLink RX5 27 "ServiceTree$Relations" "size" "I", .methodLink RX5 23 yX5_write, .instanceMethod yX5_write, .selects RX5 yX5_write yX5_write, .initialized RX5] : List Cond) ++ (wsX50 ++ (wq_y_write1))
theorem in_y_radd_X5 : ∀ w ∈ wsX50, w ∈ wq_y_radd := fun _ h => List.mem_append_right _ (List.mem_append_left _ (h))
set_option maxRecDepth 20000 in
theorem wi_y_radd : ∀ w ∈ wq_y_radd, w ∈ lw_tbl := List.forall_mem_append.mpr ⟨(wix [498, 124, 499, 501, 5, 64] rfl), List.forall_mem_append.mpr ⟨inKX5, wi_y_write1⟩⟩
set_option maxRecDepth 20000 in
theorem wg_y_radd : GoodIn wq_y_radd wq_y_radd := goodIn_sub (fun _ h => h) (by decide +kernel)
set_option maxRecDepth 20000 in
theorem wc_y_radd_y_write1_23 : GoodIn wq_y_radd (wsV RX5 23 RX5 yX5_write wq_y_write1) := goodIn_app (goodIn_of _ (by decide +kernel)) (fun w h => ⟨List.mem_append_right _ (List.mem_append_right _ (h)), (wg_y_write1 w h).2⟩)
def rm_y_radd : Room := { frames := 3, cells := 0, slots := 0, locals := 68 }
set_option maxHeartbeats 4000000 in
set_option maxRecDepth 100000 in
theorem c_y_radd (l : Launch) (dC : Nat → ClassId) (dI : Nat → Nat → Nat) (h : Nat) (a : Nat → Nat) (e : Nat) (cI cJ cO cE : ClassId) (L : Nat → Int64) (I : Nat → Int32) (M : Nat → Nat → Int64) (J : Nat → Nat → Int32) (n cap : Nat) (fE : Nat → Option Nat) (sd : Nat → Nat → Nat) (si : Nat → Nat → Int32) (sa : Nat → Nat → Nat → Int32) (dl : Nat → Nat) (b : Nat) (ov : Nat) (av : Nat) (bv : Nat) (sz : Nat) (hX0 : InvX n cap fE sd dl b I J si) (hb0 : b + 0 < 2147483648) (hp0 : ov < 4) (hp1 : av < 40) (hp2 : bv < 40) : Met l yX5_add wq_y_radd rm_y_radd (va_Pc [.ref (a 1), .int (nI ov), .int (nI av), .int (nI bv)] (fun U => U.heap.size = sz ∧ va_P (dC, dI) vwCl (xW h a e cI cJ cO cE L I M J n cap fE sd si sa dl) U.heap ∧ va_K (dC, dI) vwCl (xT cI cJ cO cE) U ∧ va_D (fun _ => True) (xW h a e cI cJ cO cE L I M J n cap fE sd si sa dl) ∧ pw_N U)) (va_Qv (fun (u : (Nat → Int32) × (Nat → Nat → Int64)) => InvX n cap fE sd dl (b + 0) u.1 J si ∧ (∀ j9 : Nat, j9 ∉ ([7] : List Nat) → u.1 j9 = I j9) ∧ (∀ j9 : Nat, j9 ∉ ([0, 1, 2, 3, 4, 5, 6, 7] : List Nat) → u.2 j9 = M j9) ∧ (u = f_y_radd n dl ov av bv I M)) (fun (u : (Nat → Int32) × (Nat → Nat → Int64)) (t : State) => va_P (dC, dI) vwCl (xW h a e cI cJ cO cE L u.1 u.2 J n cap fE sd si sa dl) t.heap ∧ va_D (va_A (xW h a e cI cJ cO cE L I M J n cap fE sd si sa dl) sz) (xW h a e cI cJ cO cE L u.1 u.2 J n cap fE sd si sa dl)) (va_A (xW h a e cI cJ cO cE L I M J n cap fE sd si sa dl) sz)) 0 0 (va_A (xW h a e cI cJ cO cE L I M J n cap fE sd si sa dl) sz) := by
  have hn : n ≤ 40 := hX0.1.1
  have hX := hX0
  have hUI : ∀ j9 : Nat, j9 ∉ ([7] : List Nat) → I j9 = I j9 := fun _ _ => rfl
  have hUM : ∀ j9 : Nat, j9 ∉ ([0, 1, 2, 3, 4, 5, 6, 7] : List Nat) → M j9 = M j9 := fun _ _ => rfl
  refine Met.ofW (cc := cX5_add) (maxL := 4) (ret := none) (by decide) rfl ?_
  intro p e9 s m args below meth c s₁ B hml hv
  obtain ⟨rfl, hsz, hP, hK, hD0, hN⟩ := hv
  have hx := B.exec
  have hb := B.bytes
  have hr := B.returns
  have hts := atoms_spec (ws := wq_y_radd) B.pre
  have hown : s.vm.findClass RX5 = some m.cls := findClass_of_methodNamed B.named
  have hlocks := B.notSynchronized
  subst hsz
  have hD := hD0.self (sz := s.heap.size)
  generalize hAe : va_A (xW h a e cI cJ cO cE L I M J n cap fE sd si sa dl) s.heap.size = A at hD ⊢
  have hA : ∀ q : Nat, s.heap.size ≤ q → A q := fun q h => by rw [← hAe]; exact Or.inr h
  have hS : va_S A s.heap s.heap [] := va_S.rf
  have hl := lv_entry ([.ref (a 1), .int (nI ov), .int (nI av), .int (nI bv)]) (n := 4) (Nat.le_of_ble_eq_true rfl)
  rw [lg_entry_eq]
  generalize (lg_sl ([.ref (a 1), .int (nI ov), .int (nI av), .int (nI bv)]) ++ List.replicate (4 - (lg_sl ([.ref (a 1), .int (nI ov), .int (nI av), .int (nI bv)])).length) Slot.unset).toArray = ls at hl ⊢
  have hl : lv_has ls 4 [(0, .ref (a 1)), (1, .int (nI ov)), (2, .int (nI av)), (3, .int (nI bv))] := hl
  obtain ⟨RES, hR0⟩ : ∃ R9, R9 = f_y_radd n dl ov av bv I M := ⟨_, rfl⟩
  have hZ9 := hR0
  unfold f_y_radd at hZ9
  refine lv_aload_n hx hb dX5_add_0 rfl (lv_at hl 0 rfl) ?_
  refine lv_iload_n hx hb dX5_add_1 rfl (lv_at hl 1 rfl) ?_
  refine lv_iload_n hx hb dX5_add_2 rfl (lv_at hl 2 rfl) ?_
  refine lv_iload_n hx hb dX5_add_3 rfl (lv_at hl 3 rfl) ?_
  refine lv_iconst (v := 1) hx hb dX5_add_4 (by decide) ?_
  have hFc := mw_free hD hS hA
  refine va_callv (va_runV (As := [.int (nI ov), .int (nI av), .int (nI bv), .int 1]) (rest := []) ⟨hx, hb, hml, hown, hts⟩ (c_y_write1 l dC dI h a e cI cJ cO cE L I M J n cap fE sd si sa dl (b) ov av bv s.heap.size hX (by omega) (by omega) (by omega) (by omega)) (cwV 4 hts wc_y_radd_y_write1_23 rfl rfl rfl (by decide +kernel) ⟨Nat.le_of_ble_eq_true rfl, Nat.le_of_ble_eq_true rfl⟩) ⟨fun a9 U g mk q => by obtain ⟨q0, q1, qP, qK, qD, qN⟩ := q; exact ⟨q0, q1, qP, va_K.moved (u := U) (U := U.calling g mk a9) (Vm.Alike.refl U.vm) qK, qD, pw_N.same (u := U) (U := U.calling g mk a9) rfl qN⟩, va_recv hK hP (ci := 6) (q0 := 2) rfl rfl, fun U hU hW => ⟨rfl, by rw [hU], by rw [hU]; exact hP, va_K.moved hW.alike hK, hD.weaken (fun _ _ _ _ => trivial), pw_N.warm hW hN⟩⟩ rfl rfl hl.1 rfl (lv_room (Nat.le_of_ble_eq_true rfl)) dX5_add_5 ⟨Nat.le_of_ble_eq_true rfl, Nat.le_of_ble_eq_true rfl⟩) hS (fun q _ h => hFc q h) hFc (fun u t H1 locs ht hvm hw hB hz1 hk1 hS => ?_)
  obtain ⟨M2, rfl⟩ : ∃ z9, z9 = u := ⟨_, rfl⟩
  replace hP := hB.1
  rw [ht] at hP
  replace hD : va_D A (xW h a e cI cJ cO cE L I M2 J n cap fE sd si sa dl) := hB.2.weaken (fun _ q _ h9 => hFc q.1 h9)
  clear hB
  generalize H1 = H at hP hS ⊢
  replace hP : va_P (dC, dI) vwCl (xW h a e cI cJ cO cE L I M2 J n cap fE sd si sa dl) H := hP
  obtain ⟨hwX, whUM, hw⟩ := hw
  replace hX : InvX n cap fE sd dl (b) I J si := hwX
  replace hUM : ∀ j9 : Nat, j9 ∉ ([0, 1, 2, 3, 4, 5, 6, 7] : List Nat) → M2 j9 = M j9 := mw_tr (by decide) whUM hUM
  replace hw : M2 = f_y_write1 n dl ov av bv M := hw
  replace hZ9 := bnd_s hZ9 hw
  refine lv_aload_n hx hb dX5_add_8 rfl (lv_at hl 0 rfl) ?_
  refine lv_dup hx hb dX5_add_9 rfl ?_
  refine va_get (D := (dC, dI)) (ci := 6) (v := .int (I 7)) (C := RX5) (T := TX5) (N := 3) hx hb hts in_y_radd_X5 hown hK hP 2 rfl rfl 2 (by decide) (hts (.fieldLink RX5 27 "ServiceTree$Relations" "size" "I") (by decide +kernel)) (fun _ h9 => h9) rfl dX5_add_10 ?_
  refine lv_topi (fun x3 ex3 => ?_)
  replace hZ9 := bnd_s hZ9 ex3
  refine lv_iconst (v := 1) hx hb dX5_add_13 (by decide) ?_
  refine lv_iadd hx hb dX5_add_14 ?_
  refine lv_topi (fun x4 ex4 => ?_)
  replace hZ9 := bnd_s hZ9 ex4
  refine va_put (D := (dC, dI)) (ci := 6) (fs := [.ref (a 10), .ref (a 11), .int (I 7)]) (v := .int x4) (ty := .int) (C := RX5) (T := TX5) (N := 3) hx hb hts in_y_radd_X5 tyX5 tyX5_ok nmX5 hown hK hP hD hS 2 rfl rfl 2 (by decide) (hts (.fieldLink RX5 27 "ServiceTree$Relations" "size" "I") (by decide +kernel)) (fun _ h9 => h9) rfl (by decide +kernel) rfl rfl (Nat.le_of_ble_eq_true rfl) dX5_add_15 (fun H locs hP hD hS => ?_)
  replace hP : va_P (dC, dI) vwCl ((xW h a e cI cJ cO cE L I M2 J n cap fE sd si sa dl).set 2 (a 1, .inr (6, [.ref (a 10), .ref (a 11), .int x4]))) H := hP
  replace hD : va_D A ((xW h a e cI cJ cO cE L I M2 J n cap fE sd si sa dl).set 2 (a 1, .inr (6, [.ref (a 10), .ref (a 11), .int x4]))) := hD
  rw [xF_I7] at hP hD
  obtain ⟨I5, eI5⟩ : ∃ f9 : Nat → Int32, f9 = va_up I 7 x4 := ⟨_, rfl⟩
  rw [← eI5] at hP hD
  replace hZ9 := bnd_s hZ9 eI5
  replace hX : InvX n cap fE sd dl (b) I5 J si := by rw [eI5]; exact hX.setI (by decide)
  replace hUI : ∀ j9 : Nat, j9 ∉ ([7] : List Nat) → I5 j9 = I j9 := by rw [eI5]; exact mw_up (by decide) hUI
  exact W.vret hx hb hr (fun t ht hW => ⟨⟨(I5, M2), rfl, ⟨hX.mono (by omega), hUI, hUM, hZ9.symm.trans hR0⟩, by rw [ht]; exact hP, hD⟩, hS.F ht⟩) hS.2.2 dX5_add_18
def f_y_rremove (n : Nat) (dl : Nat → Nat) (ov : Nat) (av : Nat) (bv : Nat) (I : Nat → Int32) (M : Nat → Nat → Int64) : (Nat → Int32) × (Nat → Nat → Int64) := bnd (f_y_write0 n dl ov av bv M) (fun (M2 : Nat → Nat → Int64) => bnd (I 7) (fun (x3 : Int32) => bnd (x3 - (1 : Int32)) (fun (x4 : Int32) => bnd (va_up I 7 x4) (fun (I5 : Nat → Int32) => (I5, M2)))))
def wq_y_rremove : List Cond := ([.code yX5_remove cX5_remove 4 none, .fieldLink RX5 27 "ServiceTree$Relations" "size" "I", .methodLink RX5 23 yX5_write, .instanceMethod yX5_write, .selects RX5 yX5_write yX5_write, .initialized RX5] : List Cond) ++ (wsX50 ++ (wq_y_write0))
theorem in_y_rremove_X5 : ∀ w ∈ wsX50, w ∈ wq_y_rremove := fun _ h => List.mem_append_right _ (List.mem_append_left _ (h))
set_option maxRecDepth 20000 in
theorem wi_y_rremove : ∀ w ∈ wq_y_rremove, w ∈ lw_tbl := List.forall_mem_append.mpr ⟨(wix [516, 124, 499, 501, 5, 64] rfl), List.forall_mem_append.mpr ⟨inKX5, wi_y_write0⟩⟩
set_option maxRecDepth 20000 in
theorem wg_y_rremove : GoodIn wq_y_rremove wq_y_rremove := goodIn_sub (fun _ h => h) (by decide +kernel)
set_option maxRecDepth 20000 in
theorem wc_y_rremove_y_write0_23 : GoodIn wq_y_rremove (wsV RX5 23 RX5 yX5_write wq_y_write0) := goodIn_app (goodIn_of _ (by decide +kernel)) (fun w h => ⟨List.mem_append_right _ (List.mem_append_right _ (h)), (wg_y_write0 w h).2⟩)
def rm_y_rremove : Room := { frames := 3, cells := 0, slots := 0, locals := 68 }
set_option maxHeartbeats 4000000 in
set_option maxRecDepth 100000 in
theorem c_y_rremove (l : Launch) (dC : Nat → ClassId) (dI : Nat → Nat → Nat) (h : Nat) (a : Nat → Nat) (e : Nat) (cI cJ cO cE : ClassId) (L : Nat → Int64) (I : Nat → Int32) (M : Nat → Nat → Int64) (J : Nat → Nat → Int32) (n cap : Nat) (fE : Nat → Option Nat) (sd : Nat → Nat → Nat) (si : Nat → Nat → Int32) (sa : Nat → Nat → Nat → Int32) (dl : Nat → Nat) (b : Nat) (ov : Nat) (av : Nat) (bv : Nat) (sz : Nat) (hX0 : InvX n cap fE sd dl b I J si) (hb0 : b + 0 < 2147483648) (hp0 : ov < 4) (hp1 : av < 40) (hp2 : bv < 40) : Met l yX5_remove wq_y_rremove rm_y_rremove (va_Pc [.ref (a 1), .int (nI ov), .int (nI av), .int (nI bv)] (fun U => U.heap.size = sz ∧ va_P (dC, dI) vwCl (xW h a e cI cJ cO cE L I M J n cap fE sd si sa dl) U.heap ∧ va_K (dC, dI) vwCl (xT cI cJ cO cE) U ∧ va_D (fun _ => True) (xW h a e cI cJ cO cE L I M J n cap fE sd si sa dl) ∧ pw_N U)) (va_Qv (fun (u : (Nat → Int32) × (Nat → Nat → Int64)) => InvX n cap fE sd dl (b + 0) u.1 J si ∧ (∀ j9 : Nat, j9 ∉ ([7] : List Nat) → u.1 j9 = I j9) ∧ (∀ j9 : Nat, j9 ∉ ([0, 1, 2, 3, 4, 5, 6, 7] : List Nat) → u.2 j9 = M j9) ∧ (u = f_y_rremove n dl ov av bv I M)) (fun (u : (Nat → Int32) × (Nat → Nat → Int64)) (t : State) => va_P (dC, dI) vwCl (xW h a e cI cJ cO cE L u.1 u.2 J n cap fE sd si sa dl) t.heap ∧ va_D (va_A (xW h a e cI cJ cO cE L I M J n cap fE sd si sa dl) sz) (xW h a e cI cJ cO cE L u.1 u.2 J n cap fE sd si sa dl)) (va_A (xW h a e cI cJ cO cE L I M J n cap fE sd si sa dl) sz)) 0 0 (va_A (xW h a e cI cJ cO cE L I M J n cap fE sd si sa dl) sz) := by
  have hn : n ≤ 40 := hX0.1.1
  have hX := hX0
  have hUI : ∀ j9 : Nat, j9 ∉ ([7] : List Nat) → I j9 = I j9 := fun _ _ => rfl
  have hUM : ∀ j9 : Nat, j9 ∉ ([0, 1, 2, 3, 4, 5, 6, 7] : List Nat) → M j9 = M j9 := fun _ _ => rfl
  refine Met.ofW (cc := cX5_remove) (maxL := 4) (ret := none) (by decide) rfl ?_
  intro p e9 s m args below meth c s₁ B hml hv
  obtain ⟨rfl, hsz, hP, hK, hD0, hN⟩ := hv
  have hx := B.exec
  have hb := B.bytes
  have hr := B.returns
  have hts := atoms_spec (ws := wq_y_rremove) B.pre
  have hown : s.vm.findClass RX5 = some m.cls := findClass_of_methodNamed B.named
  have hlocks := B.notSynchronized
  subst hsz
  have hD := hD0.self (sz := s.heap.size)
  generalize hAe : va_A (xW h a e cI cJ cO cE L I M J n cap fE sd si sa dl) s.heap.size = A at hD ⊢
  have hA : ∀ q : Nat, s.heap.size ≤ q → A q := fun q h => by rw [← hAe]; exact Or.inr h
  have hS : va_S A s.heap s.heap [] := va_S.rf
  have hl := lv_entry ([.ref (a 1), .int (nI ov), .int (nI av), .int (nI bv)]) (n := 4) (Nat.le_of_ble_eq_true rfl)
  rw [lg_entry_eq]
  generalize (lg_sl ([.ref (a 1), .int (nI ov), .int (nI av), .int (nI bv)]) ++ List.replicate (4 - (lg_sl ([.ref (a 1), .int (nI ov), .int (nI av), .int (nI bv)])).length) Slot.unset).toArray = ls at hl ⊢
  have hl : lv_has ls 4 [(0, .ref (a 1)), (1, .int (nI ov)), (2, .int (nI av)), (3, .int (nI bv))] := hl
  obtain ⟨RES, hR0⟩ : ∃ R9, R9 = f_y_rremove n dl ov av bv I M := ⟨_, rfl⟩
  have hZ9 := hR0
  unfold f_y_rremove at hZ9
  refine lv_aload_n hx hb dX5_remove_0 rfl (lv_at hl 0 rfl) ?_
  refine lv_iload_n hx hb dX5_remove_1 rfl (lv_at hl 1 rfl) ?_
  refine lv_iload_n hx hb dX5_remove_2 rfl (lv_at hl 2 rfl) ?_
  refine lv_iload_n hx hb dX5_remove_3 rfl (lv_at hl 3 rfl) ?_
  refine lv_iconst (v := 0) hx hb dX5_remove_4 (by decide) ?_
  have hFc := mw_free hD hS hA
  refine va_callv (va_runV (As := [.int (nI ov), .int (nI av), .int (nI bv), .int 0]) (rest := []) ⟨hx, hb, hml, hown, hts⟩ (c_y_write0 l dC dI h a e cI cJ cO cE L I M J n cap fE sd si sa dl (b) ov av bv s.heap.size hX (by omega) (by omega) (by omega) (by omega)) (cwV 4 hts wc_y_rremove_y_write0_23 rfl rfl rfl (by decide +kernel) ⟨Nat.le_of_ble_eq_true rfl, Nat.le_of_ble_eq_true rfl⟩) ⟨fun a9 U g mk q => by obtain ⟨q0, q1, qP, qK, qD, qN⟩ := q; exact ⟨q0, q1, qP, va_K.moved (u := U) (U := U.calling g mk a9) (Vm.Alike.refl U.vm) qK, qD, pw_N.same (u := U) (U := U.calling g mk a9) rfl qN⟩, va_recv hK hP (ci := 6) (q0 := 2) rfl rfl, fun U hU hW => ⟨rfl, by rw [hU], by rw [hU]; exact hP, va_K.moved hW.alike hK, hD.weaken (fun _ _ _ _ => trivial), pw_N.warm hW hN⟩⟩ rfl rfl hl.1 rfl (lv_room (Nat.le_of_ble_eq_true rfl)) dX5_remove_5 ⟨Nat.le_of_ble_eq_true rfl, Nat.le_of_ble_eq_true rfl⟩) hS (fun q _ h => hFc q h) hFc (fun u t H1 locs ht hvm hw hB hz1 hk1 hS => ?_)
  obtain ⟨M2, rfl⟩ : ∃ z9, z9 = u := ⟨_, rfl⟩
  replace hP := hB.1
  rw [ht] at hP
  replace hD : va_D A (xW h a e cI cJ cO cE L I M2 J n cap fE sd si sa dl) := hB.2.weaken (fun _ q _ h9 => hFc q.1 h9)
  clear hB
  generalize H1 = H at hP hS ⊢
  replace hP : va_P (dC, dI) vwCl (xW h a e cI cJ cO cE L I M2 J n cap fE sd si sa dl) H := hP
  obtain ⟨hwX, whUM, hw⟩ := hw
  replace hX : InvX n cap fE sd dl (b) I J si := hwX
  replace hUM : ∀ j9 : Nat, j9 ∉ ([0, 1, 2, 3, 4, 5, 6, 7] : List Nat) → M2 j9 = M j9 := mw_tr (by decide) whUM hUM
  replace hw : M2 = f_y_write0 n dl ov av bv M := hw
  replace hZ9 := bnd_s hZ9 hw
  refine lv_aload_n hx hb dX5_remove_8 rfl (lv_at hl 0 rfl) ?_
  refine lv_dup hx hb dX5_remove_9 rfl ?_
  refine va_get (D := (dC, dI)) (ci := 6) (v := .int (I 7)) (C := RX5) (T := TX5) (N := 3) hx hb hts in_y_rremove_X5 hown hK hP 2 rfl rfl 2 (by decide) (hts (.fieldLink RX5 27 "ServiceTree$Relations" "size" "I") (by decide +kernel)) (fun _ h9 => h9) rfl dX5_remove_10 ?_
  refine lv_topi (fun x3 ex3 => ?_)
  replace hZ9 := bnd_s hZ9 ex3
  refine lv_iconst (v := 1) hx hb dX5_remove_13 (by decide) ?_
  refine lv_isub hx hb dX5_remove_14 ?_
  refine lv_topi (fun x4 ex4 => ?_)
  replace hZ9 := bnd_s hZ9 ex4
  refine va_put (D := (dC, dI)) (ci := 6) (fs := [.ref (a 10), .ref (a 11), .int (I 7)]) (v := .int x4) (ty := .int) (C := RX5) (T := TX5) (N := 3) hx hb hts in_y_rremove_X5 tyX5 tyX5_ok nmX5 hown hK hP hD hS 2 rfl rfl 2 (by decide) (hts (.fieldLink RX5 27 "ServiceTree$Relations" "size" "I") (by decide +kernel)) (fun _ h9 => h9) rfl (by decide +kernel) rfl rfl (Nat.le_of_ble_eq_true rfl) dX5_remove_15 (fun H locs hP hD hS => ?_)
  replace hP : va_P (dC, dI) vwCl ((xW h a e cI cJ cO cE L I M2 J n cap fE sd si sa dl).set 2 (a 1, .inr (6, [.ref (a 10), .ref (a 11), .int x4]))) H := hP
  replace hD : va_D A ((xW h a e cI cJ cO cE L I M2 J n cap fE sd si sa dl).set 2 (a 1, .inr (6, [.ref (a 10), .ref (a 11), .int x4]))) := hD
  rw [xF_I7] at hP hD
  obtain ⟨I5, eI5⟩ : ∃ f9 : Nat → Int32, f9 = va_up I 7 x4 := ⟨_, rfl⟩
  rw [← eI5] at hP hD
  replace hZ9 := bnd_s hZ9 eI5
  replace hX : InvX n cap fE sd dl (b) I5 J si := by rw [eI5]; exact hX.setI (by decide)
  replace hUI : ∀ j9 : Nat, j9 ∉ ([7] : List Nat) → I5 j9 = I j9 := by rw [eI5]; exact mw_up (by decide) hUI
  exact W.vret hx hb hr (fun t ht hW => ⟨⟨(I5, M2), rfl, ⟨hX.mono (by omega), hUI, hUM, hZ9.symm.trans hR0⟩, by rw [ht]; exact hP, hD⟩, hS.F ht⟩) hS.2.2 dX5_remove_18

end
section
def f_y_union0_5 (n : Nat) (dl : Nat → Nat) (p0 : Int64) (M : Nat → Nat → Int64) : Nat → Nat → Int64 → (Nat → Int64 → Int64) → Int64
  | 0, i1, y5, K9_5 => K9_5 i1 y5 
  | fu2 + 1, i1, y5, K9_5 => if 40 ≤ i1 then (K9_5 i1 y5) else (bnd (f_y_holds n dl p0 i1 ) (fun (r7 : Int32) => if r7 = (0 : Int32) then (f_y_union0_5 n dl p0 M fu2 (i1 + 1) y5  K9_5) else (bnd (M 0 (nI i1).toNatClampNeg) (fun (x9 : Int64) => bnd (y5 ||| x9) (fun (x10 : Int64) => f_y_union0_5 n dl p0 M fu2 (i1 + 1) x10  K9_5)))))
def f_y_union0 (n : Nat) (dl : Nat → Nat) (p0 : Int64) (M : Nat → Nat → Int64) : Int64 := f_y_union0_5 n dl p0 M (40 + 1) 0 (0 : Int64)  (fun (i1 : Nat) (y5 : Int64) => (y5))
def wq_y_union0 : List Cond := ([.code yX5_union cX5_union 6 (some .long), .initialized RX8, .static yX8_holds] : List Cond) ++ (wq_y_holds)
set_option maxRecDepth 20000 in
theorem wi_y_union0 : ∀ w ∈ wq_y_union0, w ∈ lw_tbl := List.forall_mem_append.mpr ⟨(wix [536, 60, 488] rfl), wi_y_holds⟩
set_option maxRecDepth 20000 in
theorem wg_y_union0 : GoodIn wq_y_union0 wq_y_union0 := goodIn_sub (fun _ h => h) (by decide +kernel)
theorem wc_y_union0_y_holds_19 : GoodIn wq_y_union0 wq_y_holds := (fun w h => ⟨List.mem_append_right _ (h), (wg_y_holds w h).2⟩)
def rm_y_union0 : Room := { frames := 1, cells := 0, slots := 0, locals := 22 }
set_option maxHeartbeats 4000000 in
set_option maxRecDepth 100000 in
theorem c_y_union0 (l : Launch) (dC : Nat → ClassId) (dI : Nat → Nat → Nat) (h : Nat) (a : Nat → Nat) (e : Nat) (cI cJ cO cE : ClassId) (L : Nat → Int64) (I : Nat → Int32) (M : Nat → Nat → Int64) (J : Nat → Nat → Int32) (n cap : Nat) (fE : Nat → Option Nat) (sd : Nat → Nat → Nat) (si : Nat → Nat → Int32) (sa : Nat → Nat → Nat → Int32) (dl : Nat → Nat) (b : Nat) (p0 : Int64) (sz : Nat) (hX0 : InvX n cap fE sd dl b I J si) (hb0 : b + 0 < 2147483648)  : Met l yX5_union wq_y_union0 rm_y_union0 (va_Pc [.ref (a 20), .long p0] (fun U => U.heap.size = sz ∧ va_P (dC, dI) vwCl (xW h a e cI cJ cO cE L I M J n cap fE sd si sa dl) U.heap ∧ va_K (dC, dI) vwCl (xT cI cJ cO cE) U ∧ va_D (fun _ => True) (xW h a e cI cJ cO cE L I M J n cap fE sd si sa dl) ∧ pw_N U)) (va_Ql (fun (r : Int64) (u : Unit) => (r = f_y_union0 n dl p0 M)) (fun (u : Unit) (t : State) => va_P (dC, dI) vwCl (xW h a e cI cJ cO cE L I M J n cap fE sd si sa dl) t.heap ∧ va_D (va_A (xW h a e cI cJ cO cE L I M J n cap fE sd si sa dl) sz) (xW h a e cI cJ cO cE L I M J n cap fE sd si sa dl)) (va_A (xW h a e cI cJ cO cE L I M J n cap fE sd si sa dl) sz)) 0 0 (va_A (xW h a e cI cJ cO cE L I M J n cap fE sd si sa dl) sz) := by
  have hn : n ≤ 40 := hX0.1.1
  have hX := hX0
  refine Met.ofW (cc := cX5_union) (maxL := 6) (ret := (some .long)) (by decide) rfl ?_
  intro p e9 s m args below meth c s₁ B hml hv
  obtain ⟨rfl, hsz, hP, hK, hD0, hN⟩ := hv
  have hx := B.exec
  have hb := B.bytes
  have hr := B.returns
  have hts := atoms_spec (ws := wq_y_union0) B.pre
  have hown : s.vm.findClass RX5 = some m.cls := findClass_of_methodNamed B.named
  have hlocks := B.notSynchronized
  subst hsz
  have hD := hD0.self (sz := s.heap.size)
  generalize hAe : va_A (xW h a e cI cJ cO cE L I M J n cap fE sd si sa dl) s.heap.size = A at hD ⊢
  have hA : ∀ q : Nat, s.heap.size ≤ q → A q := fun q h => by rw [← hAe]; exact Or.inr h
  have hS : va_S A s.heap s.heap [] := va_S.rf
  have hl := lv_entry ([.ref (a 20), .long p0]) (n := 6) (Nat.le_of_ble_eq_true rfl)
  rw [lg_entry_eq]
  generalize (lg_sl ([.ref (a 20), .long p0]) ++ List.replicate (6 - (lg_sl ([.ref (a 20), .long p0])).length) Slot.unset).toArray = ls at hl ⊢
  have hl : lv_has ls 6 [(0, .ref (a 20)), (1, .long p0)] := hl
  refine mw_Q (fun Q0 hQ => ?_)
  obtain ⟨RES, hR0⟩ : ∃ R9, R9 = f_y_union0 n dl p0 M := ⟨_, rfl⟩
  have hZ9 := hR0
  unfold f_y_union0 at hZ9
  refine lv_lconst (v := 0) hx hb dX5_union_0 (by decide) ?_
  refine lv_lstore_n (lv' := [(3, .long 0), (0, .ref (a 20)), (1, .long p0)]) hx hb dX5_union_1 rfl hl (by decide) rfl (fun ls hl => ?_)
  refine lv_iconst (v := 0) hx hb dX5_union_2 (by decide) ?_
  refine lv_istore (lv' := [(5, .int 0), (3, .long 0), (0, .ref (a 20)), (1, .long p0)]) hx hb dX5_union_3 hl (by decide) rfl (fun ls hl => ?_)
  obtain ⟨K9_5, hK9_5, hZ9⟩ := lp_gen hZ9
  have lp4 : ∀ (fu2 i1 : Nat) (y5 : Int64)  (H : Heap) (locs : List Loc) (ls : Array Slot), 40 < i1 + fu2 → i1 ≤ 40 → RES = f_y_union0_5 n dl p0 M fu2 i1 y5  K9_5 → va_P (dC, dI) vwCl (xW h a e cI cJ cO cE L I M J n cap fE sd si sa dl) H → va_D A (xW h a e cI cJ cO cE L I M J n cap fE sd si sa dl) → va_S A s.heap H locs → lv_has ls 6 [(5, .int (nI i1)), (3, .long y5), (0, .ref (a 20)), (1, .long p0)] → W p l e9 (headSpec wq_y_union0 rm_y_union0).room s m ([.ref (a 20), .long p0] : List Value).toArray below meth c H locs 0 0 Q0 (F0 m 5 ls []) := by
    intro fu2
    induction fu2 with
    | zero =>
      intro i1 y5  H locs ls hf hi
      exact absurd hf (by omega)
    | succ fu2 ih3 =>
      intro i1 y5  H locs ls hfi1 hii1 hZ9 hP hD hS hl
      rw [f_y_union0_5] at hZ9
      refine lv_iload hx hb dX5_union_5 (lv_at hl 0 rfl) ?_
      refine lv_aload_n hx hb dX5_union_7 rfl (lv_at hl 2 rfl) ?_
      refine va_alen (v := 40) hx hb hK hP 5 1 rfl rfl rfl dX5_union_8 ?_
      refine lv_icmp_ge (tgt := 34) hx hb dX5_union_9 (by decide) (fun c6 => ?_) (fun c6 => ?_)
      · replace c6 : 40 ≤ i1 := (nI_leI (a := 40) (b := i1) (by omega) (by omega)).mp c6
        replace hZ9 := ite_t hZ9 c6
        replace hZ9 := lp_app2 hK9_5 hZ9
        refine lv_lload_n hx hb dX5_union_34 rfl (lv_at hl 1 rfl) ?_
        rw [hQ]
        exact W.lret (v := y5) hx hb hr (fun t ht hW => ⟨⟨y5, (), rfl, hZ9.symm.trans hR0, by rw [ht]; exact hP, hD⟩, hS.F ht⟩) hS.2.2 dX5_union_35
      · replace c6 : ¬ (40 ≤ i1) := fun q9 => c6 ((nI_leI (a := 40) (b := i1) (by omega) (by omega)).mpr q9)
        replace hZ9 := ite_f hZ9 c6
        refine lv_lload_n hx hb dX5_union_12 rfl (lv_at hl 3 rfl) ?_
        refine lv_iload hx hb dX5_union_13 (lv_at hl 0 rfl) ?_
        have hFc := mw_free hD hS hA
        refine va_calli (va_runSN (As := [.long p0, .int (nI i1)]) (rest := []) ⟨hx, hb, hml, hown, hts⟩ (c_y_holds l dC dI h a e cI cJ cO cE L I M J n cap fE sd si sa dl (b) p0 i1 H.size hX (by omega) ) ⟨va_cnB 2 hts wc_y_union0_y_holds_19 rfl rfl rfl (hN (.methodLinkNest RX5 19 yX8_holds "ServiceTree") (by decide +kernel)) (hts (.initialized RX8) (by decide +kernel)) (by decide +kernel) ⟨Nat.le_of_ble_eq_true rfl, Nat.le_of_ble_eq_true rfl⟩, hts (.static yX8_holds) (by decide +kernel), trivial⟩ ⟨fun a9 U g mk q => by obtain ⟨q0, q1, qP, qK, qD, qN⟩ := q; exact ⟨q0, q1, qP, va_K.moved (u := U) (U := U.calling g mk a9) (Vm.Alike.refl U.vm) qK, qD, pw_N.same (u := U) (U := U.calling g mk a9) rfl qN⟩, fun U hU hW => ⟨rfl, by rw [hU], by rw [hU]; exact hP, va_K.moved hW.alike hK, hD.weaken (fun _ _ _ _ => trivial), pw_N.warm hW hN⟩⟩ rfl rfl hl.1 rfl (lv_room (Nat.le_of_ble_eq_true rfl)) dX5_union_15 ⟨Nat.le_of_ble_eq_true rfl, Nat.le_of_ble_eq_true rfl⟩) hS (fun q _ h => hFc q h) hFc (fun r7 u t H1 locs ht hvm hw hB hz1 hk1 hS => ?_)
        replace hP := hB.1
        rw [ht] at hP
        replace hD : va_D A (xW h a e cI cJ cO cE L I M J n cap fE sd si sa dl) := hB.2.weaken (fun _ q _ h9 => hFc q.1 h9)
        clear hB
        generalize H1 = H at hP hS ⊢
        replace hP : va_P (dC, dI) vwCl (xW h a e cI cJ cO cE L I M J n cap fE sd si sa dl) H := hP
        obtain ⟨hw, hwe⟩ := hw
        replace hw : r7 = f_y_holds n dl p0 i1  := hw
        replace hZ9 := bnd_s hZ9 hw
        have br7 := hwe
        refine lv_if_eq (tgt := 28) hx hb dX5_union_18 (by decide) (fun c8 => ?_) (fun c8 => ?_)
        · replace hZ9 := ite_t hZ9 c8
          refine lv_iinc (v := (nI (i1 + 1))) (lv' := [(5, .int (nI (i1 + 1))), (3, .long y5), (0, .ref (a 20)), (1, .long p0)]) hx hb dX5_union_28 hl (k := 0) rfl (nI_add i1 1) (by decide) rfl (fun ls hl => ?_)
          refine lv_goto (tgt := 5) hx hb dX5_union_31 (by decide) ?_
          exact ih3 (i1 + 1) y5  _ _ _ (by omega) (by omega)  hZ9 hP hD hS (lv_sub hl [0, 1, 2, 3] rfl)
        · replace hZ9 := ite_f hZ9 c8
          refine lv_lload_n hx hb dX5_union_21 rfl (lv_at hl 1 rfl) ?_
          refine lv_aload_n hx hb dX5_union_22 rfl (lv_at hl 2 rfl) ?_
          refine lv_iload hx hb dX5_union_23 (lv_at hl 0 rfl) ?_
          refine va_lald (n := 40) (f := M 0) hx hb hK hP 5 1 rfl rfl (vp_in_nI (n := i1) (by omega) (by omega)) dX5_union_25 ?_
          refine lv_topl (fun x9 ex9 => ?_)
          replace hZ9 := bnd_s hZ9 ex9
          refine lv_lor hx hb dX5_union_26 ?_
          refine lv_topl (fun x10 ex10 => ?_)
          replace hZ9 := bnd_s hZ9 ex10
          refine lv_lstore_n (lv' := [(3, .long x10), (5, .int (nI i1)), (0, .ref (a 20)), (1, .long p0)]) hx hb dX5_union_27 rfl hl (by decide) rfl (fun ls hl => ?_)
          refine lv_iinc (v := (nI (i1 + 1))) (lv' := [(5, .int (nI (i1 + 1))), (3, .long x10), (0, .ref (a 20)), (1, .long p0)]) hx hb dX5_union_28 hl (k := 1) rfl (nI_add i1 1) (by decide) rfl (fun ls hl => ?_)
          refine lv_goto (tgt := 5) hx hb dX5_union_31 (by decide) ?_
          exact ih3 (i1 + 1) x10  _ _ _ (by omega) (by omega)  hZ9 hP hD hS (lv_sub hl [0, 1, 2, 3] rfl)
  exact lp4 (40 + 1) 0 0  _ _ _ (by omega) (by omega)  hZ9 hP hD hS hl
def f_y_union1_5 (n : Nat) (dl : Nat → Nat) (p0 : Int64) (M : Nat → Nat → Int64) : Nat → Nat → Int64 → (Nat → Int64 → Int64) → Int64
  | 0, i1, y5, K9_5 => K9_5 i1 y5 
  | fu2 + 1, i1, y5, K9_5 => if 40 ≤ i1 then (K9_5 i1 y5) else (bnd (f_y_holds n dl p0 i1 ) (fun (r7 : Int32) => if r7 = (0 : Int32) then (f_y_union1_5 n dl p0 M fu2 (i1 + 1) y5  K9_5) else (bnd (M 1 (nI i1).toNatClampNeg) (fun (x9 : Int64) => bnd (y5 ||| x9) (fun (x10 : Int64) => f_y_union1_5 n dl p0 M fu2 (i1 + 1) x10  K9_5)))))
def f_y_union1 (n : Nat) (dl : Nat → Nat) (p0 : Int64) (M : Nat → Nat → Int64) : Int64 := f_y_union1_5 n dl p0 M (40 + 1) 0 (0 : Int64)  (fun (i1 : Nat) (y5 : Int64) => (y5))
def wq_y_union1 : List Cond := ([.code yX5_union cX5_union 6 (some .long), .initialized RX8, .static yX8_holds] : List Cond) ++ (wq_y_holds)
set_option maxRecDepth 20000 in
theorem wi_y_union1 : ∀ w ∈ wq_y_union1, w ∈ lw_tbl := List.forall_mem_append.mpr ⟨(wix [536, 60, 488] rfl), wi_y_holds⟩
set_option maxRecDepth 20000 in
theorem wg_y_union1 : GoodIn wq_y_union1 wq_y_union1 := goodIn_sub (fun _ h => h) (by decide +kernel)
theorem wc_y_union1_y_holds_19 : GoodIn wq_y_union1 wq_y_holds := (fun w h => ⟨List.mem_append_right _ (h), (wg_y_holds w h).2⟩)
def rm_y_union1 : Room := { frames := 1, cells := 0, slots := 0, locals := 22 }
set_option maxHeartbeats 4000000 in
set_option maxRecDepth 100000 in
theorem c_y_union1 (l : Launch) (dC : Nat → ClassId) (dI : Nat → Nat → Nat) (h : Nat) (a : Nat → Nat) (e : Nat) (cI cJ cO cE : ClassId) (L : Nat → Int64) (I : Nat → Int32) (M : Nat → Nat → Int64) (J : Nat → Nat → Int32) (n cap : Nat) (fE : Nat → Option Nat) (sd : Nat → Nat → Nat) (si : Nat → Nat → Int32) (sa : Nat → Nat → Nat → Int32) (dl : Nat → Nat) (b : Nat) (p0 : Int64) (sz : Nat) (hX0 : InvX n cap fE sd dl b I J si) (hb0 : b + 0 < 2147483648)  : Met l yX5_union wq_y_union1 rm_y_union1 (va_Pc [.ref (a 21), .long p0] (fun U => U.heap.size = sz ∧ va_P (dC, dI) vwCl (xW h a e cI cJ cO cE L I M J n cap fE sd si sa dl) U.heap ∧ va_K (dC, dI) vwCl (xT cI cJ cO cE) U ∧ va_D (fun _ => True) (xW h a e cI cJ cO cE L I M J n cap fE sd si sa dl) ∧ pw_N U)) (va_Ql (fun (r : Int64) (u : Unit) => (r = f_y_union1 n dl p0 M)) (fun (u : Unit) (t : State) => va_P (dC, dI) vwCl (xW h a e cI cJ cO cE L I M J n cap fE sd si sa dl) t.heap ∧ va_D (va_A (xW h a e cI cJ cO cE L I M J n cap fE sd si sa dl) sz) (xW h a e cI cJ cO cE L I M J n cap fE sd si sa dl)) (va_A (xW h a e cI cJ cO cE L I M J n cap fE sd si sa dl) sz)) 0 0 (va_A (xW h a e cI cJ cO cE L I M J n cap fE sd si sa dl) sz) := by
  have hn : n ≤ 40 := hX0.1.1
  have hX := hX0
  refine Met.ofW (cc := cX5_union) (maxL := 6) (ret := (some .long)) (by decide) rfl ?_
  intro p e9 s m args below meth c s₁ B hml hv
  obtain ⟨rfl, hsz, hP, hK, hD0, hN⟩ := hv
  have hx := B.exec
  have hb := B.bytes
  have hr := B.returns
  have hts := atoms_spec (ws := wq_y_union1) B.pre
  have hown : s.vm.findClass RX5 = some m.cls := findClass_of_methodNamed B.named
  have hlocks := B.notSynchronized
  subst hsz
  have hD := hD0.self (sz := s.heap.size)
  generalize hAe : va_A (xW h a e cI cJ cO cE L I M J n cap fE sd si sa dl) s.heap.size = A at hD ⊢
  have hA : ∀ q : Nat, s.heap.size ≤ q → A q := fun q h => by rw [← hAe]; exact Or.inr h
  have hS : va_S A s.heap s.heap [] := va_S.rf
  have hl := lv_entry ([.ref (a 21), .long p0]) (n := 6) (Nat.le_of_ble_eq_true rfl)
  rw [lg_entry_eq]
  generalize (lg_sl ([.ref (a 21), .long p0]) ++ List.replicate (6 - (lg_sl ([.ref (a 21), .long p0])).length) Slot.unset).toArray = ls at hl ⊢
  have hl : lv_has ls 6 [(0, .ref (a 21)), (1, .long p0)] := hl
  refine mw_Q (fun Q0 hQ => ?_)
  obtain ⟨RES, hR0⟩ : ∃ R9, R9 = f_y_union1 n dl p0 M := ⟨_, rfl⟩
  have hZ9 := hR0
  unfold f_y_union1 at hZ9
  refine lv_lconst (v := 0) hx hb dX5_union_0 (by decide) ?_
  refine lv_lstore_n (lv' := [(3, .long 0), (0, .ref (a 21)), (1, .long p0)]) hx hb dX5_union_1 rfl hl (by decide) rfl (fun ls hl => ?_)
  refine lv_iconst (v := 0) hx hb dX5_union_2 (by decide) ?_
  refine lv_istore (lv' := [(5, .int 0), (3, .long 0), (0, .ref (a 21)), (1, .long p0)]) hx hb dX5_union_3 hl (by decide) rfl (fun ls hl => ?_)
  obtain ⟨K9_5, hK9_5, hZ9⟩ := lp_gen hZ9
  have lp4 : ∀ (fu2 i1 : Nat) (y5 : Int64)  (H : Heap) (locs : List Loc) (ls : Array Slot), 40 < i1 + fu2 → i1 ≤ 40 → RES = f_y_union1_5 n dl p0 M fu2 i1 y5  K9_5 → va_P (dC, dI) vwCl (xW h a e cI cJ cO cE L I M J n cap fE sd si sa dl) H → va_D A (xW h a e cI cJ cO cE L I M J n cap fE sd si sa dl) → va_S A s.heap H locs → lv_has ls 6 [(5, .int (nI i1)), (3, .long y5), (0, .ref (a 21)), (1, .long p0)] → W p l e9 (headSpec wq_y_union1 rm_y_union1).room s m ([.ref (a 21), .long p0] : List Value).toArray below meth c H locs 0 0 Q0 (F0 m 5 ls []) := by
    intro fu2
    induction fu2 with
    | zero =>
      intro i1 y5  H locs ls hf hi
      exact absurd hf (by omega)
    | succ fu2 ih3 =>
      intro i1 y5  H locs ls hfi1 hii1 hZ9 hP hD hS hl
      rw [f_y_union1_5] at hZ9
      refine lv_iload hx hb dX5_union_5 (lv_at hl 0 rfl) ?_
      refine lv_aload_n hx hb dX5_union_7 rfl (lv_at hl 2 rfl) ?_
      refine va_alen (v := 40) hx hb hK hP 6 1 rfl rfl rfl dX5_union_8 ?_
      refine lv_icmp_ge (tgt := 34) hx hb dX5_union_9 (by decide) (fun c6 => ?_) (fun c6 => ?_)
      · replace c6 : 40 ≤ i1 := (nI_leI (a := 40) (b := i1) (by omega) (by omega)).mp c6
        replace hZ9 := ite_t hZ9 c6
        replace hZ9 := lp_app2 hK9_5 hZ9
        refine lv_lload_n hx hb dX5_union_34 rfl (lv_at hl 1 rfl) ?_
        rw [hQ]
        exact W.lret (v := y5) hx hb hr (fun t ht hW => ⟨⟨y5, (), rfl, hZ9.symm.trans hR0, by rw [ht]; exact hP, hD⟩, hS.F ht⟩) hS.2.2 dX5_union_35
      · replace c6 : ¬ (40 ≤ i1) := fun q9 => c6 ((nI_leI (a := 40) (b := i1) (by omega) (by omega)).mpr q9)
        replace hZ9 := ite_f hZ9 c6
        refine lv_lload_n hx hb dX5_union_12 rfl (lv_at hl 3 rfl) ?_
        refine lv_iload hx hb dX5_union_13 (lv_at hl 0 rfl) ?_
        have hFc := mw_free hD hS hA
        refine va_calli (va_runSN (As := [.long p0, .int (nI i1)]) (rest := []) ⟨hx, hb, hml, hown, hts⟩ (c_y_holds l dC dI h a e cI cJ cO cE L I M J n cap fE sd si sa dl (b) p0 i1 H.size hX (by omega) ) ⟨va_cnB 2 hts wc_y_union1_y_holds_19 rfl rfl rfl (hN (.methodLinkNest RX5 19 yX8_holds "ServiceTree") (by decide +kernel)) (hts (.initialized RX8) (by decide +kernel)) (by decide +kernel) ⟨Nat.le_of_ble_eq_true rfl, Nat.le_of_ble_eq_true rfl⟩, hts (.static yX8_holds) (by decide +kernel), trivial⟩ ⟨fun a9 U g mk q => by obtain ⟨q0, q1, qP, qK, qD, qN⟩ := q; exact ⟨q0, q1, qP, va_K.moved (u := U) (U := U.calling g mk a9) (Vm.Alike.refl U.vm) qK, qD, pw_N.same (u := U) (U := U.calling g mk a9) rfl qN⟩, fun U hU hW => ⟨rfl, by rw [hU], by rw [hU]; exact hP, va_K.moved hW.alike hK, hD.weaken (fun _ _ _ _ => trivial), pw_N.warm hW hN⟩⟩ rfl rfl hl.1 rfl (lv_room (Nat.le_of_ble_eq_true rfl)) dX5_union_15 ⟨Nat.le_of_ble_eq_true rfl, Nat.le_of_ble_eq_true rfl⟩) hS (fun q _ h => hFc q h) hFc (fun r7 u t H1 locs ht hvm hw hB hz1 hk1 hS => ?_)
        replace hP := hB.1
        rw [ht] at hP
        replace hD : va_D A (xW h a e cI cJ cO cE L I M J n cap fE sd si sa dl) := hB.2.weaken (fun _ q _ h9 => hFc q.1 h9)
        clear hB
        generalize H1 = H at hP hS ⊢
        replace hP : va_P (dC, dI) vwCl (xW h a e cI cJ cO cE L I M J n cap fE sd si sa dl) H := hP
        obtain ⟨hw, hwe⟩ := hw
        replace hw : r7 = f_y_holds n dl p0 i1  := hw
        replace hZ9 := bnd_s hZ9 hw
        have br7 := hwe
        refine lv_if_eq (tgt := 28) hx hb dX5_union_18 (by decide) (fun c8 => ?_) (fun c8 => ?_)
        · replace hZ9 := ite_t hZ9 c8
          refine lv_iinc (v := (nI (i1 + 1))) (lv' := [(5, .int (nI (i1 + 1))), (3, .long y5), (0, .ref (a 21)), (1, .long p0)]) hx hb dX5_union_28 hl (k := 0) rfl (nI_add i1 1) (by decide) rfl (fun ls hl => ?_)
          refine lv_goto (tgt := 5) hx hb dX5_union_31 (by decide) ?_
          exact ih3 (i1 + 1) y5  _ _ _ (by omega) (by omega)  hZ9 hP hD hS (lv_sub hl [0, 1, 2, 3] rfl)
        · replace hZ9 := ite_f hZ9 c8
          refine lv_lload_n hx hb dX5_union_21 rfl (lv_at hl 1 rfl) ?_
          refine lv_aload_n hx hb dX5_union_22 rfl (lv_at hl 2 rfl) ?_
          refine lv_iload hx hb dX5_union_23 (lv_at hl 0 rfl) ?_
          refine va_lald (n := 40) (f := M 1) hx hb hK hP 6 1 rfl rfl (vp_in_nI (n := i1) (by omega) (by omega)) dX5_union_25 ?_
          refine lv_topl (fun x9 ex9 => ?_)
          replace hZ9 := bnd_s hZ9 ex9
          refine lv_lor hx hb dX5_union_26 ?_
          refine lv_topl (fun x10 ex10 => ?_)
          replace hZ9 := bnd_s hZ9 ex10
          refine lv_lstore_n (lv' := [(3, .long x10), (5, .int (nI i1)), (0, .ref (a 21)), (1, .long p0)]) hx hb dX5_union_27 rfl hl (by decide) rfl (fun ls hl => ?_)
          refine lv_iinc (v := (nI (i1 + 1))) (lv' := [(5, .int (nI (i1 + 1))), (3, .long x10), (0, .ref (a 21)), (1, .long p0)]) hx hb dX5_union_28 hl (k := 1) rfl (nI_add i1 1) (by decide) rfl (fun ls hl => ?_)
          refine lv_goto (tgt := 5) hx hb dX5_union_31 (by decide) ?_
          exact ih3 (i1 + 1) x10  _ _ _ (by omega) (by omega)  hZ9 hP hD hS (lv_sub hl [0, 1, 2, 3] rfl)
  exact lp4 (40 + 1) 0 0  _ _ _ (by omega) (by omega)  hZ9 hP hD hS hl
def f_y_union2_5 (n : Nat) (dl : Nat → Nat) (p0 : Int64) (M : Nat → Nat → Int64) : Nat → Nat → Int64 → (Nat → Int64 → Int64) → Int64
  | 0, i1, y5, K9_5 => K9_5 i1 y5 
  | fu2 + 1, i1, y5, K9_5 => if 40 ≤ i1 then (K9_5 i1 y5) else (bnd (f_y_holds n dl p0 i1 ) (fun (r7 : Int32) => if r7 = (0 : Int32) then (f_y_union2_5 n dl p0 M fu2 (i1 + 1) y5  K9_5) else (bnd (M 2 (nI i1).toNatClampNeg) (fun (x9 : Int64) => bnd (y5 ||| x9) (fun (x10 : Int64) => f_y_union2_5 n dl p0 M fu2 (i1 + 1) x10  K9_5)))))
def f_y_union2 (n : Nat) (dl : Nat → Nat) (p0 : Int64) (M : Nat → Nat → Int64) : Int64 := f_y_union2_5 n dl p0 M (40 + 1) 0 (0 : Int64)  (fun (i1 : Nat) (y5 : Int64) => (y5))
def wq_y_union2 : List Cond := ([.code yX5_union cX5_union 6 (some .long), .initialized RX8, .static yX8_holds] : List Cond) ++ (wq_y_holds)
set_option maxRecDepth 20000 in
theorem wi_y_union2 : ∀ w ∈ wq_y_union2, w ∈ lw_tbl := List.forall_mem_append.mpr ⟨(wix [536, 60, 488] rfl), wi_y_holds⟩
set_option maxRecDepth 20000 in
theorem wg_y_union2 : GoodIn wq_y_union2 wq_y_union2 := goodIn_sub (fun _ h => h) (by decide +kernel)
theorem wc_y_union2_y_holds_19 : GoodIn wq_y_union2 wq_y_holds := (fun w h => ⟨List.mem_append_right _ (h), (wg_y_holds w h).2⟩)
def rm_y_union2 : Room := { frames := 1, cells := 0, slots := 0, locals := 22 }
set_option maxHeartbeats 4000000 in
set_option maxRecDepth 100000 in
theorem c_y_union2 (l : Launch) (dC : Nat → ClassId) (dI : Nat → Nat → Nat) (h : Nat) (a : Nat → Nat) (e : Nat) (cI cJ cO cE : ClassId) (L : Nat → Int64) (I : Nat → Int32) (M : Nat → Nat → Int64) (J : Nat → Nat → Int32) (n cap : Nat) (fE : Nat → Option Nat) (sd : Nat → Nat → Nat) (si : Nat → Nat → Int32) (sa : Nat → Nat → Nat → Int32) (dl : Nat → Nat) (b : Nat) (p0 : Int64) (sz : Nat) (hX0 : InvX n cap fE sd dl b I J si) (hb0 : b + 0 < 2147483648)  : Met l yX5_union wq_y_union2 rm_y_union2 (va_Pc [.ref (a 22), .long p0] (fun U => U.heap.size = sz ∧ va_P (dC, dI) vwCl (xW h a e cI cJ cO cE L I M J n cap fE sd si sa dl) U.heap ∧ va_K (dC, dI) vwCl (xT cI cJ cO cE) U ∧ va_D (fun _ => True) (xW h a e cI cJ cO cE L I M J n cap fE sd si sa dl) ∧ pw_N U)) (va_Ql (fun (r : Int64) (u : Unit) => (r = f_y_union2 n dl p0 M)) (fun (u : Unit) (t : State) => va_P (dC, dI) vwCl (xW h a e cI cJ cO cE L I M J n cap fE sd si sa dl) t.heap ∧ va_D (va_A (xW h a e cI cJ cO cE L I M J n cap fE sd si sa dl) sz) (xW h a e cI cJ cO cE L I M J n cap fE sd si sa dl)) (va_A (xW h a e cI cJ cO cE L I M J n cap fE sd si sa dl) sz)) 0 0 (va_A (xW h a e cI cJ cO cE L I M J n cap fE sd si sa dl) sz) := by
  have hn : n ≤ 40 := hX0.1.1
  have hX := hX0
  refine Met.ofW (cc := cX5_union) (maxL := 6) (ret := (some .long)) (by decide) rfl ?_
  intro p e9 s m args below meth c s₁ B hml hv
  obtain ⟨rfl, hsz, hP, hK, hD0, hN⟩ := hv
  have hx := B.exec
  have hb := B.bytes
  have hr := B.returns
  have hts := atoms_spec (ws := wq_y_union2) B.pre
  have hown : s.vm.findClass RX5 = some m.cls := findClass_of_methodNamed B.named
  have hlocks := B.notSynchronized
  subst hsz
  have hD := hD0.self (sz := s.heap.size)
  generalize hAe : va_A (xW h a e cI cJ cO cE L I M J n cap fE sd si sa dl) s.heap.size = A at hD ⊢
  have hA : ∀ q : Nat, s.heap.size ≤ q → A q := fun q h => by rw [← hAe]; exact Or.inr h
  have hS : va_S A s.heap s.heap [] := va_S.rf
  have hl := lv_entry ([.ref (a 22), .long p0]) (n := 6) (Nat.le_of_ble_eq_true rfl)
  rw [lg_entry_eq]
  generalize (lg_sl ([.ref (a 22), .long p0]) ++ List.replicate (6 - (lg_sl ([.ref (a 22), .long p0])).length) Slot.unset).toArray = ls at hl ⊢
  have hl : lv_has ls 6 [(0, .ref (a 22)), (1, .long p0)] := hl
  refine mw_Q (fun Q0 hQ => ?_)
  obtain ⟨RES, hR0⟩ : ∃ R9, R9 = f_y_union2 n dl p0 M := ⟨_, rfl⟩
  have hZ9 := hR0
  unfold f_y_union2 at hZ9
  refine lv_lconst (v := 0) hx hb dX5_union_0 (by decide) ?_
  refine lv_lstore_n (lv' := [(3, .long 0), (0, .ref (a 22)), (1, .long p0)]) hx hb dX5_union_1 rfl hl (by decide) rfl (fun ls hl => ?_)
  refine lv_iconst (v := 0) hx hb dX5_union_2 (by decide) ?_
  refine lv_istore (lv' := [(5, .int 0), (3, .long 0), (0, .ref (a 22)), (1, .long p0)]) hx hb dX5_union_3 hl (by decide) rfl (fun ls hl => ?_)
  obtain ⟨K9_5, hK9_5, hZ9⟩ := lp_gen hZ9
  have lp4 : ∀ (fu2 i1 : Nat) (y5 : Int64)  (H : Heap) (locs : List Loc) (ls : Array Slot), 40 < i1 + fu2 → i1 ≤ 40 → RES = f_y_union2_5 n dl p0 M fu2 i1 y5  K9_5 → va_P (dC, dI) vwCl (xW h a e cI cJ cO cE L I M J n cap fE sd si sa dl) H → va_D A (xW h a e cI cJ cO cE L I M J n cap fE sd si sa dl) → va_S A s.heap H locs → lv_has ls 6 [(5, .int (nI i1)), (3, .long y5), (0, .ref (a 22)), (1, .long p0)] → W p l e9 (headSpec wq_y_union2 rm_y_union2).room s m ([.ref (a 22), .long p0] : List Value).toArray below meth c H locs 0 0 Q0 (F0 m 5 ls []) := by
    intro fu2
    induction fu2 with
    | zero =>
      intro i1 y5  H locs ls hf hi
      exact absurd hf (by omega)
    | succ fu2 ih3 =>
      intro i1 y5  H locs ls hfi1 hii1 hZ9 hP hD hS hl
      rw [f_y_union2_5] at hZ9
      refine lv_iload hx hb dX5_union_5 (lv_at hl 0 rfl) ?_
      refine lv_aload_n hx hb dX5_union_7 rfl (lv_at hl 2 rfl) ?_
      refine va_alen (v := 40) hx hb hK hP 7 1 rfl rfl rfl dX5_union_8 ?_
      refine lv_icmp_ge (tgt := 34) hx hb dX5_union_9 (by decide) (fun c6 => ?_) (fun c6 => ?_)
      · replace c6 : 40 ≤ i1 := (nI_leI (a := 40) (b := i1) (by omega) (by omega)).mp c6
        replace hZ9 := ite_t hZ9 c6
        replace hZ9 := lp_app2 hK9_5 hZ9
        refine lv_lload_n hx hb dX5_union_34 rfl (lv_at hl 1 rfl) ?_
        rw [hQ]
        exact W.lret (v := y5) hx hb hr (fun t ht hW => ⟨⟨y5, (), rfl, hZ9.symm.trans hR0, by rw [ht]; exact hP, hD⟩, hS.F ht⟩) hS.2.2 dX5_union_35
      · replace c6 : ¬ (40 ≤ i1) := fun q9 => c6 ((nI_leI (a := 40) (b := i1) (by omega) (by omega)).mpr q9)
        replace hZ9 := ite_f hZ9 c6
        refine lv_lload_n hx hb dX5_union_12 rfl (lv_at hl 3 rfl) ?_
        refine lv_iload hx hb dX5_union_13 (lv_at hl 0 rfl) ?_
        have hFc := mw_free hD hS hA
        refine va_calli (va_runSN (As := [.long p0, .int (nI i1)]) (rest := []) ⟨hx, hb, hml, hown, hts⟩ (c_y_holds l dC dI h a e cI cJ cO cE L I M J n cap fE sd si sa dl (b) p0 i1 H.size hX (by omega) ) ⟨va_cnB 2 hts wc_y_union2_y_holds_19 rfl rfl rfl (hN (.methodLinkNest RX5 19 yX8_holds "ServiceTree") (by decide +kernel)) (hts (.initialized RX8) (by decide +kernel)) (by decide +kernel) ⟨Nat.le_of_ble_eq_true rfl, Nat.le_of_ble_eq_true rfl⟩, hts (.static yX8_holds) (by decide +kernel), trivial⟩ ⟨fun a9 U g mk q => by obtain ⟨q0, q1, qP, qK, qD, qN⟩ := q; exact ⟨q0, q1, qP, va_K.moved (u := U) (U := U.calling g mk a9) (Vm.Alike.refl U.vm) qK, qD, pw_N.same (u := U) (U := U.calling g mk a9) rfl qN⟩, fun U hU hW => ⟨rfl, by rw [hU], by rw [hU]; exact hP, va_K.moved hW.alike hK, hD.weaken (fun _ _ _ _ => trivial), pw_N.warm hW hN⟩⟩ rfl rfl hl.1 rfl (lv_room (Nat.le_of_ble_eq_true rfl)) dX5_union_15 ⟨Nat.le_of_ble_eq_true rfl, Nat.le_of_ble_eq_true rfl⟩) hS (fun q _ h => hFc q h) hFc (fun r7 u t H1 locs ht hvm hw hB hz1 hk1 hS => ?_)
        replace hP := hB.1
        rw [ht] at hP
        replace hD : va_D A (xW h a e cI cJ cO cE L I M J n cap fE sd si sa dl) := hB.2.weaken (fun _ q _ h9 => hFc q.1 h9)
        clear hB
        generalize H1 = H at hP hS ⊢
        replace hP : va_P (dC, dI) vwCl (xW h a e cI cJ cO cE L I M J n cap fE sd si sa dl) H := hP
        obtain ⟨hw, hwe⟩ := hw
        replace hw : r7 = f_y_holds n dl p0 i1  := hw
        replace hZ9 := bnd_s hZ9 hw
        have br7 := hwe
        refine lv_if_eq (tgt := 28) hx hb dX5_union_18 (by decide) (fun c8 => ?_) (fun c8 => ?_)
        · replace hZ9 := ite_t hZ9 c8
          refine lv_iinc (v := (nI (i1 + 1))) (lv' := [(5, .int (nI (i1 + 1))), (3, .long y5), (0, .ref (a 22)), (1, .long p0)]) hx hb dX5_union_28 hl (k := 0) rfl (nI_add i1 1) (by decide) rfl (fun ls hl => ?_)
          refine lv_goto (tgt := 5) hx hb dX5_union_31 (by decide) ?_
          exact ih3 (i1 + 1) y5  _ _ _ (by omega) (by omega)  hZ9 hP hD hS (lv_sub hl [0, 1, 2, 3] rfl)
        · replace hZ9 := ite_f hZ9 c8
          refine lv_lload_n hx hb dX5_union_21 rfl (lv_at hl 1 rfl) ?_
          refine lv_aload_n hx hb dX5_union_22 rfl (lv_at hl 2 rfl) ?_
          refine lv_iload hx hb dX5_union_23 (lv_at hl 0 rfl) ?_
          refine va_lald (n := 40) (f := M 2) hx hb hK hP 7 1 rfl rfl (vp_in_nI (n := i1) (by omega) (by omega)) dX5_union_25 ?_
          refine lv_topl (fun x9 ex9 => ?_)
          replace hZ9 := bnd_s hZ9 ex9
          refine lv_lor hx hb dX5_union_26 ?_
          refine lv_topl (fun x10 ex10 => ?_)
          replace hZ9 := bnd_s hZ9 ex10
          refine lv_lstore_n (lv' := [(3, .long x10), (5, .int (nI i1)), (0, .ref (a 22)), (1, .long p0)]) hx hb dX5_union_27 rfl hl (by decide) rfl (fun ls hl => ?_)
          refine lv_iinc (v := (nI (i1 + 1))) (lv' := [(5, .int (nI (i1 + 1))), (3, .long x10), (0, .ref (a 22)), (1, .long p0)]) hx hb dX5_union_28 hl (k := 1) rfl (nI_add i1 1) (by decide) rfl (fun ls hl => ?_)
          refine lv_goto (tgt := 5) hx hb dX5_union_31 (by decide) ?_
          exact ih3 (i1 + 1) x10  _ _ _ (by omega) (by omega)  hZ9 hP hD hS (lv_sub hl [0, 1, 2, 3] rfl)
  exact lp4 (40 + 1) 0 0  _ _ _ (by omega) (by omega)  hZ9 hP hD hS hl
def f_y_union3_5 (n : Nat) (dl : Nat → Nat) (p0 : Int64) (M : Nat → Nat → Int64) : Nat → Nat → Int64 → (Nat → Int64 → Int64) → Int64
  | 0, i1, y5, K9_5 => K9_5 i1 y5 
  | fu2 + 1, i1, y5, K9_5 => if 40 ≤ i1 then (K9_5 i1 y5) else (bnd (f_y_holds n dl p0 i1 ) (fun (r7 : Int32) => if r7 = (0 : Int32) then (f_y_union3_5 n dl p0 M fu2 (i1 + 1) y5  K9_5) else (bnd (M 3 (nI i1).toNatClampNeg) (fun (x9 : Int64) => bnd (y5 ||| x9) (fun (x10 : Int64) => f_y_union3_5 n dl p0 M fu2 (i1 + 1) x10  K9_5)))))
def f_y_union3 (n : Nat) (dl : Nat → Nat) (p0 : Int64) (M : Nat → Nat → Int64) : Int64 := f_y_union3_5 n dl p0 M (40 + 1) 0 (0 : Int64)  (fun (i1 : Nat) (y5 : Int64) => (y5))
def wq_y_union3 : List Cond := ([.code yX5_union cX5_union 6 (some .long), .initialized RX8, .static yX8_holds] : List Cond) ++ (wq_y_holds)
set_option maxRecDepth 20000 in
theorem wi_y_union3 : ∀ w ∈ wq_y_union3, w ∈ lw_tbl := List.forall_mem_append.mpr ⟨(wix [536, 60, 488] rfl), wi_y_holds⟩
set_option maxRecDepth 20000 in
theorem wg_y_union3 : GoodIn wq_y_union3 wq_y_union3 := goodIn_sub (fun _ h => h) (by decide +kernel)
theorem wc_y_union3_y_holds_19 : GoodIn wq_y_union3 wq_y_holds := (fun w h => ⟨List.mem_append_right _ (h), (wg_y_holds w h).2⟩)
def rm_y_union3 : Room := { frames := 1, cells := 0, slots := 0, locals := 22 }
set_option maxHeartbeats 4000000 in
set_option maxRecDepth 100000 in
theorem c_y_union3 (l : Launch) (dC : Nat → ClassId) (dI : Nat → Nat → Nat) (h : Nat) (a : Nat → Nat) (e : Nat) (cI cJ cO cE : ClassId) (L : Nat → Int64) (I : Nat → Int32) (M : Nat → Nat → Int64) (J : Nat → Nat → Int32) (n cap : Nat) (fE : Nat → Option Nat) (sd : Nat → Nat → Nat) (si : Nat → Nat → Int32) (sa : Nat → Nat → Nat → Int32) (dl : Nat → Nat) (b : Nat) (p0 : Int64) (sz : Nat) (hX0 : InvX n cap fE sd dl b I J si) (hb0 : b + 0 < 2147483648)  : Met l yX5_union wq_y_union3 rm_y_union3 (va_Pc [.ref (a 23), .long p0] (fun U => U.heap.size = sz ∧ va_P (dC, dI) vwCl (xW h a e cI cJ cO cE L I M J n cap fE sd si sa dl) U.heap ∧ va_K (dC, dI) vwCl (xT cI cJ cO cE) U ∧ va_D (fun _ => True) (xW h a e cI cJ cO cE L I M J n cap fE sd si sa dl) ∧ pw_N U)) (va_Ql (fun (r : Int64) (u : Unit) => (r = f_y_union3 n dl p0 M)) (fun (u : Unit) (t : State) => va_P (dC, dI) vwCl (xW h a e cI cJ cO cE L I M J n cap fE sd si sa dl) t.heap ∧ va_D (va_A (xW h a e cI cJ cO cE L I M J n cap fE sd si sa dl) sz) (xW h a e cI cJ cO cE L I M J n cap fE sd si sa dl)) (va_A (xW h a e cI cJ cO cE L I M J n cap fE sd si sa dl) sz)) 0 0 (va_A (xW h a e cI cJ cO cE L I M J n cap fE sd si sa dl) sz) := by
  have hn : n ≤ 40 := hX0.1.1
  have hX := hX0
  refine Met.ofW (cc := cX5_union) (maxL := 6) (ret := (some .long)) (by decide) rfl ?_
  intro p e9 s m args below meth c s₁ B hml hv
  obtain ⟨rfl, hsz, hP, hK, hD0, hN⟩ := hv
  have hx := B.exec
  have hb := B.bytes
  have hr := B.returns
  have hts := atoms_spec (ws := wq_y_union3) B.pre
  have hown : s.vm.findClass RX5 = some m.cls := findClass_of_methodNamed B.named
  have hlocks := B.notSynchronized
  subst hsz
  have hD := hD0.self (sz := s.heap.size)
  generalize hAe : va_A (xW h a e cI cJ cO cE L I M J n cap fE sd si sa dl) s.heap.size = A at hD ⊢
  have hA : ∀ q : Nat, s.heap.size ≤ q → A q := fun q h => by rw [← hAe]; exact Or.inr h
  have hS : va_S A s.heap s.heap [] := va_S.rf
  have hl := lv_entry ([.ref (a 23), .long p0]) (n := 6) (Nat.le_of_ble_eq_true rfl)
  rw [lg_entry_eq]
  generalize (lg_sl ([.ref (a 23), .long p0]) ++ List.replicate (6 - (lg_sl ([.ref (a 23), .long p0])).length) Slot.unset).toArray = ls at hl ⊢
  have hl : lv_has ls 6 [(0, .ref (a 23)), (1, .long p0)] := hl
  refine mw_Q (fun Q0 hQ => ?_)
  obtain ⟨RES, hR0⟩ : ∃ R9, R9 = f_y_union3 n dl p0 M := ⟨_, rfl⟩
  have hZ9 := hR0
  unfold f_y_union3 at hZ9
  refine lv_lconst (v := 0) hx hb dX5_union_0 (by decide) ?_
  refine lv_lstore_n (lv' := [(3, .long 0), (0, .ref (a 23)), (1, .long p0)]) hx hb dX5_union_1 rfl hl (by decide) rfl (fun ls hl => ?_)
  refine lv_iconst (v := 0) hx hb dX5_union_2 (by decide) ?_
  refine lv_istore (lv' := [(5, .int 0), (3, .long 0), (0, .ref (a 23)), (1, .long p0)]) hx hb dX5_union_3 hl (by decide) rfl (fun ls hl => ?_)
  obtain ⟨K9_5, hK9_5, hZ9⟩ := lp_gen hZ9
  have lp4 : ∀ (fu2 i1 : Nat) (y5 : Int64)  (H : Heap) (locs : List Loc) (ls : Array Slot), 40 < i1 + fu2 → i1 ≤ 40 → RES = f_y_union3_5 n dl p0 M fu2 i1 y5  K9_5 → va_P (dC, dI) vwCl (xW h a e cI cJ cO cE L I M J n cap fE sd si sa dl) H → va_D A (xW h a e cI cJ cO cE L I M J n cap fE sd si sa dl) → va_S A s.heap H locs → lv_has ls 6 [(5, .int (nI i1)), (3, .long y5), (0, .ref (a 23)), (1, .long p0)] → W p l e9 (headSpec wq_y_union3 rm_y_union3).room s m ([.ref (a 23), .long p0] : List Value).toArray below meth c H locs 0 0 Q0 (F0 m 5 ls []) := by
    intro fu2
    induction fu2 with
    | zero =>
      intro i1 y5  H locs ls hf hi
      exact absurd hf (by omega)
    | succ fu2 ih3 =>
      intro i1 y5  H locs ls hfi1 hii1 hZ9 hP hD hS hl
      rw [f_y_union3_5] at hZ9
      refine lv_iload hx hb dX5_union_5 (lv_at hl 0 rfl) ?_
      refine lv_aload_n hx hb dX5_union_7 rfl (lv_at hl 2 rfl) ?_
      refine va_alen (v := 40) hx hb hK hP 8 1 rfl rfl rfl dX5_union_8 ?_
      refine lv_icmp_ge (tgt := 34) hx hb dX5_union_9 (by decide) (fun c6 => ?_) (fun c6 => ?_)
      · replace c6 : 40 ≤ i1 := (nI_leI (a := 40) (b := i1) (by omega) (by omega)).mp c6
        replace hZ9 := ite_t hZ9 c6
        replace hZ9 := lp_app2 hK9_5 hZ9
        refine lv_lload_n hx hb dX5_union_34 rfl (lv_at hl 1 rfl) ?_
        rw [hQ]
        exact W.lret (v := y5) hx hb hr (fun t ht hW => ⟨⟨y5, (), rfl, hZ9.symm.trans hR0, by rw [ht]; exact hP, hD⟩, hS.F ht⟩) hS.2.2 dX5_union_35
      · replace c6 : ¬ (40 ≤ i1) := fun q9 => c6 ((nI_leI (a := 40) (b := i1) (by omega) (by omega)).mpr q9)
        replace hZ9 := ite_f hZ9 c6
        refine lv_lload_n hx hb dX5_union_12 rfl (lv_at hl 3 rfl) ?_
        refine lv_iload hx hb dX5_union_13 (lv_at hl 0 rfl) ?_
        have hFc := mw_free hD hS hA
        refine va_calli (va_runSN (As := [.long p0, .int (nI i1)]) (rest := []) ⟨hx, hb, hml, hown, hts⟩ (c_y_holds l dC dI h a e cI cJ cO cE L I M J n cap fE sd si sa dl (b) p0 i1 H.size hX (by omega) ) ⟨va_cnB 2 hts wc_y_union3_y_holds_19 rfl rfl rfl (hN (.methodLinkNest RX5 19 yX8_holds "ServiceTree") (by decide +kernel)) (hts (.initialized RX8) (by decide +kernel)) (by decide +kernel) ⟨Nat.le_of_ble_eq_true rfl, Nat.le_of_ble_eq_true rfl⟩, hts (.static yX8_holds) (by decide +kernel), trivial⟩ ⟨fun a9 U g mk q => by obtain ⟨q0, q1, qP, qK, qD, qN⟩ := q; exact ⟨q0, q1, qP, va_K.moved (u := U) (U := U.calling g mk a9) (Vm.Alike.refl U.vm) qK, qD, pw_N.same (u := U) (U := U.calling g mk a9) rfl qN⟩, fun U hU hW => ⟨rfl, by rw [hU], by rw [hU]; exact hP, va_K.moved hW.alike hK, hD.weaken (fun _ _ _ _ => trivial), pw_N.warm hW hN⟩⟩ rfl rfl hl.1 rfl (lv_room (Nat.le_of_ble_eq_true rfl)) dX5_union_15 ⟨Nat.le_of_ble_eq_true rfl, Nat.le_of_ble_eq_true rfl⟩) hS (fun q _ h => hFc q h) hFc (fun r7 u t H1 locs ht hvm hw hB hz1 hk1 hS => ?_)
        replace hP := hB.1
        rw [ht] at hP
        replace hD : va_D A (xW h a e cI cJ cO cE L I M J n cap fE sd si sa dl) := hB.2.weaken (fun _ q _ h9 => hFc q.1 h9)
        clear hB
        generalize H1 = H at hP hS ⊢
        replace hP : va_P (dC, dI) vwCl (xW h a e cI cJ cO cE L I M J n cap fE sd si sa dl) H := hP
        obtain ⟨hw, hwe⟩ := hw
        replace hw : r7 = f_y_holds n dl p0 i1  := hw
        replace hZ9 := bnd_s hZ9 hw
        have br7 := hwe
        refine lv_if_eq (tgt := 28) hx hb dX5_union_18 (by decide) (fun c8 => ?_) (fun c8 => ?_)
        · replace hZ9 := ite_t hZ9 c8
          refine lv_iinc (v := (nI (i1 + 1))) (lv' := [(5, .int (nI (i1 + 1))), (3, .long y5), (0, .ref (a 23)), (1, .long p0)]) hx hb dX5_union_28 hl (k := 0) rfl (nI_add i1 1) (by decide) rfl (fun ls hl => ?_)
          refine lv_goto (tgt := 5) hx hb dX5_union_31 (by decide) ?_
          exact ih3 (i1 + 1) y5  _ _ _ (by omega) (by omega)  hZ9 hP hD hS (lv_sub hl [0, 1, 2, 3] rfl)
        · replace hZ9 := ite_f hZ9 c8
          refine lv_lload_n hx hb dX5_union_21 rfl (lv_at hl 1 rfl) ?_
          refine lv_aload_n hx hb dX5_union_22 rfl (lv_at hl 2 rfl) ?_
          refine lv_iload hx hb dX5_union_23 (lv_at hl 0 rfl) ?_
          refine va_lald (n := 40) (f := M 3) hx hb hK hP 8 1 rfl rfl (vp_in_nI (n := i1) (by omega) (by omega)) dX5_union_25 ?_
          refine lv_topl (fun x9 ex9 => ?_)
          replace hZ9 := bnd_s hZ9 ex9
          refine lv_lor hx hb dX5_union_26 ?_
          refine lv_topl (fun x10 ex10 => ?_)
          replace hZ9 := bnd_s hZ9 ex10
          refine lv_lstore_n (lv' := [(3, .long x10), (5, .int (nI i1)), (0, .ref (a 23)), (1, .long p0)]) hx hb dX5_union_27 rfl hl (by decide) rfl (fun ls hl => ?_)
          refine lv_iinc (v := (nI (i1 + 1))) (lv' := [(5, .int (nI (i1 + 1))), (3, .long x10), (0, .ref (a 23)), (1, .long p0)]) hx hb dX5_union_28 hl (k := 1) rfl (nI_add i1 1) (by decide) rfl (fun ls hl => ?_)
          refine lv_goto (tgt := 5) hx hb dX5_union_31 (by decide) ?_
          exact ih3 (i1 + 1) x10  _ _ _ (by omega) (by omega)  hZ9 hP hD hS (lv_sub hl [0, 1, 2, 3] rfl)
  exact lp4 (40 + 1) 0 0  _ _ _ (by omega) (by omega)  hZ9 hP hD hS hl
def f_y_union4_5 (n : Nat) (dl : Nat → Nat) (p0 : Int64) (M : Nat → Nat → Int64) : Nat → Nat → Int64 → (Nat → Int64 → Int64) → Int64
  | 0, i1, y5, K9_5 => K9_5 i1 y5 
  | fu2 + 1, i1, y5, K9_5 => if 40 ≤ i1 then (K9_5 i1 y5) else (bnd (f_y_holds n dl p0 i1 ) (fun (r7 : Int32) => if r7 = (0 : Int32) then (f_y_union4_5 n dl p0 M fu2 (i1 + 1) y5  K9_5) else (bnd (M 4 (nI i1).toNatClampNeg) (fun (x9 : Int64) => bnd (y5 ||| x9) (fun (x10 : Int64) => f_y_union4_5 n dl p0 M fu2 (i1 + 1) x10  K9_5)))))
def f_y_union4 (n : Nat) (dl : Nat → Nat) (p0 : Int64) (M : Nat → Nat → Int64) : Int64 := f_y_union4_5 n dl p0 M (40 + 1) 0 (0 : Int64)  (fun (i1 : Nat) (y5 : Int64) => (y5))
def wq_y_union4 : List Cond := ([.code yX5_union cX5_union 6 (some .long), .initialized RX8, .static yX8_holds] : List Cond) ++ (wq_y_holds)
set_option maxRecDepth 20000 in
theorem wi_y_union4 : ∀ w ∈ wq_y_union4, w ∈ lw_tbl := List.forall_mem_append.mpr ⟨(wix [536, 60, 488] rfl), wi_y_holds⟩
set_option maxRecDepth 20000 in
theorem wg_y_union4 : GoodIn wq_y_union4 wq_y_union4 := goodIn_sub (fun _ h => h) (by decide +kernel)
theorem wc_y_union4_y_holds_19 : GoodIn wq_y_union4 wq_y_holds := (fun w h => ⟨List.mem_append_right _ (h), (wg_y_holds w h).2⟩)
def rm_y_union4 : Room := { frames := 1, cells := 0, slots := 0, locals := 22 }
set_option maxHeartbeats 4000000 in
set_option maxRecDepth 100000 in
theorem c_y_union4 (l : Launch) (dC : Nat → ClassId) (dI : Nat → Nat → Nat) (h : Nat) (a : Nat → Nat) (e : Nat) (cI cJ cO cE : ClassId) (L : Nat → Int64) (I : Nat → Int32) (M : Nat → Nat → Int64) (J : Nat → Nat → Int32) (n cap : Nat) (fE : Nat → Option Nat) (sd : Nat → Nat → Nat) (si : Nat → Nat → Int32) (sa : Nat → Nat → Nat → Int32) (dl : Nat → Nat) (b : Nat) (p0 : Int64) (sz : Nat) (hX0 : InvX n cap fE sd dl b I J si) (hb0 : b + 0 < 2147483648)  : Met l yX5_union wq_y_union4 rm_y_union4 (va_Pc [.ref (a 24), .long p0] (fun U => U.heap.size = sz ∧ va_P (dC, dI) vwCl (xW h a e cI cJ cO cE L I M J n cap fE sd si sa dl) U.heap ∧ va_K (dC, dI) vwCl (xT cI cJ cO cE) U ∧ va_D (fun _ => True) (xW h a e cI cJ cO cE L I M J n cap fE sd si sa dl) ∧ pw_N U)) (va_Ql (fun (r : Int64) (u : Unit) => (r = f_y_union4 n dl p0 M)) (fun (u : Unit) (t : State) => va_P (dC, dI) vwCl (xW h a e cI cJ cO cE L I M J n cap fE sd si sa dl) t.heap ∧ va_D (va_A (xW h a e cI cJ cO cE L I M J n cap fE sd si sa dl) sz) (xW h a e cI cJ cO cE L I M J n cap fE sd si sa dl)) (va_A (xW h a e cI cJ cO cE L I M J n cap fE sd si sa dl) sz)) 0 0 (va_A (xW h a e cI cJ cO cE L I M J n cap fE sd si sa dl) sz) := by
  have hn : n ≤ 40 := hX0.1.1
  have hX := hX0
  refine Met.ofW (cc := cX5_union) (maxL := 6) (ret := (some .long)) (by decide) rfl ?_
  intro p e9 s m args below meth c s₁ B hml hv
  obtain ⟨rfl, hsz, hP, hK, hD0, hN⟩ := hv
  have hx := B.exec
  have hb := B.bytes
  have hr := B.returns
  have hts := atoms_spec (ws := wq_y_union4) B.pre
  have hown : s.vm.findClass RX5 = some m.cls := findClass_of_methodNamed B.named
  have hlocks := B.notSynchronized
  subst hsz
  have hD := hD0.self (sz := s.heap.size)
  generalize hAe : va_A (xW h a e cI cJ cO cE L I M J n cap fE sd si sa dl) s.heap.size = A at hD ⊢
  have hA : ∀ q : Nat, s.heap.size ≤ q → A q := fun q h => by rw [← hAe]; exact Or.inr h
  have hS : va_S A s.heap s.heap [] := va_S.rf
  have hl := lv_entry ([.ref (a 24), .long p0]) (n := 6) (Nat.le_of_ble_eq_true rfl)
  rw [lg_entry_eq]
  generalize (lg_sl ([.ref (a 24), .long p0]) ++ List.replicate (6 - (lg_sl ([.ref (a 24), .long p0])).length) Slot.unset).toArray = ls at hl ⊢
  have hl : lv_has ls 6 [(0, .ref (a 24)), (1, .long p0)] := hl
  refine mw_Q (fun Q0 hQ => ?_)
  obtain ⟨RES, hR0⟩ : ∃ R9, R9 = f_y_union4 n dl p0 M := ⟨_, rfl⟩
  have hZ9 := hR0
  unfold f_y_union4 at hZ9
  refine lv_lconst (v := 0) hx hb dX5_union_0 (by decide) ?_
  refine lv_lstore_n (lv' := [(3, .long 0), (0, .ref (a 24)), (1, .long p0)]) hx hb dX5_union_1 rfl hl (by decide) rfl (fun ls hl => ?_)
  refine lv_iconst (v := 0) hx hb dX5_union_2 (by decide) ?_
  refine lv_istore (lv' := [(5, .int 0), (3, .long 0), (0, .ref (a 24)), (1, .long p0)]) hx hb dX5_union_3 hl (by decide) rfl (fun ls hl => ?_)
  obtain ⟨K9_5, hK9_5, hZ9⟩ := lp_gen hZ9
  have lp4 : ∀ (fu2 i1 : Nat) (y5 : Int64)  (H : Heap) (locs : List Loc) (ls : Array Slot), 40 < i1 + fu2 → i1 ≤ 40 → RES = f_y_union4_5 n dl p0 M fu2 i1 y5  K9_5 → va_P (dC, dI) vwCl (xW h a e cI cJ cO cE L I M J n cap fE sd si sa dl) H → va_D A (xW h a e cI cJ cO cE L I M J n cap fE sd si sa dl) → va_S A s.heap H locs → lv_has ls 6 [(5, .int (nI i1)), (3, .long y5), (0, .ref (a 24)), (1, .long p0)] → W p l e9 (headSpec wq_y_union4 rm_y_union4).room s m ([.ref (a 24), .long p0] : List Value).toArray below meth c H locs 0 0 Q0 (F0 m 5 ls []) := by
    intro fu2
    induction fu2 with
    | zero =>
      intro i1 y5  H locs ls hf hi
      exact absurd hf (by omega)
    | succ fu2 ih3 =>
      intro i1 y5  H locs ls hfi1 hii1 hZ9 hP hD hS hl
      rw [f_y_union4_5] at hZ9
      refine lv_iload hx hb dX5_union_5 (lv_at hl 0 rfl) ?_
      refine lv_aload_n hx hb dX5_union_7 rfl (lv_at hl 2 rfl) ?_
      refine va_alen (v := 40) hx hb hK hP 9 1 rfl rfl rfl dX5_union_8 ?_
      refine lv_icmp_ge (tgt := 34) hx hb dX5_union_9 (by decide) (fun c6 => ?_) (fun c6 => ?_)
      · replace c6 : 40 ≤ i1 := (nI_leI (a := 40) (b := i1) (by omega) (by omega)).mp c6
        replace hZ9 := ite_t hZ9 c6
        replace hZ9 := lp_app2 hK9_5 hZ9
        refine lv_lload_n hx hb dX5_union_34 rfl (lv_at hl 1 rfl) ?_
        rw [hQ]
        exact W.lret (v := y5) hx hb hr (fun t ht hW => ⟨⟨y5, (), rfl, hZ9.symm.trans hR0, by rw [ht]; exact hP, hD⟩, hS.F ht⟩) hS.2.2 dX5_union_35
      · replace c6 : ¬ (40 ≤ i1) := fun q9 => c6 ((nI_leI (a := 40) (b := i1) (by omega) (by omega)).mpr q9)
        replace hZ9 := ite_f hZ9 c6
        refine lv_lload_n hx hb dX5_union_12 rfl (lv_at hl 3 rfl) ?_
        refine lv_iload hx hb dX5_union_13 (lv_at hl 0 rfl) ?_
        have hFc := mw_free hD hS hA
        refine va_calli (va_runSN (As := [.long p0, .int (nI i1)]) (rest := []) ⟨hx, hb, hml, hown, hts⟩ (c_y_holds l dC dI h a e cI cJ cO cE L I M J n cap fE sd si sa dl (b) p0 i1 H.size hX (by omega) ) ⟨va_cnB 2 hts wc_y_union4_y_holds_19 rfl rfl rfl (hN (.methodLinkNest RX5 19 yX8_holds "ServiceTree") (by decide +kernel)) (hts (.initialized RX8) (by decide +kernel)) (by decide +kernel) ⟨Nat.le_of_ble_eq_true rfl, Nat.le_of_ble_eq_true rfl⟩, hts (.static yX8_holds) (by decide +kernel), trivial⟩ ⟨fun a9 U g mk q => by obtain ⟨q0, q1, qP, qK, qD, qN⟩ := q; exact ⟨q0, q1, qP, va_K.moved (u := U) (U := U.calling g mk a9) (Vm.Alike.refl U.vm) qK, qD, pw_N.same (u := U) (U := U.calling g mk a9) rfl qN⟩, fun U hU hW => ⟨rfl, by rw [hU], by rw [hU]; exact hP, va_K.moved hW.alike hK, hD.weaken (fun _ _ _ _ => trivial), pw_N.warm hW hN⟩⟩ rfl rfl hl.1 rfl (lv_room (Nat.le_of_ble_eq_true rfl)) dX5_union_15 ⟨Nat.le_of_ble_eq_true rfl, Nat.le_of_ble_eq_true rfl⟩) hS (fun q _ h => hFc q h) hFc (fun r7 u t H1 locs ht hvm hw hB hz1 hk1 hS => ?_)
        replace hP := hB.1
        rw [ht] at hP
        replace hD : va_D A (xW h a e cI cJ cO cE L I M J n cap fE sd si sa dl) := hB.2.weaken (fun _ q _ h9 => hFc q.1 h9)
        clear hB
        generalize H1 = H at hP hS ⊢
        replace hP : va_P (dC, dI) vwCl (xW h a e cI cJ cO cE L I M J n cap fE sd si sa dl) H := hP
        obtain ⟨hw, hwe⟩ := hw
        replace hw : r7 = f_y_holds n dl p0 i1  := hw
        replace hZ9 := bnd_s hZ9 hw
        have br7 := hwe
        refine lv_if_eq (tgt := 28) hx hb dX5_union_18 (by decide) (fun c8 => ?_) (fun c8 => ?_)
        · replace hZ9 := ite_t hZ9 c8
          refine lv_iinc (v := (nI (i1 + 1))) (lv' := [(5, .int (nI (i1 + 1))), (3, .long y5), (0, .ref (a 24)), (1, .long p0)]) hx hb dX5_union_28 hl (k := 0) rfl (nI_add i1 1) (by decide) rfl (fun ls hl => ?_)
          refine lv_goto (tgt := 5) hx hb dX5_union_31 (by decide) ?_
          exact ih3 (i1 + 1) y5  _ _ _ (by omega) (by omega)  hZ9 hP hD hS (lv_sub hl [0, 1, 2, 3] rfl)
        · replace hZ9 := ite_f hZ9 c8
          refine lv_lload_n hx hb dX5_union_21 rfl (lv_at hl 1 rfl) ?_
          refine lv_aload_n hx hb dX5_union_22 rfl (lv_at hl 2 rfl) ?_
          refine lv_iload hx hb dX5_union_23 (lv_at hl 0 rfl) ?_
          refine va_lald (n := 40) (f := M 4) hx hb hK hP 9 1 rfl rfl (vp_in_nI (n := i1) (by omega) (by omega)) dX5_union_25 ?_
          refine lv_topl (fun x9 ex9 => ?_)
          replace hZ9 := bnd_s hZ9 ex9
          refine lv_lor hx hb dX5_union_26 ?_
          refine lv_topl (fun x10 ex10 => ?_)
          replace hZ9 := bnd_s hZ9 ex10
          refine lv_lstore_n (lv' := [(3, .long x10), (5, .int (nI i1)), (0, .ref (a 24)), (1, .long p0)]) hx hb dX5_union_27 rfl hl (by decide) rfl (fun ls hl => ?_)
          refine lv_iinc (v := (nI (i1 + 1))) (lv' := [(5, .int (nI (i1 + 1))), (3, .long x10), (0, .ref (a 24)), (1, .long p0)]) hx hb dX5_union_28 hl (k := 1) rfl (nI_add i1 1) (by decide) rfl (fun ls hl => ?_)
          refine lv_goto (tgt := 5) hx hb dX5_union_31 (by decide) ?_
          exact ih3 (i1 + 1) x10  _ _ _ (by omega) (by omega)  hZ9 hP hD hS (lv_sub hl [0, 1, 2, 3] rfl)
  exact lp4 (40 + 1) 0 0  _ _ _ (by omega) (by omega)  hZ9 hP hD hS hl
def f_y_fromAny1 (n : Nat) (dl : Nat → Nat) (p1 : Int64) (M : Nat → Nat → Int64) : Int64 := bnd (f_y_union1 n dl p1 M) (fun (r1 : Int64) => (r1))
def wq_y_fromAny1 : List Cond := ([.code yX5_fromAny cX5_fromAny 4 (some .long), .fieldLink RX5 11 "ServiceTree$Relations" "froms" "[[J", .methodLink RX5 40 yX5_union, .static yX5_union, .initialized RX5] : List Cond) ++ (wsX50 ++ (wq_y_union1))
theorem in_y_fromAny1_X5 : ∀ w ∈ wsX50, w ∈ wq_y_fromAny1 := fun _ h => List.mem_append_right _ (List.mem_append_left _ (h))
set_option maxRecDepth 20000 in
theorem wi_y_fromAny1 : ∀ w ∈ wq_y_fromAny1, w ∈ lw_tbl := List.forall_mem_append.mpr ⟨(wix [573, 122, 534, 535, 64] rfl), List.forall_mem_append.mpr ⟨inKX5, wi_y_union1⟩⟩
set_option maxRecDepth 20000 in
theorem wg_y_fromAny1 : GoodIn wq_y_fromAny1 wq_y_fromAny1 := goodIn_sub (fun _ h => h) (by decide +kernel)
set_option maxRecDepth 20000 in
theorem wc_y_fromAny1_y_union1_40 : GoodIn wq_y_fromAny1 (va_wsS RX5 40 yX5_union wq_y_union1) := goodIn_app (goodIn_of _ (by decide +kernel)) (fun w h => ⟨List.mem_append_right _ (List.mem_append_right _ (h)), (wg_y_union1 w h).2⟩)
def rm_y_fromAny1 : Room := { frames := 2, cells := 0, slots := 0, locals := 47 }
set_option maxHeartbeats 4000000 in
set_option maxRecDepth 100000 in
theorem c_y_fromAny1 (l : Launch) (dC : Nat → ClassId) (dI : Nat → Nat → Nat) (h : Nat) (a : Nat → Nat) (e : Nat) (cI cJ cO cE : ClassId) (L : Nat → Int64) (I : Nat → Int32) (M : Nat → Nat → Int64) (J : Nat → Nat → Int32) (n cap : Nat) (fE : Nat → Option Nat) (sd : Nat → Nat → Nat) (si : Nat → Nat → Int32) (sa : Nat → Nat → Nat → Int32) (dl : Nat → Nat) (b : Nat) (p1 : Int64) (sz : Nat) (hX0 : InvX n cap fE sd dl b I J si) (hb0 : b + 0 < 2147483648)  : Met l yX5_fromAny wq_y_fromAny1 rm_y_fromAny1 (va_Pc [.ref (a 1), .int 1, .long p1] (fun U => U.heap.size = sz ∧ va_P (dC, dI) vwCl (xW h a e cI cJ cO cE L I M J n cap fE sd si sa dl) U.heap ∧ va_K (dC, dI) vwCl (xT cI cJ cO cE) U ∧ va_D (fun _ => True) (xW h a e cI cJ cO cE L I M J n cap fE sd si sa dl) ∧ pw_N U)) (va_Ql (fun (r : Int64) (u : Unit) => (r = f_y_fromAny1 n dl p1 M)) (fun (u : Unit) (t : State) => va_P (dC, dI) vwCl (xW h a e cI cJ cO cE L I M J n cap fE sd si sa dl) t.heap ∧ va_D (va_A (xW h a e cI cJ cO cE L I M J n cap fE sd si sa dl) sz) (xW h a e cI cJ cO cE L I M J n cap fE sd si sa dl)) (va_A (xW h a e cI cJ cO cE L I M J n cap fE sd si sa dl) sz)) 0 0 (va_A (xW h a e cI cJ cO cE L I M J n cap fE sd si sa dl) sz) := by
  have hn : n ≤ 40 := hX0.1.1
  have hX := hX0
  refine Met.ofW (cc := cX5_fromAny) (maxL := 4) (ret := (some .long)) (by decide) rfl ?_
  intro p e9 s m args below meth c s₁ B hml hv
  obtain ⟨rfl, hsz, hP, hK, hD0, hN⟩ := hv
  have hx := B.exec
  have hb := B.bytes
  have hr := B.returns
  have hts := atoms_spec (ws := wq_y_fromAny1) B.pre
  have hown : s.vm.findClass RX5 = some m.cls := findClass_of_methodNamed B.named
  have hlocks := B.notSynchronized
  subst hsz
  have hD := hD0.self (sz := s.heap.size)
  generalize hAe : va_A (xW h a e cI cJ cO cE L I M J n cap fE sd si sa dl) s.heap.size = A at hD ⊢
  have hA : ∀ q : Nat, s.heap.size ≤ q → A q := fun q h => by rw [← hAe]; exact Or.inr h
  have hS : va_S A s.heap s.heap [] := va_S.rf
  have hl := lv_entry ([.ref (a 1), .int 1, .long p1]) (n := 4) (Nat.le_of_ble_eq_true rfl)
  rw [lg_entry_eq]
  generalize (lg_sl ([.ref (a 1), .int 1, .long p1]) ++ List.replicate (4 - (lg_sl ([.ref (a 1), .int 1, .long p1])).length) Slot.unset).toArray = ls at hl ⊢
  have hl : lv_has ls 4 [(0, .ref (a 1)), (1, .int 1), (2, .long p1)] := hl
  obtain ⟨RES, hR0⟩ : ∃ R9, R9 = f_y_fromAny1 n dl p1 M := ⟨_, rfl⟩
  have hZ9 := hR0
  unfold f_y_fromAny1 at hZ9
  refine lv_aload_n hx hb dX5_fromAny_0 rfl (lv_at hl 0 rfl) ?_
  refine va_get (D := (dC, dI)) (ci := 6) (v := .ref (a 10)) (C := RX5) (T := TX5) (N := 3) hx hb hts in_y_fromAny1_X5 hown hK hP 2 rfl rfl 0 (by decide) (hts (.fieldLink RX5 11 "ServiceTree$Relations" "froms" "[[J") (by decide +kernel)) (fun _ h9 => h9) rfl dX5_fromAny_1 ?_
  refine lv_iload_n hx hb dX5_fromAny_4 rfl (lv_at hl 1 rfl) ?_
  refine p1_aldA (n := 4) (f := fun i => if i < 4 then some (a (20 + i)) else none) hx hb hK hP 3 2 rfl rfl (vp_in_nI (n := 1) (by omega) (by decide)) dX5_fromAny_5 ?_
  refine p1_topr (v := .ref (a 21)) rfl ?_
  refine lv_lload_n hx hb dX5_fromAny_6 rfl (lv_at hl 2 rfl) ?_
  have hFc := mw_free hD hS hA
  refine va_calll (va_runS (As := [.ref (a 21), .long p1]) (rest := []) ⟨hx, hb, hml, hown, hts⟩ (c_y_union1 l dC dI h a e cI cJ cO cE L I M J n cap fE sd si sa dl (b) p1 s.heap.size hX (by omega) ) (va_cwS 2 hts wc_y_fromAny1_y_union1_40 rfl rfl rfl (by decide +kernel) ⟨Nat.le_of_ble_eq_true rfl, Nat.le_of_ble_eq_true rfl⟩) ⟨fun a9 U g mk q => by obtain ⟨q0, q1, qP, qK, qD, qN⟩ := q; exact ⟨q0, q1, qP, va_K.moved (u := U) (U := U.calling g mk a9) (Vm.Alike.refl U.vm) qK, qD, pw_N.same (u := U) (U := U.calling g mk a9) rfl qN⟩, fun U hU hW => ⟨rfl, by rw [hU], by rw [hU]; exact hP, va_K.moved hW.alike hK, hD.weaken (fun _ _ _ _ => trivial), pw_N.warm hW hN⟩⟩ rfl rfl hl.1 rfl (lv_room (Nat.le_of_ble_eq_true rfl)) dX5_fromAny_7 ⟨Nat.le_of_ble_eq_true rfl, Nat.le_of_ble_eq_true rfl⟩) hS (fun q _ h => hFc q h) hFc (fun r1 u t H1 locs ht hvm hw hB hz1 hk1 hS => ?_)
  replace hP := hB.1
  rw [ht] at hP
  replace hD : va_D A (xW h a e cI cJ cO cE L I M J n cap fE sd si sa dl) := hB.2.weaken (fun _ q _ h9 => hFc q.1 h9)
  clear hB
  generalize H1 = H at hP hS ⊢
  replace hP : va_P (dC, dI) vwCl (xW h a e cI cJ cO cE L I M J n cap fE sd si sa dl) H := hP
  replace hw : r1 = f_y_union1 n dl p1 M := hw
  replace hZ9 := bnd_s hZ9 hw
  exact W.lret (v := r1) hx hb hr (fun t ht hW => ⟨⟨r1, (), rfl, hZ9.symm.trans hR0, by rw [ht]; exact hP, hD⟩, hS.F ht⟩) hS.2.2 dX5_fromAny_10
def f_y_fromAny3 (n : Nat) (dl : Nat → Nat) (p1 : Int64) (M : Nat → Nat → Int64) : Int64 := bnd (f_y_union3 n dl p1 M) (fun (r1 : Int64) => (r1))
def wq_y_fromAny3 : List Cond := ([.code yX5_fromAny cX5_fromAny 4 (some .long), .fieldLink RX5 11 "ServiceTree$Relations" "froms" "[[J", .methodLink RX5 40 yX5_union, .static yX5_union, .initialized RX5] : List Cond) ++ (wsX50 ++ (wq_y_union3))
theorem in_y_fromAny3_X5 : ∀ w ∈ wsX50, w ∈ wq_y_fromAny3 := fun _ h => List.mem_append_right _ (List.mem_append_left _ (h))
set_option maxRecDepth 20000 in
theorem wi_y_fromAny3 : ∀ w ∈ wq_y_fromAny3, w ∈ lw_tbl := List.forall_mem_append.mpr ⟨(wix [573, 122, 534, 535, 64] rfl), List.forall_mem_append.mpr ⟨inKX5, wi_y_union3⟩⟩
set_option maxRecDepth 20000 in
theorem wg_y_fromAny3 : GoodIn wq_y_fromAny3 wq_y_fromAny3 := goodIn_sub (fun _ h => h) (by decide +kernel)
set_option maxRecDepth 20000 in
theorem wc_y_fromAny3_y_union3_40 : GoodIn wq_y_fromAny3 (va_wsS RX5 40 yX5_union wq_y_union3) := goodIn_app (goodIn_of _ (by decide +kernel)) (fun w h => ⟨List.mem_append_right _ (List.mem_append_right _ (h)), (wg_y_union3 w h).2⟩)
def rm_y_fromAny3 : Room := { frames := 2, cells := 0, slots := 0, locals := 47 }
set_option maxHeartbeats 4000000 in
set_option maxRecDepth 100000 in
theorem c_y_fromAny3 (l : Launch) (dC : Nat → ClassId) (dI : Nat → Nat → Nat) (h : Nat) (a : Nat → Nat) (e : Nat) (cI cJ cO cE : ClassId) (L : Nat → Int64) (I : Nat → Int32) (M : Nat → Nat → Int64) (J : Nat → Nat → Int32) (n cap : Nat) (fE : Nat → Option Nat) (sd : Nat → Nat → Nat) (si : Nat → Nat → Int32) (sa : Nat → Nat → Nat → Int32) (dl : Nat → Nat) (b : Nat) (p1 : Int64) (sz : Nat) (hX0 : InvX n cap fE sd dl b I J si) (hb0 : b + 0 < 2147483648)  : Met l yX5_fromAny wq_y_fromAny3 rm_y_fromAny3 (va_Pc [.ref (a 1), .int 3, .long p1] (fun U => U.heap.size = sz ∧ va_P (dC, dI) vwCl (xW h a e cI cJ cO cE L I M J n cap fE sd si sa dl) U.heap ∧ va_K (dC, dI) vwCl (xT cI cJ cO cE) U ∧ va_D (fun _ => True) (xW h a e cI cJ cO cE L I M J n cap fE sd si sa dl) ∧ pw_N U)) (va_Ql (fun (r : Int64) (u : Unit) => (r = f_y_fromAny3 n dl p1 M)) (fun (u : Unit) (t : State) => va_P (dC, dI) vwCl (xW h a e cI cJ cO cE L I M J n cap fE sd si sa dl) t.heap ∧ va_D (va_A (xW h a e cI cJ cO cE L I M J n cap fE sd si sa dl) sz) (xW h a e cI cJ cO cE L I M J n cap fE sd si sa dl)) (va_A (xW h a e cI cJ cO cE L I M J n cap fE sd si sa dl) sz)) 0 0 (va_A (xW h a e cI cJ cO cE L I M J n cap fE sd si sa dl) sz) := by
  have hn : n ≤ 40 := hX0.1.1
  have hX := hX0
  refine Met.ofW (cc := cX5_fromAny) (maxL := 4) (ret := (some .long)) (by decide) rfl ?_
  intro p e9 s m args below meth c s₁ B hml hv
  obtain ⟨rfl, hsz, hP, hK, hD0, hN⟩ := hv
  have hx := B.exec
  have hb := B.bytes
  have hr := B.returns
  have hts := atoms_spec (ws := wq_y_fromAny3) B.pre
  have hown : s.vm.findClass RX5 = some m.cls := findClass_of_methodNamed B.named
  have hlocks := B.notSynchronized
  subst hsz
  have hD := hD0.self (sz := s.heap.size)
  generalize hAe : va_A (xW h a e cI cJ cO cE L I M J n cap fE sd si sa dl) s.heap.size = A at hD ⊢
  have hA : ∀ q : Nat, s.heap.size ≤ q → A q := fun q h => by rw [← hAe]; exact Or.inr h
  have hS : va_S A s.heap s.heap [] := va_S.rf
  have hl := lv_entry ([.ref (a 1), .int 3, .long p1]) (n := 4) (Nat.le_of_ble_eq_true rfl)
  rw [lg_entry_eq]
  generalize (lg_sl ([.ref (a 1), .int 3, .long p1]) ++ List.replicate (4 - (lg_sl ([.ref (a 1), .int 3, .long p1])).length) Slot.unset).toArray = ls at hl ⊢
  have hl : lv_has ls 4 [(0, .ref (a 1)), (1, .int 3), (2, .long p1)] := hl
  obtain ⟨RES, hR0⟩ : ∃ R9, R9 = f_y_fromAny3 n dl p1 M := ⟨_, rfl⟩
  have hZ9 := hR0
  unfold f_y_fromAny3 at hZ9
  refine lv_aload_n hx hb dX5_fromAny_0 rfl (lv_at hl 0 rfl) ?_
  refine va_get (D := (dC, dI)) (ci := 6) (v := .ref (a 10)) (C := RX5) (T := TX5) (N := 3) hx hb hts in_y_fromAny3_X5 hown hK hP 2 rfl rfl 0 (by decide) (hts (.fieldLink RX5 11 "ServiceTree$Relations" "froms" "[[J") (by decide +kernel)) (fun _ h9 => h9) rfl dX5_fromAny_1 ?_
  refine lv_iload_n hx hb dX5_fromAny_4 rfl (lv_at hl 1 rfl) ?_
  refine p1_aldA (n := 4) (f := fun i => if i < 4 then some (a (20 + i)) else none) hx hb hK hP 3 2 rfl rfl (vp_in_nI (n := 3) (by omega) (by decide)) dX5_fromAny_5 ?_
  refine p1_topr (v := .ref (a 23)) rfl ?_
  refine lv_lload_n hx hb dX5_fromAny_6 rfl (lv_at hl 2 rfl) ?_
  have hFc := mw_free hD hS hA
  refine va_calll (va_runS (As := [.ref (a 23), .long p1]) (rest := []) ⟨hx, hb, hml, hown, hts⟩ (c_y_union3 l dC dI h a e cI cJ cO cE L I M J n cap fE sd si sa dl (b) p1 s.heap.size hX (by omega) ) (va_cwS 2 hts wc_y_fromAny3_y_union3_40 rfl rfl rfl (by decide +kernel) ⟨Nat.le_of_ble_eq_true rfl, Nat.le_of_ble_eq_true rfl⟩) ⟨fun a9 U g mk q => by obtain ⟨q0, q1, qP, qK, qD, qN⟩ := q; exact ⟨q0, q1, qP, va_K.moved (u := U) (U := U.calling g mk a9) (Vm.Alike.refl U.vm) qK, qD, pw_N.same (u := U) (U := U.calling g mk a9) rfl qN⟩, fun U hU hW => ⟨rfl, by rw [hU], by rw [hU]; exact hP, va_K.moved hW.alike hK, hD.weaken (fun _ _ _ _ => trivial), pw_N.warm hW hN⟩⟩ rfl rfl hl.1 rfl (lv_room (Nat.le_of_ble_eq_true rfl)) dX5_fromAny_7 ⟨Nat.le_of_ble_eq_true rfl, Nat.le_of_ble_eq_true rfl⟩) hS (fun q _ h => hFc q h) hFc (fun r1 u t H1 locs ht hvm hw hB hz1 hk1 hS => ?_)
  replace hP := hB.1
  rw [ht] at hP
  replace hD : va_D A (xW h a e cI cJ cO cE L I M J n cap fE sd si sa dl) := hB.2.weaken (fun _ q _ h9 => hFc q.1 h9)
  clear hB
  generalize H1 = H at hP hS ⊢
  replace hP : va_P (dC, dI) vwCl (xW h a e cI cJ cO cE L I M J n cap fE sd si sa dl) H := hP
  replace hw : r1 = f_y_union3 n dl p1 M := hw
  replace hZ9 := bnd_s hZ9 hw
  exact W.lret (v := r1) hx hb hr (fun t ht hW => ⟨⟨r1, (), rfl, hZ9.symm.trans hR0, by rw [ht]; exact hP, hD⟩, hS.F ht⟩) hS.2.2 dX5_fromAny_10
def f_y_withNeeded_5 (n : Nat) (dl : Nat → Nat) (M : Nat → Nat → Int64) : Nat → Nat → Int64 → (Nat → Int64 → Int64) → Int64
  | 0, i1, y5, K9_5 => K9_5 i1 y5 
  | fu2 + 1, i1, y5, K9_5 => if 40 ≤ i1 then (K9_5 i1 y5) else (bnd (f_y_union0 n dl y5 M) (fun (r7 : Int64) => bnd (y5 ||| r7) (fun (x8 : Int64) => bnd (lg_cmp x8 y5) (fun (x9 : Int32) => if x9 = (0 : Int32) then (K9_5 i1 y5) else (f_y_withNeeded_5 n dl M fu2 (i1 + 1) x8  K9_5)))))
def f_y_withNeeded (n : Nat) (dl : Nat → Nat) (p0 : Int64) (M : Nat → Nat → Int64) : Int64 := f_y_withNeeded_5 n dl M (40 + 1) 0 p0  (fun (i1 : Nat) (y5 : Int64) => (y5))
def wq_y_withNeeded : List Cond := ([.code yX5_withNeeded cX5_withNeeded 8 (some .long), .fieldLink RX5 11 "ServiceTree$Relations" "froms" "[[J", .methodLink RX5 40 yX5_union, .static yX5_union, .initialized RX5] : List Cond) ++ (wsX50 ++ (wq_y_union0))
theorem in_y_withNeeded_X5 : ∀ w ∈ wsX50, w ∈ wq_y_withNeeded := fun _ h => List.mem_append_right _ (List.mem_append_left _ (h))
set_option maxRecDepth 20000 in
theorem wi_y_withNeeded : ∀ w ∈ wq_y_withNeeded, w ∈ lw_tbl := List.forall_mem_append.mpr ⟨(wix [545, 122, 534, 535, 64] rfl), List.forall_mem_append.mpr ⟨inKX5, wi_y_union0⟩⟩
set_option maxRecDepth 20000 in
theorem wg_y_withNeeded : GoodIn wq_y_withNeeded wq_y_withNeeded := goodIn_sub (fun _ h => h) (by decide +kernel)
set_option maxRecDepth 20000 in
theorem wc_y_withNeeded_y_union0_40 : GoodIn wq_y_withNeeded (va_wsS RX5 40 yX5_union wq_y_union0) := goodIn_app (goodIn_of _ (by decide +kernel)) (fun w h => ⟨List.mem_append_right _ (List.mem_append_right _ (h)), (wg_y_union0 w h).2⟩)
def rm_y_withNeeded : Room := { frames := 2, cells := 0, slots := 0, locals := 47 }
set_option maxHeartbeats 4000000 in
set_option maxRecDepth 100000 in
theorem c_y_withNeeded (l : Launch) (dC : Nat → ClassId) (dI : Nat → Nat → Nat) (h : Nat) (a : Nat → Nat) (e : Nat) (cI cJ cO cE : ClassId) (L : Nat → Int64) (I : Nat → Int32) (M : Nat → Nat → Int64) (J : Nat → Nat → Int32) (n cap : Nat) (fE : Nat → Option Nat) (sd : Nat → Nat → Nat) (si : Nat → Nat → Int32) (sa : Nat → Nat → Nat → Int32) (dl : Nat → Nat) (b : Nat) (p0 : Int64) (sz : Nat) (hX0 : InvX n cap fE sd dl b I J si) (hb0 : b + 0 < 2147483648)  : Met l yX5_withNeeded wq_y_withNeeded rm_y_withNeeded (va_Pc [.ref (a 1), .long p0] (fun U => U.heap.size = sz ∧ va_P (dC, dI) vwCl (xW h a e cI cJ cO cE L I M J n cap fE sd si sa dl) U.heap ∧ va_K (dC, dI) vwCl (xT cI cJ cO cE) U ∧ va_D (fun _ => True) (xW h a e cI cJ cO cE L I M J n cap fE sd si sa dl) ∧ pw_N U)) (va_Ql (fun (r : Int64) (u : Unit) => (r = f_y_withNeeded n dl p0 M)) (fun (u : Unit) (t : State) => va_P (dC, dI) vwCl (xW h a e cI cJ cO cE L I M J n cap fE sd si sa dl) t.heap ∧ va_D (va_A (xW h a e cI cJ cO cE L I M J n cap fE sd si sa dl) sz) (xW h a e cI cJ cO cE L I M J n cap fE sd si sa dl)) (va_A (xW h a e cI cJ cO cE L I M J n cap fE sd si sa dl) sz)) 0 0 (va_A (xW h a e cI cJ cO cE L I M J n cap fE sd si sa dl) sz) := by
  have hn : n ≤ 40 := hX0.1.1
  have hX := hX0
  refine Met.ofW (cc := cX5_withNeeded) (maxL := 8) (ret := (some .long)) (by decide) rfl ?_
  intro p e9 s m args below meth c s₁ B hml hv
  obtain ⟨rfl, hsz, hP, hK, hD0, hN⟩ := hv
  have hx := B.exec
  have hb := B.bytes
  have hr := B.returns
  have hts := atoms_spec (ws := wq_y_withNeeded) B.pre
  have hown : s.vm.findClass RX5 = some m.cls := findClass_of_methodNamed B.named
  have hlocks := B.notSynchronized
  subst hsz
  have hD := hD0.self (sz := s.heap.size)
  generalize hAe : va_A (xW h a e cI cJ cO cE L I M J n cap fE sd si sa dl) s.heap.size = A at hD ⊢
  have hA : ∀ q : Nat, s.heap.size ≤ q → A q := fun q h => by rw [← hAe]; exact Or.inr h
  have hS : va_S A s.heap s.heap [] := va_S.rf
  have hl := lv_entry ([.ref (a 1), .long p0]) (n := 8) (Nat.le_of_ble_eq_true rfl)
  rw [lg_entry_eq]
  generalize (lg_sl ([.ref (a 1), .long p0]) ++ List.replicate (8 - (lg_sl ([.ref (a 1), .long p0])).length) Slot.unset).toArray = ls at hl ⊢
  have hl : lv_has ls 8 [(0, .ref (a 1)), (1, .long p0)] := hl
  refine mw_Q (fun Q0 hQ => ?_)
  obtain ⟨RES, hR0⟩ : ∃ R9, R9 = f_y_withNeeded n dl p0 M := ⟨_, rfl⟩
  have hZ9 := hR0
  unfold f_y_withNeeded at hZ9
  refine lv_lload_n hx hb dX5_withNeeded_0 rfl (lv_at hl 1 rfl) ?_
  refine lv_lstore_n (lv' := [(3, .long p0), (0, .ref (a 1)), (1, .long p0)]) hx hb dX5_withNeeded_1 rfl hl (by decide) rfl (fun ls hl => ?_)
  refine lv_iconst (v := 0) hx hb dX5_withNeeded_2 (by decide) ?_
  refine lv_istore (lv' := [(5, .int 0), (3, .long p0), (0, .ref (a 1)), (1, .long p0)]) hx hb dX5_withNeeded_3 hl (by decide) rfl (fun ls hl => ?_)
  obtain ⟨K9_5, hK9_5, hZ9⟩ := lp_gen hZ9
  have lp4 : ∀ (fu2 i1 : Nat) (y5 : Int64)  (H : Heap) (locs : List Loc) (ls : Array Slot), 40 < i1 + fu2 → i1 ≤ 40 → RES = f_y_withNeeded_5 n dl M fu2 i1 y5  K9_5 → va_P (dC, dI) vwCl (xW h a e cI cJ cO cE L I M J n cap fE sd si sa dl) H → va_D A (xW h a e cI cJ cO cE L I M J n cap fE sd si sa dl) → va_S A s.heap H locs → lv_has ls 8 [(5, .int (nI i1)), (3, .long y5), (0, .ref (a 1)), (1, .long p0)] → W p l e9 (headSpec wq_y_withNeeded rm_y_withNeeded).room s m ([.ref (a 1), .long p0] : List Value).toArray below meth c H locs 0 0 Q0 (F0 m 5 ls []) := by
    intro fu2
    induction fu2 with
    | zero =>
      intro i1 y5  H locs ls hf hi
      exact absurd hf (by omega)
    | succ fu2 ih3 =>
      intro i1 y5  H locs ls hfi1 hii1 hZ9 hP hD hS hl
      rw [f_y_withNeeded_5] at hZ9
      refine lv_iload hx hb dX5_withNeeded_5 (lv_at hl 0 rfl) ?_
      refine lv_bipush (v := 40) hx hb dX5_withNeeded_7 (by decide) ?_
      refine lv_icmp_ge (tgt := 45) hx hb dX5_withNeeded_9 (by decide) (fun c6 => ?_) (fun c6 => ?_)
      · replace c6 : 40 ≤ i1 := (nI_leI (a := 40) (b := i1) (by omega) (by omega)).mp c6
        replace hZ9 := ite_t hZ9 c6
        replace hZ9 := lp_app2 hK9_5 hZ9
        refine lv_lload_n hx hb dX5_withNeeded_45 rfl (lv_at hl 1 rfl) ?_
        rw [hQ]
        exact W.lret (v := y5) hx hb hr (fun t ht hW => ⟨⟨y5, (), rfl, hZ9.symm.trans hR0, by rw [ht]; exact hP, hD⟩, hS.F ht⟩) hS.2.2 dX5_withNeeded_46
      · replace c6 : ¬ (40 ≤ i1) := fun q9 => c6 ((nI_leI (a := 40) (b := i1) (by omega) (by omega)).mpr q9)
        replace hZ9 := ite_f hZ9 c6
        refine lv_lload_n hx hb dX5_withNeeded_12 rfl (lv_at hl 1 rfl) ?_
        refine lv_aload_n hx hb dX5_withNeeded_13 rfl (lv_at hl 2 rfl) ?_
        refine va_get (D := (dC, dI)) (ci := 6) (v := .ref (a 10)) (C := RX5) (T := TX5) (N := 3) hx hb hts in_y_withNeeded_X5 hown hK hP 2 rfl rfl 0 (by decide) (hts (.fieldLink RX5 11 "ServiceTree$Relations" "froms" "[[J") (by decide +kernel)) (fun _ h9 => h9) rfl dX5_withNeeded_14 ?_
        refine lv_iconst (v := 0) hx hb dX5_withNeeded_17 (by decide) ?_
        refine p1_aldA (n := 4) (f := fun i => if i < 4 then some (a (20 + i)) else none) hx hb hK hP 3 2 rfl rfl (vp_in_nI (n := 0) (by omega) (by decide)) dX5_withNeeded_18 ?_
        refine p1_topr (v := .ref (a 20)) rfl ?_
        refine lv_lload_n hx hb dX5_withNeeded_19 rfl (lv_at hl 1 rfl) ?_
        have hFc := mw_free hD hS hA
        refine va_calll (va_runS (As := [.ref (a 20), .long y5]) (rest := [.long y5]) ⟨hx, hb, hml, hown, hts⟩ (c_y_union0 l dC dI h a e cI cJ cO cE L I M J n cap fE sd si sa dl (b) y5 H.size hX (by omega) ) (va_cwS 2 hts wc_y_withNeeded_y_union0_40 rfl rfl rfl (by decide +kernel) ⟨Nat.le_of_ble_eq_true rfl, Nat.le_of_ble_eq_true rfl⟩) ⟨fun a9 U g mk q => by obtain ⟨q0, q1, qP, qK, qD, qN⟩ := q; exact ⟨q0, q1, qP, va_K.moved (u := U) (U := U.calling g mk a9) (Vm.Alike.refl U.vm) qK, qD, pw_N.same (u := U) (U := U.calling g mk a9) rfl qN⟩, fun U hU hW => ⟨rfl, by rw [hU], by rw [hU]; exact hP, va_K.moved hW.alike hK, hD.weaken (fun _ _ _ _ => trivial), pw_N.warm hW hN⟩⟩ rfl rfl hl.1 rfl (lv_room (Nat.le_of_ble_eq_true rfl)) dX5_withNeeded_20 ⟨Nat.le_of_ble_eq_true rfl, Nat.le_of_ble_eq_true rfl⟩) hS (fun q _ h => hFc q h) hFc (fun r7 u t H1 locs ht hvm hw hB hz1 hk1 hS => ?_)
        replace hP := hB.1
        rw [ht] at hP
        replace hD : va_D A (xW h a e cI cJ cO cE L I M J n cap fE sd si sa dl) := hB.2.weaken (fun _ q _ h9 => hFc q.1 h9)
        clear hB
        generalize H1 = H at hP hS ⊢
        replace hP : va_P (dC, dI) vwCl (xW h a e cI cJ cO cE L I M J n cap fE sd si sa dl) H := hP
        replace hw : r7 = f_y_union0 n dl y5 M := hw
        replace hZ9 := bnd_s hZ9 hw
        refine lv_lor hx hb dX5_withNeeded_23 ?_
        refine lv_topl (fun x8 ex8 => ?_)
        replace hZ9 := bnd_s hZ9 ex8
        refine lv_lstore (lv' := [(6, .long x8), (5, .int (nI i1)), (3, .long y5), (0, .ref (a 1)), (1, .long p0)]) hx hb dX5_withNeeded_24 hl (by decide) rfl (fun ls hl => ?_)
        refine lv_lload hx hb dX5_withNeeded_26 (lv_at hl 0 rfl) ?_
        refine lv_lload_n hx hb dX5_withNeeded_28 rfl (lv_at hl 2 rfl) ?_
        refine W.lcmp hx hb dX5_withNeeded_29 ?_
        refine lv_topi (fun x9 ex9 => ?_)
        replace hZ9 := bnd_s hZ9 ex9
        refine lv_if_ne (tgt := 36) hx hb dX5_withNeeded_30 (by decide) (fun c10 => ?_) (fun c10 => ?_)
        · replace hZ9 := ite_f hZ9 c10
          refine lv_lload hx hb dX5_withNeeded_36 (lv_at hl 0 rfl) ?_
          refine lv_lstore_n (lv' := [(3, .long x8), (6, .long x8), (5, .int (nI i1)), (0, .ref (a 1)), (1, .long p0)]) hx hb dX5_withNeeded_38 rfl hl (by decide) rfl (fun ls hl => ?_)
          refine lv_iinc (v := (nI (i1 + 1))) (lv' := [(5, .int (nI (i1 + 1))), (3, .long x8), (6, .long x8), (0, .ref (a 1)), (1, .long p0)]) hx hb dX5_withNeeded_39 hl (k := 2) rfl (nI_add i1 1) (by decide) rfl (fun ls hl => ?_)
          refine lv_goto (tgt := 5) hx hb dX5_withNeeded_42 (by decide) ?_
          exact ih3 (i1 + 1) x8  _ _ _ (by omega) (by omega)  hZ9 hP hD hS (lv_sub hl [0, 1, 3, 4] rfl)
        · replace hZ9 := ite_t hZ9 c10
          refine lv_goto (tgt := 45) hx hb dX5_withNeeded_33 (by decide) ?_
          replace hZ9 := lp_app2 hK9_5 hZ9
          refine lv_lload_n hx hb dX5_withNeeded_45 rfl (lv_at hl 2 rfl) ?_
          rw [hQ]
          exact W.lret (v := y5) hx hb hr (fun t ht hW => ⟨⟨y5, (), rfl, hZ9.symm.trans hR0, by rw [ht]; exact hP, hD⟩, hS.F ht⟩) hS.2.2 dX5_withNeeded_46
  exact lp4 (40 + 1) 0 p0  _ _ _ (by omega) (by omega)  hZ9 hP hD hS hl
def f_y_withNeeders_6 (n : Nat) (dl : Nat → Nat) (p1 : Int64) (M : Nat → Nat → Int64) : Nat → Nat → Int64 → (Nat → Int64 → Int64) → Int64
  | 0, i1, y5, K9_6 => K9_6 i1 y5 
  | fu2 + 1, i1, y5, K9_6 => if 40 ≤ i1 then (K9_6 i1 y5) else (bnd (f_y_union4 n dl y5 M) (fun (r7 : Int64) => bnd (r7 &&& p1) (fun (x8 : Int64) => bnd (y5 ||| x8) (fun (x9 : Int64) => bnd (lg_cmp x9 y5) (fun (x10 : Int32) => if x10 = (0 : Int32) then (K9_6 i1 y5) else (f_y_withNeeders_6 n dl p1 M fu2 (i1 + 1) x9  K9_6))))))
def f_y_withNeeders (n : Nat) (dl : Nat → Nat) (p0 : Int64) (p1 : Int64) (M : Nat → Nat → Int64) : Int64 := f_y_withNeeders_6 n dl p1 M (40 + 1) 0 p0  (fun (i1 : Nat) (y5 : Int64) => (y5))
def wq_y_withNeeders : List Cond := ([.code yX5_withNeeders cX5_withNeeders 10 (some .long), .fieldLink RX5 16 "ServiceTree$Relations" "tos" "[[J", .methodLink RX5 40 yX5_union, .static yX5_union, .initialized RX5] : List Cond) ++ (wsX50 ++ (wq_y_union4))
theorem in_y_withNeeders_X5 : ∀ w ∈ wsX50, w ∈ wq_y_withNeeders := fun _ h => List.mem_append_right _ (List.mem_append_left _ (h))
set_option maxRecDepth 20000 in
theorem wi_y_withNeeders : ∀ w ∈ wq_y_withNeeders, w ∈ lw_tbl := List.forall_mem_append.mpr ⟨(wix [533, 123, 534, 535, 64] rfl), List.forall_mem_append.mpr ⟨inKX5, wi_y_union4⟩⟩
set_option maxRecDepth 20000 in
theorem wg_y_withNeeders : GoodIn wq_y_withNeeders wq_y_withNeeders := goodIn_sub (fun _ h => h) (by decide +kernel)
set_option maxRecDepth 20000 in
theorem wc_y_withNeeders_y_union4_40 : GoodIn wq_y_withNeeders (va_wsS RX5 40 yX5_union wq_y_union4) := goodIn_app (goodIn_of _ (by decide +kernel)) (fun w h => ⟨List.mem_append_right _ (List.mem_append_right _ (h)), (wg_y_union4 w h).2⟩)
def rm_y_withNeeders : Room := { frames := 2, cells := 0, slots := 0, locals := 47 }
set_option maxHeartbeats 4000000 in
set_option maxRecDepth 100000 in
theorem c_y_withNeeders (l : Launch) (dC : Nat → ClassId) (dI : Nat → Nat → Nat) (h : Nat) (a : Nat → Nat) (e : Nat) (cI cJ cO cE : ClassId) (L : Nat → Int64) (I : Nat → Int32) (M : Nat → Nat → Int64) (J : Nat → Nat → Int32) (n cap : Nat) (fE : Nat → Option Nat) (sd : Nat → Nat → Nat) (si : Nat → Nat → Int32) (sa : Nat → Nat → Nat → Int32) (dl : Nat → Nat) (b : Nat) (p0 : Int64) (p1 : Int64) (sz : Nat) (hX0 : InvX n cap fE sd dl b I J si) (hb0 : b + 0 < 2147483648)  : Met l yX5_withNeeders wq_y_withNeeders rm_y_withNeeders (va_Pc [.ref (a 1), .long p0, .long p1] (fun U => U.heap.size = sz ∧ va_P (dC, dI) vwCl (xW h a e cI cJ cO cE L I M J n cap fE sd si sa dl) U.heap ∧ va_K (dC, dI) vwCl (xT cI cJ cO cE) U ∧ va_D (fun _ => True) (xW h a e cI cJ cO cE L I M J n cap fE sd si sa dl) ∧ pw_N U)) (va_Ql (fun (r : Int64) (u : Unit) => (r = f_y_withNeeders n dl p0 p1 M)) (fun (u : Unit) (t : State) => va_P (dC, dI) vwCl (xW h a e cI cJ cO cE L I M J n cap fE sd si sa dl) t.heap ∧ va_D (va_A (xW h a e cI cJ cO cE L I M J n cap fE sd si sa dl) sz) (xW h a e cI cJ cO cE L I M J n cap fE sd si sa dl)) (va_A (xW h a e cI cJ cO cE L I M J n cap fE sd si sa dl) sz)) 0 0 (va_A (xW h a e cI cJ cO cE L I M J n cap fE sd si sa dl) sz) := by
  have hn : n ≤ 40 := hX0.1.1
  have hX := hX0
  refine Met.ofW (cc := cX5_withNeeders) (maxL := 10) (ret := (some .long)) (by decide) rfl ?_
  intro p e9 s m args below meth c s₁ B hml hv
  obtain ⟨rfl, hsz, hP, hK, hD0, hN⟩ := hv
  have hx := B.exec
  have hb := B.bytes
  have hr := B.returns
  have hts := atoms_spec (ws := wq_y_withNeeders) B.pre
  have hown : s.vm.findClass RX5 = some m.cls := findClass_of_methodNamed B.named
  have hlocks := B.notSynchronized
  subst hsz
  have hD := hD0.self (sz := s.heap.size)
  generalize hAe : va_A (xW h a e cI cJ cO cE L I M J n cap fE sd si sa dl) s.heap.size = A at hD ⊢
  have hA : ∀ q : Nat, s.heap.size ≤ q → A q := fun q h => by rw [← hAe]; exact Or.inr h
  have hS : va_S A s.heap s.heap [] := va_S.rf
  have hl := lv_entry ([.ref (a 1), .long p0, .long p1]) (n := 10) (Nat.le_of_ble_eq_true rfl)
  rw [lg_entry_eq]
  generalize (lg_sl ([.ref (a 1), .long p0, .long p1]) ++ List.replicate (10 - (lg_sl ([.ref (a 1), .long p0, .long p1])).length) Slot.unset).toArray = ls at hl ⊢
  have hl : lv_has ls 10 [(0, .ref (a 1)), (1, .long p0), (3, .long p1)] := hl
  refine mw_Q (fun Q0 hQ => ?_)
  obtain ⟨RES, hR0⟩ : ∃ R9, R9 = f_y_withNeeders n dl p0 p1 M := ⟨_, rfl⟩
  have hZ9 := hR0
  unfold f_y_withNeeders at hZ9
  refine lv_lload_n hx hb dX5_withNeeders_0 rfl (lv_at hl 1 rfl) ?_
  refine lv_lstore (lv' := [(5, .long p0), (0, .ref (a 1)), (1, .long p0), (3, .long p1)]) hx hb dX5_withNeeders_1 hl (by decide) rfl (fun ls hl => ?_)
  refine lv_iconst (v := 0) hx hb dX5_withNeeders_3 (by decide) ?_
  refine lv_istore (lv' := [(7, .int 0), (5, .long p0), (0, .ref (a 1)), (1, .long p0), (3, .long p1)]) hx hb dX5_withNeeders_4 hl (by decide) rfl (fun ls hl => ?_)
  obtain ⟨K9_6, hK9_6, hZ9⟩ := lp_gen hZ9
  have lp4 : ∀ (fu2 i1 : Nat) (y5 : Int64)  (H : Heap) (locs : List Loc) (ls : Array Slot), 40 < i1 + fu2 → i1 ≤ 40 → RES = f_y_withNeeders_6 n dl p1 M fu2 i1 y5  K9_6 → va_P (dC, dI) vwCl (xW h a e cI cJ cO cE L I M J n cap fE sd si sa dl) H → va_D A (xW h a e cI cJ cO cE L I M J n cap fE sd si sa dl) → va_S A s.heap H locs → lv_has ls 10 [(7, .int (nI i1)), (5, .long y5), (0, .ref (a 1)), (1, .long p0), (3, .long p1)] → W p l e9 (headSpec wq_y_withNeeders rm_y_withNeeders).room s m ([.ref (a 1), .long p0, .long p1] : List Value).toArray below meth c H locs 0 0 Q0 (F0 m 6 ls []) := by
    intro fu2
    induction fu2 with
    | zero =>
      intro i1 y5  H locs ls hf hi
      exact absurd hf (by omega)
    | succ fu2 ih3 =>
      intro i1 y5  H locs ls hfi1 hii1 hZ9 hP hD hS hl
      rw [f_y_withNeeders_6] at hZ9
      refine lv_iload hx hb dX5_withNeeders_6 (lv_at hl 0 rfl) ?_
      refine lv_bipush (v := 40) hx hb dX5_withNeeders_8 (by decide) ?_
      refine lv_icmp_ge (tgt := 52) hx hb dX5_withNeeders_10 (by decide) (fun c6 => ?_) (fun c6 => ?_)
      · replace c6 : 40 ≤ i1 := (nI_leI (a := 40) (b := i1) (by omega) (by omega)).mp c6
        replace hZ9 := ite_t hZ9 c6
        replace hZ9 := lp_app2 hK9_6 hZ9
        refine lv_lload hx hb dX5_withNeeders_52 (lv_at hl 1 rfl) ?_
        rw [hQ]
        exact W.lret (v := y5) hx hb hr (fun t ht hW => ⟨⟨y5, (), rfl, hZ9.symm.trans hR0, by rw [ht]; exact hP, hD⟩, hS.F ht⟩) hS.2.2 dX5_withNeeders_54
      · replace c6 : ¬ (40 ≤ i1) := fun q9 => c6 ((nI_leI (a := 40) (b := i1) (by omega) (by omega)).mpr q9)
        replace hZ9 := ite_f hZ9 c6
        refine lv_lload hx hb dX5_withNeeders_13 (lv_at hl 1 rfl) ?_
        refine lv_aload_n hx hb dX5_withNeeders_15 rfl (lv_at hl 2 rfl) ?_
        refine va_get (D := (dC, dI)) (ci := 6) (v := .ref (a 11)) (C := RX5) (T := TX5) (N := 3) hx hb hts in_y_withNeeders_X5 hown hK hP 2 rfl rfl 1 (by decide) (hts (.fieldLink RX5 16 "ServiceTree$Relations" "tos" "[[J") (by decide +kernel)) (fun _ h9 => h9) rfl dX5_withNeeders_16 ?_
        refine lv_iconst (v := 0) hx hb dX5_withNeeders_19 (by decide) ?_
        refine p1_aldA (n := 4) (f := fun i => if i < 4 then some (a (24 + i)) else none) hx hb hK hP 4 2 rfl rfl (vp_in_nI (n := 0) (by omega) (by decide)) dX5_withNeeders_20 ?_
        refine p1_topr (v := .ref (a 24)) rfl ?_
        refine lv_lload hx hb dX5_withNeeders_21 (lv_at hl 1 rfl) ?_
        have hFc := mw_free hD hS hA
        refine va_calll (va_runS (As := [.ref (a 24), .long y5]) (rest := [.long y5]) ⟨hx, hb, hml, hown, hts⟩ (c_y_union4 l dC dI h a e cI cJ cO cE L I M J n cap fE sd si sa dl (b) y5 H.size hX (by omega) ) (va_cwS 2 hts wc_y_withNeeders_y_union4_40 rfl rfl rfl (by decide +kernel) ⟨Nat.le_of_ble_eq_true rfl, Nat.le_of_ble_eq_true rfl⟩) ⟨fun a9 U g mk q => by obtain ⟨q0, q1, qP, qK, qD, qN⟩ := q; exact ⟨q0, q1, qP, va_K.moved (u := U) (U := U.calling g mk a9) (Vm.Alike.refl U.vm) qK, qD, pw_N.same (u := U) (U := U.calling g mk a9) rfl qN⟩, fun U hU hW => ⟨rfl, by rw [hU], by rw [hU]; exact hP, va_K.moved hW.alike hK, hD.weaken (fun _ _ _ _ => trivial), pw_N.warm hW hN⟩⟩ rfl rfl hl.1 rfl (lv_room (Nat.le_of_ble_eq_true rfl)) dX5_withNeeders_23 ⟨Nat.le_of_ble_eq_true rfl, Nat.le_of_ble_eq_true rfl⟩) hS (fun q _ h => hFc q h) hFc (fun r7 u t H1 locs ht hvm hw hB hz1 hk1 hS => ?_)
        replace hP := hB.1
        rw [ht] at hP
        replace hD : va_D A (xW h a e cI cJ cO cE L I M J n cap fE sd si sa dl) := hB.2.weaken (fun _ q _ h9 => hFc q.1 h9)
        clear hB
        generalize H1 = H at hP hS ⊢
        replace hP : va_P (dC, dI) vwCl (xW h a e cI cJ cO cE L I M J n cap fE sd si sa dl) H := hP
        replace hw : r7 = f_y_union4 n dl y5 M := hw
        replace hZ9 := bnd_s hZ9 hw
        refine lv_lload_n hx hb dX5_withNeeders_26 rfl (lv_at hl 4 rfl) ?_
        refine lv_land hx hb dX5_withNeeders_27 ?_
        refine lv_topl (fun x8 ex8 => ?_)
        replace hZ9 := bnd_s hZ9 ex8
        refine lv_lor hx hb dX5_withNeeders_28 ?_
        refine lv_topl (fun x9 ex9 => ?_)
        replace hZ9 := bnd_s hZ9 ex9
        refine lv_lstore (lv' := [(8, .long x9), (7, .int (nI i1)), (5, .long y5), (0, .ref (a 1)), (1, .long p0), (3, .long p1)]) hx hb dX5_withNeeders_29 hl (by decide) rfl (fun ls hl => ?_)
        refine lv_lload hx hb dX5_withNeeders_31 (lv_at hl 0 rfl) ?_
        refine lv_lload hx hb dX5_withNeeders_33 (lv_at hl 2 rfl) ?_
        refine W.lcmp hx hb dX5_withNeeders_35 ?_
        refine lv_topi (fun x10 ex10 => ?_)
        replace hZ9 := bnd_s hZ9 ex10
        refine lv_if_ne (tgt := 42) hx hb dX5_withNeeders_36 (by decide) (fun c11 => ?_) (fun c11 => ?_)
        · replace hZ9 := ite_f hZ9 c11
          refine lv_lload hx hb dX5_withNeeders_42 (lv_at hl 0 rfl) ?_
          refine lv_lstore (lv' := [(5, .long x9), (8, .long x9), (7, .int (nI i1)), (0, .ref (a 1)), (1, .long p0), (3, .long p1)]) hx hb dX5_withNeeders_44 hl (by decide) rfl (fun ls hl => ?_)
          refine lv_iinc (v := (nI (i1 + 1))) (lv' := [(7, .int (nI (i1 + 1))), (5, .long x9), (8, .long x9), (0, .ref (a 1)), (1, .long p0), (3, .long p1)]) hx hb dX5_withNeeders_46 hl (k := 2) rfl (nI_add i1 1) (by decide) rfl (fun ls hl => ?_)
          refine lv_goto (tgt := 6) hx hb dX5_withNeeders_49 (by decide) ?_
          exact ih3 (i1 + 1) x9  _ _ _ (by omega) (by omega)  hZ9 hP hD hS (lv_sub hl [0, 1, 3, 4, 5] rfl)
        · replace hZ9 := ite_t hZ9 c11
          refine lv_goto (tgt := 52) hx hb dX5_withNeeders_39 (by decide) ?_
          replace hZ9 := lp_app2 hK9_6 hZ9
          refine lv_lload hx hb dX5_withNeeders_52 (lv_at hl 2 rfl) ?_
          rw [hQ]
          exact W.lret (v := y5) hx hb hr (fun t ht hW => ⟨⟨y5, (), rfl, hZ9.symm.trans hR0, by rw [ht]; exact hP, hD⟩, hS.F ht⟩) hS.2.2 dX5_withNeeders_54
  exact lp4 (40 + 1) 0 p0  _ _ _ (by omega) (by omega)  hZ9 hP hD hS hl
def f_y_clash (n : Nat) (dl : Nat → Nat) (p0 : Int64) (M : Nat → Nat → Int64) : Int32 := bnd (f_y_union3 n dl p0 M) (fun (r1 : Int64) => bnd (r1 &&& p0) (fun (x2 : Int64) => bnd (lg_cmp x2 (0 : Int64)) (fun (x3 : Int32) => if x3 = (0 : Int32) then (((0 : Int32))) else (((1 : Int32))))))
def wq_y_clash : List Cond := ([.code yX5_clash cX5_clash 3 (some .boolean), .fieldLink RX5 11 "ServiceTree$Relations" "froms" "[[J", .methodLink RX5 40 yX5_union, .static yX5_union, .initialized RX5] : List Cond) ++ (wsX50 ++ (wq_y_union3))
theorem in_y_clash_X5 : ∀ w ∈ wsX50, w ∈ wq_y_clash := fun _ h => List.mem_append_right _ (List.mem_append_left _ (h))
set_option maxRecDepth 20000 in
theorem wi_y_clash : ∀ w ∈ wq_y_clash, w ∈ lw_tbl := List.forall_mem_append.mpr ⟨(wix [549, 122, 534, 535, 64] rfl), List.forall_mem_append.mpr ⟨inKX5, wi_y_union3⟩⟩
set_option maxRecDepth 20000 in
theorem wg_y_clash : GoodIn wq_y_clash wq_y_clash := goodIn_sub (fun _ h => h) (by decide +kernel)
set_option maxRecDepth 20000 in
theorem wc_y_clash_y_union3_40 : GoodIn wq_y_clash (va_wsS RX5 40 yX5_union wq_y_union3) := goodIn_app (goodIn_of _ (by decide +kernel)) (fun w h => ⟨List.mem_append_right _ (List.mem_append_right _ (h)), (wg_y_union3 w h).2⟩)
def rm_y_clash : Room := { frames := 2, cells := 0, slots := 0, locals := 47 }
set_option maxHeartbeats 4000000 in
set_option maxRecDepth 100000 in
theorem c_y_clash (l : Launch) (dC : Nat → ClassId) (dI : Nat → Nat → Nat) (h : Nat) (a : Nat → Nat) (e : Nat) (cI cJ cO cE : ClassId) (L : Nat → Int64) (I : Nat → Int32) (M : Nat → Nat → Int64) (J : Nat → Nat → Int32) (n cap : Nat) (fE : Nat → Option Nat) (sd : Nat → Nat → Nat) (si : Nat → Nat → Int32) (sa : Nat → Nat → Nat → Int32) (dl : Nat → Nat) (b : Nat) (p0 : Int64) (sz : Nat) (hX0 : InvX n cap fE sd dl b I J si) (hb0 : b + 0 < 2147483648)  : Met l yX5_clash wq_y_clash rm_y_clash (va_Pc [.ref (a 1), .long p0] (fun U => U.heap.size = sz ∧ va_P (dC, dI) vwCl (xW h a e cI cJ cO cE L I M J n cap fE sd si sa dl) U.heap ∧ va_K (dC, dI) vwCl (xT cI cJ cO cE) U ∧ va_D (fun _ => True) (xW h a e cI cJ cO cE L I M J n cap fE sd si sa dl) ∧ pw_N U)) (va_Qi (fun (r : Int32) (u : Unit) => ((r = f_y_clash n dl p0 M) ∧ (r = 0 ∨ r = 1))) (fun (u : Unit) (t : State) => va_P (dC, dI) vwCl (xW h a e cI cJ cO cE L I M J n cap fE sd si sa dl) t.heap ∧ va_D (va_A (xW h a e cI cJ cO cE L I M J n cap fE sd si sa dl) sz) (xW h a e cI cJ cO cE L I M J n cap fE sd si sa dl)) (va_A (xW h a e cI cJ cO cE L I M J n cap fE sd si sa dl) sz)) 0 0 (va_A (xW h a e cI cJ cO cE L I M J n cap fE sd si sa dl) sz) := by
  have hn : n ≤ 40 := hX0.1.1
  have hX := hX0
  refine Met.ofW (cc := cX5_clash) (maxL := 3) (ret := (some .boolean)) (by decide) rfl ?_
  intro p e9 s m args below meth c s₁ B hml hv
  obtain ⟨rfl, hsz, hP, hK, hD0, hN⟩ := hv
  have hx := B.exec
  have hb := B.bytes
  have hr := B.returns
  have hts := atoms_spec (ws := wq_y_clash) B.pre
  have hown : s.vm.findClass RX5 = some m.cls := findClass_of_methodNamed B.named
  have hlocks := B.notSynchronized
  subst hsz
  have hD := hD0.self (sz := s.heap.size)
  generalize hAe : va_A (xW h a e cI cJ cO cE L I M J n cap fE sd si sa dl) s.heap.size = A at hD ⊢
  have hA : ∀ q : Nat, s.heap.size ≤ q → A q := fun q h => by rw [← hAe]; exact Or.inr h
  have hS : va_S A s.heap s.heap [] := va_S.rf
  have hl := lv_entry ([.ref (a 1), .long p0]) (n := 3) (Nat.le_of_ble_eq_true rfl)
  rw [lg_entry_eq]
  generalize (lg_sl ([.ref (a 1), .long p0]) ++ List.replicate (3 - (lg_sl ([.ref (a 1), .long p0])).length) Slot.unset).toArray = ls at hl ⊢
  have hl : lv_has ls 3 [(0, .ref (a 1)), (1, .long p0)] := hl
  obtain ⟨RES, hR0⟩ : ∃ R9, R9 = f_y_clash n dl p0 M := ⟨_, rfl⟩
  have hZ9 := hR0
  unfold f_y_clash at hZ9
  refine lv_aload_n hx hb dX5_clash_0 rfl (lv_at hl 0 rfl) ?_
  refine va_get (D := (dC, dI)) (ci := 6) (v := .ref (a 10)) (C := RX5) (T := TX5) (N := 3) hx hb hts in_y_clash_X5 hown hK hP 2 rfl rfl 0 (by decide) (hts (.fieldLink RX5 11 "ServiceTree$Relations" "froms" "[[J") (by decide +kernel)) (fun _ h9 => h9) rfl dX5_clash_1 ?_
  refine lv_iconst (v := 3) hx hb dX5_clash_4 (by decide) ?_
  refine p1_aldA (n := 4) (f := fun i => if i < 4 then some (a (20 + i)) else none) hx hb hK hP 3 2 rfl rfl (vp_in_nI (n := 3) (by omega) (by decide)) dX5_clash_5 ?_
  refine p1_topr (v := .ref (a 23)) rfl ?_
  refine lv_lload_n hx hb dX5_clash_6 rfl (lv_at hl 1 rfl) ?_
  have hFc := mw_free hD hS hA
  refine va_calll (va_runS (As := [.ref (a 23), .long p0]) (rest := []) ⟨hx, hb, hml, hown, hts⟩ (c_y_union3 l dC dI h a e cI cJ cO cE L I M J n cap fE sd si sa dl (b) p0 s.heap.size hX (by omega) ) (va_cwS 2 hts wc_y_clash_y_union3_40 rfl rfl rfl (by decide +kernel) ⟨Nat.le_of_ble_eq_true rfl, Nat.le_of_ble_eq_true rfl⟩) ⟨fun a9 U g mk q => by obtain ⟨q0, q1, qP, qK, qD, qN⟩ := q; exact ⟨q0, q1, qP, va_K.moved (u := U) (U := U.calling g mk a9) (Vm.Alike.refl U.vm) qK, qD, pw_N.same (u := U) (U := U.calling g mk a9) rfl qN⟩, fun U hU hW => ⟨rfl, by rw [hU], by rw [hU]; exact hP, va_K.moved hW.alike hK, hD.weaken (fun _ _ _ _ => trivial), pw_N.warm hW hN⟩⟩ rfl rfl hl.1 rfl (lv_room (Nat.le_of_ble_eq_true rfl)) dX5_clash_7 ⟨Nat.le_of_ble_eq_true rfl, Nat.le_of_ble_eq_true rfl⟩) hS (fun q _ h => hFc q h) hFc (fun r1 u t H1 locs ht hvm hw hB hz1 hk1 hS => ?_)
  replace hP := hB.1
  rw [ht] at hP
  replace hD : va_D A (xW h a e cI cJ cO cE L I M J n cap fE sd si sa dl) := hB.2.weaken (fun _ q _ h9 => hFc q.1 h9)
  clear hB
  generalize H1 = H at hP hS ⊢
  replace hP : va_P (dC, dI) vwCl (xW h a e cI cJ cO cE L I M J n cap fE sd si sa dl) H := hP
  replace hw : r1 = f_y_union3 n dl p0 M := hw
  replace hZ9 := bnd_s hZ9 hw
  refine lv_lload_n hx hb dX5_clash_10 rfl (lv_at hl 1 rfl) ?_
  refine lv_land hx hb dX5_clash_11 ?_
  refine lv_topl (fun x2 ex2 => ?_)
  replace hZ9 := bnd_s hZ9 ex2
  refine lv_lconst (v := 0) hx hb dX5_clash_12 (by decide) ?_
  refine W.lcmp hx hb dX5_clash_13 ?_
  refine lv_topi (fun x3 ex3 => ?_)
  replace hZ9 := bnd_s hZ9 ex3
  refine lv_if_eq (tgt := 21) hx hb dX5_clash_14 (by decide) (fun c4 => ?_) (fun c4 => ?_)
  · replace hZ9 := ite_t hZ9 c4
    refine lv_iconst (v := 0) hx hb dX5_clash_21 (by decide) ?_
    exact W.zret (v := 0) hx hb hr (by decide) (fun t ht hW => ⟨⟨0, (), rfl, ⟨hZ9.symm.trans hR0, Or.inl rfl⟩, by rw [ht]; exact hP, hD⟩, hS.F ht⟩) hS.2.2 dX5_clash_22
  · replace hZ9 := ite_f hZ9 c4
    refine lv_iconst (v := 1) hx hb dX5_clash_17 (by decide) ?_
    refine lv_goto (tgt := 22) hx hb dX5_clash_18 (by decide) ?_
    exact W.zret (v := 1) hx hb hr (by decide) (fun t ht hW => ⟨⟨1, (), rfl, ⟨hZ9.symm.trans hR0, Or.inr rfl⟩, by rw [ht]; exact hP, hD⟩, hS.F ht⟩) hS.2.2 dX5_clash_22
def f_y_rawaited (n : Nat) (dl : Nat → Nat) (av : Nat) (p1 : Int64) (p2 : Int64) (M : Nat → Nat → Int64) : Int64 := bnd (f_y_holds n dl p1 av ) (fun (r1 : Int32) => if r1 = (0 : Int32) then (bnd (f_y_holds n dl p2 av ) (fun (r3 : Int32) => if r3 = (0 : Int32) then (((0 : Int64))) else (bnd (M 4 (nI av).toNatClampNeg) (fun (x5 : Int64) => bnd (M 6 (nI av).toNatClampNeg) (fun (x6 : Int64) => bnd (x5 ||| x6) (fun (x7 : Int64) => bnd (x7 &&& p2) (fun (x8 : Int64) => (x8)))))))) else (bnd (M 0 (nI av).toNatClampNeg) (fun (x9 : Int64) => bnd (M 2 (nI av).toNatClampNeg) (fun (x10 : Int64) => bnd (x9 ||| x10) (fun (x11 : Int64) => bnd (x11 &&& p1) (fun (x12 : Int64) => bnd (M 3 (nI av).toNatClampNeg) (fun (x13 : Int64) => bnd (x13 &&& p2) (fun (x14 : Int64) => bnd (x12 ||| x14) (fun (x15 : Int64) => (x15))))))))))
def wq_y_rawaited : List Cond := ([.code yX5_awaitedBy cX5_awaitedBy 6 (some .long), .initialized RX8, .static yX8_holds, .fieldLink RX5 16 "ServiceTree$Relations" "tos" "[[J", .fieldLink RX5 11 "ServiceTree$Relations" "froms" "[[J"] : List Cond) ++ (wsX50 ++ (wq_y_holds))
theorem in_y_rawaited_X5 : ∀ w ∈ wsX50, w ∈ wq_y_rawaited := fun _ h => List.mem_append_right _ (List.mem_append_left _ (h))
set_option maxRecDepth 20000 in
theorem wi_y_rawaited : ∀ w ∈ wq_y_rawaited, w ∈ lw_tbl := List.forall_mem_append.mpr ⟨(wix [646, 60, 488, 123, 122] rfl), List.forall_mem_append.mpr ⟨inKX5, wi_y_holds⟩⟩
set_option maxRecDepth 20000 in
theorem wg_y_rawaited : GoodIn wq_y_rawaited wq_y_rawaited := goodIn_sub (fun _ h => h) (by decide +kernel)
theorem wc_y_rawaited_y_holds_19 : GoodIn wq_y_rawaited wq_y_holds := (fun w h => ⟨List.mem_append_right _ (List.mem_append_right _ (h)), (wg_y_holds w h).2⟩)
def rm_y_rawaited : Room := { frames := 1, cells := 0, slots := 0, locals := 22 }
set_option maxHeartbeats 4000000 in
set_option maxRecDepth 100000 in
theorem c_y_rawaited (l : Launch) (dC : Nat → ClassId) (dI : Nat → Nat → Nat) (h : Nat) (a : Nat → Nat) (e : Nat) (cI cJ cO cE : ClassId) (L : Nat → Int64) (I : Nat → Int32) (M : Nat → Nat → Int64) (J : Nat → Nat → Int32) (n cap : Nat) (fE : Nat → Option Nat) (sd : Nat → Nat → Nat) (si : Nat → Nat → Int32) (sa : Nat → Nat → Nat → Int32) (dl : Nat → Nat) (b : Nat) (av : Nat) (p1 : Int64) (p2 : Int64) (sz : Nat) (hX0 : InvX n cap fE sd dl b I J si) (hb0 : b + 0 < 2147483648) (hp0 : av < 40) : Met l yX5_awaitedBy wq_y_rawaited rm_y_rawaited (va_Pc [.ref (a 1), .int (nI av), .long p1, .long p2] (fun U => U.heap.size = sz ∧ va_P (dC, dI) vwCl (xW h a e cI cJ cO cE L I M J n cap fE sd si sa dl) U.heap ∧ va_K (dC, dI) vwCl (xT cI cJ cO cE) U ∧ va_D (fun _ => True) (xW h a e cI cJ cO cE L I M J n cap fE sd si sa dl) ∧ pw_N U)) (va_Ql (fun (r : Int64) (u : Unit) => (r = f_y_rawaited n dl av p1 p2 M)) (fun (u : Unit) (t : State) => va_P (dC, dI) vwCl (xW h a e cI cJ cO cE L I M J n cap fE sd si sa dl) t.heap ∧ va_D (va_A (xW h a e cI cJ cO cE L I M J n cap fE sd si sa dl) sz) (xW h a e cI cJ cO cE L I M J n cap fE sd si sa dl)) (va_A (xW h a e cI cJ cO cE L I M J n cap fE sd si sa dl) sz)) 0 0 (va_A (xW h a e cI cJ cO cE L I M J n cap fE sd si sa dl) sz) := by
  have hn : n ≤ 40 := hX0.1.1
  have hX := hX0
  refine Met.ofW (cc := cX5_awaitedBy) (maxL := 6) (ret := (some .long)) (by decide) rfl ?_
  intro p e9 s m args below meth c s₁ B hml hv
  obtain ⟨rfl, hsz, hP, hK, hD0, hN⟩ := hv
  have hx := B.exec
  have hb := B.bytes
  have hr := B.returns
  have hts := atoms_spec (ws := wq_y_rawaited) B.pre
  have hown : s.vm.findClass RX5 = some m.cls := findClass_of_methodNamed B.named
  have hlocks := B.notSynchronized
  subst hsz
  have hD := hD0.self (sz := s.heap.size)
  generalize hAe : va_A (xW h a e cI cJ cO cE L I M J n cap fE sd si sa dl) s.heap.size = A at hD ⊢
  have hA : ∀ q : Nat, s.heap.size ≤ q → A q := fun q h => by rw [← hAe]; exact Or.inr h
  have hS : va_S A s.heap s.heap [] := va_S.rf
  have hl := lv_entry ([.ref (a 1), .int (nI av), .long p1, .long p2]) (n := 6) (Nat.le_of_ble_eq_true rfl)
  rw [lg_entry_eq]
  generalize (lg_sl ([.ref (a 1), .int (nI av), .long p1, .long p2]) ++ List.replicate (6 - (lg_sl ([.ref (a 1), .int (nI av), .long p1, .long p2])).length) Slot.unset).toArray = ls at hl ⊢
  have hl : lv_has ls 6 [(0, .ref (a 1)), (1, .int (nI av)), (2, .long p1), (4, .long p2)] := hl
  obtain ⟨RES, hR0⟩ : ∃ R9, R9 = f_y_rawaited n dl av p1 p2 M := ⟨_, rfl⟩
  have hZ9 := hR0
  unfold f_y_rawaited at hZ9
  refine lv_lload_n hx hb dX5_awaitedBy_0 rfl (lv_at hl 2 rfl) ?_
  refine lv_iload_n hx hb dX5_awaitedBy_1 rfl (lv_at hl 1 rfl) ?_
  have hFc := mw_free hD hS hA
  refine va_calli (va_runSN (As := [.long p1, .int (nI av)]) (rest := []) ⟨hx, hb, hml, hown, hts⟩ (c_y_holds l dC dI h a e cI cJ cO cE L I M J n cap fE sd si sa dl (b) p1 av s.heap.size hX (by omega) ) ⟨va_cnB 2 hts wc_y_rawaited_y_holds_19 rfl rfl rfl (hN (.methodLinkNest RX5 19 yX8_holds "ServiceTree") (by decide +kernel)) (hts (.initialized RX8) (by decide +kernel)) (by decide +kernel) ⟨Nat.le_of_ble_eq_true rfl, Nat.le_of_ble_eq_true rfl⟩, hts (.static yX8_holds) (by decide +kernel), trivial⟩ ⟨fun a9 U g mk q => by obtain ⟨q0, q1, qP, qK, qD, qN⟩ := q; exact ⟨q0, q1, qP, va_K.moved (u := U) (U := U.calling g mk a9) (Vm.Alike.refl U.vm) qK, qD, pw_N.same (u := U) (U := U.calling g mk a9) rfl qN⟩, fun U hU hW => ⟨rfl, by rw [hU], by rw [hU]; exact hP, va_K.moved hW.alike hK, hD.weaken (fun _ _ _ _ => trivial), pw_N.warm hW hN⟩⟩ rfl rfl hl.1 rfl (lv_room (Nat.le_of_ble_eq_true rfl)) dX5_awaitedBy_2 ⟨Nat.le_of_ble_eq_true rfl, Nat.le_of_ble_eq_true rfl⟩) hS (fun q _ h => hFc q h) hFc (fun r1 u t H1 locs ht hvm hw hB hz1 hk1 hS => ?_)
  replace hP := hB.1
  rw [ht] at hP
  replace hD : va_D A (xW h a e cI cJ cO cE L I M J n cap fE sd si sa dl) := hB.2.weaken (fun _ q _ h9 => hFc q.1 h9)
  clear hB
  generalize H1 = H at hP hS ⊢
  replace hP : va_P (dC, dI) vwCl (xW h a e cI cJ cO cE L I M J n cap fE sd si sa dl) H := hP
  obtain ⟨hw, hwe⟩ := hw
  replace hw : r1 = f_y_holds n dl p1 av  := hw
  replace hZ9 := bnd_s hZ9 hw
  have br1 := hwe
  refine lv_if_eq (tgt := 40) hx hb dX5_awaitedBy_5 (by decide) (fun c2 => ?_) (fun c2 => ?_)
  · replace hZ9 := ite_t hZ9 c2
    refine lv_lload hx hb dX5_awaitedBy_40 (lv_at hl 3 rfl) ?_
    refine lv_iload_n hx hb dX5_awaitedBy_42 rfl (lv_at hl 1 rfl) ?_
    have hFc := mw_free hD hS hA
    refine va_calli (va_runSN (As := [.long p2, .int (nI av)]) (rest := []) ⟨hx, hb, hml, hown, hts⟩ (c_y_holds l dC dI h a e cI cJ cO cE L I M J n cap fE sd si sa dl (b) p2 av H.size hX (by omega) ) ⟨va_cnB 2 hts wc_y_rawaited_y_holds_19 rfl rfl rfl (hN (.methodLinkNest RX5 19 yX8_holds "ServiceTree") (by decide +kernel)) (hts (.initialized RX8) (by decide +kernel)) (by decide +kernel) ⟨Nat.le_of_ble_eq_true rfl, Nat.le_of_ble_eq_true rfl⟩, hts (.static yX8_holds) (by decide +kernel), trivial⟩ ⟨fun a9 U g mk q => by obtain ⟨q0, q1, qP, qK, qD, qN⟩ := q; exact ⟨q0, q1, qP, va_K.moved (u := U) (U := U.calling g mk a9) (Vm.Alike.refl U.vm) qK, qD, pw_N.same (u := U) (U := U.calling g mk a9) rfl qN⟩, fun U hU hW => ⟨rfl, by rw [hU], by rw [hU]; exact hP, va_K.moved hW.alike hK, hD.weaken (fun _ _ _ _ => trivial), pw_N.warm hW hN⟩⟩ rfl rfl hl.1 rfl (lv_room (Nat.le_of_ble_eq_true rfl)) dX5_awaitedBy_43 ⟨Nat.le_of_ble_eq_true rfl, Nat.le_of_ble_eq_true rfl⟩) hS (fun q _ h => hFc q h) hFc (fun r3 u t H1 locs ht hvm hw hB hz1 hk1 hS => ?_)
    replace hP := hB.1
    rw [ht] at hP
    replace hD : va_D A (xW h a e cI cJ cO cE L I M J n cap fE sd si sa dl) := hB.2.weaken (fun _ q _ h9 => hFc q.1 h9)
    clear hB
    generalize H1 = H at hP hS ⊢
    replace hP : va_P (dC, dI) vwCl (xW h a e cI cJ cO cE L I M J n cap fE sd si sa dl) H := hP
    obtain ⟨hw, hwe⟩ := hw
    replace hw : r3 = f_y_holds n dl p2 av  := hw
    replace hZ9 := bnd_s hZ9 hw
    have br3 := hwe
    refine lv_if_eq (tgt := 70) hx hb dX5_awaitedBy_46 (by decide) (fun c4 => ?_) (fun c4 => ?_)
    · replace hZ9 := ite_t hZ9 c4
      refine lv_lconst (v := 0) hx hb dX5_awaitedBy_70 (by decide) ?_
      exact W.lret (v := 0) hx hb hr (fun t ht hW => ⟨⟨0, (), rfl, hZ9.symm.trans hR0, by rw [ht]; exact hP, hD⟩, hS.F ht⟩) hS.2.2 dX5_awaitedBy_71
    · replace hZ9 := ite_f hZ9 c4
      refine lv_aload_n hx hb dX5_awaitedBy_49 rfl (lv_at hl 0 rfl) ?_
      refine va_get (D := (dC, dI)) (ci := 6) (v := .ref (a 11)) (C := RX5) (T := TX5) (N := 3) hx hb hts in_y_rawaited_X5 hown hK hP 2 rfl rfl 1 (by decide) (hts (.fieldLink RX5 16 "ServiceTree$Relations" "tos" "[[J") (by decide +kernel)) (fun _ h9 => h9) rfl dX5_awaitedBy_50 ?_
      refine lv_iconst (v := 0) hx hb dX5_awaitedBy_53 (by decide) ?_
      refine p1_aldA (n := 4) (f := fun i => if i < 4 then some (a (24 + i)) else none) hx hb hK hP 4 2 rfl rfl (vp_in_nI (n := 0) (by omega) (by decide)) dX5_awaitedBy_54 ?_
      refine p1_topr (v := .ref (a 24)) rfl ?_
      refine lv_iload_n hx hb dX5_awaitedBy_55 rfl (lv_at hl 1 rfl) ?_
      refine va_lald (n := 40) (f := M 4) hx hb hK hP 9 1 rfl rfl (vp_in_nI (n := av) (by omega) (by omega)) dX5_awaitedBy_56 ?_
      refine lv_topl (fun x5 ex5 => ?_)
      replace hZ9 := bnd_s hZ9 ex5
      refine lv_aload_n hx hb dX5_awaitedBy_57 rfl (lv_at hl 0 rfl) ?_
      refine va_get (D := (dC, dI)) (ci := 6) (v := .ref (a 11)) (C := RX5) (T := TX5) (N := 3) hx hb hts in_y_rawaited_X5 hown hK hP 2 rfl rfl 1 (by decide) (hts (.fieldLink RX5 16 "ServiceTree$Relations" "tos" "[[J") (by decide +kernel)) (fun _ h9 => h9) rfl dX5_awaitedBy_58 ?_
      refine lv_iconst (v := 2) hx hb dX5_awaitedBy_61 (by decide) ?_
      refine p1_aldA (n := 4) (f := fun i => if i < 4 then some (a (24 + i)) else none) hx hb hK hP 4 2 rfl rfl (vp_in_nI (n := 2) (by omega) (by decide)) dX5_awaitedBy_62 ?_
      refine p1_topr (v := .ref (a 26)) rfl ?_
      refine lv_iload_n hx hb dX5_awaitedBy_63 rfl (lv_at hl 1 rfl) ?_
      refine va_lald (n := 40) (f := M 6) hx hb hK hP 11 1 rfl rfl (vp_in_nI (n := av) (by omega) (by omega)) dX5_awaitedBy_64 ?_
      refine lv_topl (fun x6 ex6 => ?_)
      replace hZ9 := bnd_s hZ9 ex6
      refine lv_lor hx hb dX5_awaitedBy_65 ?_
      refine lv_topl (fun x7 ex7 => ?_)
      replace hZ9 := bnd_s hZ9 ex7
      refine lv_lload hx hb dX5_awaitedBy_66 (lv_at hl 3 rfl) ?_
      refine lv_land hx hb dX5_awaitedBy_68 ?_
      refine lv_topl (fun x8 ex8 => ?_)
      replace hZ9 := bnd_s hZ9 ex8
      exact W.lret (v := x8) hx hb hr (fun t ht hW => ⟨⟨x8, (), rfl, hZ9.symm.trans hR0, by rw [ht]; exact hP, hD⟩, hS.F ht⟩) hS.2.2 dX5_awaitedBy_69
  · replace hZ9 := ite_f hZ9 c2
    refine lv_aload_n hx hb dX5_awaitedBy_8 rfl (lv_at hl 0 rfl) ?_
    refine va_get (D := (dC, dI)) (ci := 6) (v := .ref (a 10)) (C := RX5) (T := TX5) (N := 3) hx hb hts in_y_rawaited_X5 hown hK hP 2 rfl rfl 0 (by decide) (hts (.fieldLink RX5 11 "ServiceTree$Relations" "froms" "[[J") (by decide +kernel)) (fun _ h9 => h9) rfl dX5_awaitedBy_9 ?_
    refine lv_iconst (v := 0) hx hb dX5_awaitedBy_12 (by decide) ?_
    refine p1_aldA (n := 4) (f := fun i => if i < 4 then some (a (20 + i)) else none) hx hb hK hP 3 2 rfl rfl (vp_in_nI (n := 0) (by omega) (by decide)) dX5_awaitedBy_13 ?_
    refine p1_topr (v := .ref (a 20)) rfl ?_
    refine lv_iload_n hx hb dX5_awaitedBy_14 rfl (lv_at hl 1 rfl) ?_
    refine va_lald (n := 40) (f := M 0) hx hb hK hP 5 1 rfl rfl (vp_in_nI (n := av) (by omega) (by omega)) dX5_awaitedBy_15 ?_
    refine lv_topl (fun x9 ex9 => ?_)
    replace hZ9 := bnd_s hZ9 ex9
    refine lv_aload_n hx hb dX5_awaitedBy_16 rfl (lv_at hl 0 rfl) ?_
    refine va_get (D := (dC, dI)) (ci := 6) (v := .ref (a 10)) (C := RX5) (T := TX5) (N := 3) hx hb hts in_y_rawaited_X5 hown hK hP 2 rfl rfl 0 (by decide) (hts (.fieldLink RX5 11 "ServiceTree$Relations" "froms" "[[J") (by decide +kernel)) (fun _ h9 => h9) rfl dX5_awaitedBy_17 ?_
    refine lv_iconst (v := 2) hx hb dX5_awaitedBy_20 (by decide) ?_
    refine p1_aldA (n := 4) (f := fun i => if i < 4 then some (a (20 + i)) else none) hx hb hK hP 3 2 rfl rfl (vp_in_nI (n := 2) (by omega) (by decide)) dX5_awaitedBy_21 ?_
    refine p1_topr (v := .ref (a 22)) rfl ?_
    refine lv_iload_n hx hb dX5_awaitedBy_22 rfl (lv_at hl 1 rfl) ?_
    refine va_lald (n := 40) (f := M 2) hx hb hK hP 7 1 rfl rfl (vp_in_nI (n := av) (by omega) (by omega)) dX5_awaitedBy_23 ?_
    refine lv_topl (fun x10 ex10 => ?_)
    replace hZ9 := bnd_s hZ9 ex10
    refine lv_lor hx hb dX5_awaitedBy_24 ?_
    refine lv_topl (fun x11 ex11 => ?_)
    replace hZ9 := bnd_s hZ9 ex11
    refine lv_lload_n hx hb dX5_awaitedBy_25 rfl (lv_at hl 2 rfl) ?_
    refine lv_land hx hb dX5_awaitedBy_26 ?_
    refine lv_topl (fun x12 ex12 => ?_)
    replace hZ9 := bnd_s hZ9 ex12
    refine lv_aload_n hx hb dX5_awaitedBy_27 rfl (lv_at hl 0 rfl) ?_
    refine va_get (D := (dC, dI)) (ci := 6) (v := .ref (a 10)) (C := RX5) (T := TX5) (N := 3) hx hb hts in_y_rawaited_X5 hown hK hP 2 rfl rfl 0 (by decide) (hts (.fieldLink RX5 11 "ServiceTree$Relations" "froms" "[[J") (by decide +kernel)) (fun _ h9 => h9) rfl dX5_awaitedBy_28 ?_
    refine lv_iconst (v := 3) hx hb dX5_awaitedBy_31 (by decide) ?_
    refine p1_aldA (n := 4) (f := fun i => if i < 4 then some (a (20 + i)) else none) hx hb hK hP 3 2 rfl rfl (vp_in_nI (n := 3) (by omega) (by decide)) dX5_awaitedBy_32 ?_
    refine p1_topr (v := .ref (a 23)) rfl ?_
    refine lv_iload_n hx hb dX5_awaitedBy_33 rfl (lv_at hl 1 rfl) ?_
    refine va_lald (n := 40) (f := M 3) hx hb hK hP 8 1 rfl rfl (vp_in_nI (n := av) (by omega) (by omega)) dX5_awaitedBy_34 ?_
    refine lv_topl (fun x13 ex13 => ?_)
    replace hZ9 := bnd_s hZ9 ex13
    refine lv_lload hx hb dX5_awaitedBy_35 (lv_at hl 3 rfl) ?_
    refine lv_land hx hb dX5_awaitedBy_37 ?_
    refine lv_topl (fun x14 ex14 => ?_)
    replace hZ9 := bnd_s hZ9 ex14
    refine lv_lor hx hb dX5_awaitedBy_38 ?_
    refine lv_topl (fun x15 ex15 => ?_)
    replace hZ9 := bnd_s hZ9 ex15
    exact W.lret (v := x15) hx hb hr (fun t ht hW => ⟨⟨x15, (), rfl, hZ9.symm.trans hR0, by rw [ht]; exact hP, hD⟩, hS.F ht⟩) hS.2.2 dX5_awaitedBy_39
def f_y_after (n : Nat) (dl : Nat → Nat) (av : Nat) (M : Nat → Nat → Int64) : Int64 := bnd (M 0 (nI av).toNatClampNeg) (fun (x1 : Int64) => bnd (M 2 (nI av).toNatClampNeg) (fun (x2 : Int64) => bnd (x1 ||| x2) (fun (x3 : Int64) => (x3))))
def wq_y_after : List Cond := ([.code yX5_after cX5_after 2 (some .long), .fieldLink RX5 11 "ServiceTree$Relations" "froms" "[[J"] : List Cond) ++ (wsX50)
theorem in_y_after_X5 : ∀ w ∈ wsX50, w ∈ wq_y_after := fun _ h => List.mem_append_right _ (h)
set_option maxRecDepth 20000 in
theorem wi_y_after : ∀ w ∈ wq_y_after, w ∈ lw_tbl := List.forall_mem_append.mpr ⟨(wix [561, 122] rfl), inKX5⟩
set_option maxRecDepth 20000 in
theorem wg_y_after : GoodIn wq_y_after wq_y_after := goodIn_sub (fun _ h => h) (by decide +kernel)
def rm_y_after : Room := { frames := 0, cells := 0, slots := 0, locals := 0 }
set_option maxHeartbeats 4000000 in
set_option maxRecDepth 100000 in
theorem c_y_after (l : Launch) (dC : Nat → ClassId) (dI : Nat → Nat → Nat) (h : Nat) (a : Nat → Nat) (e : Nat) (cI cJ cO cE : ClassId) (L : Nat → Int64) (I : Nat → Int32) (M : Nat → Nat → Int64) (J : Nat → Nat → Int32) (n cap : Nat) (fE : Nat → Option Nat) (sd : Nat → Nat → Nat) (si : Nat → Nat → Int32) (sa : Nat → Nat → Nat → Int32) (dl : Nat → Nat) (b : Nat) (av : Nat) (sz : Nat) (hX0 : InvX n cap fE sd dl b I J si) (hb0 : b + 0 < 2147483648) (hp0 : av < 40) : Met l yX5_after wq_y_after rm_y_after (va_Pc [.ref (a 1), .int (nI av)] (fun U => U.heap.size = sz ∧ va_P (dC, dI) vwCl (xW h a e cI cJ cO cE L I M J n cap fE sd si sa dl) U.heap ∧ va_K (dC, dI) vwCl (xT cI cJ cO cE) U ∧ va_D (fun _ => True) (xW h a e cI cJ cO cE L I M J n cap fE sd si sa dl) ∧ pw_N U)) (va_Ql (fun (r : Int64) (u : Unit) => (r = f_y_after n dl av M)) (fun (u : Unit) (t : State) => va_P (dC, dI) vwCl (xW h a e cI cJ cO cE L I M J n cap fE sd si sa dl) t.heap ∧ va_D (va_A (xW h a e cI cJ cO cE L I M J n cap fE sd si sa dl) sz) (xW h a e cI cJ cO cE L I M J n cap fE sd si sa dl)) (va_A (xW h a e cI cJ cO cE L I M J n cap fE sd si sa dl) sz)) 0 0 (va_A (xW h a e cI cJ cO cE L I M J n cap fE sd si sa dl) sz) := by
  have hn : n ≤ 40 := hX0.1.1
  have hX := hX0
  refine Met.ofW (cc := cX5_after) (maxL := 2) (ret := (some .long)) (by decide) rfl ?_
  intro p e9 s m args below meth c s₁ B hml hv
  obtain ⟨rfl, hsz, hP, hK, hD0, hN⟩ := hv
  have hx := B.exec
  have hb := B.bytes
  have hr := B.returns
  have hts := atoms_spec (ws := wq_y_after) B.pre
  have hown : s.vm.findClass RX5 = some m.cls := findClass_of_methodNamed B.named
  have hlocks := B.notSynchronized
  subst hsz
  have hD := hD0.self (sz := s.heap.size)
  generalize hAe : va_A (xW h a e cI cJ cO cE L I M J n cap fE sd si sa dl) s.heap.size = A at hD ⊢
  have hA : ∀ q : Nat, s.heap.size ≤ q → A q := fun q h => by rw [← hAe]; exact Or.inr h
  have hS : va_S A s.heap s.heap [] := va_S.rf
  have hl := lv_entry ([.ref (a 1), .int (nI av)]) (n := 2) (Nat.le_of_ble_eq_true rfl)
  rw [lg_entry_eq]
  generalize (lg_sl ([.ref (a 1), .int (nI av)]) ++ List.replicate (2 - (lg_sl ([.ref (a 1), .int (nI av)])).length) Slot.unset).toArray = ls at hl ⊢
  have hl : lv_has ls 2 [(0, .ref (a 1)), (1, .int (nI av))] := hl
  obtain ⟨RES, hR0⟩ : ∃ R9, R9 = f_y_after n dl av M := ⟨_, rfl⟩
  have hZ9 := hR0
  unfold f_y_after at hZ9
  refine lv_aload_n hx hb dX5_after_0 rfl (lv_at hl 0 rfl) ?_
  refine va_get (D := (dC, dI)) (ci := 6) (v := .ref (a 10)) (C := RX5) (T := TX5) (N := 3) hx hb hts in_y_after_X5 hown hK hP 2 rfl rfl 0 (by decide) (hts (.fieldLink RX5 11 "ServiceTree$Relations" "froms" "[[J") (by decide +kernel)) (fun _ h9 => h9) rfl dX5_after_1 ?_
  refine lv_iconst (v := 0) hx hb dX5_after_4 (by decide) ?_
  refine p1_aldA (n := 4) (f := fun i => if i < 4 then some (a (20 + i)) else none) hx hb hK hP 3 2 rfl rfl (vp_in_nI (n := 0) (by omega) (by decide)) dX5_after_5 ?_
  refine p1_topr (v := .ref (a 20)) rfl ?_
  refine lv_iload_n hx hb dX5_after_6 rfl (lv_at hl 1 rfl) ?_
  refine va_lald (n := 40) (f := M 0) hx hb hK hP 5 1 rfl rfl (vp_in_nI (n := av) (by omega) (by omega)) dX5_after_7 ?_
  refine lv_topl (fun x1 ex1 => ?_)
  replace hZ9 := bnd_s hZ9 ex1
  refine lv_aload_n hx hb dX5_after_8 rfl (lv_at hl 0 rfl) ?_
  refine va_get (D := (dC, dI)) (ci := 6) (v := .ref (a 10)) (C := RX5) (T := TX5) (N := 3) hx hb hts in_y_after_X5 hown hK hP 2 rfl rfl 0 (by decide) (hts (.fieldLink RX5 11 "ServiceTree$Relations" "froms" "[[J") (by decide +kernel)) (fun _ h9 => h9) rfl dX5_after_9 ?_
  refine lv_iconst (v := 2) hx hb dX5_after_12 (by decide) ?_
  refine p1_aldA (n := 4) (f := fun i => if i < 4 then some (a (20 + i)) else none) hx hb hK hP 3 2 rfl rfl (vp_in_nI (n := 2) (by omega) (by decide)) dX5_after_13 ?_
  refine p1_topr (v := .ref (a 22)) rfl ?_
  refine lv_iload_n hx hb dX5_after_14 rfl (lv_at hl 1 rfl) ?_
  refine va_lald (n := 40) (f := M 2) hx hb hK hP 7 1 rfl rfl (vp_in_nI (n := av) (by omega) (by omega)) dX5_after_15 ?_
  refine lv_topl (fun x2 ex2 => ?_)
  replace hZ9 := bnd_s hZ9 ex2
  refine lv_lor hx hb dX5_after_16 ?_
  refine lv_topl (fun x3 ex3 => ?_)
  replace hZ9 := bnd_s hZ9 ex3
  exact W.lret (v := x3) hx hb hr (fun t ht hW => ⟨⟨x3, (), rfl, hZ9.symm.trans hR0, by rw [ht]; exact hP, hD⟩, hS.F ht⟩) hS.2.2 dX5_after_17
def f_y_tangled_18 (n : Nat) (dl : Nat → Nat) (M : Nat → Nat → Int64) (y5 : Int64) : Nat → Nat → Int64 → (Nat → Int64 → Int64) → Int64
  | 0, i7, y11, K9_18 => K9_18 i7 y11 
  | fu8 + 1, i7, y11, K9_18 => if 40 ≤ i7 then (K9_18 i7 y11) else (bnd (f_y_holds n dl y5 i7 ) (fun (r15 : Int32) => if r15 = (0 : Int32) then (f_y_tangled_18 n dl M y5 fu8 (i7 + 1) y11  K9_18) else (bnd (f_y_after n dl i7 M) (fun (r17 : Int64) => bnd (r17 &&& y5) (fun (x18 : Int64) => bnd (lg_cmp x18 (0 : Int64)) (fun (x19 : Int32) => if x19 = (0 : Int32) then (f_y_tangled_18 n dl M y5 fu8 (i7 + 1) y11  K9_18) else (bnd (f_y_only n dl i7 ) (fun (r21 : Int64) => bnd (y11 ||| r21) (fun (x22 : Int64) => f_y_tangled_18 n dl M y5 fu8 (i7 + 1) x22  K9_18)))))))))
def f_y_tangled_5 (n : Nat) (dl : Nat → Nat) (M : Nat → Nat → Int64) : Nat → Nat → Int64 → (Nat → Int64 → Int64) → Int64
  | 0, i1, y5, K9_5 => K9_5 i1 y5 
  | fu2 + 1, i1, y5, K9_5 => if 40 ≤ i1 then (K9_5 i1 y5) else (f_y_tangled_18 n dl M y5 (40 + 1) 0 (0 : Int64)  (fun (i7 : Nat) (y11 : Int64) => bnd (lg_cmp y11 y5) (fun (x13 : Int32) => if x13 = (0 : Int32) then (K9_5 i1 y5) else (f_y_tangled_5 n dl M fu2 (i1 + 1) y11  K9_5))))
def f_y_tangled (n : Nat) (dl : Nat → Nat) (p0 : Int64) (M : Nat → Nat → Int64) : Int64 := f_y_tangled_5 n dl M (40 + 1) 0 p0  (fun (i1 : Nat) (y5 : Int64) => (y5))
def wq_y_tangled : List Cond := ([.code yX5_tangled cX5_tangled 9 (some .long), .initialized RX8, .static yX8_holds, .static yX8_only, .methodLink RX5 44 yX5_after, .instanceMethod yX5_after, .selects RX5 yX5_after yX5_after, .initialized RX5] : List Cond) ++ (wq_y_holds ++ (wq_y_after ++ (wq_y_only)))
set_option maxRecDepth 20000 in
theorem wi_y_tangled : ∀ w ∈ wq_y_tangled, w ∈ lw_tbl := List.forall_mem_append.mpr ⟨(wix [557, 60, 488, 443, 558, 560, 9, 64] rfl), List.forall_mem_append.mpr ⟨wi_y_holds, List.forall_mem_append.mpr ⟨wi_y_after, wi_y_only⟩⟩⟩
set_option maxRecDepth 20000 in
theorem wg_y_tangled : GoodIn wq_y_tangled wq_y_tangled := goodIn_sub (fun _ h => h) (by decide +kernel)
theorem wc_y_tangled_y_holds_19 : GoodIn wq_y_tangled wq_y_holds := (fun w h => ⟨List.mem_append_right _ (List.mem_append_left _ (h)), (wg_y_holds w h).2⟩)
set_option maxRecDepth 20000 in
theorem wc_y_tangled_y_after_44 : GoodIn wq_y_tangled (wsV RX5 44 RX5 yX5_after wq_y_after) := goodIn_app (goodIn_of _ (by decide +kernel)) (fun w h => ⟨List.mem_append_right _ (List.mem_append_right _ (List.mem_append_left _ (h))), (wg_y_after w h).2⟩)
theorem wc_y_tangled_y_only_34 : GoodIn wq_y_tangled wq_y_only := (fun w h => ⟨List.mem_append_right _ (List.mem_append_right _ (List.mem_append_right _ (h))), (wg_y_only w h).2⟩)
def rm_y_tangled : Room := { frames := 1, cells := 0, slots := 0, locals := 22 }
set_option maxHeartbeats 4000000 in
set_option maxRecDepth 100000 in
theorem c_y_tangled (l : Launch) (dC : Nat → ClassId) (dI : Nat → Nat → Nat) (h : Nat) (a : Nat → Nat) (e : Nat) (cI cJ cO cE : ClassId) (L : Nat → Int64) (I : Nat → Int32) (M : Nat → Nat → Int64) (J : Nat → Nat → Int32) (n cap : Nat) (fE : Nat → Option Nat) (sd : Nat → Nat → Nat) (si : Nat → Nat → Int32) (sa : Nat → Nat → Nat → Int32) (dl : Nat → Nat) (b : Nat) (p0 : Int64) (sz : Nat) (hX0 : InvX n cap fE sd dl b I J si) (hb0 : b + 0 < 2147483648)  : Met l yX5_tangled wq_y_tangled rm_y_tangled (va_Pc [.ref (a 1), .long p0] (fun U => U.heap.size = sz ∧ va_P (dC, dI) vwCl (xW h a e cI cJ cO cE L I M J n cap fE sd si sa dl) U.heap ∧ va_K (dC, dI) vwCl (xT cI cJ cO cE) U ∧ va_D (fun _ => True) (xW h a e cI cJ cO cE L I M J n cap fE sd si sa dl) ∧ pw_N U)) (va_Ql (fun (r : Int64) (u : Unit) => (r = f_y_tangled n dl p0 M)) (fun (u : Unit) (t : State) => va_P (dC, dI) vwCl (xW h a e cI cJ cO cE L I M J n cap fE sd si sa dl) t.heap ∧ va_D (va_A (xW h a e cI cJ cO cE L I M J n cap fE sd si sa dl) sz) (xW h a e cI cJ cO cE L I M J n cap fE sd si sa dl)) (va_A (xW h a e cI cJ cO cE L I M J n cap fE sd si sa dl) sz)) 0 0 (va_A (xW h a e cI cJ cO cE L I M J n cap fE sd si sa dl) sz) := by
  have hn : n ≤ 40 := hX0.1.1
  have hX := hX0
  refine Met.ofW (cc := cX5_tangled) (maxL := 9) (ret := (some .long)) (by decide) rfl ?_
  intro p e9 s m args below meth c s₁ B hml hv
  obtain ⟨rfl, hsz, hP, hK, hD0, hN⟩ := hv
  have hx := B.exec
  have hb := B.bytes
  have hr := B.returns
  have hts := atoms_spec (ws := wq_y_tangled) B.pre
  have hown : s.vm.findClass RX5 = some m.cls := findClass_of_methodNamed B.named
  have hlocks := B.notSynchronized
  subst hsz
  have hD := hD0.self (sz := s.heap.size)
  generalize hAe : va_A (xW h a e cI cJ cO cE L I M J n cap fE sd si sa dl) s.heap.size = A at hD ⊢
  have hA : ∀ q : Nat, s.heap.size ≤ q → A q := fun q h => by rw [← hAe]; exact Or.inr h
  have hS : va_S A s.heap s.heap [] := va_S.rf
  have hl := lv_entry ([.ref (a 1), .long p0]) (n := 9) (Nat.le_of_ble_eq_true rfl)
  rw [lg_entry_eq]
  generalize (lg_sl ([.ref (a 1), .long p0]) ++ List.replicate (9 - (lg_sl ([.ref (a 1), .long p0])).length) Slot.unset).toArray = ls at hl ⊢
  have hl : lv_has ls 9 [(0, .ref (a 1)), (1, .long p0)] := hl
  refine mw_Q (fun Q0 hQ => ?_)
  obtain ⟨RES, hR0⟩ : ∃ R9, R9 = f_y_tangled n dl p0 M := ⟨_, rfl⟩
  have hZ9 := hR0
  unfold f_y_tangled at hZ9
  refine lv_lload_n hx hb dX5_tangled_0 rfl (lv_at hl 1 rfl) ?_
  refine lv_lstore_n (lv' := [(3, .long p0), (0, .ref (a 1)), (1, .long p0)]) hx hb dX5_tangled_1 rfl hl (by decide) rfl (fun ls hl => ?_)
  refine lv_iconst (v := 0) hx hb dX5_tangled_2 (by decide) ?_
  refine lv_istore (lv' := [(5, .int 0), (3, .long p0), (0, .ref (a 1)), (1, .long p0)]) hx hb dX5_tangled_3 hl (by decide) rfl (fun ls hl => ?_)
  obtain ⟨K9_5, hK9_5, hZ9⟩ := lp_gen hZ9
  have lp4 : ∀ (fu2 i1 : Nat) (y5 : Int64)  (H : Heap) (locs : List Loc) (ls : Array Slot), 40 < i1 + fu2 → i1 ≤ 40 → RES = f_y_tangled_5 n dl M fu2 i1 y5  K9_5 → va_P (dC, dI) vwCl (xW h a e cI cJ cO cE L I M J n cap fE sd si sa dl) H → va_D A (xW h a e cI cJ cO cE L I M J n cap fE sd si sa dl) → va_S A s.heap H locs → lv_has ls 9 [(5, .int (nI i1)), (3, .long y5), (0, .ref (a 1)), (1, .long p0)] → W p l e9 (headSpec wq_y_tangled rm_y_tangled).room s m ([.ref (a 1), .long p0] : List Value).toArray below meth c H locs 0 0 Q0 (F0 m 5 ls []) := by
    intro fu2
    induction fu2 with
    | zero =>
      intro i1 y5  H locs ls hf hi
      exact absurd hf (by omega)
    | succ fu2 ih3 =>
      intro i1 y5  H locs ls hfi1 hii1 hZ9 hP hD hS hl
      rw [f_y_tangled_5] at hZ9
      refine lv_iload hx hb dX5_tangled_5 (lv_at hl 0 rfl) ?_
      refine lv_bipush (v := 40) hx hb dX5_tangled_7 (by decide) ?_
      refine lv_icmp_ge (tgt := 82) hx hb dX5_tangled_9 (by decide) (fun c6 => ?_) (fun c6 => ?_)
      · replace c6 : 40 ≤ i1 := (nI_leI (a := 40) (b := i1) (by omega) (by omega)).mp c6
        replace hZ9 := ite_t hZ9 c6
        replace hZ9 := lp_app2 hK9_5 hZ9
        refine lv_lload_n hx hb dX5_tangled_82 rfl (lv_at hl 1 rfl) ?_
        rw [hQ]
        exact W.lret (v := y5) hx hb hr (fun t ht hW => ⟨⟨y5, (), rfl, hZ9.symm.trans hR0, by rw [ht]; exact hP, hD⟩, hS.F ht⟩) hS.2.2 dX5_tangled_83
      · replace c6 : ¬ (40 ≤ i1) := fun q9 => c6 ((nI_leI (a := 40) (b := i1) (by omega) (by omega)).mpr q9)
        replace hZ9 := ite_f hZ9 c6
        refine lv_lconst (v := 0) hx hb dX5_tangled_12 (by decide) ?_
        refine lv_lstore (lv' := [(6, .long 0), (5, .int (nI i1)), (3, .long y5), (0, .ref (a 1)), (1, .long p0)]) hx hb dX5_tangled_13 hl (by decide) rfl (fun ls hl => ?_)
        refine lv_iconst (v := 0) hx hb dX5_tangled_15 (by decide) ?_
        refine lv_istore (lv' := [(8, .int 0), (6, .long 0), (5, .int (nI i1)), (3, .long y5), (0, .ref (a 1)), (1, .long p0)]) hx hb dX5_tangled_16 hl (by decide) rfl (fun ls hl => ?_)
        obtain ⟨K9_18, hK9_18, hZ9⟩ := lp_gen hZ9
        have lp10 : ∀ (fu8 i7 : Nat) (y11 : Int64)  (H : Heap) (locs : List Loc) (ls : Array Slot), 40 < i7 + fu8 → i7 ≤ 40 → RES = f_y_tangled_18 n dl M y5 fu8 i7 y11  K9_18 → va_P (dC, dI) vwCl (xW h a e cI cJ cO cE L I M J n cap fE sd si sa dl) H → va_D A (xW h a e cI cJ cO cE L I M J n cap fE sd si sa dl) → va_S A s.heap H locs → lv_has ls 9 [(8, .int (nI i7)), (6, .long y11), (5, .int (nI i1)), (3, .long y5), (0, .ref (a 1)), (1, .long p0)] → W p l e9 (headSpec wq_y_tangled rm_y_tangled).room s m ([.ref (a 1), .long p0] : List Value).toArray below meth c H locs 0 0 Q0 (F0 m 18 ls []) := by
          intro fu8
          induction fu8 with
          | zero =>
            intro i7 y11  H locs ls hf hi
            exact absurd hf (by omega)
          | succ fu8 ih9 =>
            intro i7 y11  H locs ls hfi7 hii7 hZ9 hP hD hS hl
            rw [f_y_tangled_18] at hZ9
            refine lv_iload hx hb dX5_tangled_18 (lv_at hl 0 rfl) ?_
            refine lv_bipush (v := 40) hx hb dX5_tangled_20 (by decide) ?_
            refine lv_icmp_ge (tgt := 63) hx hb dX5_tangled_22 (by decide) (fun c12 => ?_) (fun c12 => ?_)
            · replace c12 : 40 ≤ i7 := (nI_leI (a := 40) (b := i7) (by omega) (by omega)).mp c12
              replace hZ9 := ite_t hZ9 c12
              replace hZ9 := lp_app2 hK9_18 hZ9
              refine lv_lload hx hb dX5_tangled_63 (lv_at hl 1 rfl) ?_
              refine lv_lload_n hx hb dX5_tangled_65 rfl (lv_at hl 3 rfl) ?_
              refine W.lcmp hx hb dX5_tangled_66 ?_
              refine lv_topi (fun x13 ex13 => ?_)
              replace hZ9 := bnd_s hZ9 ex13
              refine lv_if_ne (tgt := 73) hx hb dX5_tangled_67 (by decide) (fun c14 => ?_) (fun c14 => ?_)
              · replace hZ9 := ite_f hZ9 c14
                refine lv_lload hx hb dX5_tangled_73 (lv_at hl 1 rfl) ?_
                refine lv_lstore_n (lv' := [(3, .long y11), (8, .int (nI i7)), (6, .long y11), (5, .int (nI i1)), (0, .ref (a 1)), (1, .long p0)]) hx hb dX5_tangled_75 rfl hl (by decide) rfl (fun ls hl => ?_)
                refine lv_iinc (v := (nI (i1 + 1))) (lv' := [(5, .int (nI (i1 + 1))), (3, .long y11), (8, .int (nI i7)), (6, .long y11), (0, .ref (a 1)), (1, .long p0)]) hx hb dX5_tangled_76 hl (k := 3) rfl (nI_add i1 1) (by decide) rfl (fun ls hl => ?_)
                refine lv_goto (tgt := 5) hx hb dX5_tangled_79 (by decide) ?_
                exact ih3 (i1 + 1) y11  _ _ _ (by omega) (by omega)  hZ9 hP hD hS (lv_sub hl [0, 1, 4, 5] rfl)
              · replace hZ9 := ite_t hZ9 c14
                refine lv_goto (tgt := 82) hx hb dX5_tangled_70 (by decide) ?_
                replace hZ9 := lp_app2 hK9_5 hZ9
                refine lv_lload_n hx hb dX5_tangled_82 rfl (lv_at hl 3 rfl) ?_
                rw [hQ]
                exact W.lret (v := y5) hx hb hr (fun t ht hW => ⟨⟨y5, (), rfl, hZ9.symm.trans hR0, by rw [ht]; exact hP, hD⟩, hS.F ht⟩) hS.2.2 dX5_tangled_83
            · replace c12 : ¬ (40 ≤ i7) := fun q9 => c12 ((nI_leI (a := 40) (b := i7) (by omega) (by omega)).mpr q9)
              replace hZ9 := ite_f hZ9 c12
              refine lv_lload_n hx hb dX5_tangled_25 rfl (lv_at hl 3 rfl) ?_
              refine lv_iload hx hb dX5_tangled_26 (lv_at hl 0 rfl) ?_
              have hFc := mw_free hD hS hA
              refine va_calli (va_runSN (As := [.long y5, .int (nI i7)]) (rest := []) ⟨hx, hb, hml, hown, hts⟩ (c_y_holds l dC dI h a e cI cJ cO cE L I M J n cap fE sd si sa dl (b) y5 i7 H.size hX (by omega) ) ⟨va_cnB 2 hts wc_y_tangled_y_holds_19 rfl rfl rfl (hN (.methodLinkNest RX5 19 yX8_holds "ServiceTree") (by decide +kernel)) (hts (.initialized RX8) (by decide +kernel)) (by decide +kernel) ⟨Nat.le_of_ble_eq_true rfl, Nat.le_of_ble_eq_true rfl⟩, hts (.static yX8_holds) (by decide +kernel), trivial⟩ ⟨fun a9 U g mk q => by obtain ⟨q0, q1, qP, qK, qD, qN⟩ := q; exact ⟨q0, q1, qP, va_K.moved (u := U) (U := U.calling g mk a9) (Vm.Alike.refl U.vm) qK, qD, pw_N.same (u := U) (U := U.calling g mk a9) rfl qN⟩, fun U hU hW => ⟨rfl, by rw [hU], by rw [hU]; exact hP, va_K.moved hW.alike hK, hD.weaken (fun _ _ _ _ => trivial), pw_N.warm hW hN⟩⟩ rfl rfl hl.1 rfl (lv_room (Nat.le_of_ble_eq_true rfl)) dX5_tangled_28 ⟨Nat.le_of_ble_eq_true rfl, Nat.le_of_ble_eq_true rfl⟩) hS (fun q _ h => hFc q h) hFc (fun r15 u t H1 locs ht hvm hw hB hz1 hk1 hS => ?_)
              replace hP := hB.1
              rw [ht] at hP
              replace hD : va_D A (xW h a e cI cJ cO cE L I M J n cap fE sd si sa dl) := hB.2.weaken (fun _ q _ h9 => hFc q.1 h9)
              clear hB
              generalize H1 = H at hP hS ⊢
              replace hP : va_P (dC, dI) vwCl (xW h a e cI cJ cO cE L I M J n cap fE sd si sa dl) H := hP
              obtain ⟨hw, hwe⟩ := hw
              replace hw : r15 = f_y_holds n dl y5 i7  := hw
              replace hZ9 := bnd_s hZ9 hw
              have br15 := hwe
              refine lv_if_eq (tgt := 57) hx hb dX5_tangled_31 (by decide) (fun c16 => ?_) (fun c16 => ?_)
              · replace hZ9 := ite_t hZ9 c16
                refine lv_iinc (v := (nI (i7 + 1))) (lv' := [(8, .int (nI (i7 + 1))), (6, .long y11), (5, .int (nI i1)), (3, .long y5), (0, .ref (a 1)), (1, .long p0)]) hx hb dX5_tangled_57 hl (k := 0) rfl (nI_add i7 1) (by decide) rfl (fun ls hl => ?_)
                refine lv_goto (tgt := 18) hx hb dX5_tangled_60 (by decide) ?_
                exact ih9 (i7 + 1) y11  _ _ _ (by omega) (by omega)  hZ9 hP hD hS (lv_sub hl [0, 1, 2, 3, 4, 5] rfl)
              · replace hZ9 := ite_f hZ9 c16
                refine lv_aload_n hx hb dX5_tangled_34 rfl (lv_at hl 4 rfl) ?_
                refine lv_iload hx hb dX5_tangled_35 (lv_at hl 0 rfl) ?_
                have hFc := mw_free hD hS hA
                refine va_calll (va_runV (As := [.int (nI i7)]) (rest := []) ⟨hx, hb, hml, hown, hts⟩ (c_y_after l dC dI h a e cI cJ cO cE L I M J n cap fE sd si sa dl (b) i7 H.size hX (by omega) (by omega)) (cwV 1 hts wc_y_tangled_y_after_44 rfl rfl rfl (by decide +kernel) ⟨Nat.le_of_ble_eq_true rfl, Nat.le_of_ble_eq_true rfl⟩) ⟨fun a9 U g mk q => by obtain ⟨q0, q1, qP, qK, qD, qN⟩ := q; exact ⟨q0, q1, qP, va_K.moved (u := U) (U := U.calling g mk a9) (Vm.Alike.refl U.vm) qK, qD, pw_N.same (u := U) (U := U.calling g mk a9) rfl qN⟩, va_recv hK hP (ci := 6) (q0 := 2) rfl rfl, fun U hU hW => ⟨rfl, by rw [hU], by rw [hU]; exact hP, va_K.moved hW.alike hK, hD.weaken (fun _ _ _ _ => trivial), pw_N.warm hW hN⟩⟩ rfl rfl hl.1 rfl (lv_room (Nat.le_of_ble_eq_true rfl)) dX5_tangled_37 ⟨Nat.le_of_ble_eq_true rfl, Nat.le_of_ble_eq_true rfl⟩) hS (fun q _ h => hFc q h) hFc (fun r17 u t H1 locs ht hvm hw hB hz1 hk1 hS => ?_)
                replace hP := hB.1
                rw [ht] at hP
                replace hD : va_D A (xW h a e cI cJ cO cE L I M J n cap fE sd si sa dl) := hB.2.weaken (fun _ q _ h9 => hFc q.1 h9)
                clear hB
                generalize H1 = H at hP hS ⊢
                replace hP : va_P (dC, dI) vwCl (xW h a e cI cJ cO cE L I M J n cap fE sd si sa dl) H := hP
                replace hw : r17 = f_y_after n dl i7 M := hw
                replace hZ9 := bnd_s hZ9 hw
                refine lv_lload_n hx hb dX5_tangled_40 rfl (lv_at hl 3 rfl) ?_
                refine lv_land hx hb dX5_tangled_41 ?_
                refine lv_topl (fun x18 ex18 => ?_)
                replace hZ9 := bnd_s hZ9 ex18
                refine lv_lconst (v := 0) hx hb dX5_tangled_42 (by decide) ?_
                refine W.lcmp hx hb dX5_tangled_43 ?_
                refine lv_topi (fun x19 ex19 => ?_)
                replace hZ9 := bnd_s hZ9 ex19
                refine lv_if_eq (tgt := 57) hx hb dX5_tangled_44 (by decide) (fun c20 => ?_) (fun c20 => ?_)
                · replace hZ9 := ite_t hZ9 c20
                  refine lv_iinc (v := (nI (i7 + 1))) (lv' := [(8, .int (nI (i7 + 1))), (6, .long y11), (5, .int (nI i1)), (3, .long y5), (0, .ref (a 1)), (1, .long p0)]) hx hb dX5_tangled_57 hl (k := 0) rfl (nI_add i7 1) (by decide) rfl (fun ls hl => ?_)
                  refine lv_goto (tgt := 18) hx hb dX5_tangled_60 (by decide) ?_
                  exact ih9 (i7 + 1) y11  _ _ _ (by omega) (by omega)  hZ9 hP hD hS (lv_sub hl [0, 1, 2, 3, 4, 5] rfl)
                · replace hZ9 := ite_f hZ9 c20
                  refine lv_lload hx hb dX5_tangled_47 (lv_at hl 1 rfl) ?_
                  refine lv_iload hx hb dX5_tangled_49 (lv_at hl 0 rfl) ?_
                  have hFc := mw_free hD hS hA
                  refine va_calll (va_runSN (As := [.int (nI i7)]) (rest := [.long y11]) ⟨hx, hb, hml, hown, hts⟩ (c_y_only l dC dI h a e cI cJ cO cE L I M J n cap fE sd si sa dl (b) i7 H.size hX (by omega) ) ⟨va_cnB 1 hts wc_y_tangled_y_only_34 rfl rfl rfl (hN (.methodLinkNest RX5 34 yX8_only "ServiceTree") (by decide +kernel)) (hts (.initialized RX8) (by decide +kernel)) (by decide +kernel) ⟨Nat.le_of_ble_eq_true rfl, Nat.le_of_ble_eq_true rfl⟩, hts (.static yX8_only) (by decide +kernel), trivial⟩ ⟨fun a9 U g mk q => by obtain ⟨q0, q1, qP, qK, qD, qN⟩ := q; exact ⟨q0, q1, qP, va_K.moved (u := U) (U := U.calling g mk a9) (Vm.Alike.refl U.vm) qK, qD, pw_N.same (u := U) (U := U.calling g mk a9) rfl qN⟩, fun U hU hW => ⟨rfl, by rw [hU], by rw [hU]; exact hP, va_K.moved hW.alike hK, hD.weaken (fun _ _ _ _ => trivial), pw_N.warm hW hN⟩⟩ rfl rfl hl.1 rfl (lv_room (Nat.le_of_ble_eq_true rfl)) dX5_tangled_51 ⟨Nat.le_of_ble_eq_true rfl, Nat.le_of_ble_eq_true rfl⟩) hS (fun q _ h => hFc q h) hFc (fun r21 u t H1 locs ht hvm hw hB hz1 hk1 hS => ?_)
                  replace hP := hB.1
                  rw [ht] at hP
                  replace hD : va_D A (xW h a e cI cJ cO cE L I M J n cap fE sd si sa dl) := hB.2.weaken (fun _ q _ h9 => hFc q.1 h9)
                  clear hB
                  generalize H1 = H at hP hS ⊢
                  replace hP : va_P (dC, dI) vwCl (xW h a e cI cJ cO cE L I M J n cap fE sd si sa dl) H := hP
                  replace hw : r21 = f_y_only n dl i7  := hw
                  replace hZ9 := bnd_s hZ9 hw
                  refine lv_lor hx hb dX5_tangled_54 ?_
                  refine lv_topl (fun x22 ex22 => ?_)
                  replace hZ9 := bnd_s hZ9 ex22
                  refine lv_lstore (lv' := [(6, .long x22), (8, .int (nI i7)), (5, .int (nI i1)), (3, .long y5), (0, .ref (a 1)), (1, .long p0)]) hx hb dX5_tangled_55 hl (by decide) rfl (fun ls hl => ?_)
                  refine lv_iinc (v := (nI (i7 + 1))) (lv' := [(8, .int (nI (i7 + 1))), (6, .long x22), (5, .int (nI i1)), (3, .long y5), (0, .ref (a 1)), (1, .long p0)]) hx hb dX5_tangled_57 hl (k := 1) rfl (nI_add i7 1) (by decide) rfl (fun ls hl => ?_)
                  refine lv_goto (tgt := 18) hx hb dX5_tangled_60 (by decide) ?_
                  exact ih9 (i7 + 1) x22  _ _ _ (by omega) (by omega)  hZ9 hP hD hS (lv_sub hl [0, 1, 2, 3, 4, 5] rfl)
        exact lp10 (40 + 1) 0 0  _ _ _ (by omega) (by omega)  hZ9 hP hD hS hl
  exact lp4 (40 + 1) 0 p0  _ _ _ (by omega) (by omega)  hZ9 hP hD hS hl
def f_y_ringThrough_15 (n : Nat) (dl : Nat → Nat) (av : Nat) (p1 : Int64) (M : Nat → Nat → Int64) : Nat → Nat → Int64 → Int64 → (Nat → Int64 → Int64 → Int32) → Int32
  | 0, i3, y7, y8, K9_15 => K9_15 i3 y7 y8 
  | fu4 + 1, i3, y7, y8, K9_15 => if 40 < i3 then (K9_15 i3 y7 y8) else (bnd (lg_cmp y7 (0 : Int64)) (fun (x10 : Int32) => if x10 = (0 : Int32) then (K9_15 i3 y7 y8) else (bnd (f_y_holds n dl y7 av ) (fun (r12 : Int32) => if r12 = (0 : Int32) then (bnd (y8 ||| y7) (fun (x14 : Int64) => bnd (f_y_union0 n dl y7 M) (fun (r15 : Int64) => bnd (f_y_union2 n dl y7 M) (fun (r16 : Int64) => bnd (r15 ||| r16) (fun (x17 : Int64) => bnd (x17 &&& p1) (fun (x18 : Int64) => bnd (x14 ^^^ (-1 : Int64)) (fun (x19 : Int64) => bnd (x18 &&& x19) (fun (x20 : Int64) => f_y_ringThrough_15 n dl av p1 M fu4 (i3 + 1) x20 x14  K9_15)))))))) else (((nI i3)))))))
def f_y_ringThrough (n : Nat) (dl : Nat → Nat) (av : Nat) (p1 : Int64) (M : Nat → Nat → Int64) : Int32 := bnd (f_y_after n dl av M) (fun (r1 : Int64) => bnd (r1 &&& p1) (fun (x2 : Int64) => f_y_ringThrough_15 n dl av p1 M (41 + 1) 1 x2 (0 : Int64)  (fun (i3 : Nat) (y7 : Int64) (y8 : Int64) => ((0 : Int32)))))
def wq_y_ringThrough : List Cond := ([.code yX5_ringThrough cX5_ringThrough 11 (some .int), .initialized RX8, .static yX8_holds, .fieldLink RX5 11 "ServiceTree$Relations" "froms" "[[J", .constantLong RX5 38 (-1), .methodLink RX5 44 yX5_after, .instanceMethod yX5_after, .selects RX5 yX5_after yX5_after, .initialized RX5, .methodLink RX5 40 yX5_union, .static yX5_union] : List Cond) ++ (wsX50 ++ (wq_y_after ++ (wq_y_holds ++ (wq_y_union0 ++ (wq_y_union2)))))
theorem in_y_ringThrough_X5 : ∀ w ∈ wsX50, w ∈ wq_y_ringThrough := fun _ h => List.mem_append_right _ (List.mem_append_left _ (h))
set_option maxRecDepth 20000 in
theorem wi_y_ringThrough : ∀ w ∈ wq_y_ringThrough, w ∈ lw_tbl := List.forall_mem_append.mpr ⟨(wix [565, 60, 488, 122, 508, 558, 560, 9, 64, 534, 535] rfl), List.forall_mem_append.mpr ⟨inKX5, List.forall_mem_append.mpr ⟨wi_y_after, List.forall_mem_append.mpr ⟨wi_y_holds, List.forall_mem_append.mpr ⟨wi_y_union0, wi_y_union2⟩⟩⟩⟩⟩
set_option maxRecDepth 20000 in
theorem wg_y_ringThrough : GoodIn wq_y_ringThrough wq_y_ringThrough := goodIn_sub (fun _ h => h) (by decide +kernel)
set_option maxRecDepth 20000 in
theorem wc_y_ringThrough_y_after_44 : GoodIn wq_y_ringThrough (wsV RX5 44 RX5 yX5_after wq_y_after) := goodIn_app (goodIn_of _ (by decide +kernel)) (fun w h => ⟨List.mem_append_right _ (List.mem_append_right _ (List.mem_append_left _ (h))), (wg_y_after w h).2⟩)
theorem wc_y_ringThrough_y_holds_19 : GoodIn wq_y_ringThrough wq_y_holds := (fun w h => ⟨List.mem_append_right _ (List.mem_append_right _ (List.mem_append_right _ (List.mem_append_left _ (h)))), (wg_y_holds w h).2⟩)
set_option maxRecDepth 20000 in
theorem wc_y_ringThrough_y_union0_40 : GoodIn wq_y_ringThrough (va_wsS RX5 40 yX5_union wq_y_union0) := goodIn_app (goodIn_of _ (by decide +kernel)) (fun w h => ⟨List.mem_append_right _ (List.mem_append_right _ (List.mem_append_right _ (List.mem_append_right _ (List.mem_append_left _ (h))))), (wg_y_union0 w h).2⟩)
set_option maxRecDepth 20000 in
theorem wc_y_ringThrough_y_union2_40 : GoodIn wq_y_ringThrough (va_wsS RX5 40 yX5_union wq_y_union2) := goodIn_app (goodIn_of _ (by decide +kernel)) (fun w h => ⟨List.mem_append_right _ (List.mem_append_right _ (List.mem_append_right _ (List.mem_append_right _ (List.mem_append_right _ (h))))), (wg_y_union2 w h).2⟩)
def rm_y_ringThrough : Room := { frames := 2, cells := 0, slots := 0, locals := 47 }
set_option maxHeartbeats 4000000 in
set_option maxRecDepth 100000 in
theorem c_y_ringThrough (l : Launch) (dC : Nat → ClassId) (dI : Nat → Nat → Nat) (h : Nat) (a : Nat → Nat) (e : Nat) (cI cJ cO cE : ClassId) (L : Nat → Int64) (I : Nat → Int32) (M : Nat → Nat → Int64) (J : Nat → Nat → Int32) (n cap : Nat) (fE : Nat → Option Nat) (sd : Nat → Nat → Nat) (si : Nat → Nat → Int32) (sa : Nat → Nat → Nat → Int32) (dl : Nat → Nat) (b : Nat) (av : Nat) (p1 : Int64) (sz : Nat) (hX0 : InvX n cap fE sd dl b I J si) (hb0 : b + 0 < 2147483648) (hp0 : av < 40) : Met l yX5_ringThrough wq_y_ringThrough rm_y_ringThrough (va_Pc [.ref (a 1), .int (nI av), .long p1] (fun U => U.heap.size = sz ∧ va_P (dC, dI) vwCl (xW h a e cI cJ cO cE L I M J n cap fE sd si sa dl) U.heap ∧ va_K (dC, dI) vwCl (xT cI cJ cO cE) U ∧ va_D (fun _ => True) (xW h a e cI cJ cO cE L I M J n cap fE sd si sa dl) ∧ pw_N U)) (va_Qi (fun (r : Int32) (u : Unit) => (r = f_y_ringThrough n dl av p1 M)) (fun (u : Unit) (t : State) => va_P (dC, dI) vwCl (xW h a e cI cJ cO cE L I M J n cap fE sd si sa dl) t.heap ∧ va_D (va_A (xW h a e cI cJ cO cE L I M J n cap fE sd si sa dl) sz) (xW h a e cI cJ cO cE L I M J n cap fE sd si sa dl)) (va_A (xW h a e cI cJ cO cE L I M J n cap fE sd si sa dl) sz)) 0 0 (va_A (xW h a e cI cJ cO cE L I M J n cap fE sd si sa dl) sz) := by
  have hn : n ≤ 40 := hX0.1.1
  have hX := hX0
  refine Met.ofW (cc := cX5_ringThrough) (maxL := 11) (ret := (some .int)) (by decide) rfl ?_
  intro p e9 s m args below meth c s₁ B hml hv
  obtain ⟨rfl, hsz, hP, hK, hD0, hN⟩ := hv
  have hx := B.exec
  have hb := B.bytes
  have hr := B.returns
  have hts := atoms_spec (ws := wq_y_ringThrough) B.pre
  have hown : s.vm.findClass RX5 = some m.cls := findClass_of_methodNamed B.named
  have hlocks := B.notSynchronized
  subst hsz
  have hD := hD0.self (sz := s.heap.size)
  generalize hAe : va_A (xW h a e cI cJ cO cE L I M J n cap fE sd si sa dl) s.heap.size = A at hD ⊢
  have hA : ∀ q : Nat, s.heap.size ≤ q → A q := fun q h => by rw [← hAe]; exact Or.inr h
  have hS : va_S A s.heap s.heap [] := va_S.rf
  have hl := lv_entry ([.ref (a 1), .int (nI av), .long p1]) (n := 11) (Nat.le_of_ble_eq_true rfl)
  rw [lg_entry_eq]
  generalize (lg_sl ([.ref (a 1), .int (nI av), .long p1]) ++ List.replicate (11 - (lg_sl ([.ref (a 1), .int (nI av), .long p1])).length) Slot.unset).toArray = ls at hl ⊢
  have hl : lv_has ls 11 [(0, .ref (a 1)), (1, .int (nI av)), (2, .long p1)] := hl
  refine mw_Q (fun Q0 hQ => ?_)
  obtain ⟨RES, hR0⟩ : ∃ R9, R9 = f_y_ringThrough n dl av p1 M := ⟨_, rfl⟩
  have hZ9 := hR0
  unfold f_y_ringThrough at hZ9
  refine lv_lconst (v := 0) hx hb dX5_ringThrough_0 (by decide) ?_
  refine lv_lstore (lv' := [(4, .long 0), (0, .ref (a 1)), (1, .int (nI av)), (2, .long p1)]) hx hb dX5_ringThrough_1 hl (by decide) rfl (fun ls hl => ?_)
  refine lv_aload_n hx hb dX5_ringThrough_3 rfl (lv_at hl 1 rfl) ?_
  refine lv_iload_n hx hb dX5_ringThrough_4 rfl (lv_at hl 2 rfl) ?_
  have hFc := mw_free hD hS hA
  refine va_calll (va_runV (As := [.int (nI av)]) (rest := []) ⟨hx, hb, hml, hown, hts⟩ (c_y_after l dC dI h a e cI cJ cO cE L I M J n cap fE sd si sa dl (b) av s.heap.size hX (by omega) (by omega)) (cwV 1 hts wc_y_ringThrough_y_after_44 rfl rfl rfl (by decide +kernel) ⟨Nat.le_of_ble_eq_true rfl, Nat.le_of_ble_eq_true rfl⟩) ⟨fun a9 U g mk q => by obtain ⟨q0, q1, qP, qK, qD, qN⟩ := q; exact ⟨q0, q1, qP, va_K.moved (u := U) (U := U.calling g mk a9) (Vm.Alike.refl U.vm) qK, qD, pw_N.same (u := U) (U := U.calling g mk a9) rfl qN⟩, va_recv hK hP (ci := 6) (q0 := 2) rfl rfl, fun U hU hW => ⟨rfl, by rw [hU], by rw [hU]; exact hP, va_K.moved hW.alike hK, hD.weaken (fun _ _ _ _ => trivial), pw_N.warm hW hN⟩⟩ rfl rfl hl.1 rfl (lv_room (Nat.le_of_ble_eq_true rfl)) dX5_ringThrough_5 ⟨Nat.le_of_ble_eq_true rfl, Nat.le_of_ble_eq_true rfl⟩) hS (fun q _ h => hFc q h) hFc (fun r1 u t H1 locs ht hvm hw hB hz1 hk1 hS => ?_)
  replace hP := hB.1
  rw [ht] at hP
  replace hD : va_D A (xW h a e cI cJ cO cE L I M J n cap fE sd si sa dl) := hB.2.weaken (fun _ q _ h9 => hFc q.1 h9)
  clear hB
  generalize H1 = H at hP hS ⊢
  replace hP : va_P (dC, dI) vwCl (xW h a e cI cJ cO cE L I M J n cap fE sd si sa dl) H := hP
  replace hw : r1 = f_y_after n dl av M := hw
  replace hZ9 := bnd_s hZ9 hw
  refine lv_lload_n hx hb dX5_ringThrough_8 rfl (lv_at hl 3 rfl) ?_
  refine lv_land hx hb dX5_ringThrough_9 ?_
  refine lv_topl (fun x2 ex2 => ?_)
  replace hZ9 := bnd_s hZ9 ex2
  refine lv_lstore (lv' := [(6, .long x2), (4, .long 0), (0, .ref (a 1)), (1, .int (nI av)), (2, .long p1)]) hx hb dX5_ringThrough_10 hl (by decide) rfl (fun ls hl => ?_)
  refine lv_iconst (v := 1) hx hb dX5_ringThrough_12 (by decide) ?_
  refine lv_istore (lv' := [(8, .int 1), (6, .long x2), (4, .long 0), (0, .ref (a 1)), (1, .int (nI av)), (2, .long p1)]) hx hb dX5_ringThrough_13 hl (by decide) rfl (fun ls hl => ?_)
  obtain ⟨K9_15, hK9_15, hZ9⟩ := lp_gen hZ9
  have lp6 : ∀ (fu4 i3 : Nat) (y7 : Int64) (y8 : Int64)  (H : Heap) (locs : List Loc) (ls : Array Slot), 41 < i3 + fu4 → i3 ≤ 41 → RES = f_y_ringThrough_15 n dl av p1 M fu4 i3 y7 y8  K9_15 → va_P (dC, dI) vwCl (xW h a e cI cJ cO cE L I M J n cap fE sd si sa dl) H → va_D A (xW h a e cI cJ cO cE L I M J n cap fE sd si sa dl) → va_S A s.heap H locs → lv_has ls 11 [(8, .int (nI i3)), (6, .long y7), (4, .long y8), (0, .ref (a 1)), (1, .int (nI av)), (2, .long p1)] → W p l e9 (headSpec wq_y_ringThrough rm_y_ringThrough).room s m ([.ref (a 1), .int (nI av), .long p1] : List Value).toArray below meth c H locs 0 0 Q0 (F0 m 15 ls []) := by
    intro fu4
    induction fu4 with
    | zero =>
      intro i3 y7 y8  H locs ls hf hi
      exact absurd hf (by omega)
    | succ fu4 ih5 =>
      intro i3 y7 y8  H locs ls hfi3 hii3 hZ9 hP hD hS hl
      rw [f_y_ringThrough_15] at hZ9
      refine lv_iload hx hb dX5_ringThrough_15 (lv_at hl 0 rfl) ?_
      refine lv_bipush (v := 40) hx hb dX5_ringThrough_17 (by decide) ?_
      refine lv_icmp_gt (tgt := 92) hx hb dX5_ringThrough_19 (by decide) (fun c9 => ?_) (fun c9 => ?_)
      · replace c9 : 40 < i3 := (nI_ltI (a := 40) (b := i3) (by omega) (by omega)).mp c9
        replace hZ9 := ite_t hZ9 c9
        replace hZ9 := lp_app3 hK9_15 hZ9
        refine lv_iconst (v := 0) hx hb dX5_ringThrough_92 (by decide) ?_
        rw [hQ]
        exact W.iret (v := 0) hx hb hr (fun t ht hW => ⟨⟨0, (), rfl, hZ9.symm.trans hR0, by rw [ht]; exact hP, hD⟩, hS.F ht⟩) hS.2.2 dX5_ringThrough_93
      · replace c9 : ¬ (40 < i3) := fun q9 => c9 ((nI_ltI (a := 40) (b := i3) (by omega) (by omega)).mpr q9)
        replace hZ9 := ite_f hZ9 c9
        refine lv_lload hx hb dX5_ringThrough_22 (lv_at hl 1 rfl) ?_
        refine lv_lconst (v := 0) hx hb dX5_ringThrough_24 (by decide) ?_
        refine W.lcmp hx hb dX5_ringThrough_25 ?_
        refine lv_topi (fun x10 ex10 => ?_)
        replace hZ9 := bnd_s hZ9 ex10
        refine lv_if_eq (tgt := 92) hx hb dX5_ringThrough_26 (by decide) (fun c11 => ?_) (fun c11 => ?_)
        · replace hZ9 := ite_t hZ9 c11
          replace hZ9 := lp_app3 hK9_15 hZ9
          refine lv_iconst (v := 0) hx hb dX5_ringThrough_92 (by decide) ?_
          rw [hQ]
          exact W.iret (v := 0) hx hb hr (fun t ht hW => ⟨⟨0, (), rfl, hZ9.symm.trans hR0, by rw [ht]; exact hP, hD⟩, hS.F ht⟩) hS.2.2 dX5_ringThrough_93
        · replace hZ9 := ite_f hZ9 c11
          refine lv_lload hx hb dX5_ringThrough_29 (lv_at hl 1 rfl) ?_
          refine lv_iload_n hx hb dX5_ringThrough_31 rfl (lv_at hl 4 rfl) ?_
          have hFc := mw_free hD hS hA
          refine va_calli (va_runSN (As := [.long y7, .int (nI av)]) (rest := []) ⟨hx, hb, hml, hown, hts⟩ (c_y_holds l dC dI h a e cI cJ cO cE L I M J n cap fE sd si sa dl (b) y7 av H.size hX (by omega) ) ⟨va_cnB 2 hts wc_y_ringThrough_y_holds_19 rfl rfl rfl (hN (.methodLinkNest RX5 19 yX8_holds "ServiceTree") (by decide +kernel)) (hts (.initialized RX8) (by decide +kernel)) (by decide +kernel) ⟨Nat.le_of_ble_eq_true rfl, Nat.le_of_ble_eq_true rfl⟩, hts (.static yX8_holds) (by decide +kernel), trivial⟩ ⟨fun a9 U g mk q => by obtain ⟨q0, q1, qP, qK, qD, qN⟩ := q; exact ⟨q0, q1, qP, va_K.moved (u := U) (U := U.calling g mk a9) (Vm.Alike.refl U.vm) qK, qD, pw_N.same (u := U) (U := U.calling g mk a9) rfl qN⟩, fun U hU hW => ⟨rfl, by rw [hU], by rw [hU]; exact hP, va_K.moved hW.alike hK, hD.weaken (fun _ _ _ _ => trivial), pw_N.warm hW hN⟩⟩ rfl rfl hl.1 rfl (lv_room (Nat.le_of_ble_eq_true rfl)) dX5_ringThrough_32 ⟨Nat.le_of_ble_eq_true rfl, Nat.le_of_ble_eq_true rfl⟩) hS (fun q _ h => hFc q h) hFc (fun r12 u t H1 locs ht hvm hw hB hz1 hk1 hS => ?_)
          replace hP := hB.1
          rw [ht] at hP
          replace hD : va_D A (xW h a e cI cJ cO cE L I M J n cap fE sd si sa dl) := hB.2.weaken (fun _ q _ h9 => hFc q.1 h9)
          clear hB
          generalize H1 = H at hP hS ⊢
          replace hP : va_P (dC, dI) vwCl (xW h a e cI cJ cO cE L I M J n cap fE sd si sa dl) H := hP
          obtain ⟨hw, hwe⟩ := hw
          replace hw : r12 = f_y_holds n dl y7 av  := hw
          replace hZ9 := bnd_s hZ9 hw
          have br12 := hwe
          refine lv_if_eq (tgt := 41) hx hb dX5_ringThrough_35 (by decide) (fun c13 => ?_) (fun c13 => ?_)
          · replace hZ9 := ite_t hZ9 c13
            refine lv_lload hx hb dX5_ringThrough_41 (lv_at hl 2 rfl) ?_
            refine lv_lload hx hb dX5_ringThrough_43 (lv_at hl 1 rfl) ?_
            refine lv_lor hx hb dX5_ringThrough_45 ?_
            refine lv_topl (fun x14 ex14 => ?_)
            replace hZ9 := bnd_s hZ9 ex14
            refine lv_lstore (lv' := [(4, .long x14), (8, .int (nI i3)), (6, .long y7), (0, .ref (a 1)), (1, .int (nI av)), (2, .long p1)]) hx hb dX5_ringThrough_46 hl (by decide) rfl (fun ls hl => ?_)
            refine lv_aload_n hx hb dX5_ringThrough_48 rfl (lv_at hl 3 rfl) ?_
            refine va_get (D := (dC, dI)) (ci := 6) (v := .ref (a 10)) (C := RX5) (T := TX5) (N := 3) hx hb hts in_y_ringThrough_X5 hown hK hP 2 rfl rfl 0 (by decide) (hts (.fieldLink RX5 11 "ServiceTree$Relations" "froms" "[[J") (by decide +kernel)) (fun _ h9 => h9) rfl dX5_ringThrough_49 ?_
            refine lv_iconst (v := 0) hx hb dX5_ringThrough_52 (by decide) ?_
            refine p1_aldA (n := 4) (f := fun i => if i < 4 then some (a (20 + i)) else none) hx hb hK hP 3 2 rfl rfl (vp_in_nI (n := 0) (by omega) (by decide)) dX5_ringThrough_53 ?_
            refine p1_topr (v := .ref (a 20)) rfl ?_
            refine lv_lload hx hb dX5_ringThrough_54 (lv_at hl 2 rfl) ?_
            have hFc := mw_free hD hS hA
            refine va_calll (va_runS (As := [.ref (a 20), .long y7]) (rest := []) ⟨hx, hb, hml, hown, hts⟩ (c_y_union0 l dC dI h a e cI cJ cO cE L I M J n cap fE sd si sa dl (b) y7 H.size hX (by omega) ) (va_cwS 2 hts wc_y_ringThrough_y_union0_40 rfl rfl rfl (by decide +kernel) ⟨Nat.le_of_ble_eq_true rfl, Nat.le_of_ble_eq_true rfl⟩) ⟨fun a9 U g mk q => by obtain ⟨q0, q1, qP, qK, qD, qN⟩ := q; exact ⟨q0, q1, qP, va_K.moved (u := U) (U := U.calling g mk a9) (Vm.Alike.refl U.vm) qK, qD, pw_N.same (u := U) (U := U.calling g mk a9) rfl qN⟩, fun U hU hW => ⟨rfl, by rw [hU], by rw [hU]; exact hP, va_K.moved hW.alike hK, hD.weaken (fun _ _ _ _ => trivial), pw_N.warm hW hN⟩⟩ rfl rfl hl.1 rfl (lv_room (Nat.le_of_ble_eq_true rfl)) dX5_ringThrough_56 ⟨Nat.le_of_ble_eq_true rfl, Nat.le_of_ble_eq_true rfl⟩) hS (fun q _ h => hFc q h) hFc (fun r15 u t H1 locs ht hvm hw hB hz1 hk1 hS => ?_)
            replace hP := hB.1
            rw [ht] at hP
            replace hD : va_D A (xW h a e cI cJ cO cE L I M J n cap fE sd si sa dl) := hB.2.weaken (fun _ q _ h9 => hFc q.1 h9)
            clear hB
            generalize H1 = H at hP hS ⊢
            replace hP : va_P (dC, dI) vwCl (xW h a e cI cJ cO cE L I M J n cap fE sd si sa dl) H := hP
            replace hw : r15 = f_y_union0 n dl y7 M := hw
            replace hZ9 := bnd_s hZ9 hw
            refine lv_aload_n hx hb dX5_ringThrough_59 rfl (lv_at hl 3 rfl) ?_
            refine va_get (D := (dC, dI)) (ci := 6) (v := .ref (a 10)) (C := RX5) (T := TX5) (N := 3) hx hb hts in_y_ringThrough_X5 hown hK hP 2 rfl rfl 0 (by decide) (hts (.fieldLink RX5 11 "ServiceTree$Relations" "froms" "[[J") (by decide +kernel)) (fun _ h9 => h9) rfl dX5_ringThrough_60 ?_
            refine lv_iconst (v := 2) hx hb dX5_ringThrough_63 (by decide) ?_
            refine p1_aldA (n := 4) (f := fun i => if i < 4 then some (a (20 + i)) else none) hx hb hK hP 3 2 rfl rfl (vp_in_nI (n := 2) (by omega) (by decide)) dX5_ringThrough_64 ?_
            refine p1_topr (v := .ref (a 22)) rfl ?_
            refine lv_lload hx hb dX5_ringThrough_65 (lv_at hl 2 rfl) ?_
            have hFc := mw_free hD hS hA
            refine va_calll (va_runS (As := [.ref (a 22), .long y7]) (rest := [.long r15]) ⟨hx, hb, hml, hown, hts⟩ (c_y_union2 l dC dI h a e cI cJ cO cE L I M J n cap fE sd si sa dl (b) y7 H.size hX (by omega) ) (va_cwS 2 hts wc_y_ringThrough_y_union2_40 rfl rfl rfl (by decide +kernel) ⟨Nat.le_of_ble_eq_true rfl, Nat.le_of_ble_eq_true rfl⟩) ⟨fun a9 U g mk q => by obtain ⟨q0, q1, qP, qK, qD, qN⟩ := q; exact ⟨q0, q1, qP, va_K.moved (u := U) (U := U.calling g mk a9) (Vm.Alike.refl U.vm) qK, qD, pw_N.same (u := U) (U := U.calling g mk a9) rfl qN⟩, fun U hU hW => ⟨rfl, by rw [hU], by rw [hU]; exact hP, va_K.moved hW.alike hK, hD.weaken (fun _ _ _ _ => trivial), pw_N.warm hW hN⟩⟩ rfl rfl hl.1 rfl (lv_room (Nat.le_of_ble_eq_true rfl)) dX5_ringThrough_67 ⟨Nat.le_of_ble_eq_true rfl, Nat.le_of_ble_eq_true rfl⟩) hS (fun q _ h => hFc q h) hFc (fun r16 u t H1 locs ht hvm hw hB hz1 hk1 hS => ?_)
            replace hP := hB.1
            rw [ht] at hP
            replace hD : va_D A (xW h a e cI cJ cO cE L I M J n cap fE sd si sa dl) := hB.2.weaken (fun _ q _ h9 => hFc q.1 h9)
            clear hB
            generalize H1 = H at hP hS ⊢
            replace hP : va_P (dC, dI) vwCl (xW h a e cI cJ cO cE L I M J n cap fE sd si sa dl) H := hP
            replace hw : r16 = f_y_union2 n dl y7 M := hw
            replace hZ9 := bnd_s hZ9 hw
            refine lv_lor hx hb dX5_ringThrough_70 ?_
            refine lv_topl (fun x17 ex17 => ?_)
            replace hZ9 := bnd_s hZ9 ex17
            refine lv_lstore (lv' := [(9, .long x17), (4, .long x14), (8, .int (nI i3)), (6, .long y7), (0, .ref (a 1)), (1, .int (nI av)), (2, .long p1)]) hx hb dX5_ringThrough_71 hl (by decide) rfl (fun ls hl => ?_)
            refine lv_lload hx hb dX5_ringThrough_73 (lv_at hl 0 rfl) ?_
            refine lv_lload_n hx hb dX5_ringThrough_75 rfl (lv_at hl 6 rfl) ?_
            refine lv_land hx hb dX5_ringThrough_76 ?_
            refine lv_topl (fun x18 ex18 => ?_)
            replace hZ9 := bnd_s hZ9 ex18
            refine lv_lload hx hb dX5_ringThrough_77 (lv_at hl 1 rfl) ?_
            refine lv_ldc2 (v := (-1)) hx hb hown (hts (.constantLong RX5 38 (-1)) (by decide +kernel)) dX5_ringThrough_79 ?_
            refine lv_lxor hx hb dX5_ringThrough_82 ?_
            refine lv_topl (fun x19 ex19 => ?_)
            replace hZ9 := bnd_s hZ9 ex19
            refine lv_land hx hb dX5_ringThrough_83 ?_
            refine lv_topl (fun x20 ex20 => ?_)
            replace hZ9 := bnd_s hZ9 ex20
            refine lv_lstore (lv' := [(6, .long x20), (9, .long x17), (4, .long x14), (8, .int (nI i3)), (0, .ref (a 1)), (1, .int (nI av)), (2, .long p1)]) hx hb dX5_ringThrough_84 hl (by decide) rfl (fun ls hl => ?_)
            refine lv_iinc (v := (nI (i3 + 1))) (lv' := [(8, .int (nI (i3 + 1))), (6, .long x20), (9, .long x17), (4, .long x14), (0, .ref (a 1)), (1, .int (nI av)), (2, .long p1)]) hx hb dX5_ringThrough_86 hl (k := 3) rfl (nI_add i3 1) (by decide) rfl (fun ls hl => ?_)
            refine lv_goto (tgt := 15) hx hb dX5_ringThrough_89 (by decide) ?_
            exact ih5 (i3 + 1) x20 x14  _ _ _ (by omega) (by omega)  hZ9 hP hD hS (lv_sub hl [0, 1, 3, 4, 5, 6] rfl)
          · replace hZ9 := ite_f hZ9 c13
            refine lv_iload hx hb dX5_ringThrough_38 (lv_at hl 0 rfl) ?_
            rw [hQ]
            exact W.iret (v := (nI i3)) hx hb hr (fun t ht hW => ⟨⟨(nI i3), (), rfl, hZ9.symm.trans hR0, by rw [ht]; exact hP, hD⟩, hS.F ht⟩) hS.2.2 dX5_ringThrough_40
  exact lp6 (41 + 1) 1 x2 0  _ _ _ (by omega) (by omega)  hZ9 hP hD hS hl
def f_y_shortestRing_12 (n : Nat) (dl : Nat → Nat) (M : Nat → Nat → Int64) (r1 : Int64) : Nat → Nat → Int32 → (Nat → Int32 → Int32) → Int32
  | 0, i2, y6, K9_12 => K9_12 i2 y6 
  | fu3 + 1, i2, y6, K9_12 => if 40 ≤ i2 then (K9_12 i2 y6) else (bnd (f_y_holds n dl r1 i2 ) (fun (r8 : Int32) => if r8 = (0 : Int32) then (f_y_shortestRing_12 n dl M r1 fu3 (i2 + 1) y6  K9_12) else (bnd (f_y_ringThrough n dl i2 r1 M) (fun (r10 : Int32) => if r10 ≤ (0 : Int32) then (f_y_shortestRing_12 n dl M r1 fu3 (i2 + 1) y6  K9_12) else (if y6 = (0 : Int32) then (f_y_shortestRing_12 n dl M r1 fu3 (i2 + 1) r10  K9_12) else (if y6 ≤ r10 then (f_y_shortestRing_12 n dl M r1 fu3 (i2 + 1) y6  K9_12) else (f_y_shortestRing_12 n dl M r1 fu3 (i2 + 1) r10  K9_12)))))))
def f_y_shortestRing (n : Nat) (dl : Nat → Nat) (p0 : Int64) (M : Nat → Nat → Int64) : Int32 := bnd (f_y_tangled n dl p0 M) (fun (r1 : Int64) => f_y_shortestRing_12 n dl M r1 (40 + 1) 0 (0 : Int32)  (fun (i2 : Nat) (y6 : Int32) => (y6)))
def wq_y_shortestRing : List Cond := ([.code yX5_shortestRing cX5_shortestRing 8 (some .int), .initialized RX8, .static yX8_holds, .methodLink RX5 47 yX5_tangled, .instanceMethod yX5_tangled, .selects RX5 yX5_tangled yX5_tangled, .initialized RX5, .methodLink RX5 51 yX5_ringThrough, .instanceMethod yX5_ringThrough, .selects RX5 yX5_ringThrough yX5_ringThrough] : List Cond) ++ (wq_y_tangled ++ (wq_y_holds ++ (wq_y_ringThrough)))
set_option maxRecDepth 20000 in
theorem wi_y_shortestRing : ∀ w ∈ wq_y_shortestRing, w ∈ lw_tbl := List.forall_mem_append.mpr ⟨(wix [553, 60, 488, 554, 555, 556, 64, 562, 564, 10] rfl), List.forall_mem_append.mpr ⟨wi_y_tangled, List.forall_mem_append.mpr ⟨wi_y_holds, wi_y_ringThrough⟩⟩⟩
set_option maxRecDepth 20000 in
theorem wg_y_shortestRing : GoodIn wq_y_shortestRing wq_y_shortestRing := goodIn_sub (fun _ h => h) (by decide +kernel)
set_option maxRecDepth 20000 in
theorem wc_y_shortestRing_y_tangled_47 : GoodIn wq_y_shortestRing (wsV RX5 47 RX5 yX5_tangled wq_y_tangled) := goodIn_app (goodIn_of _ (by decide +kernel)) (fun w h => ⟨List.mem_append_right _ (List.mem_append_left _ (h)), (wg_y_tangled w h).2⟩)
theorem wc_y_shortestRing_y_holds_19 : GoodIn wq_y_shortestRing wq_y_holds := (fun w h => ⟨List.mem_append_right _ (List.mem_append_right _ (List.mem_append_left _ (h))), (wg_y_holds w h).2⟩)
set_option maxRecDepth 20000 in
theorem wc_y_shortestRing_y_ringThrough_51 : GoodIn wq_y_shortestRing (wsV RX5 51 RX5 yX5_ringThrough wq_y_ringThrough) := goodIn_app (goodIn_of _ (by decide +kernel)) (fun w h => ⟨List.mem_append_right _ (List.mem_append_right _ (List.mem_append_right _ (h))), (wg_y_ringThrough w h).2⟩)
def rm_y_shortestRing : Room := { frames := 3, cells := 0, slots := 0, locals := 77 }
set_option maxHeartbeats 4000000 in
set_option maxRecDepth 100000 in
theorem c_y_shortestRing (l : Launch) (dC : Nat → ClassId) (dI : Nat → Nat → Nat) (h : Nat) (a : Nat → Nat) (e : Nat) (cI cJ cO cE : ClassId) (L : Nat → Int64) (I : Nat → Int32) (M : Nat → Nat → Int64) (J : Nat → Nat → Int32) (n cap : Nat) (fE : Nat → Option Nat) (sd : Nat → Nat → Nat) (si : Nat → Nat → Int32) (sa : Nat → Nat → Nat → Int32) (dl : Nat → Nat) (b : Nat) (p0 : Int64) (sz : Nat) (hX0 : InvX n cap fE sd dl b I J si) (hb0 : b + 0 < 2147483648)  : Met l yX5_shortestRing wq_y_shortestRing rm_y_shortestRing (va_Pc [.ref (a 1), .long p0] (fun U => U.heap.size = sz ∧ va_P (dC, dI) vwCl (xW h a e cI cJ cO cE L I M J n cap fE sd si sa dl) U.heap ∧ va_K (dC, dI) vwCl (xT cI cJ cO cE) U ∧ va_D (fun _ => True) (xW h a e cI cJ cO cE L I M J n cap fE sd si sa dl) ∧ pw_N U)) (va_Qi (fun (r : Int32) (u : Unit) => (r = f_y_shortestRing n dl p0 M)) (fun (u : Unit) (t : State) => va_P (dC, dI) vwCl (xW h a e cI cJ cO cE L I M J n cap fE sd si sa dl) t.heap ∧ va_D (va_A (xW h a e cI cJ cO cE L I M J n cap fE sd si sa dl) sz) (xW h a e cI cJ cO cE L I M J n cap fE sd si sa dl)) (va_A (xW h a e cI cJ cO cE L I M J n cap fE sd si sa dl) sz)) 0 0 (va_A (xW h a e cI cJ cO cE L I M J n cap fE sd si sa dl) sz) := by
  have hn : n ≤ 40 := hX0.1.1
  have hX := hX0
  refine Met.ofW (cc := cX5_shortestRing) (maxL := 8) (ret := (some .int)) (by decide) rfl ?_
  intro p e9 s m args below meth c s₁ B hml hv
  obtain ⟨rfl, hsz, hP, hK, hD0, hN⟩ := hv
  have hx := B.exec
  have hb := B.bytes
  have hr := B.returns
  have hts := atoms_spec (ws := wq_y_shortestRing) B.pre
  have hown : s.vm.findClass RX5 = some m.cls := findClass_of_methodNamed B.named
  have hlocks := B.notSynchronized
  subst hsz
  have hD := hD0.self (sz := s.heap.size)
  generalize hAe : va_A (xW h a e cI cJ cO cE L I M J n cap fE sd si sa dl) s.heap.size = A at hD ⊢
  have hA : ∀ q : Nat, s.heap.size ≤ q → A q := fun q h => by rw [← hAe]; exact Or.inr h
  have hS : va_S A s.heap s.heap [] := va_S.rf
  have hl := lv_entry ([.ref (a 1), .long p0]) (n := 8) (Nat.le_of_ble_eq_true rfl)
  rw [lg_entry_eq]
  generalize (lg_sl ([.ref (a 1), .long p0]) ++ List.replicate (8 - (lg_sl ([.ref (a 1), .long p0])).length) Slot.unset).toArray = ls at hl ⊢
  have hl : lv_has ls 8 [(0, .ref (a 1)), (1, .long p0)] := hl
  refine mw_Q (fun Q0 hQ => ?_)
  obtain ⟨RES, hR0⟩ : ∃ R9, R9 = f_y_shortestRing n dl p0 M := ⟨_, rfl⟩
  have hZ9 := hR0
  unfold f_y_shortestRing at hZ9
  refine lv_aload_n hx hb dX5_shortestRing_0 rfl (lv_at hl 0 rfl) ?_
  refine lv_lload_n hx hb dX5_shortestRing_1 rfl (lv_at hl 1 rfl) ?_
  have hFc := mw_free hD hS hA
  refine va_calll (va_runV (As := [.long p0]) (rest := []) ⟨hx, hb, hml, hown, hts⟩ (c_y_tangled l dC dI h a e cI cJ cO cE L I M J n cap fE sd si sa dl (b) p0 s.heap.size hX (by omega) ) (cwV 1 hts wc_y_shortestRing_y_tangled_47 rfl rfl rfl (by decide +kernel) ⟨Nat.le_of_ble_eq_true rfl, Nat.le_of_ble_eq_true rfl⟩) ⟨fun a9 U g mk q => by obtain ⟨q0, q1, qP, qK, qD, qN⟩ := q; exact ⟨q0, q1, qP, va_K.moved (u := U) (U := U.calling g mk a9) (Vm.Alike.refl U.vm) qK, qD, pw_N.same (u := U) (U := U.calling g mk a9) rfl qN⟩, va_recv hK hP (ci := 6) (q0 := 2) rfl rfl, fun U hU hW => ⟨rfl, by rw [hU], by rw [hU]; exact hP, va_K.moved hW.alike hK, hD.weaken (fun _ _ _ _ => trivial), pw_N.warm hW hN⟩⟩ rfl rfl hl.1 rfl (lv_room (Nat.le_of_ble_eq_true rfl)) dX5_shortestRing_2 ⟨Nat.le_of_ble_eq_true rfl, Nat.le_of_ble_eq_true rfl⟩) hS (fun q _ h => hFc q h) hFc (fun r1 u t H1 locs ht hvm hw hB hz1 hk1 hS => ?_)
  replace hP := hB.1
  rw [ht] at hP
  replace hD : va_D A (xW h a e cI cJ cO cE L I M J n cap fE sd si sa dl) := hB.2.weaken (fun _ q _ h9 => hFc q.1 h9)
  clear hB
  generalize H1 = H at hP hS ⊢
  replace hP : va_P (dC, dI) vwCl (xW h a e cI cJ cO cE L I M J n cap fE sd si sa dl) H := hP
  replace hw : r1 = f_y_tangled n dl p0 M := hw
  replace hZ9 := bnd_s hZ9 hw
  refine lv_lstore_n (lv' := [(3, .long r1), (0, .ref (a 1)), (1, .long p0)]) hx hb dX5_shortestRing_5 rfl hl (by decide) rfl (fun ls hl => ?_)
  refine lv_iconst (v := 0) hx hb dX5_shortestRing_6 (by decide) ?_
  refine lv_istore (lv' := [(5, .int 0), (3, .long r1), (0, .ref (a 1)), (1, .long p0)]) hx hb dX5_shortestRing_7 hl (by decide) rfl (fun ls hl => ?_)
  refine lv_iconst (v := 0) hx hb dX5_shortestRing_9 (by decide) ?_
  refine lv_istore (lv' := [(6, .int 0), (5, .int 0), (3, .long r1), (0, .ref (a 1)), (1, .long p0)]) hx hb dX5_shortestRing_10 hl (by decide) rfl (fun ls hl => ?_)
  obtain ⟨K9_12, hK9_12, hZ9⟩ := lp_gen hZ9
  have lp5 : ∀ (fu3 i2 : Nat) (y6 : Int32)  (H : Heap) (locs : List Loc) (ls : Array Slot), 40 < i2 + fu3 → i2 ≤ 40 → RES = f_y_shortestRing_12 n dl M r1 fu3 i2 y6  K9_12 → va_P (dC, dI) vwCl (xW h a e cI cJ cO cE L I M J n cap fE sd si sa dl) H → va_D A (xW h a e cI cJ cO cE L I M J n cap fE sd si sa dl) → va_S A s.heap H locs → lv_has ls 8 [(6, .int (nI i2)), (5, .int y6), (3, .long r1), (0, .ref (a 1)), (1, .long p0)] → W p l e9 (headSpec wq_y_shortestRing rm_y_shortestRing).room s m ([.ref (a 1), .long p0] : List Value).toArray below meth c H locs 0 0 Q0 (F0 m 12 ls []) := by
    intro fu3
    induction fu3 with
    | zero =>
      intro i2 y6  H locs ls hf hi
      exact absurd hf (by omega)
    | succ fu3 ih4 =>
      intro i2 y6  H locs ls hfi2 hii2 hZ9 hP hD hS hl
      rw [f_y_shortestRing_12] at hZ9
      refine lv_iload hx hb dX5_shortestRing_12 (lv_at hl 0 rfl) ?_
      refine lv_bipush (v := 40) hx hb dX5_shortestRing_14 (by decide) ?_
      refine lv_icmp_ge (tgt := 68) hx hb dX5_shortestRing_16 (by decide) (fun c7 => ?_) (fun c7 => ?_)
      · replace c7 : 40 ≤ i2 := (nI_leI (a := 40) (b := i2) (by omega) (by omega)).mp c7
        replace hZ9 := ite_t hZ9 c7
        replace hZ9 := lp_app2 hK9_12 hZ9
        refine lv_iload hx hb dX5_shortestRing_68 (lv_at hl 1 rfl) ?_
        rw [hQ]
        exact W.iret (v := y6) hx hb hr (fun t ht hW => ⟨⟨y6, (), rfl, hZ9.symm.trans hR0, by rw [ht]; exact hP, hD⟩, hS.F ht⟩) hS.2.2 dX5_shortestRing_70
      · replace c7 : ¬ (40 ≤ i2) := fun q9 => c7 ((nI_leI (a := 40) (b := i2) (by omega) (by omega)).mpr q9)
        replace hZ9 := ite_f hZ9 c7
        refine lv_lload_n hx hb dX5_shortestRing_19 rfl (lv_at hl 2 rfl) ?_
        refine lv_iload hx hb dX5_shortestRing_20 (lv_at hl 0 rfl) ?_
        have hFc := mw_free hD hS hA
        refine va_calli (va_runSN (As := [.long r1, .int (nI i2)]) (rest := []) ⟨hx, hb, hml, hown, hts⟩ (c_y_holds l dC dI h a e cI cJ cO cE L I M J n cap fE sd si sa dl (b) r1 i2 H.size hX (by omega) ) ⟨va_cnB 2 hts wc_y_shortestRing_y_holds_19 rfl rfl rfl (hN (.methodLinkNest RX5 19 yX8_holds "ServiceTree") (by decide +kernel)) (hts (.initialized RX8) (by decide +kernel)) (by decide +kernel) ⟨Nat.le_of_ble_eq_true rfl, Nat.le_of_ble_eq_true rfl⟩, hts (.static yX8_holds) (by decide +kernel), trivial⟩ ⟨fun a9 U g mk q => by obtain ⟨q0, q1, qP, qK, qD, qN⟩ := q; exact ⟨q0, q1, qP, va_K.moved (u := U) (U := U.calling g mk a9) (Vm.Alike.refl U.vm) qK, qD, pw_N.same (u := U) (U := U.calling g mk a9) rfl qN⟩, fun U hU hW => ⟨rfl, by rw [hU], by rw [hU]; exact hP, va_K.moved hW.alike hK, hD.weaken (fun _ _ _ _ => trivial), pw_N.warm hW hN⟩⟩ rfl rfl hl.1 rfl (lv_room (Nat.le_of_ble_eq_true rfl)) dX5_shortestRing_22 ⟨Nat.le_of_ble_eq_true rfl, Nat.le_of_ble_eq_true rfl⟩) hS (fun q _ h => hFc q h) hFc (fun r8 u t H1 locs ht hvm hw hB hz1 hk1 hS => ?_)
        replace hP := hB.1
        rw [ht] at hP
        replace hD : va_D A (xW h a e cI cJ cO cE L I M J n cap fE sd si sa dl) := hB.2.weaken (fun _ q _ h9 => hFc q.1 h9)
        clear hB
        generalize H1 = H at hP hS ⊢
        replace hP : va_P (dC, dI) vwCl (xW h a e cI cJ cO cE L I M J n cap fE sd si sa dl) H := hP
        obtain ⟨hw, hwe⟩ := hw
        replace hw : r8 = f_y_holds n dl r1 i2  := hw
        replace hZ9 := bnd_s hZ9 hw
        have br8 := hwe
        refine lv_if_eq (tgt := 38) hx hb dX5_shortestRing_25 (by decide) (fun c9 => ?_) (fun c9 => ?_)
        · replace hZ9 := ite_t hZ9 c9
          refine lv_iconst (v := 0) hx hb dX5_shortestRing_38 (by decide) ?_
          refine lv_istore (lv' := [(7, .int 0), (6, .int (nI i2)), (5, .int y6), (3, .long r1), (0, .ref (a 1)), (1, .long p0)]) hx hb dX5_shortestRing_39 hl (by decide) rfl (fun ls hl => ?_)
          refine lv_iload hx hb dX5_shortestRing_41 (lv_at hl 0 rfl) ?_
          refine lv_if_le (tgt := 62) hx hb dX5_shortestRing_43 (by decide) (fun _ => ?_) (fun c9 => absurd (by decide) c9)
          refine lv_iinc (v := (nI (i2 + 1))) (lv' := [(6, .int (nI (i2 + 1))), (7, .int 0), (5, .int y6), (3, .long r1), (0, .ref (a 1)), (1, .long p0)]) hx hb dX5_shortestRing_62 hl (k := 1) rfl (nI_add i2 1) (by decide) rfl (fun ls hl => ?_)
          refine lv_goto (tgt := 12) hx hb dX5_shortestRing_65 (by decide) ?_
          exact ih4 (i2 + 1) y6  _ _ _ (by omega) (by omega)  hZ9 hP hD hS (lv_sub hl [0, 2, 3, 4, 5] rfl)
        · replace hZ9 := ite_f hZ9 c9
          refine lv_aload_n hx hb dX5_shortestRing_28 rfl (lv_at hl 3 rfl) ?_
          refine lv_iload hx hb dX5_shortestRing_29 (lv_at hl 0 rfl) ?_
          refine lv_lload_n hx hb dX5_shortestRing_31 rfl (lv_at hl 2 rfl) ?_
          have hFc := mw_free hD hS hA
          refine va_calli (va_runV (As := [.int (nI i2), .long r1]) (rest := []) ⟨hx, hb, hml, hown, hts⟩ (c_y_ringThrough l dC dI h a e cI cJ cO cE L I M J n cap fE sd si sa dl (b) i2 r1 H.size hX (by omega) (by omega)) (cwV 2 hts wc_y_shortestRing_y_ringThrough_51 rfl rfl rfl (by decide +kernel) ⟨Nat.le_of_ble_eq_true rfl, Nat.le_of_ble_eq_true rfl⟩) ⟨fun a9 U g mk q => by obtain ⟨q0, q1, qP, qK, qD, qN⟩ := q; exact ⟨q0, q1, qP, va_K.moved (u := U) (U := U.calling g mk a9) (Vm.Alike.refl U.vm) qK, qD, pw_N.same (u := U) (U := U.calling g mk a9) rfl qN⟩, va_recv hK hP (ci := 6) (q0 := 2) rfl rfl, fun U hU hW => ⟨rfl, by rw [hU], by rw [hU]; exact hP, va_K.moved hW.alike hK, hD.weaken (fun _ _ _ _ => trivial), pw_N.warm hW hN⟩⟩ rfl rfl hl.1 rfl (lv_room (Nat.le_of_ble_eq_true rfl)) dX5_shortestRing_32 ⟨Nat.le_of_ble_eq_true rfl, Nat.le_of_ble_eq_true rfl⟩) hS (fun q _ h => hFc q h) hFc (fun r10 u t H1 locs ht hvm hw hB hz1 hk1 hS => ?_)
          replace hP := hB.1
          rw [ht] at hP
          replace hD : va_D A (xW h a e cI cJ cO cE L I M J n cap fE sd si sa dl) := hB.2.weaken (fun _ q _ h9 => hFc q.1 h9)
          clear hB
          generalize H1 = H at hP hS ⊢
          replace hP : va_P (dC, dI) vwCl (xW h a e cI cJ cO cE L I M J n cap fE sd si sa dl) H := hP
          replace hw : r10 = f_y_ringThrough n dl i2 r1 M := hw
          replace hZ9 := bnd_s hZ9 hw
          refine lv_goto (tgt := 39) hx hb dX5_shortestRing_35 (by decide) ?_
          refine lv_istore (lv' := [(7, .int r10), (6, .int (nI i2)), (5, .int y6), (3, .long r1), (0, .ref (a 1)), (1, .long p0)]) hx hb dX5_shortestRing_39 hl (by decide) rfl (fun ls hl => ?_)
          refine lv_iload hx hb dX5_shortestRing_41 (lv_at hl 0 rfl) ?_
          refine lv_if_le (tgt := 62) hx hb dX5_shortestRing_43 (by decide) (fun c11 => ?_) (fun c11 => ?_)
          · replace hZ9 := ite_t hZ9 c11
            refine lv_iinc (v := (nI (i2 + 1))) (lv' := [(6, .int (nI (i2 + 1))), (7, .int r10), (5, .int y6), (3, .long r1), (0, .ref (a 1)), (1, .long p0)]) hx hb dX5_shortestRing_62 hl (k := 1) rfl (nI_add i2 1) (by decide) rfl (fun ls hl => ?_)
            refine lv_goto (tgt := 12) hx hb dX5_shortestRing_65 (by decide) ?_
            exact ih4 (i2 + 1) y6  _ _ _ (by omega) (by omega)  hZ9 hP hD hS (lv_sub hl [0, 2, 3, 4, 5] rfl)
          · replace hZ9 := ite_f hZ9 c11
            refine lv_iload hx hb dX5_shortestRing_46 (lv_at hl 2 rfl) ?_
            refine lv_if_eq (tgt := 58) hx hb dX5_shortestRing_48 (by decide) (fun c12 => ?_) (fun c12 => ?_)
            · replace hZ9 := ite_t hZ9 c12
              refine lv_iload hx hb dX5_shortestRing_58 (lv_at hl 0 rfl) ?_
              refine lv_istore (lv' := [(5, .int r10), (7, .int r10), (6, .int (nI i2)), (3, .long r1), (0, .ref (a 1)), (1, .long p0)]) hx hb dX5_shortestRing_60 hl (by decide) rfl (fun ls hl => ?_)
              refine lv_iinc (v := (nI (i2 + 1))) (lv' := [(6, .int (nI (i2 + 1))), (5, .int r10), (7, .int r10), (3, .long r1), (0, .ref (a 1)), (1, .long p0)]) hx hb dX5_shortestRing_62 hl (k := 2) rfl (nI_add i2 1) (by decide) rfl (fun ls hl => ?_)
              refine lv_goto (tgt := 12) hx hb dX5_shortestRing_65 (by decide) ?_
              exact ih4 (i2 + 1) r10  _ _ _ (by omega) (by omega)  hZ9 hP hD hS (lv_sub hl [0, 1, 3, 4, 5] rfl)
            · replace hZ9 := ite_f hZ9 c12
              refine lv_iload hx hb dX5_shortestRing_51 (lv_at hl 0 rfl) ?_
              refine lv_iload hx hb dX5_shortestRing_53 (lv_at hl 2 rfl) ?_
              refine lv_icmp_ge (tgt := 62) hx hb dX5_shortestRing_55 (by decide) (fun c13 => ?_) (fun c13 => ?_)
              · replace hZ9 := ite_t hZ9 c13
                refine lv_iinc (v := (nI (i2 + 1))) (lv' := [(6, .int (nI (i2 + 1))), (7, .int r10), (5, .int y6), (3, .long r1), (0, .ref (a 1)), (1, .long p0)]) hx hb dX5_shortestRing_62 hl (k := 1) rfl (nI_add i2 1) (by decide) rfl (fun ls hl => ?_)
                refine lv_goto (tgt := 12) hx hb dX5_shortestRing_65 (by decide) ?_
                exact ih4 (i2 + 1) y6  _ _ _ (by omega) (by omega)  hZ9 hP hD hS (lv_sub hl [0, 2, 3, 4, 5] rfl)
              · replace hZ9 := ite_f hZ9 c13
                refine lv_iload hx hb dX5_shortestRing_58 (lv_at hl 0 rfl) ?_
                refine lv_istore (lv' := [(5, .int r10), (7, .int r10), (6, .int (nI i2)), (3, .long r1), (0, .ref (a 1)), (1, .long p0)]) hx hb dX5_shortestRing_60 hl (by decide) rfl (fun ls hl => ?_)
                refine lv_iinc (v := (nI (i2 + 1))) (lv' := [(6, .int (nI (i2 + 1))), (5, .int r10), (7, .int r10), (3, .long r1), (0, .ref (a 1)), (1, .long p0)]) hx hb dX5_shortestRing_62 hl (k := 2) rfl (nI_add i2 1) (by decide) rfl (fun ls hl => ?_)
                refine lv_goto (tgt := 12) hx hb dX5_shortestRing_65 (by decide) ?_
                exact ih4 (i2 + 1) r10  _ _ _ (by omega) (by omega)  hZ9 hP hD hS (lv_sub hl [0, 1, 3, 4, 5] rfl)
  exact lp5 (40 + 1) 0 0  _ _ _ (by omega) (by omega)  hZ9 hP hD hS hl

end
section
def f_y_kindOf (n : Nat) (dl : Nat → Nat) (sv : Nat) (L : Nat → Int64) : Int32 := bnd (L 5) (fun (x1 : Int64) => bnd (f_y_holds n dl x1 sv ) (fun (r2 : Int32) => if r2 = (0 : Int32) then (bnd (L 6) (fun (x4 : Int64) => bnd (f_y_holds n dl x4 sv ) (fun (r5 : Int32) => if r5 = (0 : Int32) then (((0 : Int32))) else (((2 : Int32)))))) else (((1 : Int32)))))
def wq_y_kindOf : List Cond := ([.code yX3_kindOf cX3_kindOf 2 (some .int), .fieldLink RX3 15 "ServiceTree$Jobs" "starts" "J", .initialized RX8, .static yX8_holds, .fieldLink RX3 19 "ServiceTree$Jobs" "stops" "J"] : List Cond) ++ (wsX30 ++ (wq_y_holds))
theorem in_y_kindOf_X3 : ∀ w ∈ wsX30, w ∈ wq_y_kindOf := fun _ h => List.mem_append_right _ (List.mem_append_left _ (h))
set_option maxRecDepth 20000 in
theorem wi_y_kindOf : ∀ w ∈ wq_y_kindOf, w ∈ lw_tbl := List.forall_mem_append.mpr ⟨(wix [753, 166, 60, 488, 168] rfl), List.forall_mem_append.mpr ⟨inKX3, wi_y_holds⟩⟩
set_option maxRecDepth 20000 in
theorem wg_y_kindOf : GoodIn wq_y_kindOf wq_y_kindOf := goodIn_sub (fun _ h => h) (by decide +kernel)
theorem wc_y_kindOf_y_holds_25 : GoodIn wq_y_kindOf wq_y_holds := (fun w h => ⟨List.mem_append_right _ (List.mem_append_right _ (h)), (wg_y_holds w h).2⟩)
def rm_y_kindOf : Room := { frames := 1, cells := 0, slots := 0, locals := 22 }
set_option maxHeartbeats 4000000 in
set_option maxRecDepth 100000 in
theorem c_y_kindOf (l : Launch) (dC : Nat → ClassId) (dI : Nat → Nat → Nat) (h : Nat) (a : Nat → Nat) (e : Nat) (cI cJ cO cE : ClassId) (L : Nat → Int64) (I : Nat → Int32) (M : Nat → Nat → Int64) (J : Nat → Nat → Int32) (n cap : Nat) (fE : Nat → Option Nat) (sd : Nat → Nat → Nat) (si : Nat → Nat → Int32) (sa : Nat → Nat → Nat → Int32) (dl : Nat → Nat) (b : Nat) (sv : Nat) (sz : Nat) (hX0 : InvX n cap fE sd dl b I J si) (hb0 : b + 0 < 2147483648)  : Met l yX3_kindOf wq_y_kindOf rm_y_kindOf (va_Pc [.ref (a 3), .int (nI sv)] (fun U => U.heap.size = sz ∧ va_P (dC, dI) vwCl (xW h a e cI cJ cO cE L I M J n cap fE sd si sa dl) U.heap ∧ va_K (dC, dI) vwCl (xT cI cJ cO cE) U ∧ va_D (fun _ => True) (xW h a e cI cJ cO cE L I M J n cap fE sd si sa dl) ∧ pw_N U)) (va_Qi (fun (r : Int32) (u : Unit) => (r = f_y_kindOf n dl sv L)) (fun (u : Unit) (t : State) => va_P (dC, dI) vwCl (xW h a e cI cJ cO cE L I M J n cap fE sd si sa dl) t.heap ∧ va_D (va_A (xW h a e cI cJ cO cE L I M J n cap fE sd si sa dl) sz) (xW h a e cI cJ cO cE L I M J n cap fE sd si sa dl)) (va_A (xW h a e cI cJ cO cE L I M J n cap fE sd si sa dl) sz)) 0 0 (va_A (xW h a e cI cJ cO cE L I M J n cap fE sd si sa dl) sz) := by
  have hn : n ≤ 40 := hX0.1.1
  have hX := hX0
  refine Met.ofW (cc := cX3_kindOf) (maxL := 2) (ret := (some .int)) (by decide) rfl ?_
  intro p e9 s m args below meth c s₁ B hml hv
  obtain ⟨rfl, hsz, hP, hK, hD0, hN⟩ := hv
  have hx := B.exec
  have hb := B.bytes
  have hr := B.returns
  have hts := atoms_spec (ws := wq_y_kindOf) B.pre
  have hown : s.vm.findClass RX3 = some m.cls := findClass_of_methodNamed B.named
  have hlocks := B.notSynchronized
  subst hsz
  have hD := hD0.self (sz := s.heap.size)
  generalize hAe : va_A (xW h a e cI cJ cO cE L I M J n cap fE sd si sa dl) s.heap.size = A at hD ⊢
  have hA : ∀ q : Nat, s.heap.size ≤ q → A q := fun q h => by rw [← hAe]; exact Or.inr h
  have hS : va_S A s.heap s.heap [] := va_S.rf
  have hl := lv_entry ([.ref (a 3), .int (nI sv)]) (n := 2) (Nat.le_of_ble_eq_true rfl)
  rw [lg_entry_eq]
  generalize (lg_sl ([.ref (a 3), .int (nI sv)]) ++ List.replicate (2 - (lg_sl ([.ref (a 3), .int (nI sv)])).length) Slot.unset).toArray = ls at hl ⊢
  have hl : lv_has ls 2 [(0, .ref (a 3)), (1, .int (nI sv))] := hl
  obtain ⟨RES, hR0⟩ : ∃ R9, R9 = f_y_kindOf n dl sv L := ⟨_, rfl⟩
  have hZ9 := hR0
  unfold f_y_kindOf at hZ9
  refine lv_aload_n hx hb dX3_kindOf_0 rfl (lv_at hl 0 rfl) ?_
  refine va_get (D := (dC, dI)) (ci := 4) (v := .long (L 5)) (C := RX3) (T := TX3) (N := 4) hx hb hts in_y_kindOf_X3 hown hK hP 14 rfl rfl 1 (by decide) (hts (.fieldLink RX3 15 "ServiceTree$Jobs" "starts" "J") (by decide +kernel)) (fun _ h9 => h9) rfl dX3_kindOf_1 ?_
  refine lv_topl (fun x1 ex1 => ?_)
  replace hZ9 := bnd_s hZ9 ex1
  refine lv_iload_n hx hb dX3_kindOf_4 rfl (lv_at hl 1 rfl) ?_
  have hFc := mw_free hD hS hA
  refine va_calli (va_runSN (As := [.long x1, .int (nI sv)]) (rest := []) ⟨hx, hb, hml, hown, hts⟩ (c_y_holds l dC dI h a e cI cJ cO cE L I M J n cap fE sd si sa dl (b) x1 sv s.heap.size hX (by omega) ) ⟨va_cnB 2 hts wc_y_kindOf_y_holds_25 rfl rfl rfl (hN (.methodLinkNest RX3 25 yX8_holds "ServiceTree") (by decide +kernel)) (hts (.initialized RX8) (by decide +kernel)) (by decide +kernel) ⟨Nat.le_of_ble_eq_true rfl, Nat.le_of_ble_eq_true rfl⟩, hts (.static yX8_holds) (by decide +kernel), trivial⟩ ⟨fun a9 U g mk q => by obtain ⟨q0, q1, qP, qK, qD, qN⟩ := q; exact ⟨q0, q1, qP, va_K.moved (u := U) (U := U.calling g mk a9) (Vm.Alike.refl U.vm) qK, qD, pw_N.same (u := U) (U := U.calling g mk a9) rfl qN⟩, fun U hU hW => ⟨rfl, by rw [hU], by rw [hU]; exact hP, va_K.moved hW.alike hK, hD.weaken (fun _ _ _ _ => trivial), pw_N.warm hW hN⟩⟩ rfl rfl hl.1 rfl (lv_room (Nat.le_of_ble_eq_true rfl)) dX3_kindOf_5 ⟨Nat.le_of_ble_eq_true rfl, Nat.le_of_ble_eq_true rfl⟩) hS (fun q _ h => hFc q h) hFc (fun r2 u t H1 locs ht hvm hw hB hz1 hk1 hS => ?_)
  replace hP := hB.1
  rw [ht] at hP
  replace hD : va_D A (xW h a e cI cJ cO cE L I M J n cap fE sd si sa dl) := hB.2.weaken (fun _ q _ h9 => hFc q.1 h9)
  clear hB
  generalize H1 = H at hP hS ⊢
  replace hP : va_P (dC, dI) vwCl (xW h a e cI cJ cO cE L I M J n cap fE sd si sa dl) H := hP
  obtain ⟨hw, hwe⟩ := hw
  replace hw : r2 = f_y_holds n dl x1 sv  := hw
  replace hZ9 := bnd_s hZ9 hw
  have br2 := hwe
  refine lv_if_eq (tgt := 13) hx hb dX3_kindOf_8 (by decide) (fun c3 => ?_) (fun c3 => ?_)
  · replace hZ9 := ite_t hZ9 c3
    refine lv_aload_n hx hb dX3_kindOf_13 rfl (lv_at hl 0 rfl) ?_
    refine va_get (D := (dC, dI)) (ci := 4) (v := .long (L 6)) (C := RX3) (T := TX3) (N := 4) hx hb hts in_y_kindOf_X3 hown hK hP 14 rfl rfl 2 (by decide) (hts (.fieldLink RX3 19 "ServiceTree$Jobs" "stops" "J") (by decide +kernel)) (fun _ h9 => h9) rfl dX3_kindOf_14 ?_
    refine lv_topl (fun x4 ex4 => ?_)
    replace hZ9 := bnd_s hZ9 ex4
    refine lv_iload_n hx hb dX3_kindOf_17 rfl (lv_at hl 1 rfl) ?_
    have hFc := mw_free hD hS hA
    refine va_calli (va_runSN (As := [.long x4, .int (nI sv)]) (rest := []) ⟨hx, hb, hml, hown, hts⟩ (c_y_holds l dC dI h a e cI cJ cO cE L I M J n cap fE sd si sa dl (b) x4 sv H.size hX (by omega) ) ⟨va_cnB 2 hts wc_y_kindOf_y_holds_25 rfl rfl rfl (hN (.methodLinkNest RX3 25 yX8_holds "ServiceTree") (by decide +kernel)) (hts (.initialized RX8) (by decide +kernel)) (by decide +kernel) ⟨Nat.le_of_ble_eq_true rfl, Nat.le_of_ble_eq_true rfl⟩, hts (.static yX8_holds) (by decide +kernel), trivial⟩ ⟨fun a9 U g mk q => by obtain ⟨q0, q1, qP, qK, qD, qN⟩ := q; exact ⟨q0, q1, qP, va_K.moved (u := U) (U := U.calling g mk a9) (Vm.Alike.refl U.vm) qK, qD, pw_N.same (u := U) (U := U.calling g mk a9) rfl qN⟩, fun U hU hW => ⟨rfl, by rw [hU], by rw [hU]; exact hP, va_K.moved hW.alike hK, hD.weaken (fun _ _ _ _ => trivial), pw_N.warm hW hN⟩⟩ rfl rfl hl.1 rfl (lv_room (Nat.le_of_ble_eq_true rfl)) dX3_kindOf_18 ⟨Nat.le_of_ble_eq_true rfl, Nat.le_of_ble_eq_true rfl⟩) hS (fun q _ h => hFc q h) hFc (fun r5 u t H1 locs ht hvm hw hB hz1 hk1 hS => ?_)
    replace hP := hB.1
    rw [ht] at hP
    replace hD : va_D A (xW h a e cI cJ cO cE L I M J n cap fE sd si sa dl) := hB.2.weaken (fun _ q _ h9 => hFc q.1 h9)
    clear hB
    generalize H1 = H at hP hS ⊢
    replace hP : va_P (dC, dI) vwCl (xW h a e cI cJ cO cE L I M J n cap fE sd si sa dl) H := hP
    obtain ⟨hw, hwe⟩ := hw
    replace hw : r5 = f_y_holds n dl x4 sv  := hw
    replace hZ9 := bnd_s hZ9 hw
    have br5 := hwe
    refine lv_if_eq (tgt := 28) hx hb dX3_kindOf_21 (by decide) (fun c6 => ?_) (fun c6 => ?_)
    · replace hZ9 := ite_t hZ9 c6
      refine lv_iconst (v := 0) hx hb dX3_kindOf_28 (by decide) ?_
      exact W.iret (v := 0) hx hb hr (fun t ht hW => ⟨⟨0, (), rfl, hZ9.symm.trans hR0, by rw [ht]; exact hP, hD⟩, hS.F ht⟩) hS.2.2 dX3_kindOf_29
    · replace hZ9 := ite_f hZ9 c6
      refine lv_iconst (v := 2) hx hb dX3_kindOf_24 (by decide) ?_
      refine lv_goto (tgt := 29) hx hb dX3_kindOf_25 (by decide) ?_
      exact W.iret (v := 2) hx hb hr (fun t ht hW => ⟨⟨2, (), rfl, hZ9.symm.trans hR0, by rw [ht]; exact hP, hD⟩, hS.F ht⟩) hS.2.2 dX3_kindOf_29
  · replace hZ9 := ite_f hZ9 c3
    refine lv_iconst (v := 1) hx hb dX3_kindOf_11 (by decide) ?_
    exact W.iret (v := 1) hx hb hr (fun t ht hW => ⟨⟨1, (), rfl, hZ9.symm.trans hR0, by rw [ht]; exact hP, hD⟩, hS.F ht⟩) hS.2.2 dX3_kindOf_12
def f_y_jawaited (n : Nat) (dl : Nat → Nat) (av : Nat) (L : Nat → Int64) (M : Nat → Nat → Int64) : Int64 := bnd (L 5) (fun (x1 : Int64) => bnd (L 6) (fun (x2 : Int64) => bnd (f_y_rawaited n dl av x1 x2 M) (fun (r3 : Int64) => (r3))))
def wq_y_jawaited : List Cond := ([.code yX3_awaitedBy cX3_awaitedBy 2 (some .long), .fieldLink RX3 9 "ServiceTree$Jobs" "relations" "LServiceTree$Relations;", .fieldLink RX3 15 "ServiceTree$Jobs" "starts" "J", .fieldLink RX3 19 "ServiceTree$Jobs" "stops" "J", .methodLink RX3 29 yX5_awaitedBy, .instanceMethod yX5_awaitedBy, .selects RX5 yX5_awaitedBy yX5_awaitedBy, .initialized RX5] : List Cond) ++ (wsX30 ++ (wq_y_rawaited))
theorem in_y_jawaited_X3 : ∀ w ∈ wsX30, w ∈ wq_y_jawaited := fun _ h => List.mem_append_right _ (List.mem_append_left _ (h))
set_option maxRecDepth 20000 in
theorem wi_y_jawaited : ∀ w ∈ wq_y_jawaited, w ∈ lw_tbl := List.forall_mem_append.mpr ⟨(wix [642, 165, 166, 168, 643, 644, 645, 64] rfl), List.forall_mem_append.mpr ⟨inKX3, wi_y_rawaited⟩⟩
set_option maxRecDepth 20000 in
theorem wg_y_jawaited : GoodIn wq_y_jawaited wq_y_jawaited := goodIn_sub (fun _ h => h) (by decide +kernel)
set_option maxRecDepth 20000 in
theorem wc_y_jawaited_y_rawaited_29 : GoodIn wq_y_jawaited (wsV RX3 29 RX5 yX5_awaitedBy wq_y_rawaited) := goodIn_app (goodIn_of _ (by decide +kernel)) (fun w h => ⟨List.mem_append_right _ (List.mem_append_right _ (h)), (wg_y_rawaited w h).2⟩)
def rm_y_jawaited : Room := { frames := 2, cells := 0, slots := 0, locals := 47 }
set_option maxHeartbeats 4000000 in
set_option maxRecDepth 100000 in
theorem c_y_jawaited (l : Launch) (dC : Nat → ClassId) (dI : Nat → Nat → Nat) (h : Nat) (a : Nat → Nat) (e : Nat) (cI cJ cO cE : ClassId) (L : Nat → Int64) (I : Nat → Int32) (M : Nat → Nat → Int64) (J : Nat → Nat → Int32) (n cap : Nat) (fE : Nat → Option Nat) (sd : Nat → Nat → Nat) (si : Nat → Nat → Int32) (sa : Nat → Nat → Nat → Int32) (dl : Nat → Nat) (b : Nat) (av : Nat) (sz : Nat) (hX0 : InvX n cap fE sd dl b I J si) (hb0 : b + 0 < 2147483648) (hp0 : av < 40) : Met l yX3_awaitedBy wq_y_jawaited rm_y_jawaited (va_Pc [.ref (a 3), .int (nI av)] (fun U => U.heap.size = sz ∧ va_P (dC, dI) vwCl (xW h a e cI cJ cO cE L I M J n cap fE sd si sa dl) U.heap ∧ va_K (dC, dI) vwCl (xT cI cJ cO cE) U ∧ va_D (fun _ => True) (xW h a e cI cJ cO cE L I M J n cap fE sd si sa dl) ∧ pw_N U)) (va_Ql (fun (r : Int64) (u : Unit) => (r = f_y_jawaited n dl av L M)) (fun (u : Unit) (t : State) => va_P (dC, dI) vwCl (xW h a e cI cJ cO cE L I M J n cap fE sd si sa dl) t.heap ∧ va_D (va_A (xW h a e cI cJ cO cE L I M J n cap fE sd si sa dl) sz) (xW h a e cI cJ cO cE L I M J n cap fE sd si sa dl)) (va_A (xW h a e cI cJ cO cE L I M J n cap fE sd si sa dl) sz)) 0 0 (va_A (xW h a e cI cJ cO cE L I M J n cap fE sd si sa dl) sz) := by
  have hn : n ≤ 40 := hX0.1.1
  have hX := hX0
  refine Met.ofW (cc := cX3_awaitedBy) (maxL := 2) (ret := (some .long)) (by decide) rfl ?_
  intro p e9 s m args below meth c s₁ B hml hv
  obtain ⟨rfl, hsz, hP, hK, hD0, hN⟩ := hv
  have hx := B.exec
  have hb := B.bytes
  have hr := B.returns
  have hts := atoms_spec (ws := wq_y_jawaited) B.pre
  have hown : s.vm.findClass RX3 = some m.cls := findClass_of_methodNamed B.named
  have hlocks := B.notSynchronized
  subst hsz
  have hD := hD0.self (sz := s.heap.size)
  generalize hAe : va_A (xW h a e cI cJ cO cE L I M J n cap fE sd si sa dl) s.heap.size = A at hD ⊢
  have hA : ∀ q : Nat, s.heap.size ≤ q → A q := fun q h => by rw [← hAe]; exact Or.inr h
  have hS : va_S A s.heap s.heap [] := va_S.rf
  have hl := lv_entry ([.ref (a 3), .int (nI av)]) (n := 2) (Nat.le_of_ble_eq_true rfl)
  rw [lg_entry_eq]
  generalize (lg_sl ([.ref (a 3), .int (nI av)]) ++ List.replicate (2 - (lg_sl ([.ref (a 3), .int (nI av)])).length) Slot.unset).toArray = ls at hl ⊢
  have hl : lv_has ls 2 [(0, .ref (a 3)), (1, .int (nI av))] := hl
  obtain ⟨RES, hR0⟩ : ∃ R9, R9 = f_y_jawaited n dl av L M := ⟨_, rfl⟩
  have hZ9 := hR0
  unfold f_y_jawaited at hZ9
  refine lv_aload_n hx hb dX3_awaitedBy_0 rfl (lv_at hl 0 rfl) ?_
  refine va_get (D := (dC, dI)) (ci := 4) (v := .ref (a 1)) (C := RX3) (T := TX3) (N := 4) hx hb hts in_y_jawaited_X3 hown hK hP 14 rfl rfl 0 (by decide) (hts (.fieldLink RX3 9 "ServiceTree$Jobs" "relations" "LServiceTree$Relations;") (by decide +kernel)) (fun _ h9 => h9) rfl dX3_awaitedBy_1 ?_
  refine lv_iload_n hx hb dX3_awaitedBy_4 rfl (lv_at hl 1 rfl) ?_
  refine lv_aload_n hx hb dX3_awaitedBy_5 rfl (lv_at hl 0 rfl) ?_
  refine va_get (D := (dC, dI)) (ci := 4) (v := .long (L 5)) (C := RX3) (T := TX3) (N := 4) hx hb hts in_y_jawaited_X3 hown hK hP 14 rfl rfl 1 (by decide) (hts (.fieldLink RX3 15 "ServiceTree$Jobs" "starts" "J") (by decide +kernel)) (fun _ h9 => h9) rfl dX3_awaitedBy_6 ?_
  refine lv_topl (fun x1 ex1 => ?_)
  replace hZ9 := bnd_s hZ9 ex1
  refine lv_aload_n hx hb dX3_awaitedBy_9 rfl (lv_at hl 0 rfl) ?_
  refine va_get (D := (dC, dI)) (ci := 4) (v := .long (L 6)) (C := RX3) (T := TX3) (N := 4) hx hb hts in_y_jawaited_X3 hown hK hP 14 rfl rfl 2 (by decide) (hts (.fieldLink RX3 19 "ServiceTree$Jobs" "stops" "J") (by decide +kernel)) (fun _ h9 => h9) rfl dX3_awaitedBy_10 ?_
  refine lv_topl (fun x2 ex2 => ?_)
  replace hZ9 := bnd_s hZ9 ex2
  have hFc := mw_free hD hS hA
  refine va_calll (va_runV (As := [.int (nI av), .long x1, .long x2]) (rest := []) ⟨hx, hb, hml, hown, hts⟩ (c_y_rawaited l dC dI h a e cI cJ cO cE L I M J n cap fE sd si sa dl (b) av x1 x2 s.heap.size hX (by omega) (by omega)) (cwV 3 hts wc_y_jawaited_y_rawaited_29 rfl rfl rfl (by decide +kernel) ⟨Nat.le_of_ble_eq_true rfl, Nat.le_of_ble_eq_true rfl⟩) ⟨fun a9 U g mk q => by obtain ⟨q0, q1, qP, qK, qD, qN⟩ := q; exact ⟨q0, q1, qP, va_K.moved (u := U) (U := U.calling g mk a9) (Vm.Alike.refl U.vm) qK, qD, pw_N.same (u := U) (U := U.calling g mk a9) rfl qN⟩, va_recv hK hP (ci := 6) (q0 := 2) rfl rfl, fun U hU hW => ⟨rfl, by rw [hU], by rw [hU]; exact hP, va_K.moved hW.alike hK, hD.weaken (fun _ _ _ _ => trivial), pw_N.warm hW hN⟩⟩ rfl rfl hl.1 rfl (lv_room (Nat.le_of_ble_eq_true rfl)) dX3_awaitedBy_13 ⟨Nat.le_of_ble_eq_true rfl, Nat.le_of_ble_eq_true rfl⟩) hS (fun q _ h => hFc q h) hFc (fun r3 u t H1 locs ht hvm hw hB hz1 hk1 hS => ?_)
  replace hP := hB.1
  rw [ht] at hP
  replace hD : va_D A (xW h a e cI cJ cO cE L I M J n cap fE sd si sa dl) := hB.2.weaken (fun _ q _ h9 => hFc q.1 h9)
  clear hB
  generalize H1 = H at hP hS ⊢
  replace hP : va_P (dC, dI) vwCl (xW h a e cI cJ cO cE L I M J n cap fE sd si sa dl) H := hP
  replace hw : r3 = f_y_rawaited n dl av x1 x2 M := hw
  replace hZ9 := bnd_s hZ9 hw
  exact W.lret (v := r3) hx hb hr (fun t ht hW => ⟨⟨r3, (), rfl, hZ9.symm.trans hR0, by rw [ht]; exact hP, hD⟩, hS.F ht⟩) hS.2.2 dX3_awaitedBy_16
def f_y_awaiting_5 (n : Nat) (dl : Nat → Nat) (sv : Nat) (L : Nat → Int64) (M : Nat → Nat → Int64) : Nat → Nat → Int64 → (Nat → Int64 → Int64) → Int64
  | 0, i1, y5, K9_5 => K9_5 i1 y5 
  | fu2 + 1, i1, y5, K9_5 => if 40 ≤ i1 then (K9_5 i1 y5) else (bnd (f_y_jawaited n dl i1 L M) (fun (r7 : Int64) => bnd (f_y_holds n dl r7 sv ) (fun (r8 : Int32) => if r8 = (0 : Int32) then (f_y_awaiting_5 n dl sv L M fu2 (i1 + 1) y5  K9_5) else (bnd (f_y_only n dl i1 ) (fun (r10 : Int64) => bnd (y5 ||| r10) (fun (x11 : Int64) => f_y_awaiting_5 n dl sv L M fu2 (i1 + 1) x11  K9_5))))))
def f_y_awaiting (n : Nat) (dl : Nat → Nat) (sv : Nat) (L : Nat → Int64) (M : Nat → Nat → Int64) : Int64 := f_y_awaiting_5 n dl sv L M (40 + 1) 0 (0 : Int64)  (fun (i1 : Nat) (y5 : Int64) => (y5))
def wq_y_awaiting : List Cond := ([.code yX3_awaiting cX3_awaiting 5 (some .long), .initialized RX8, .static yX8_holds, .static yX8_only, .methodLink RX3 35 yX3_awaitedBy, .instanceMethod yX3_awaitedBy, .selects RX3 yX3_awaitedBy yX3_awaitedBy, .initialized RX3] : List Cond) ++ (wq_y_jawaited ++ (wq_y_holds ++ (wq_y_only)))
set_option maxRecDepth 20000 in
theorem wi_y_awaiting : ∀ w ∈ wq_y_awaiting, w ∈ lw_tbl := List.forall_mem_append.mpr ⟨(wix [775, 60, 488, 443, 639, 640, 641, 66] rfl), List.forall_mem_append.mpr ⟨wi_y_jawaited, List.forall_mem_append.mpr ⟨wi_y_holds, wi_y_only⟩⟩⟩
set_option maxRecDepth 20000 in
theorem wg_y_awaiting : GoodIn wq_y_awaiting wq_y_awaiting := goodIn_sub (fun _ h => h) (by decide +kernel)
set_option maxRecDepth 20000 in
theorem wc_y_awaiting_y_jawaited_35 : GoodIn wq_y_awaiting (wsV RX3 35 RX3 yX3_awaitedBy wq_y_jawaited) := goodIn_app (goodIn_of _ (by decide +kernel)) (fun w h => ⟨List.mem_append_right _ (List.mem_append_left _ (h)), (wg_y_jawaited w h).2⟩)
theorem wc_y_awaiting_y_holds_25 : GoodIn wq_y_awaiting wq_y_holds := (fun w h => ⟨List.mem_append_right _ (List.mem_append_right _ (List.mem_append_left _ (h))), (wg_y_holds w h).2⟩)
theorem wc_y_awaiting_y_only_38 : GoodIn wq_y_awaiting wq_y_only := (fun w h => ⟨List.mem_append_right _ (List.mem_append_right _ (List.mem_append_right _ (h))), (wg_y_only w h).2⟩)
def rm_y_awaiting : Room := { frames := 3, cells := 0, slots := 0, locals := 68 }
set_option maxHeartbeats 4000000 in
set_option maxRecDepth 100000 in
theorem c_y_awaiting (l : Launch) (dC : Nat → ClassId) (dI : Nat → Nat → Nat) (h : Nat) (a : Nat → Nat) (e : Nat) (cI cJ cO cE : ClassId) (L : Nat → Int64) (I : Nat → Int32) (M : Nat → Nat → Int64) (J : Nat → Nat → Int32) (n cap : Nat) (fE : Nat → Option Nat) (sd : Nat → Nat → Nat) (si : Nat → Nat → Int32) (sa : Nat → Nat → Nat → Int32) (dl : Nat → Nat) (b : Nat) (sv : Nat) (sz : Nat) (hX0 : InvX n cap fE sd dl b I J si) (hb0 : b + 0 < 2147483648)  : Met l yX3_awaiting wq_y_awaiting rm_y_awaiting (va_Pc [.ref (a 3), .int (nI sv)] (fun U => U.heap.size = sz ∧ va_P (dC, dI) vwCl (xW h a e cI cJ cO cE L I M J n cap fE sd si sa dl) U.heap ∧ va_K (dC, dI) vwCl (xT cI cJ cO cE) U ∧ va_D (fun _ => True) (xW h a e cI cJ cO cE L I M J n cap fE sd si sa dl) ∧ pw_N U)) (va_Ql (fun (r : Int64) (u : Unit) => (r = f_y_awaiting n dl sv L M)) (fun (u : Unit) (t : State) => va_P (dC, dI) vwCl (xW h a e cI cJ cO cE L I M J n cap fE sd si sa dl) t.heap ∧ va_D (va_A (xW h a e cI cJ cO cE L I M J n cap fE sd si sa dl) sz) (xW h a e cI cJ cO cE L I M J n cap fE sd si sa dl)) (va_A (xW h a e cI cJ cO cE L I M J n cap fE sd si sa dl) sz)) 0 0 (va_A (xW h a e cI cJ cO cE L I M J n cap fE sd si sa dl) sz) := by
  have hn : n ≤ 40 := hX0.1.1
  have hX := hX0
  refine Met.ofW (cc := cX3_awaiting) (maxL := 5) (ret := (some .long)) (by decide) rfl ?_
  intro p e9 s m args below meth c s₁ B hml hv
  obtain ⟨rfl, hsz, hP, hK, hD0, hN⟩ := hv
  have hx := B.exec
  have hb := B.bytes
  have hr := B.returns
  have hts := atoms_spec (ws := wq_y_awaiting) B.pre
  have hown : s.vm.findClass RX3 = some m.cls := findClass_of_methodNamed B.named
  have hlocks := B.notSynchronized
  subst hsz
  have hD := hD0.self (sz := s.heap.size)
  generalize hAe : va_A (xW h a e cI cJ cO cE L I M J n cap fE sd si sa dl) s.heap.size = A at hD ⊢
  have hA : ∀ q : Nat, s.heap.size ≤ q → A q := fun q h => by rw [← hAe]; exact Or.inr h
  have hS : va_S A s.heap s.heap [] := va_S.rf
  have hl := lv_entry ([.ref (a 3), .int (nI sv)]) (n := 5) (Nat.le_of_ble_eq_true rfl)
  rw [lg_entry_eq]
  generalize (lg_sl ([.ref (a 3), .int (nI sv)]) ++ List.replicate (5 - (lg_sl ([.ref (a 3), .int (nI sv)])).length) Slot.unset).toArray = ls at hl ⊢
  have hl : lv_has ls 5 [(0, .ref (a 3)), (1, .int (nI sv))] := hl
  refine mw_Q (fun Q0 hQ => ?_)
  obtain ⟨RES, hR0⟩ : ∃ R9, R9 = f_y_awaiting n dl sv L M := ⟨_, rfl⟩
  have hZ9 := hR0
  unfold f_y_awaiting at hZ9
  refine lv_lconst (v := 0) hx hb dX3_awaiting_0 (by decide) ?_
  refine lv_lstore_n (lv' := [(2, .long 0), (0, .ref (a 3)), (1, .int (nI sv))]) hx hb dX3_awaiting_1 rfl hl (by decide) rfl (fun ls hl => ?_)
  refine lv_iconst (v := 0) hx hb dX3_awaiting_2 (by decide) ?_
  refine lv_istore (lv' := [(4, .int 0), (2, .long 0), (0, .ref (a 3)), (1, .int (nI sv))]) hx hb dX3_awaiting_3 hl (by decide) rfl (fun ls hl => ?_)
  obtain ⟨K9_5, hK9_5, hZ9⟩ := lp_gen hZ9
  have lp4 : ∀ (fu2 i1 : Nat) (y5 : Int64)  (H : Heap) (locs : List Loc) (ls : Array Slot), 40 < i1 + fu2 → i1 ≤ 40 → RES = f_y_awaiting_5 n dl sv L M fu2 i1 y5  K9_5 → va_P (dC, dI) vwCl (xW h a e cI cJ cO cE L I M J n cap fE sd si sa dl) H → va_D A (xW h a e cI cJ cO cE L I M J n cap fE sd si sa dl) → va_S A s.heap H locs → lv_has ls 5 [(4, .int (nI i1)), (2, .long y5), (0, .ref (a 3)), (1, .int (nI sv))] → W p l e9 (headSpec wq_y_awaiting rm_y_awaiting).room s m ([.ref (a 3), .int (nI sv)] : List Value).toArray below meth c H locs 0 0 Q0 (F0 m 5 ls []) := by
    intro fu2
    induction fu2 with
    | zero =>
      intro i1 y5  H locs ls hf hi
      exact absurd hf (by omega)
    | succ fu2 ih3 =>
      intro i1 y5  H locs ls hfi1 hii1 hZ9 hP hD hS hl
      rw [f_y_awaiting_5] at hZ9
      refine lv_iload hx hb dX3_awaiting_5 (lv_at hl 0 rfl) ?_
      refine lv_bipush (v := 40) hx hb dX3_awaiting_7 (by decide) ?_
      refine lv_icmp_ge (tgt := 39) hx hb dX3_awaiting_9 (by decide) (fun c6 => ?_) (fun c6 => ?_)
      · replace c6 : 40 ≤ i1 := (nI_leI (a := 40) (b := i1) (by omega) (by omega)).mp c6
        replace hZ9 := ite_t hZ9 c6
        replace hZ9 := lp_app2 hK9_5 hZ9
        refine lv_lload_n hx hb dX3_awaiting_39 rfl (lv_at hl 1 rfl) ?_
        rw [hQ]
        exact W.lret (v := y5) hx hb hr (fun t ht hW => ⟨⟨y5, (), rfl, hZ9.symm.trans hR0, by rw [ht]; exact hP, hD⟩, hS.F ht⟩) hS.2.2 dX3_awaiting_40
      · replace c6 : ¬ (40 ≤ i1) := fun q9 => c6 ((nI_leI (a := 40) (b := i1) (by omega) (by omega)).mpr q9)
        replace hZ9 := ite_f hZ9 c6
        refine lv_aload_n hx hb dX3_awaiting_12 rfl (lv_at hl 2 rfl) ?_
        refine lv_iload hx hb dX3_awaiting_13 (lv_at hl 0 rfl) ?_
        have hFc := mw_free hD hS hA
        refine va_calll (va_runV (As := [.int (nI i1)]) (rest := []) ⟨hx, hb, hml, hown, hts⟩ (c_y_jawaited l dC dI h a e cI cJ cO cE L I M J n cap fE sd si sa dl (b) i1 H.size hX (by omega) (by omega)) (cwV 1 hts wc_y_awaiting_y_jawaited_35 rfl rfl rfl (by decide +kernel) ⟨Nat.le_of_ble_eq_true rfl, Nat.le_of_ble_eq_true rfl⟩) ⟨fun a9 U g mk q => by obtain ⟨q0, q1, qP, qK, qD, qN⟩ := q; exact ⟨q0, q1, qP, va_K.moved (u := U) (U := U.calling g mk a9) (Vm.Alike.refl U.vm) qK, qD, pw_N.same (u := U) (U := U.calling g mk a9) rfl qN⟩, va_recv hK hP (ci := 4) (q0 := 14) rfl rfl, fun U hU hW => ⟨rfl, by rw [hU], by rw [hU]; exact hP, va_K.moved hW.alike hK, hD.weaken (fun _ _ _ _ => trivial), pw_N.warm hW hN⟩⟩ rfl rfl hl.1 rfl (lv_room (Nat.le_of_ble_eq_true rfl)) dX3_awaiting_15 ⟨Nat.le_of_ble_eq_true rfl, Nat.le_of_ble_eq_true rfl⟩) hS (fun q _ h => hFc q h) hFc (fun r7 u t H1 locs ht hvm hw hB hz1 hk1 hS => ?_)
        replace hP := hB.1
        rw [ht] at hP
        replace hD : va_D A (xW h a e cI cJ cO cE L I M J n cap fE sd si sa dl) := hB.2.weaken (fun _ q _ h9 => hFc q.1 h9)
        clear hB
        generalize H1 = H at hP hS ⊢
        replace hP : va_P (dC, dI) vwCl (xW h a e cI cJ cO cE L I M J n cap fE sd si sa dl) H := hP
        replace hw : r7 = f_y_jawaited n dl i1 L M := hw
        replace hZ9 := bnd_s hZ9 hw
        refine lv_iload_n hx hb dX3_awaiting_18 rfl (lv_at hl 3 rfl) ?_
        have hFc := mw_free hD hS hA
        refine va_calli (va_runSN (As := [.long r7, .int (nI sv)]) (rest := []) ⟨hx, hb, hml, hown, hts⟩ (c_y_holds l dC dI h a e cI cJ cO cE L I M J n cap fE sd si sa dl (b) r7 sv H.size hX (by omega) ) ⟨va_cnB 2 hts wc_y_awaiting_y_holds_25 rfl rfl rfl (hN (.methodLinkNest RX3 25 yX8_holds "ServiceTree") (by decide +kernel)) (hts (.initialized RX8) (by decide +kernel)) (by decide +kernel) ⟨Nat.le_of_ble_eq_true rfl, Nat.le_of_ble_eq_true rfl⟩, hts (.static yX8_holds) (by decide +kernel), trivial⟩ ⟨fun a9 U g mk q => by obtain ⟨q0, q1, qP, qK, qD, qN⟩ := q; exact ⟨q0, q1, qP, va_K.moved (u := U) (U := U.calling g mk a9) (Vm.Alike.refl U.vm) qK, qD, pw_N.same (u := U) (U := U.calling g mk a9) rfl qN⟩, fun U hU hW => ⟨rfl, by rw [hU], by rw [hU]; exact hP, va_K.moved hW.alike hK, hD.weaken (fun _ _ _ _ => trivial), pw_N.warm hW hN⟩⟩ rfl rfl hl.1 rfl (lv_room (Nat.le_of_ble_eq_true rfl)) dX3_awaiting_19 ⟨Nat.le_of_ble_eq_true rfl, Nat.le_of_ble_eq_true rfl⟩) hS (fun q _ h => hFc q h) hFc (fun r8 u t H1 locs ht hvm hw hB hz1 hk1 hS => ?_)
        replace hP := hB.1
        rw [ht] at hP
        replace hD : va_D A (xW h a e cI cJ cO cE L I M J n cap fE sd si sa dl) := hB.2.weaken (fun _ q _ h9 => hFc q.1 h9)
        clear hB
        generalize H1 = H at hP hS ⊢
        replace hP : va_P (dC, dI) vwCl (xW h a e cI cJ cO cE L I M J n cap fE sd si sa dl) H := hP
        obtain ⟨hw, hwe⟩ := hw
        replace hw : r8 = f_y_holds n dl r7 sv  := hw
        replace hZ9 := bnd_s hZ9 hw
        have br8 := hwe
        refine lv_if_eq (tgt := 33) hx hb dX3_awaiting_22 (by decide) (fun c9 => ?_) (fun c9 => ?_)
        · replace hZ9 := ite_t hZ9 c9
          refine lv_iinc (v := (nI (i1 + 1))) (lv' := [(4, .int (nI (i1 + 1))), (2, .long y5), (0, .ref (a 3)), (1, .int (nI sv))]) hx hb dX3_awaiting_33 hl (k := 0) rfl (nI_add i1 1) (by decide) rfl (fun ls hl => ?_)
          refine lv_goto (tgt := 5) hx hb dX3_awaiting_36 (by decide) ?_
          exact ih3 (i1 + 1) y5  _ _ _ (by omega) (by omega)  hZ9 hP hD hS (lv_sub hl [0, 1, 2, 3] rfl)
        · replace hZ9 := ite_f hZ9 c9
          refine lv_lload_n hx hb dX3_awaiting_25 rfl (lv_at hl 1 rfl) ?_
          refine lv_iload hx hb dX3_awaiting_26 (lv_at hl 0 rfl) ?_
          have hFc := mw_free hD hS hA
          refine va_calll (va_runSN (As := [.int (nI i1)]) (rest := [.long y5]) ⟨hx, hb, hml, hown, hts⟩ (c_y_only l dC dI h a e cI cJ cO cE L I M J n cap fE sd si sa dl (b) i1 H.size hX (by omega) ) ⟨va_cnB 1 hts wc_y_awaiting_y_only_38 rfl rfl rfl (hN (.methodLinkNest RX3 38 yX8_only "ServiceTree") (by decide +kernel)) (hts (.initialized RX8) (by decide +kernel)) (by decide +kernel) ⟨Nat.le_of_ble_eq_true rfl, Nat.le_of_ble_eq_true rfl⟩, hts (.static yX8_only) (by decide +kernel), trivial⟩ ⟨fun a9 U g mk q => by obtain ⟨q0, q1, qP, qK, qD, qN⟩ := q; exact ⟨q0, q1, qP, va_K.moved (u := U) (U := U.calling g mk a9) (Vm.Alike.refl U.vm) qK, qD, pw_N.same (u := U) (U := U.calling g mk a9) rfl qN⟩, fun U hU hW => ⟨rfl, by rw [hU], by rw [hU]; exact hP, va_K.moved hW.alike hK, hD.weaken (fun _ _ _ _ => trivial), pw_N.warm hW hN⟩⟩ rfl rfl hl.1 rfl (lv_room (Nat.le_of_ble_eq_true rfl)) dX3_awaiting_28 ⟨Nat.le_of_ble_eq_true rfl, Nat.le_of_ble_eq_true rfl⟩) hS (fun q _ h => hFc q h) hFc (fun r10 u t H1 locs ht hvm hw hB hz1 hk1 hS => ?_)
          replace hP := hB.1
          rw [ht] at hP
          replace hD : va_D A (xW h a e cI cJ cO cE L I M J n cap fE sd si sa dl) := hB.2.weaken (fun _ q _ h9 => hFc q.1 h9)
          clear hB
          generalize H1 = H at hP hS ⊢
          replace hP : va_P (dC, dI) vwCl (xW h a e cI cJ cO cE L I M J n cap fE sd si sa dl) H := hP
          replace hw : r10 = f_y_only n dl i1  := hw
          replace hZ9 := bnd_s hZ9 hw
          refine lv_lor hx hb dX3_awaiting_31 ?_
          refine lv_topl (fun x11 ex11 => ?_)
          replace hZ9 := bnd_s hZ9 ex11
          refine lv_lstore_n (lv' := [(2, .long x11), (4, .int (nI i1)), (0, .ref (a 3)), (1, .int (nI sv))]) hx hb dX3_awaiting_32 rfl hl (by decide) rfl (fun ls hl => ?_)
          refine lv_iinc (v := (nI (i1 + 1))) (lv' := [(4, .int (nI (i1 + 1))), (2, .long x11), (0, .ref (a 3)), (1, .int (nI sv))]) hx hb dX3_awaiting_33 hl (k := 1) rfl (nI_add i1 1) (by decide) rfl (fun ls hl => ?_)
          refine lv_goto (tgt := 5) hx hb dX3_awaiting_36 (by decide) ?_
          exact ih3 (i1 + 1) x11  _ _ _ (by omega) (by omega)  hZ9 hP hD hS (lv_sub hl [0, 1, 2, 3] rfl)
  exact lp4 (40 + 1) 0 0  _ _ _ (by omega) (by omega)  hZ9 hP hD hS hl
def f_y_leastReady_16 (n : Nat) (dl : Nat → Nat) (L : Nat → Int64) (M : Nat → Nat → Int64) (x4 : Int64) : Nat → Nat → (Nat → Int32) → Int32
  | 0, i5, K9_16 => K9_16 i5  
  | fu6 + 1, i5, K9_16 => if 40 ≤ i5 then (K9_16 i5) else (bnd (f_y_holds n dl x4 i5 ) (fun (r10 : Int32) => if r10 = (0 : Int32) then (f_y_leastReady_16 n dl L M x4 fu6 (i5 + 1)   K9_16) else (bnd (f_y_jawaited n dl i5 L M) (fun (r12 : Int64) => bnd (lg_cmp r12 (0 : Int64)) (fun (x13 : Int32) => if x13 = (0 : Int32) then (((nI i5))) else (f_y_leastReady_16 n dl L M x4 fu6 (i5 + 1)   K9_16))))))
def f_y_leastReady (n : Nat) (dl : Nat → Nat)  (L : Nat → Int64) (M : Nat → Nat → Int64) : Int32 := bnd (f_y_left n dl  L) (fun (r1 : Int64) => bnd (L 7) (fun (x2 : Int64) => bnd (x2 ^^^ (-1 : Int64)) (fun (x3 : Int64) => bnd (r1 &&& x3) (fun (x4 : Int64) => f_y_leastReady_16 n dl L M x4 (40 + 1) 0   (fun (i5 : Nat) => ((-1 : Int32)))))))
def wq_y_leastReady : List Cond := ([.code yX3_leastReady cX3_leastReady 4 (some .int), .fieldLink RX3 22 "ServiceTree$Jobs" "begun" "J", .constantLong RX3 45 (-1), .initialized RX8, .static yX8_holds, .methodLink RX3 41 yX3_left, .instanceMethod yX3_left, .selects RX3 yX3_left yX3_left, .initialized RX3, .methodLink RX3 35 yX3_awaitedBy, .instanceMethod yX3_awaitedBy, .selects RX3 yX3_awaitedBy yX3_awaitedBy] : List Cond) ++ (wsX30 ++ (wq_y_left ++ (wq_y_holds ++ (wq_y_jawaited))))
theorem in_y_leastReady_X3 : ∀ w ∈ wsX30, w ∈ wq_y_leastReady := fun _ h => List.mem_append_right _ (List.mem_append_left _ (h))
set_option maxRecDepth 20000 in
theorem wi_y_leastReady : ∀ w ∈ wq_y_leastReady, w ∈ lw_tbl := List.forall_mem_append.mpr ⟨(wix [637, 169, 625, 60, 488, 638, 484, 485, 66, 639, 640, 641] rfl), List.forall_mem_append.mpr ⟨inKX3, List.forall_mem_append.mpr ⟨wi_y_left, List.forall_mem_append.mpr ⟨wi_y_holds, wi_y_jawaited⟩⟩⟩⟩
set_option maxRecDepth 20000 in
theorem wg_y_leastReady : GoodIn wq_y_leastReady wq_y_leastReady := goodIn_sub (fun _ h => h) (by decide +kernel)
set_option maxRecDepth 20000 in
theorem wc_y_leastReady_y_left_41 : GoodIn wq_y_leastReady (wsV RX3 41 RX3 yX3_left wq_y_left) := goodIn_app (goodIn_of _ (by decide +kernel)) (fun w h => ⟨List.mem_append_right _ (List.mem_append_right _ (List.mem_append_left _ (h))), (wg_y_left w h).2⟩)
theorem wc_y_leastReady_y_holds_25 : GoodIn wq_y_leastReady wq_y_holds := (fun w h => ⟨List.mem_append_right _ (List.mem_append_right _ (List.mem_append_right _ (List.mem_append_left _ (h)))), (wg_y_holds w h).2⟩)
set_option maxRecDepth 20000 in
theorem wc_y_leastReady_y_jawaited_35 : GoodIn wq_y_leastReady (wsV RX3 35 RX3 yX3_awaitedBy wq_y_jawaited) := goodIn_app (goodIn_of _ (by decide +kernel)) (fun w h => ⟨List.mem_append_right _ (List.mem_append_right _ (List.mem_append_right _ (List.mem_append_right _ (h)))), (wg_y_jawaited w h).2⟩)
def rm_y_leastReady : Room := { frames := 3, cells := 0, slots := 0, locals := 68 }
set_option maxHeartbeats 4000000 in
set_option maxRecDepth 100000 in
theorem c_y_leastReady (l : Launch) (dC : Nat → ClassId) (dI : Nat → Nat → Nat) (h : Nat) (a : Nat → Nat) (e : Nat) (cI cJ cO cE : ClassId) (L : Nat → Int64) (I : Nat → Int32) (M : Nat → Nat → Int64) (J : Nat → Nat → Int32) (n cap : Nat) (fE : Nat → Option Nat) (sd : Nat → Nat → Nat) (si : Nat → Nat → Int32) (sa : Nat → Nat → Nat → Int32) (dl : Nat → Nat) (b : Nat)  (sz : Nat) (hX0 : InvX n cap fE sd dl b I J si) (hb0 : b + 0 < 2147483648)  : Met l yX3_leastReady wq_y_leastReady rm_y_leastReady (va_Pc [.ref (a 3)] (fun U => U.heap.size = sz ∧ va_P (dC, dI) vwCl (xW h a e cI cJ cO cE L I M J n cap fE sd si sa dl) U.heap ∧ va_K (dC, dI) vwCl (xT cI cJ cO cE) U ∧ va_D (fun _ => True) (xW h a e cI cJ cO cE L I M J n cap fE sd si sa dl) ∧ pw_N U)) (va_Qi (fun (r : Int32) (u : Unit) => (r = f_y_leastReady n dl  L M)) (fun (u : Unit) (t : State) => va_P (dC, dI) vwCl (xW h a e cI cJ cO cE L I M J n cap fE sd si sa dl) t.heap ∧ va_D (va_A (xW h a e cI cJ cO cE L I M J n cap fE sd si sa dl) sz) (xW h a e cI cJ cO cE L I M J n cap fE sd si sa dl)) (va_A (xW h a e cI cJ cO cE L I M J n cap fE sd si sa dl) sz)) 0 0 (va_A (xW h a e cI cJ cO cE L I M J n cap fE sd si sa dl) sz) := by
  have hn : n ≤ 40 := hX0.1.1
  have hX := hX0
  refine Met.ofW (cc := cX3_leastReady) (maxL := 4) (ret := (some .int)) (by decide) rfl ?_
  intro p e9 s m args below meth c s₁ B hml hv
  obtain ⟨rfl, hsz, hP, hK, hD0, hN⟩ := hv
  have hx := B.exec
  have hb := B.bytes
  have hr := B.returns
  have hts := atoms_spec (ws := wq_y_leastReady) B.pre
  have hown : s.vm.findClass RX3 = some m.cls := findClass_of_methodNamed B.named
  have hlocks := B.notSynchronized
  subst hsz
  have hD := hD0.self (sz := s.heap.size)
  generalize hAe : va_A (xW h a e cI cJ cO cE L I M J n cap fE sd si sa dl) s.heap.size = A at hD ⊢
  have hA : ∀ q : Nat, s.heap.size ≤ q → A q := fun q h => by rw [← hAe]; exact Or.inr h
  have hS : va_S A s.heap s.heap [] := va_S.rf
  have hl := lv_entry ([.ref (a 3)]) (n := 4) (Nat.le_of_ble_eq_true rfl)
  rw [lg_entry_eq]
  generalize (lg_sl ([.ref (a 3)]) ++ List.replicate (4 - (lg_sl ([.ref (a 3)])).length) Slot.unset).toArray = ls at hl ⊢
  have hl : lv_has ls 4 [(0, .ref (a 3))] := hl
  refine mw_Q (fun Q0 hQ => ?_)
  obtain ⟨RES, hR0⟩ : ∃ R9, R9 = f_y_leastReady n dl  L M := ⟨_, rfl⟩
  have hZ9 := hR0
  unfold f_y_leastReady at hZ9
  refine lv_aload_n hx hb dX3_leastReady_0 rfl (lv_at hl 0 rfl) ?_
  have hFc := mw_free hD hS hA
  refine va_calll (va_runV (As := []) (rest := []) ⟨hx, hb, hml, hown, hts⟩ (c_y_left l dC dI h a e cI cJ cO cE L I M J n cap fE sd si sa dl (b)  s.heap.size hX (by omega) ) (cwV 0 hts wc_y_leastReady_y_left_41 rfl rfl rfl (by decide +kernel) ⟨Nat.le_of_ble_eq_true rfl, Nat.le_of_ble_eq_true rfl⟩) ⟨fun a9 U g mk q => by obtain ⟨q0, q1, qP, qK, qD, qN⟩ := q; exact ⟨q0, q1, qP, va_K.moved (u := U) (U := U.calling g mk a9) (Vm.Alike.refl U.vm) qK, qD, pw_N.same (u := U) (U := U.calling g mk a9) rfl qN⟩, va_recv hK hP (ci := 4) (q0 := 14) rfl rfl, fun U hU hW => ⟨rfl, by rw [hU], by rw [hU]; exact hP, va_K.moved hW.alike hK, hD.weaken (fun _ _ _ _ => trivial), pw_N.warm hW hN⟩⟩ rfl rfl hl.1 rfl (lv_room (Nat.le_of_ble_eq_true rfl)) dX3_leastReady_1 ⟨Nat.le_of_ble_eq_true rfl, Nat.le_of_ble_eq_true rfl⟩) hS (fun q _ h => hFc q h) hFc (fun r1 u t H1 locs ht hvm hw hB hz1 hk1 hS => ?_)
  replace hP := hB.1
  rw [ht] at hP
  replace hD : va_D A (xW h a e cI cJ cO cE L I M J n cap fE sd si sa dl) := hB.2.weaken (fun _ q _ h9 => hFc q.1 h9)
  clear hB
  generalize H1 = H at hP hS ⊢
  replace hP : va_P (dC, dI) vwCl (xW h a e cI cJ cO cE L I M J n cap fE sd si sa dl) H := hP
  replace hw : r1 = f_y_left n dl  L := hw
  replace hZ9 := bnd_s hZ9 hw
  refine lv_aload_n hx hb dX3_leastReady_4 rfl (lv_at hl 0 rfl) ?_
  refine va_get (D := (dC, dI)) (ci := 4) (v := .long (L 7)) (C := RX3) (T := TX3) (N := 4) hx hb hts in_y_leastReady_X3 hown hK hP 14 rfl rfl 3 (by decide) (hts (.fieldLink RX3 22 "ServiceTree$Jobs" "begun" "J") (by decide +kernel)) (fun _ h9 => h9) rfl dX3_leastReady_5 ?_
  refine lv_topl (fun x2 ex2 => ?_)
  replace hZ9 := bnd_s hZ9 ex2
  refine lv_ldc2 (v := (-1)) hx hb hown (hts (.constantLong RX3 45 (-1)) (by decide +kernel)) dX3_leastReady_8 ?_
  refine lv_lxor hx hb dX3_leastReady_11 ?_
  refine lv_topl (fun x3 ex3 => ?_)
  replace hZ9 := bnd_s hZ9 ex3
  refine lv_land hx hb dX3_leastReady_12 ?_
  refine lv_topl (fun x4 ex4 => ?_)
  replace hZ9 := bnd_s hZ9 ex4
  refine lv_lstore_n (lv' := [(1, .long x4), (0, .ref (a 3))]) hx hb dX3_leastReady_13 rfl hl (by decide) rfl (fun ls hl => ?_)
  refine lv_iconst (v := 0) hx hb dX3_leastReady_14 (by decide) ?_
  refine lv_istore_n (lv' := [(3, .int 0), (1, .long x4), (0, .ref (a 3))]) hx hb dX3_leastReady_15 rfl hl (by decide) rfl (fun ls hl => ?_)
  obtain ⟨K9_16, hK9_16, hZ9⟩ := lp_gen hZ9
  have lp8 : ∀ (fu6 i5 : Nat)   (H : Heap) (locs : List Loc) (ls : Array Slot), 40 < i5 + fu6 → i5 ≤ 40 → RES = f_y_leastReady_16 n dl L M x4 fu6 i5   K9_16 → va_P (dC, dI) vwCl (xW h a e cI cJ cO cE L I M J n cap fE sd si sa dl) H → va_D A (xW h a e cI cJ cO cE L I M J n cap fE sd si sa dl) → va_S A s.heap H locs → lv_has ls 4 [(3, .int (nI i5)), (1, .long x4), (0, .ref (a 3))] → W p l e9 (headSpec wq_y_leastReady rm_y_leastReady).room s m ([.ref (a 3)] : List Value).toArray below meth c H locs 0 0 Q0 (F0 m 16 ls []) := by
    intro fu6
    induction fu6 with
    | zero =>
      intro i5   H locs ls hf hi
      exact absurd hf (by omega)
    | succ fu6 ih7 =>
      intro i5   H locs ls hfi5 hii5 hZ9 hP hD hS hl
      rw [f_y_leastReady_16] at hZ9
      refine lv_iload_n hx hb dX3_leastReady_16 rfl (lv_at hl 0 rfl) ?_
      refine lv_bipush (v := 40) hx hb dX3_leastReady_17 (by decide) ?_
      refine lv_icmp_ge (tgt := 48) hx hb dX3_leastReady_19 (by decide) (fun c9 => ?_) (fun c9 => ?_)
      · replace c9 : 40 ≤ i5 := (nI_leI (a := 40) (b := i5) (by omega) (by omega)).mp c9
        replace hZ9 := ite_t hZ9 c9
        replace hZ9 := lp_app1 hK9_16 hZ9
        refine lv_iconst (v := (-1)) hx hb dX3_leastReady_48 (by decide) ?_
        rw [hQ]
        exact W.iret (v := (-1)) hx hb hr (fun t ht hW => ⟨⟨(-1), (), rfl, hZ9.symm.trans hR0, by rw [ht]; exact hP, hD⟩, hS.F ht⟩) hS.2.2 dX3_leastReady_49
      · replace c9 : ¬ (40 ≤ i5) := fun q9 => c9 ((nI_leI (a := 40) (b := i5) (by omega) (by omega)).mpr q9)
        replace hZ9 := ite_f hZ9 c9
        refine lv_lload_n hx hb dX3_leastReady_22 rfl (lv_at hl 1 rfl) ?_
        refine lv_iload_n hx hb dX3_leastReady_23 rfl (lv_at hl 0 rfl) ?_
        have hFc := mw_free hD hS hA
        refine va_calli (va_runSN (As := [.long x4, .int (nI i5)]) (rest := []) ⟨hx, hb, hml, hown, hts⟩ (c_y_holds l dC dI h a e cI cJ cO cE L I M J n cap fE sd si sa dl (b) x4 i5 H.size hX (by omega) ) ⟨va_cnB 2 hts wc_y_leastReady_y_holds_25 rfl rfl rfl (hN (.methodLinkNest RX3 25 yX8_holds "ServiceTree") (by decide +kernel)) (hts (.initialized RX8) (by decide +kernel)) (by decide +kernel) ⟨Nat.le_of_ble_eq_true rfl, Nat.le_of_ble_eq_true rfl⟩, hts (.static yX8_holds) (by decide +kernel), trivial⟩ ⟨fun a9 U g mk q => by obtain ⟨q0, q1, qP, qK, qD, qN⟩ := q; exact ⟨q0, q1, qP, va_K.moved (u := U) (U := U.calling g mk a9) (Vm.Alike.refl U.vm) qK, qD, pw_N.same (u := U) (U := U.calling g mk a9) rfl qN⟩, fun U hU hW => ⟨rfl, by rw [hU], by rw [hU]; exact hP, va_K.moved hW.alike hK, hD.weaken (fun _ _ _ _ => trivial), pw_N.warm hW hN⟩⟩ rfl rfl hl.1 rfl (lv_room (Nat.le_of_ble_eq_true rfl)) dX3_leastReady_24 ⟨Nat.le_of_ble_eq_true rfl, Nat.le_of_ble_eq_true rfl⟩) hS (fun q _ h => hFc q h) hFc (fun r10 u t H1 locs ht hvm hw hB hz1 hk1 hS => ?_)
        replace hP := hB.1
        rw [ht] at hP
        replace hD : va_D A (xW h a e cI cJ cO cE L I M J n cap fE sd si sa dl) := hB.2.weaken (fun _ q _ h9 => hFc q.1 h9)
        clear hB
        generalize H1 = H at hP hS ⊢
        replace hP : va_P (dC, dI) vwCl (xW h a e cI cJ cO cE L I M J n cap fE sd si sa dl) H := hP
        obtain ⟨hw, hwe⟩ := hw
        replace hw : r10 = f_y_holds n dl x4 i5  := hw
        replace hZ9 := bnd_s hZ9 hw
        have br10 := hwe
        refine lv_if_eq (tgt := 42) hx hb dX3_leastReady_27 (by decide) (fun c11 => ?_) (fun c11 => ?_)
        · replace hZ9 := ite_t hZ9 c11
          refine lv_iinc (v := (nI (i5 + 1))) (lv' := [(3, .int (nI (i5 + 1))), (1, .long x4), (0, .ref (a 3))]) hx hb dX3_leastReady_42 hl (k := 0) rfl (nI_add i5 1) (by decide) rfl (fun ls hl => ?_)
          refine lv_goto (tgt := 16) hx hb dX3_leastReady_45 (by decide) ?_
          exact ih7 (i5 + 1)   _ _ _ (by omega) (by omega)  hZ9 hP hD hS (lv_sub hl [0, 1, 2] rfl)
        · replace hZ9 := ite_f hZ9 c11
          refine lv_aload_n hx hb dX3_leastReady_30 rfl (lv_at hl 2 rfl) ?_
          refine lv_iload_n hx hb dX3_leastReady_31 rfl (lv_at hl 0 rfl) ?_
          have hFc := mw_free hD hS hA
          refine va_calll (va_runV (As := [.int (nI i5)]) (rest := []) ⟨hx, hb, hml, hown, hts⟩ (c_y_jawaited l dC dI h a e cI cJ cO cE L I M J n cap fE sd si sa dl (b) i5 H.size hX (by omega) (by omega)) (cwV 1 hts wc_y_leastReady_y_jawaited_35 rfl rfl rfl (by decide +kernel) ⟨Nat.le_of_ble_eq_true rfl, Nat.le_of_ble_eq_true rfl⟩) ⟨fun a9 U g mk q => by obtain ⟨q0, q1, qP, qK, qD, qN⟩ := q; exact ⟨q0, q1, qP, va_K.moved (u := U) (U := U.calling g mk a9) (Vm.Alike.refl U.vm) qK, qD, pw_N.same (u := U) (U := U.calling g mk a9) rfl qN⟩, va_recv hK hP (ci := 4) (q0 := 14) rfl rfl, fun U hU hW => ⟨rfl, by rw [hU], by rw [hU]; exact hP, va_K.moved hW.alike hK, hD.weaken (fun _ _ _ _ => trivial), pw_N.warm hW hN⟩⟩ rfl rfl hl.1 rfl (lv_room (Nat.le_of_ble_eq_true rfl)) dX3_leastReady_32 ⟨Nat.le_of_ble_eq_true rfl, Nat.le_of_ble_eq_true rfl⟩) hS (fun q _ h => hFc q h) hFc (fun r12 u t H1 locs ht hvm hw hB hz1 hk1 hS => ?_)
          replace hP := hB.1
          rw [ht] at hP
          replace hD : va_D A (xW h a e cI cJ cO cE L I M J n cap fE sd si sa dl) := hB.2.weaken (fun _ q _ h9 => hFc q.1 h9)
          clear hB
          generalize H1 = H at hP hS ⊢
          replace hP : va_P (dC, dI) vwCl (xW h a e cI cJ cO cE L I M J n cap fE sd si sa dl) H := hP
          replace hw : r12 = f_y_jawaited n dl i5 L M := hw
          replace hZ9 := bnd_s hZ9 hw
          refine lv_lconst (v := 0) hx hb dX3_leastReady_35 (by decide) ?_
          refine W.lcmp hx hb dX3_leastReady_36 ?_
          refine lv_topi (fun x13 ex13 => ?_)
          replace hZ9 := bnd_s hZ9 ex13
          refine lv_if_ne (tgt := 42) hx hb dX3_leastReady_37 (by decide) (fun c14 => ?_) (fun c14 => ?_)
          · replace hZ9 := ite_f hZ9 c14
            refine lv_iinc (v := (nI (i5 + 1))) (lv' := [(3, .int (nI (i5 + 1))), (1, .long x4), (0, .ref (a 3))]) hx hb dX3_leastReady_42 hl (k := 0) rfl (nI_add i5 1) (by decide) rfl (fun ls hl => ?_)
            refine lv_goto (tgt := 16) hx hb dX3_leastReady_45 (by decide) ?_
            exact ih7 (i5 + 1)   _ _ _ (by omega) (by omega)  hZ9 hP hD hS (lv_sub hl [0, 1, 2] rfl)
          · replace hZ9 := ite_t hZ9 c14
            refine lv_iload_n hx hb dX3_leastReady_40 rfl (lv_at hl 0 rfl) ?_
            rw [hQ]
            exact W.iret (v := (nI i5)) hx hb hr (fun t ht hW => ⟨⟨(nI i5), (), rfl, hZ9.symm.trans hR0, by rw [ht]; exact hP, hD⟩, hS.F ht⟩) hS.2.2 dX3_leastReady_41
  exact lp8 (40 + 1) 0   _ _ _ (by omega) (by omega)  hZ9 hP hD hS hl
def f_y_noteState (n : Nat) (dl : Nat → Nat) (sv : Nat) (tv : Nat) (L : Nat → Int64) : (Nat → Int64) := bnd (L 7) (fun (x1 : Int64) => bnd (f_y_holds n dl x1 sv ) (fun (r2 : Int32) => if r2 = (0 : Int32) then ((L)) else (bnd (L 5) (fun (x4 : Int64) => bnd (f_y_holds n dl x4 sv ) (fun (r5 : Int32) => if r5 = (0 : Int32) then (if tv = 0 then (bnd (f_y_jend n dl sv L) (fun (L9 : Nat → Int64) => (L9))) else ((L))) else (if tv = 1 then ((L)) else (bnd (f_y_jend n dl sv L) (fun (L12 : Nat → Int64) => (L12)))))))))
def wq_y_noteState : List Cond := ([.code yX3_noteState cX3_noteState 4 none, .fieldLink RX3 22 "ServiceTree$Jobs" "begun" "J", .initialized RX8, .static yX8_holds, .fieldLink RX3 15 "ServiceTree$Jobs" "starts" "J", .methodLink RX3 47 yX3_end, .instanceMethod yX3_end, .selects RX3 yX3_end yX3_end, .initialized RX3] : List Cond) ++ (wsX30 ++ (wq_y_holds ++ (wq_y_jend)))
theorem in_y_noteState_X3 : ∀ w ∈ wsX30, w ∈ wq_y_noteState := fun _ h => List.mem_append_right _ (List.mem_append_left _ (h))
set_option maxRecDepth 20000 in
theorem wi_y_noteState : ∀ w ∈ wq_y_noteState, w ∈ lw_tbl := List.forall_mem_append.mpr ⟨(wix [619, 169, 60, 488, 166, 621, 622, 623, 66] rfl), List.forall_mem_append.mpr ⟨inKX3, List.forall_mem_append.mpr ⟨wi_y_holds, wi_y_jend⟩⟩⟩
set_option maxRecDepth 20000 in
theorem wg_y_noteState : GoodIn wq_y_noteState wq_y_noteState := goodIn_sub (fun _ h => h) (by decide +kernel)
theorem wc_y_noteState_y_holds_25 : GoodIn wq_y_noteState wq_y_holds := (fun w h => ⟨List.mem_append_right _ (List.mem_append_right _ (List.mem_append_left _ (h))), (wg_y_holds w h).2⟩)
set_option maxRecDepth 20000 in
theorem wc_y_noteState_y_jend_47 : GoodIn wq_y_noteState (wsV RX3 47 RX3 yX3_end wq_y_jend) := goodIn_app (goodIn_of _ (by decide +kernel)) (fun w h => ⟨List.mem_append_right _ (List.mem_append_right _ (List.mem_append_right _ (h))), (wg_y_jend w h).2⟩)
def rm_y_noteState : Room := { frames := 1, cells := 0, slots := 0, locals := 23 }
set_option maxHeartbeats 4000000 in
set_option maxRecDepth 100000 in
theorem c_y_noteState (l : Launch) (dC : Nat → ClassId) (dI : Nat → Nat → Nat) (h : Nat) (a : Nat → Nat) (e : Nat) (cI cJ cO cE : ClassId) (L : Nat → Int64) (I : Nat → Int32) (M : Nat → Nat → Int64) (J : Nat → Nat → Int32) (n cap : Nat) (fE : Nat → Option Nat) (sd : Nat → Nat → Nat) (si : Nat → Nat → Int32) (sa : Nat → Nat → Nat → Int32) (dl : Nat → Nat) (b : Nat) (sv : Nat) (tv : Nat) (sz : Nat) (hX0 : InvX n cap fE sd dl b I J si) (hb0 : b + 0 < 2147483648) (hp0 : tv ≤ 5) : Met l yX3_noteState wq_y_noteState rm_y_noteState (va_Pc [.ref (a 3), .int (nI sv), .int (nI tv)] (fun U => U.heap.size = sz ∧ va_P (dC, dI) vwCl (xW h a e cI cJ cO cE L I M J n cap fE sd si sa dl) U.heap ∧ va_K (dC, dI) vwCl (xT cI cJ cO cE) U ∧ va_D (fun _ => True) (xW h a e cI cJ cO cE L I M J n cap fE sd si sa dl) ∧ pw_N U)) (va_Qv (fun (u : (Nat → Int64)) => InvX n cap fE sd dl (b + 0) I J si ∧ (∀ j9 : Nat, j9 ∉ ([5, 6, 7] : List Nat) → u j9 = L j9) ∧ (u = f_y_noteState n dl sv tv L)) (fun (u : (Nat → Int64)) (t : State) => va_P (dC, dI) vwCl (xW h a e cI cJ cO cE u I M J n cap fE sd si sa dl) t.heap ∧ va_D (va_A (xW h a e cI cJ cO cE L I M J n cap fE sd si sa dl) sz) (xW h a e cI cJ cO cE u I M J n cap fE sd si sa dl)) (va_A (xW h a e cI cJ cO cE L I M J n cap fE sd si sa dl) sz)) 0 0 (va_A (xW h a e cI cJ cO cE L I M J n cap fE sd si sa dl) sz) := by
  have hn : n ≤ 40 := hX0.1.1
  have hX := hX0
  have hUL : ∀ j9 : Nat, j9 ∉ ([5, 6, 7] : List Nat) → L j9 = L j9 := fun _ _ => rfl
  refine Met.ofW (cc := cX3_noteState) (maxL := 4) (ret := none) (by decide) rfl ?_
  intro p e9 s m args below meth c s₁ B hml hv
  obtain ⟨rfl, hsz, hP, hK, hD0, hN⟩ := hv
  have hx := B.exec
  have hb := B.bytes
  have hr := B.returns
  have hts := atoms_spec (ws := wq_y_noteState) B.pre
  have hown : s.vm.findClass RX3 = some m.cls := findClass_of_methodNamed B.named
  have hlocks := B.notSynchronized
  subst hsz
  have hD := hD0.self (sz := s.heap.size)
  generalize hAe : va_A (xW h a e cI cJ cO cE L I M J n cap fE sd si sa dl) s.heap.size = A at hD ⊢
  have hA : ∀ q : Nat, s.heap.size ≤ q → A q := fun q h => by rw [← hAe]; exact Or.inr h
  have hS : va_S A s.heap s.heap [] := va_S.rf
  have hl := lv_entry ([.ref (a 3), .int (nI sv), .int (nI tv)]) (n := 4) (Nat.le_of_ble_eq_true rfl)
  rw [lg_entry_eq]
  generalize (lg_sl ([.ref (a 3), .int (nI sv), .int (nI tv)]) ++ List.replicate (4 - (lg_sl ([.ref (a 3), .int (nI sv), .int (nI tv)])).length) Slot.unset).toArray = ls at hl ⊢
  have hl : lv_has ls 4 [(0, .ref (a 3)), (1, .int (nI sv)), (2, .int (nI tv))] := hl
  obtain ⟨RES, hR0⟩ : ∃ R9, R9 = f_y_noteState n dl sv tv L := ⟨_, rfl⟩
  have hZ9 := hR0
  unfold f_y_noteState at hZ9
  refine lv_aload_n hx hb dX3_noteState_0 rfl (lv_at hl 0 rfl) ?_
  refine va_get (D := (dC, dI)) (ci := 4) (v := .long (L 7)) (C := RX3) (T := TX3) (N := 4) hx hb hts in_y_noteState_X3 hown hK hP 14 rfl rfl 3 (by decide) (hts (.fieldLink RX3 22 "ServiceTree$Jobs" "begun" "J") (by decide +kernel)) (fun _ h9 => h9) rfl dX3_noteState_1 ?_
  refine lv_topl (fun x1 ex1 => ?_)
  replace hZ9 := bnd_s hZ9 ex1
  refine lv_iload_n hx hb dX3_noteState_4 rfl (lv_at hl 1 rfl) ?_
  have hFc := mw_free hD hS hA
  refine va_calli (va_runSN (As := [.long x1, .int (nI sv)]) (rest := []) ⟨hx, hb, hml, hown, hts⟩ (c_y_holds l dC dI h a e cI cJ cO cE L I M J n cap fE sd si sa dl (b) x1 sv s.heap.size hX (by omega) ) ⟨va_cnB 2 hts wc_y_noteState_y_holds_25 rfl rfl rfl (hN (.methodLinkNest RX3 25 yX8_holds "ServiceTree") (by decide +kernel)) (hts (.initialized RX8) (by decide +kernel)) (by decide +kernel) ⟨Nat.le_of_ble_eq_true rfl, Nat.le_of_ble_eq_true rfl⟩, hts (.static yX8_holds) (by decide +kernel), trivial⟩ ⟨fun a9 U g mk q => by obtain ⟨q0, q1, qP, qK, qD, qN⟩ := q; exact ⟨q0, q1, qP, va_K.moved (u := U) (U := U.calling g mk a9) (Vm.Alike.refl U.vm) qK, qD, pw_N.same (u := U) (U := U.calling g mk a9) rfl qN⟩, fun U hU hW => ⟨rfl, by rw [hU], by rw [hU]; exact hP, va_K.moved hW.alike hK, hD.weaken (fun _ _ _ _ => trivial), pw_N.warm hW hN⟩⟩ rfl rfl hl.1 rfl (lv_room (Nat.le_of_ble_eq_true rfl)) dX3_noteState_5 ⟨Nat.le_of_ble_eq_true rfl, Nat.le_of_ble_eq_true rfl⟩) hS (fun q _ h => hFc q h) hFc (fun r2 u t H1 locs ht hvm hw hB hz1 hk1 hS => ?_)
  replace hP := hB.1
  rw [ht] at hP
  replace hD : va_D A (xW h a e cI cJ cO cE L I M J n cap fE sd si sa dl) := hB.2.weaken (fun _ q _ h9 => hFc q.1 h9)
  clear hB
  generalize H1 = H at hP hS ⊢
  replace hP : va_P (dC, dI) vwCl (xW h a e cI cJ cO cE L I M J n cap fE sd si sa dl) H := hP
  obtain ⟨hw, hwe⟩ := hw
  replace hw : r2 = f_y_holds n dl x1 sv  := hw
  replace hZ9 := bnd_s hZ9 hw
  have br2 := hwe
  refine lv_if_ne (tgt := 12) hx hb dX3_noteState_8 (by decide) (fun c3 => ?_) (fun c3 => ?_)
  · replace hZ9 := ite_f hZ9 c3
    refine lv_aload_n hx hb dX3_noteState_12 rfl (lv_at hl 0 rfl) ?_
    refine va_get (D := (dC, dI)) (ci := 4) (v := .long (L 5)) (C := RX3) (T := TX3) (N := 4) hx hb hts in_y_noteState_X3 hown hK hP 14 rfl rfl 1 (by decide) (hts (.fieldLink RX3 15 "ServiceTree$Jobs" "starts" "J") (by decide +kernel)) (fun _ h9 => h9) rfl dX3_noteState_13 ?_
    refine lv_topl (fun x4 ex4 => ?_)
    replace hZ9 := bnd_s hZ9 ex4
    refine lv_iload_n hx hb dX3_noteState_16 rfl (lv_at hl 1 rfl) ?_
    have hFc := mw_free hD hS hA
    refine va_calli (va_runSN (As := [.long x4, .int (nI sv)]) (rest := []) ⟨hx, hb, hml, hown, hts⟩ (c_y_holds l dC dI h a e cI cJ cO cE L I M J n cap fE sd si sa dl (b) x4 sv H.size hX (by omega) ) ⟨va_cnB 2 hts wc_y_noteState_y_holds_25 rfl rfl rfl (hN (.methodLinkNest RX3 25 yX8_holds "ServiceTree") (by decide +kernel)) (hts (.initialized RX8) (by decide +kernel)) (by decide +kernel) ⟨Nat.le_of_ble_eq_true rfl, Nat.le_of_ble_eq_true rfl⟩, hts (.static yX8_holds) (by decide +kernel), trivial⟩ ⟨fun a9 U g mk q => by obtain ⟨q0, q1, qP, qK, qD, qN⟩ := q; exact ⟨q0, q1, qP, va_K.moved (u := U) (U := U.calling g mk a9) (Vm.Alike.refl U.vm) qK, qD, pw_N.same (u := U) (U := U.calling g mk a9) rfl qN⟩, fun U hU hW => ⟨rfl, by rw [hU], by rw [hU]; exact hP, va_K.moved hW.alike hK, hD.weaken (fun _ _ _ _ => trivial), pw_N.warm hW hN⟩⟩ rfl rfl hl.1 rfl (lv_room (Nat.le_of_ble_eq_true rfl)) dX3_noteState_17 ⟨Nat.le_of_ble_eq_true rfl, Nat.le_of_ble_eq_true rfl⟩) hS (fun q _ h => hFc q h) hFc (fun r5 u t H1 locs ht hvm hw hB hz1 hk1 hS => ?_)
    replace hP := hB.1
    rw [ht] at hP
    replace hD : va_D A (xW h a e cI cJ cO cE L I M J n cap fE sd si sa dl) := hB.2.weaken (fun _ q _ h9 => hFc q.1 h9)
    clear hB
    generalize H1 = H at hP hS ⊢
    replace hP : va_P (dC, dI) vwCl (xW h a e cI cJ cO cE L I M J n cap fE sd si sa dl) H := hP
    obtain ⟨hw, hwe⟩ := hw
    replace hw : r5 = f_y_holds n dl x4 sv  := hw
    replace hZ9 := bnd_s hZ9 hw
    have br5 := hwe
    refine lv_if_eq (tgt := 36) hx hb dX3_noteState_20 (by decide) (fun c6 => ?_) (fun c6 => ?_)
    · replace hZ9 := ite_t hZ9 c6
      refine lv_iload_n hx hb dX3_noteState_36 rfl (lv_at hl 2 rfl) ?_
      refine lv_if_eq (tgt := 44) hx hb dX3_noteState_37 (by decide) (fun c7 => ?_) (fun c7 => ?_)
      · replace c7 : tv = 0 := (nI_eq (a := tv) (b := 0) (by omega) (by omega)).mp c7
        replace hZ9 := ite_t hZ9 c7
        refine lv_iconst (v := 0) hx hb dX3_noteState_44 (by decide) ?_
        refine lv_istore_n (lv' := [(3, .int 0), (0, .ref (a 3)), (1, .int (nI sv)), (2, .int (nI tv))]) hx hb dX3_noteState_45 rfl hl (by decide) rfl (fun ls hl => ?_)
        refine lv_iload_n hx hb dX3_noteState_46 rfl (lv_at hl 0 rfl) ?_
        refine lv_if_ne (tgt := 55) hx hb dX3_noteState_47 (by decide) (fun c9 => absurd (by decide) c9) (fun _ => ?_)
        refine lv_aload_n hx hb dX3_noteState_50 rfl (lv_at hl 1 rfl) ?_
        refine lv_iload_n hx hb dX3_noteState_51 rfl (lv_at hl 2 rfl) ?_
        have hFc := mw_free hD hS hA
        refine va_callv (va_runV (As := [.int (nI sv)]) (rest := []) ⟨hx, hb, hml, hown, hts⟩ (c_y_jend l dC dI h a e cI cJ cO cE L I M J n cap fE sd si sa dl (b) sv H.size hX (by omega) ) (cwV 1 hts wc_y_noteState_y_jend_47 rfl rfl rfl (by decide +kernel) ⟨Nat.le_of_ble_eq_true rfl, Nat.le_of_ble_eq_true rfl⟩) ⟨fun a9 U g mk q => by obtain ⟨q0, q1, qP, qK, qD, qN⟩ := q; exact ⟨q0, q1, qP, va_K.moved (u := U) (U := U.calling g mk a9) (Vm.Alike.refl U.vm) qK, qD, pw_N.same (u := U) (U := U.calling g mk a9) rfl qN⟩, va_recv hK hP (ci := 4) (q0 := 14) rfl rfl, fun U hU hW => ⟨rfl, by rw [hU], by rw [hU]; exact hP, va_K.moved hW.alike hK, hD.weaken (fun _ _ _ _ => trivial), pw_N.warm hW hN⟩⟩ rfl rfl hl.1 rfl (lv_room (Nat.le_of_ble_eq_true rfl)) dX3_noteState_52 ⟨Nat.le_of_ble_eq_true rfl, Nat.le_of_ble_eq_true rfl⟩) hS (fun q _ h => hFc q h) hFc (fun u t H1 locs ht hvm hw hB hz1 hk1 hS => ?_)
        obtain ⟨L9, rfl⟩ : ∃ z9, z9 = u := ⟨_, rfl⟩
        replace hP := hB.1
        rw [ht] at hP
        replace hD : va_D A (xW h a e cI cJ cO cE L9 I M J n cap fE sd si sa dl) := hB.2.weaken (fun _ q _ h9 => hFc q.1 h9)
        clear hB
        generalize H1 = H at hP hS ⊢
        replace hP : va_P (dC, dI) vwCl (xW h a e cI cJ cO cE L9 I M J n cap fE sd si sa dl) H := hP
        obtain ⟨hwX, whUL, hw⟩ := hw
        replace hX : InvX n cap fE sd dl (b) I J si := hwX
        replace hUL : ∀ j9 : Nat, j9 ∉ ([5, 6, 7] : List Nat) → L9 j9 = L j9 := mw_tr (by decide) whUL hUL
        replace hw : L9 = f_y_jend n dl sv L := hw
        replace hZ9 := bnd_s hZ9 hw
        exact W.vret hx hb hr (fun t ht hW => ⟨⟨L9, rfl, ⟨hX.mono (by omega), hUL, hZ9.symm.trans hR0⟩, by rw [ht]; exact hP, hD⟩, hS.F ht⟩) hS.2.2 dX3_noteState_55
      · replace c7 : ¬ (tv = 0) := fun q9 => c7 ((nI_eq (a := tv) (b := 0) (by omega) (by omega)).mpr q9)
        replace hZ9 := ite_f hZ9 c7
        refine lv_iconst (v := 1) hx hb dX3_noteState_40 (by decide) ?_
        refine lv_goto (tgt := 45) hx hb dX3_noteState_41 (by decide) ?_
        refine lv_istore_n (lv' := [(3, .int 1), (0, .ref (a 3)), (1, .int (nI sv)), (2, .int (nI tv))]) hx hb dX3_noteState_45 rfl hl (by decide) rfl (fun ls hl => ?_)
        refine lv_iload_n hx hb dX3_noteState_46 rfl (lv_at hl 0 rfl) ?_
        refine lv_if_ne (tgt := 55) hx hb dX3_noteState_47 (by decide) (fun _ => ?_) (fun c9 => absurd c9 (by decide))
        exact W.vret hx hb hr (fun t ht hW => ⟨⟨L, rfl, ⟨hX.mono (by omega), hUL, hZ9.symm.trans hR0⟩, by rw [ht]; exact hP, hD⟩, hS.F ht⟩) hS.2.2 dX3_noteState_55
    · replace hZ9 := ite_f hZ9 c6
      refine lv_iload_n hx hb dX3_noteState_23 rfl (lv_at hl 2 rfl) ?_
      refine lv_iconst (v := 1) hx hb dX3_noteState_24 (by decide) ?_
      refine lv_icmp_ne (tgt := 32) hx hb dX3_noteState_25 (by decide) (fun c10 => ?_) (fun c10 => ?_)
      · replace c10 : ¬ (tv = 1) := fun q9 => c10 ((nI_eq (a := tv) (b := 1) (by omega) (by omega)).mpr q9)
        replace hZ9 := ite_f hZ9 c10
        refine lv_iconst (v := 0) hx hb dX3_noteState_32 (by decide) ?_
        refine lv_goto (tgt := 45) hx hb dX3_noteState_33 (by decide) ?_
        refine lv_istore_n (lv' := [(3, .int 0), (0, .ref (a 3)), (1, .int (nI sv)), (2, .int (nI tv))]) hx hb dX3_noteState_45 rfl hl (by decide) rfl (fun ls hl => ?_)
        refine lv_iload_n hx hb dX3_noteState_46 rfl (lv_at hl 0 rfl) ?_
        refine lv_if_ne (tgt := 55) hx hb dX3_noteState_47 (by decide) (fun c9 => absurd (by decide) c9) (fun _ => ?_)
        refine lv_aload_n hx hb dX3_noteState_50 rfl (lv_at hl 1 rfl) ?_
        refine lv_iload_n hx hb dX3_noteState_51 rfl (lv_at hl 2 rfl) ?_
        have hFc := mw_free hD hS hA
        refine va_callv (va_runV (As := [.int (nI sv)]) (rest := []) ⟨hx, hb, hml, hown, hts⟩ (c_y_jend l dC dI h a e cI cJ cO cE L I M J n cap fE sd si sa dl (b) sv H.size hX (by omega) ) (cwV 1 hts wc_y_noteState_y_jend_47 rfl rfl rfl (by decide +kernel) ⟨Nat.le_of_ble_eq_true rfl, Nat.le_of_ble_eq_true rfl⟩) ⟨fun a9 U g mk q => by obtain ⟨q0, q1, qP, qK, qD, qN⟩ := q; exact ⟨q0, q1, qP, va_K.moved (u := U) (U := U.calling g mk a9) (Vm.Alike.refl U.vm) qK, qD, pw_N.same (u := U) (U := U.calling g mk a9) rfl qN⟩, va_recv hK hP (ci := 4) (q0 := 14) rfl rfl, fun U hU hW => ⟨rfl, by rw [hU], by rw [hU]; exact hP, va_K.moved hW.alike hK, hD.weaken (fun _ _ _ _ => trivial), pw_N.warm hW hN⟩⟩ rfl rfl hl.1 rfl (lv_room (Nat.le_of_ble_eq_true rfl)) dX3_noteState_52 ⟨Nat.le_of_ble_eq_true rfl, Nat.le_of_ble_eq_true rfl⟩) hS (fun q _ h => hFc q h) hFc (fun u t H1 locs ht hvm hw hB hz1 hk1 hS => ?_)
        obtain ⟨L12, rfl⟩ : ∃ z9, z9 = u := ⟨_, rfl⟩
        replace hP := hB.1
        rw [ht] at hP
        replace hD : va_D A (xW h a e cI cJ cO cE L12 I M J n cap fE sd si sa dl) := hB.2.weaken (fun _ q _ h9 => hFc q.1 h9)
        clear hB
        generalize H1 = H at hP hS ⊢
        replace hP : va_P (dC, dI) vwCl (xW h a e cI cJ cO cE L12 I M J n cap fE sd si sa dl) H := hP
        obtain ⟨hwX, whUL, hw⟩ := hw
        replace hX : InvX n cap fE sd dl (b) I J si := hwX
        replace hUL : ∀ j9 : Nat, j9 ∉ ([5, 6, 7] : List Nat) → L12 j9 = L j9 := mw_tr (by decide) whUL hUL
        replace hw : L12 = f_y_jend n dl sv L := hw
        replace hZ9 := bnd_s hZ9 hw
        exact W.vret hx hb hr (fun t ht hW => ⟨⟨L12, rfl, ⟨hX.mono (by omega), hUL, hZ9.symm.trans hR0⟩, by rw [ht]; exact hP, hD⟩, hS.F ht⟩) hS.2.2 dX3_noteState_55
      · replace c10 : tv = 1 := (nI_eq (a := tv) (b := 1) (by omega) (by omega)).mp c10
        replace hZ9 := ite_t hZ9 c10
        refine lv_iconst (v := 1) hx hb dX3_noteState_28 (by decide) ?_
        refine lv_goto (tgt := 45) hx hb dX3_noteState_29 (by decide) ?_
        refine lv_istore_n (lv' := [(3, .int 1), (0, .ref (a 3)), (1, .int (nI sv)), (2, .int (nI tv))]) hx hb dX3_noteState_45 rfl hl (by decide) rfl (fun ls hl => ?_)
        refine lv_iload_n hx hb dX3_noteState_46 rfl (lv_at hl 0 rfl) ?_
        refine lv_if_ne (tgt := 55) hx hb dX3_noteState_47 (by decide) (fun _ => ?_) (fun c9 => absurd c9 (by decide))
        exact W.vret hx hb hr (fun t ht hW => ⟨⟨L, rfl, ⟨hX.mono (by omega), hUL, hZ9.symm.trans hR0⟩, by rw [ht]; exact hP, hD⟩, hS.F ht⟩) hS.2.2 dX3_noteState_55
  · replace hZ9 := ite_t hZ9 c3
    exact W.vret hx hb hr (fun t ht hW => ⟨⟨L, rfl, ⟨hX.mono (by omega), hUL, hZ9.symm.trans hR0⟩, by rw [ht]; exact hP, hD⟩, hS.F ht⟩) hS.2.2 dX3_noteState_11
def f_y_allow (n : Nat) (dl : Nat → Nat) (sv : Nat) (p0 : Int32) (bv : Nat) (p2 : Int32) (si : Nat → Nat → Int32) : (Nat → Nat → Int32) := bnd (up2 si sv 23 p0) (fun (si1 : Nat → Nat → Int32) => bnd (up2 si1 sv 24 (nI bv)) (fun (si2 : Nat → Nat → Int32) => bnd (up2 si2 sv 25 p2) (fun (si3 : Nat → Nat → Int32) => (si3))))
def wq_y_allow : List Cond := ([.code yX6_allow cX6_allow 4 none, .fieldLink RX6 15 "ServiceTree$Restarts" "delay" "I", .fieldLink RX6 22 "ServiceTree$Restarts" "budget" "I", .fieldLink RX6 19 "ServiceTree$Restarts" "window" "I"] : List Cond) ++ (wsX60)
theorem in_y_allow_X6 : ∀ w ∈ wsX60, w ∈ wq_y_allow := fun _ h => List.mem_append_right _ (h)
set_option maxRecDepth 20000 in
theorem wi_y_allow : ∀ w ∈ wq_y_allow, w ∈ lw_tbl := List.forall_mem_append.mpr ⟨(wix [474, 293, 295, 296] rfl), inKX6⟩
set_option maxRecDepth 20000 in
theorem wg_y_allow : GoodIn wq_y_allow wq_y_allow := goodIn_sub (fun _ h => h) (by decide +kernel)
def rm_y_allow : Room := { frames := 0, cells := 0, slots := 0, locals := 0 }
set_option maxHeartbeats 4000000 in
set_option maxRecDepth 100000 in
theorem c_y_allow (l : Launch) (dC : Nat → ClassId) (dI : Nat → Nat → Nat) (h : Nat) (a : Nat → Nat) (e : Nat) (cI cJ cO cE : ClassId) (L : Nat → Int64) (I : Nat → Int32) (M : Nat → Nat → Int64) (J : Nat → Nat → Int32) (n cap : Nat) (fE : Nat → Option Nat) (sd : Nat → Nat → Nat) (si : Nat → Nat → Int32) (sa : Nat → Nat → Nat → Int32) (dl : Nat → Nat) (b : Nat) (sv : Nat) (p0 : Int32) (bv : Nat) (p2 : Int32) (sz : Nat) (hX0 : InvX n cap fE sd dl b I J si) (hb0 : b + 0 < 2147483648) (hp0 : sv < n) (hp1 : bv ≤ 10) : Met l yX6_allow wq_y_allow rm_y_allow (va_Pc [.ref (sd sv 2), .int p0, .int (nI bv), .int p2] (fun U => U.heap.size = sz ∧ va_P (dC, dI) vwCl (xW h a e cI cJ cO cE L I M J n cap fE sd si sa dl) U.heap ∧ va_K (dC, dI) vwCl (xT cI cJ cO cE) U ∧ va_D (fun _ => True) (xW h a e cI cJ cO cE L I M J n cap fE sd si sa dl) ∧ pw_N U)) (va_Qv (fun (u : (Nat → Nat → Int32)) => InvX n cap fE sd dl (b + 0) I J u ∧ (∀ s9 q9 : Nat, q9 ∉ ([23, 24, 25] : List Nat) → u s9 q9 = si s9 q9) ∧ (u = f_y_allow n dl sv p0 bv p2 si)) (fun (u : (Nat → Nat → Int32)) (t : State) => va_P (dC, dI) vwCl (xW h a e cI cJ cO cE L I M J n cap fE sd u sa dl) t.heap ∧ va_D (va_A (xW h a e cI cJ cO cE L I M J n cap fE sd si sa dl) sz) (xW h a e cI cJ cO cE L I M J n cap fE sd u sa dl)) (va_A (xW h a e cI cJ cO cE L I M J n cap fE sd si sa dl) sz)) 0 0 (va_A (xW h a e cI cJ cO cE L I M J n cap fE sd si sa dl) sz) := by
  have hn : n ≤ 40 := hX0.1.1
  have hX := hX0
  have hUsi : ∀ s9 q9 : Nat, q9 ∉ ([23, 24, 25] : List Nat) → si s9 q9 = si s9 q9 := fun _ _ _ => rfl
  refine Met.ofW (cc := cX6_allow) (maxL := 4) (ret := none) (by decide) rfl ?_
  intro p e9 s m args below meth c s₁ B hml hv
  obtain ⟨rfl, hsz, hP, hK, hD0, hN⟩ := hv
  have hx := B.exec
  have hb := B.bytes
  have hr := B.returns
  have hts := atoms_spec (ws := wq_y_allow) B.pre
  have hown : s.vm.findClass RX6 = some m.cls := findClass_of_methodNamed B.named
  have hlocks := B.notSynchronized
  subst hsz
  have hD := hD0.self (sz := s.heap.size)
  generalize hAe : va_A (xW h a e cI cJ cO cE L I M J n cap fE sd si sa dl) s.heap.size = A at hD ⊢
  have hA : ∀ q : Nat, s.heap.size ≤ q → A q := fun q h => by rw [← hAe]; exact Or.inr h
  have hS : va_S A s.heap s.heap [] := va_S.rf
  have hl := lv_entry ([.ref (sd sv 2), .int p0, .int (nI bv), .int p2]) (n := 4) (Nat.le_of_ble_eq_true rfl)
  rw [lg_entry_eq]
  generalize (lg_sl ([.ref (sd sv 2), .int p0, .int (nI bv), .int p2]) ++ List.replicate (4 - (lg_sl ([.ref (sd sv 2), .int p0, .int (nI bv), .int p2])).length) Slot.unset).toArray = ls at hl ⊢
  have hl : lv_has ls 4 [(0, .ref (sd sv 2)), (1, .int p0), (2, .int (nI bv)), (3, .int p2)] := hl
  obtain ⟨RES, hR0⟩ : ∃ R9, R9 = f_y_allow n dl sv p0 bv p2 si := ⟨_, rfl⟩
  have hZ9 := hR0
  unfold f_y_allow at hZ9
  refine lv_aload_n hx hb dX6_allow_0 rfl (lv_at hl 0 rfl) ?_
  refine lv_iload_n hx hb dX6_allow_1 rfl (lv_at hl 1 rfl) ?_
  refine va_put (D := (dC, dI)) (ci := 7) (fs := [.ref (sd sv 3), .int (si sv 21), .int (si sv 22), .int (si sv 23), .int (si sv 24), .int (si sv 25)]) (v := .int p0) (ty := .int) (C := RX6) (T := TX6) (N := 6) hx hb hts in_y_allow_X6 tyX6 tyX6_ok nmX6 hown hK hP hD hS (22 + (6 * sv + 2)) (xAt_2 h a e cI cJ cO cE L I M J n cap fE sd si sa dl (s := sv) (by omega)) rfl 3 (by decide) (hts (.fieldLink RX6 15 "ServiceTree$Restarts" "delay" "I") (by decide +kernel)) (fun _ h9 => h9) rfl (by decide +kernel) rfl rfl (Nat.le_of_ble_eq_true rfl) dX6_allow_2 (fun H locs hP hD hS => ?_)
  replace hP : va_P (dC, dI) vwCl ((xW h a e cI cJ cO cE L I M J n cap fE sd si sa dl).set (22 + (6 * sv + 2)) (sd sv 2, .inr (7, [.ref (sd sv 3), .int (si sv 21), .int (si sv 22), .int p0, .int (si sv 24), .int (si sv 25)]))) H := hP
  replace hD : va_D A ((xW h a e cI cJ cO cE L I M J n cap fE sd si sa dl).set (22 + (6 * sv + 2)) (sd sv 2, .inr (7, [.ref (sd sv 3), .int (si sv 21), .int (si sv 22), .int p0, .int (si sv 24), .int (si sv 25)]))) := hD
  rw [xSv_23 h a e cI cJ cO cE L I M J n cap fE sd si sa dl (s := sv) (by omega)] at hP hD
  obtain ⟨si1, esi1⟩ : ∃ f9 : Nat → Nat → Int32, f9 = up2 si sv 23 p0 := ⟨_, rfl⟩
  rw [← esi1] at hP hD
  replace hZ9 := bnd_s hZ9 esi1
  replace hX : InvX n cap fE sd dl (b) I J si1 := by rw [esi1]; exact hX.setsi (by decide)
  replace hUsi : ∀ s9 q9 : Nat, q9 ∉ ([23, 24, 25] : List Nat) → si1 s9 q9 = si s9 q9 := by rw [esi1]; exact xw_up2 (by decide) hUsi
  refine lv_aload_n hx hb dX6_allow_5 rfl (lv_at hl 0 rfl) ?_
  refine lv_iload_n hx hb dX6_allow_6 rfl (lv_at hl 2 rfl) ?_
  refine va_put (D := (dC, dI)) (ci := 7) (fs := [.ref (sd sv 3), .int (si1 sv 21), .int (si1 sv 22), .int (si1 sv 23), .int (si1 sv 24), .int (si1 sv 25)]) (v := .int (nI bv)) (ty := .int) (C := RX6) (T := TX6) (N := 6) hx hb hts in_y_allow_X6 tyX6 tyX6_ok nmX6 hown hK hP hD hS (22 + (6 * sv + 2)) (xAt_2 h a e cI cJ cO cE L I M J n cap fE sd si1 sa dl (s := sv) (by omega)) rfl 4 (by decide) (hts (.fieldLink RX6 22 "ServiceTree$Restarts" "budget" "I") (by decide +kernel)) (fun _ h9 => h9) rfl (by decide +kernel) rfl rfl (Nat.le_of_ble_eq_true rfl) dX6_allow_7 (fun H locs hP hD hS => ?_)
  replace hP : va_P (dC, dI) vwCl ((xW h a e cI cJ cO cE L I M J n cap fE sd si1 sa dl).set (22 + (6 * sv + 2)) (sd sv 2, .inr (7, [.ref (sd sv 3), .int (si1 sv 21), .int (si1 sv 22), .int (si1 sv 23), .int (nI bv), .int (si1 sv 25)]))) H := hP
  replace hD : va_D A ((xW h a e cI cJ cO cE L I M J n cap fE sd si1 sa dl).set (22 + (6 * sv + 2)) (sd sv 2, .inr (7, [.ref (sd sv 3), .int (si1 sv 21), .int (si1 sv 22), .int (si1 sv 23), .int (nI bv), .int (si1 sv 25)]))) := hD
  rw [xSv_24 h a e cI cJ cO cE L I M J n cap fE sd si1 sa dl (s := sv) (by omega)] at hP hD
  obtain ⟨si2, esi2⟩ : ∃ f9 : Nat → Nat → Int32, f9 = up2 si1 sv 24 (nI bv) := ⟨_, rfl⟩
  rw [← esi2] at hP hD
  replace hZ9 := bnd_s hZ9 esi2
  replace hX : InvX n cap fE sd dl (b) I J si2 := by rw [esi2]; exact hX.set24 (x := bv) (by omega)
  replace hUsi : ∀ s9 q9 : Nat, q9 ∉ ([23, 24, 25] : List Nat) → si2 s9 q9 = si s9 q9 := by rw [esi2]; exact xw_up2 (by decide) hUsi
  refine lv_aload_n hx hb dX6_allow_10 rfl (lv_at hl 0 rfl) ?_
  refine lv_iload_n hx hb dX6_allow_11 rfl (lv_at hl 3 rfl) ?_
  refine va_put (D := (dC, dI)) (ci := 7) (fs := [.ref (sd sv 3), .int (si2 sv 21), .int (si2 sv 22), .int (si2 sv 23), .int (si2 sv 24), .int (si2 sv 25)]) (v := .int p2) (ty := .int) (C := RX6) (T := TX6) (N := 6) hx hb hts in_y_allow_X6 tyX6 tyX6_ok nmX6 hown hK hP hD hS (22 + (6 * sv + 2)) (xAt_2 h a e cI cJ cO cE L I M J n cap fE sd si2 sa dl (s := sv) (by omega)) rfl 5 (by decide) (hts (.fieldLink RX6 19 "ServiceTree$Restarts" "window" "I") (by decide +kernel)) (fun _ h9 => h9) rfl (by decide +kernel) rfl rfl (Nat.le_of_ble_eq_true rfl) dX6_allow_12 (fun H locs hP hD hS => ?_)
  replace hP : va_P (dC, dI) vwCl ((xW h a e cI cJ cO cE L I M J n cap fE sd si2 sa dl).set (22 + (6 * sv + 2)) (sd sv 2, .inr (7, [.ref (sd sv 3), .int (si2 sv 21), .int (si2 sv 22), .int (si2 sv 23), .int (si2 sv 24), .int p2]))) H := hP
  replace hD : va_D A ((xW h a e cI cJ cO cE L I M J n cap fE sd si2 sa dl).set (22 + (6 * sv + 2)) (sd sv 2, .inr (7, [.ref (sd sv 3), .int (si2 sv 21), .int (si2 sv 22), .int (si2 sv 23), .int (si2 sv 24), .int p2]))) := hD
  rw [xSv_25 h a e cI cJ cO cE L I M J n cap fE sd si2 sa dl (s := sv) (by omega)] at hP hD
  obtain ⟨si3, esi3⟩ : ∃ f9 : Nat → Nat → Int32, f9 = up2 si2 sv 25 p2 := ⟨_, rfl⟩
  rw [← esi3] at hP hD
  replace hZ9 := bnd_s hZ9 esi3
  replace hX : InvX n cap fE sd dl (b) I J si3 := by rw [esi3]; exact hX.setsi (by decide)
  replace hUsi : ∀ s9 q9 : Nat, q9 ∉ ([23, 24, 25] : List Nat) → si3 s9 q9 = si s9 q9 := by rw [esi3]; exact xw_up2 (by decide) hUsi
  exact W.vret hx hb hr (fun t ht hW => ⟨⟨si3, rfl, ⟨hX.mono (by omega), hUsi, hZ9.symm.trans hR0⟩, by rw [ht]; exact hP, hD⟩, hS.F ht⟩) hS.2.2 dX6_allow_15
def f_y_note (n : Nat) (dl : Nat → Nat) (sv : Nat) (p0 : Int32) (si : Nat → Nat → Int32) (sa : Nat → Nat → Nat → Int32) : (Nat → Nat → Int32) × (Nat → Nat → Nat → Int32) := bnd ((si sv 21).toNatClampNeg) (fun (z1 : Nat) => bnd (up2 sa sv 3 (upd (sa sv 3) (nI z1).toNatClampNeg p0)) (fun (sa2 : Nat → Nat → Nat → Int32) => bnd ((z1 + 1) % 10) (fun (m3 : Nat) => bnd (up2 si sv 21 (nI m3)) (fun (si4 : Nat → Nat → Int32) => bnd (si4 sv 22) (fun (x5 : Int32) => if (10 : Int32) ≤ x5 then ((si4, sa2)) else (bnd (x5 + (1 : Int32)) (fun (x7 : Int32) => bnd (up2 si4 sv 22 x7) (fun (si8 : Nat → Nat → Int32) => (si8, sa2)))))))))
def wq_y_note : List Cond := ([.code yX6_note cX6_note 2 none, .fieldLink RX6 9 "ServiceTree$Restarts" "times" "[I", .fieldLink RX6 25 "ServiceTree$Restarts" "next" "I", .fieldLink RX6 28 "ServiceTree$Restarts" "filled" "I"] : List Cond) ++ (wsX60)
theorem in_y_note_X6 : ∀ w ∈ wsX60, w ∈ wq_y_note := fun _ h => List.mem_append_right _ (h)
set_option maxRecDepth 20000 in
theorem wi_y_note : ∀ w ∈ wq_y_note, w ∈ lw_tbl := List.forall_mem_append.mpr ⟨(wix [607, 290, 291, 292] rfl), inKX6⟩
set_option maxRecDepth 20000 in
theorem wg_y_note : GoodIn wq_y_note wq_y_note := goodIn_sub (fun _ h => h) (by decide +kernel)
def rm_y_note : Room := { frames := 0, cells := 0, slots := 0, locals := 0 }
set_option maxHeartbeats 4000000 in
set_option maxRecDepth 100000 in
theorem c_y_note (l : Launch) (dC : Nat → ClassId) (dI : Nat → Nat → Nat) (h : Nat) (a : Nat → Nat) (e : Nat) (cI cJ cO cE : ClassId) (L : Nat → Int64) (I : Nat → Int32) (M : Nat → Nat → Int64) (J : Nat → Nat → Int32) (n cap : Nat) (fE : Nat → Option Nat) (sd : Nat → Nat → Nat) (si : Nat → Nat → Int32) (sa : Nat → Nat → Nat → Int32) (dl : Nat → Nat) (b : Nat) (sv : Nat) (p0 : Int32) (sz : Nat) (hX0 : InvX n cap fE sd dl b I J si) (hb0 : b + 0 < 2147483648) (hp0 : sv < n) : Met l yX6_note wq_y_note rm_y_note (va_Pc [.ref (sd sv 2), .int p0] (fun U => U.heap.size = sz ∧ va_P (dC, dI) vwCl (xW h a e cI cJ cO cE L I M J n cap fE sd si sa dl) U.heap ∧ va_K (dC, dI) vwCl (xT cI cJ cO cE) U ∧ va_D (fun _ => True) (xW h a e cI cJ cO cE L I M J n cap fE sd si sa dl) ∧ pw_N U)) (va_Qv (fun (u : (Nat → Nat → Int32) × (Nat → Nat → Nat → Int32)) => InvX n cap fE sd dl (b + 0) I J u.1 ∧ (∀ s9 q9 : Nat, q9 ∉ ([21, 22] : List Nat) → u.1 s9 q9 = si s9 q9) ∧ (∀ s9 q9 : Nat, q9 ∉ ([3] : List Nat) → u.2 s9 q9 = sa s9 q9) ∧ (u = f_y_note n dl sv p0 si sa)) (fun (u : (Nat → Nat → Int32) × (Nat → Nat → Nat → Int32)) (t : State) => va_P (dC, dI) vwCl (xW h a e cI cJ cO cE L I M J n cap fE sd u.1 u.2 dl) t.heap ∧ va_D (va_A (xW h a e cI cJ cO cE L I M J n cap fE sd si sa dl) sz) (xW h a e cI cJ cO cE L I M J n cap fE sd u.1 u.2 dl)) (va_A (xW h a e cI cJ cO cE L I M J n cap fE sd si sa dl) sz)) 0 0 (va_A (xW h a e cI cJ cO cE L I M J n cap fE sd si sa dl) sz) := by
  have hn : n ≤ 40 := hX0.1.1
  have hX := hX0
  have hUsi : ∀ s9 q9 : Nat, q9 ∉ ([21, 22] : List Nat) → si s9 q9 = si s9 q9 := fun _ _ _ => rfl
  have hUsa : ∀ s9 q9 : Nat, q9 ∉ ([3] : List Nat) → sa s9 q9 = sa s9 q9 := fun _ _ _ => rfl
  refine Met.ofW (cc := cX6_note) (maxL := 2) (ret := none) (by decide) rfl ?_
  intro p e9 s m args below meth c s₁ B hml hv
  obtain ⟨rfl, hsz, hP, hK, hD0, hN⟩ := hv
  have hx := B.exec
  have hb := B.bytes
  have hr := B.returns
  have hts := atoms_spec (ws := wq_y_note) B.pre
  have hown : s.vm.findClass RX6 = some m.cls := findClass_of_methodNamed B.named
  have hlocks := B.notSynchronized
  subst hsz
  have hD := hD0.self (sz := s.heap.size)
  generalize hAe : va_A (xW h a e cI cJ cO cE L I M J n cap fE sd si sa dl) s.heap.size = A at hD ⊢
  have hA : ∀ q : Nat, s.heap.size ≤ q → A q := fun q h => by rw [← hAe]; exact Or.inr h
  have hS : va_S A s.heap s.heap [] := va_S.rf
  have hl := lv_entry ([.ref (sd sv 2), .int p0]) (n := 2) (Nat.le_of_ble_eq_true rfl)
  rw [lg_entry_eq]
  generalize (lg_sl ([.ref (sd sv 2), .int p0]) ++ List.replicate (2 - (lg_sl ([.ref (sd sv 2), .int p0])).length) Slot.unset).toArray = ls at hl ⊢
  have hl : lv_has ls 2 [(0, .ref (sd sv 2)), (1, .int p0)] := hl
  obtain ⟨RES, hR0⟩ : ∃ R9, R9 = f_y_note n dl sv p0 si sa := ⟨_, rfl⟩
  have hZ9 := hR0
  unfold f_y_note at hZ9
  refine lv_aload_n hx hb dX6_note_0 rfl (lv_at hl 0 rfl) ?_
  refine va_get (D := (dC, dI)) (ci := 7) (v := .ref (sd sv 3)) (C := RX6) (T := TX6) (N := 6) hx hb hts in_y_note_X6 hown hK hP (22 + (6 * sv + 2)) (xAt_2 h a e cI cJ cO cE L I M J n cap fE sd si sa dl (s := sv) (by omega)) rfl 0 (by decide) (hts (.fieldLink RX6 9 "ServiceTree$Restarts" "times" "[I") (by decide +kernel)) (fun _ h9 => h9) rfl dX6_note_1 ?_
  refine lv_aload_n hx hb dX6_note_4 rfl (lv_at hl 0 rfl) ?_
  refine va_get (D := (dC, dI)) (ci := 7) (v := .int (si sv 21)) (C := RX6) (T := TX6) (N := 6) hx hb hts in_y_note_X6 hown hK hP (22 + (6 * sv + 2)) (xAt_2 h a e cI cJ cO cE L I M J n cap fE sd si sa dl (s := sv) (by omega)) rfl 1 (by decide) (hts (.fieldLink RX6 25 "ServiceTree$Restarts" "next" "I") (by decide +kernel)) (fun _ h9 => h9) rfl dX6_note_5 ?_
  obtain ⟨z1, hz1, ez1⟩ := hX.2.2.2.2.1 sv
  refine p1_topr (v := .int (nI z1)) (congrArg Value.int ez1) ?_
  replace hZ9 := bnd_s hZ9 (show z1 = (si sv 21).toNatClampNeg by rw [ez1, nI_clamp (by omega)])
  refine lv_iload_n hx hb dX6_note_8 rfl (lv_at hl 1 rfl) ?_
  refine va_iast (n := 10) (f := sa sv 3) hx hb hK hP hD hS (22 + (6 * sv + 3)) 0 (xAt_3 h a e cI cJ cO cE L I M J n cap fE sd si sa dl (s := sv) (by omega)) rfl (vp_in_nI (n := z1) (by omega) (by omega)) dX6_note_9 (fun H locs hP hD hS => ?_)
  rw [xSa_3 h a e cI cJ cO cE L I M J n cap fE sd si sa dl (s := sv) (by omega)] at hP hD
  obtain ⟨sa2, esa2⟩ : ∃ f9 : Nat → Nat → Nat → Int32, f9 = up2 sa sv 3 (upd (sa sv 3) (nI z1).toNatClampNeg p0) := ⟨_, rfl⟩
  rw [← esa2] at hP hD
  replace hZ9 := bnd_s hZ9 esa2
  replace hUsa : ∀ s9 q9 : Nat, q9 ∉ ([3] : List Nat) → sa2 s9 q9 = sa s9 q9 := by rw [esa2]; exact xw_up2 (by decide) hUsa
  refine lv_aload_n hx hb dX6_note_10 rfl (lv_at hl 0 rfl) ?_
  refine lv_aload_n hx hb dX6_note_11 rfl (lv_at hl 0 rfl) ?_
  refine va_get (D := (dC, dI)) (ci := 7) (v := .int (si sv 21)) (C := RX6) (T := TX6) (N := 6) hx hb hts in_y_note_X6 hown hK hP (22 + (6 * sv + 2)) (xAt_2 h a e cI cJ cO cE L I M J n cap fE sd si sa2 dl (s := sv) (by omega)) rfl 1 (by decide) (hts (.fieldLink RX6 25 "ServiceTree$Restarts" "next" "I") (by decide +kernel)) (fun _ h9 => h9) rfl dX6_note_12 ?_
  refine p1_topr (v := .int (nI z1)) (congrArg Value.int ez1) ?_
  refine lv_iconst (v := 1) hx hb dX6_note_15 (by decide) ?_
  refine lv_iadd hx hb dX6_note_16 ?_
  refine p1_topr (v := .int (nI (z1 + 1))) (congrArg Value.int (nI_add z1 1)) ?_
  refine lv_bipush (v := 10) hx hb dX6_note_17 (by decide) ?_
  refine lv_irem hx hb dX6_note_19 (by decide) ?_
  obtain ⟨m3, hm3, em3⟩ : ∃ z9 : Nat, z9 < 10 ∧ z9 = (z1 + 1) % 10 := ⟨_, Nat.mod_lt _ (by omega), rfl⟩
  refine p1_topr (v := .int (nI m3)) (congrArg Value.int (by rw [em3]; exact pk_rem (a := z1 + 1) (d := 10) (by omega) (by omega) (by omega))) ?_
  replace hZ9 := bnd_s hZ9 em3
  refine va_put (D := (dC, dI)) (ci := 7) (fs := [.ref (sd sv 3), .int (si sv 21), .int (si sv 22), .int (si sv 23), .int (si sv 24), .int (si sv 25)]) (v := .int (nI m3)) (ty := .int) (C := RX6) (T := TX6) (N := 6) hx hb hts in_y_note_X6 tyX6 tyX6_ok nmX6 hown hK hP hD hS (22 + (6 * sv + 2)) (xAt_2 h a e cI cJ cO cE L I M J n cap fE sd si sa2 dl (s := sv) (by omega)) rfl 1 (by decide) (hts (.fieldLink RX6 25 "ServiceTree$Restarts" "next" "I") (by decide +kernel)) (fun _ h9 => h9) rfl (by decide +kernel) rfl rfl (Nat.le_of_ble_eq_true rfl) dX6_note_20 (fun H locs hP hD hS => ?_)
  replace hP : va_P (dC, dI) vwCl ((xW h a e cI cJ cO cE L I M J n cap fE sd si sa2 dl).set (22 + (6 * sv + 2)) (sd sv 2, .inr (7, [.ref (sd sv 3), .int (nI m3), .int (si sv 22), .int (si sv 23), .int (si sv 24), .int (si sv 25)]))) H := hP
  replace hD : va_D A ((xW h a e cI cJ cO cE L I M J n cap fE sd si sa2 dl).set (22 + (6 * sv + 2)) (sd sv 2, .inr (7, [.ref (sd sv 3), .int (nI m3), .int (si sv 22), .int (si sv 23), .int (si sv 24), .int (si sv 25)]))) := hD
  rw [xSv_21 h a e cI cJ cO cE L I M J n cap fE sd si sa2 dl (s := sv) (by omega)] at hP hD
  obtain ⟨si4, esi4⟩ : ∃ f9 : Nat → Nat → Int32, f9 = up2 si sv 21 (nI m3) := ⟨_, rfl⟩
  rw [← esi4] at hP hD
  replace hZ9 := bnd_s hZ9 esi4
  replace hX : InvX n cap fE sd dl (b) I J si4 := by rw [esi4]; exact hX.set21 (x := m3) (by omega)
  replace hUsi : ∀ s9 q9 : Nat, q9 ∉ ([21, 22] : List Nat) → si4 s9 q9 = si s9 q9 := by rw [esi4]; exact xw_up2 (by decide) hUsi
  refine lv_aload_n hx hb dX6_note_23 rfl (lv_at hl 0 rfl) ?_
  refine va_get (D := (dC, dI)) (ci := 7) (v := .int (si4 sv 22)) (C := RX6) (T := TX6) (N := 6) hx hb hts in_y_note_X6 hown hK hP (22 + (6 * sv + 2)) (xAt_2 h a e cI cJ cO cE L I M J n cap fE sd si4 sa2 dl (s := sv) (by omega)) rfl 2 (by decide) (hts (.fieldLink RX6 28 "ServiceTree$Restarts" "filled" "I") (by decide +kernel)) (fun _ h9 => h9) rfl dX6_note_24 ?_
  refine lv_topi (fun x5 ex5 => ?_)
  replace hZ9 := bnd_s hZ9 ex5
  refine lv_bipush (v := 10) hx hb dX6_note_27 (by decide) ?_
  refine lv_icmp_ge (tgt := 42) hx hb dX6_note_29 (by decide) (fun c6 => ?_) (fun c6 => ?_)
  · replace hZ9 := ite_t hZ9 c6
    exact W.vret hx hb hr (fun t ht hW => ⟨⟨(si4, sa2), rfl, ⟨hX.mono (by omega), hUsi, hUsa, hZ9.symm.trans hR0⟩, by rw [ht]; exact hP, hD⟩, hS.F ht⟩) hS.2.2 dX6_note_42
  · replace hZ9 := ite_f hZ9 c6
    refine lv_aload_n hx hb dX6_note_32 rfl (lv_at hl 0 rfl) ?_
    refine lv_dup hx hb dX6_note_33 rfl ?_
    refine va_get (D := (dC, dI)) (ci := 7) (v := .int (si4 sv 22)) (C := RX6) (T := TX6) (N := 6) hx hb hts in_y_note_X6 hown hK hP (22 + (6 * sv + 2)) (xAt_2 h a e cI cJ cO cE L I M J n cap fE sd si4 sa2 dl (s := sv) (by omega)) rfl 2 (by decide) (hts (.fieldLink RX6 28 "ServiceTree$Restarts" "filled" "I") (by decide +kernel)) (fun _ h9 => h9) rfl dX6_note_34 ?_
    refine p1_topr (v := .int x5) (congrArg Value.int ex5.symm) ?_
    refine lv_iconst (v := 1) hx hb dX6_note_37 (by decide) ?_
    refine lv_iadd hx hb dX6_note_38 ?_
    refine lv_topi (fun x7 ex7 => ?_)
    replace hZ9 := bnd_s hZ9 ex7
    refine va_put (D := (dC, dI)) (ci := 7) (fs := [.ref (sd sv 3), .int (si4 sv 21), .int (si4 sv 22), .int (si4 sv 23), .int (si4 sv 24), .int (si4 sv 25)]) (v := .int x7) (ty := .int) (C := RX6) (T := TX6) (N := 6) hx hb hts in_y_note_X6 tyX6 tyX6_ok nmX6 hown hK hP hD hS (22 + (6 * sv + 2)) (xAt_2 h a e cI cJ cO cE L I M J n cap fE sd si4 sa2 dl (s := sv) (by omega)) rfl 2 (by decide) (hts (.fieldLink RX6 28 "ServiceTree$Restarts" "filled" "I") (by decide +kernel)) (fun _ h9 => h9) rfl (by decide +kernel) rfl rfl (Nat.le_of_ble_eq_true rfl) dX6_note_39 (fun H locs hP hD hS => ?_)
    replace hP : va_P (dC, dI) vwCl ((xW h a e cI cJ cO cE L I M J n cap fE sd si4 sa2 dl).set (22 + (6 * sv + 2)) (sd sv 2, .inr (7, [.ref (sd sv 3), .int (si4 sv 21), .int x7, .int (si4 sv 23), .int (si4 sv 24), .int (si4 sv 25)]))) H := hP
    replace hD : va_D A ((xW h a e cI cJ cO cE L I M J n cap fE sd si4 sa2 dl).set (22 + (6 * sv + 2)) (sd sv 2, .inr (7, [.ref (sd sv 3), .int (si4 sv 21), .int x7, .int (si4 sv 23), .int (si4 sv 24), .int (si4 sv 25)]))) := hD
    rw [xSv_22 h a e cI cJ cO cE L I M J n cap fE sd si4 sa2 dl (s := sv) (by omega)] at hP hD
    obtain ⟨si8, esi8⟩ : ∃ f9 : Nat → Nat → Int32, f9 = up2 si4 sv 22 x7 := ⟨_, rfl⟩
    rw [← esi8] at hP hD
    replace hZ9 := bnd_s hZ9 esi8
    replace hX : InvX n cap fE sd dl (b) I J si8 := by rw [esi8]; exact hX.setsi (by decide)
    replace hUsi : ∀ s9 q9 : Nat, q9 ∉ ([21, 22] : List Nat) → si8 s9 q9 = si s9 q9 := by rw [esi8]; exact xw_up2 (by decide) hUsi
    exact W.vret hx hb hr (fun t ht hW => ⟨⟨(si8, sa2), rfl, ⟨hX.mono (by omega), hUsi, hUsa, hZ9.symm.trans hR0⟩, by rw [ht]; exact hP, hD⟩, hS.F ht⟩) hS.2.2 dX6_note_42
def f_y_allowed (n : Nat) (dl : Nat → Nat) (sv : Nat) (p0 : Int32) (si : Nat → Nat → Int32) (sa : Nat → Nat → Nat → Int32) : Int32 := bnd ((si sv 24).toNatClampNeg) (fun (z1 : Nat) => if z1 = 0 then (((0 : Int32))) else (bnd (si sv 22) (fun (x3 : Int32) => if (nI z1) ≤ x3 then (bnd ((si sv 21).toNatClampNeg) (fun (z5 : Nat) => bnd (((z5 + 10) - z1) % 10) (fun (m6 : Nat) => bnd (sa sv 3 (nI m6).toNatClampNeg) (fun (x7 : Int32) => bnd (si sv 25) (fun (x8 : Int32) => bnd (p0 - x8) (fun (x9 : Int32) => if x9 < x7 then (((0 : Int32))) else (((1 : Int32))))))))) else (((1 : Int32))))))
def wq_y_allowed : List Cond := ([.code yX6_allowed cX6_allowed 2 (some .boolean), .fieldLink RX6 22 "ServiceTree$Restarts" "budget" "I", .fieldLink RX6 28 "ServiceTree$Restarts" "filled" "I", .fieldLink RX6 9 "ServiceTree$Restarts" "times" "[I", .fieldLink RX6 25 "ServiceTree$Restarts" "next" "I", .fieldLink RX6 19 "ServiceTree$Restarts" "window" "I"] : List Cond) ++ (wsX60)
theorem in_y_allowed_X6 : ∀ w ∈ wsX60, w ∈ wq_y_allowed := fun _ h => List.mem_append_right _ (h)
set_option maxRecDepth 20000 in
theorem wi_y_allowed : ∀ w ∈ wq_y_allowed, w ∈ lw_tbl := List.forall_mem_append.mpr ⟨(wix [708, 295, 292, 290, 291, 296] rfl), inKX6⟩
set_option maxRecDepth 20000 in
theorem wg_y_allowed : GoodIn wq_y_allowed wq_y_allowed := goodIn_sub (fun _ h => h) (by decide +kernel)
def rm_y_allowed : Room := { frames := 0, cells := 0, slots := 0, locals := 0 }
set_option maxHeartbeats 4000000 in
set_option maxRecDepth 100000 in
theorem c_y_allowed (l : Launch) (dC : Nat → ClassId) (dI : Nat → Nat → Nat) (h : Nat) (a : Nat → Nat) (e : Nat) (cI cJ cO cE : ClassId) (L : Nat → Int64) (I : Nat → Int32) (M : Nat → Nat → Int64) (J : Nat → Nat → Int32) (n cap : Nat) (fE : Nat → Option Nat) (sd : Nat → Nat → Nat) (si : Nat → Nat → Int32) (sa : Nat → Nat → Nat → Int32) (dl : Nat → Nat) (b : Nat) (sv : Nat) (p0 : Int32) (sz : Nat) (hX0 : InvX n cap fE sd dl b I J si) (hb0 : b + 0 < 2147483648) (hp0 : sv < n) : Met l yX6_allowed wq_y_allowed rm_y_allowed (va_Pc [.ref (sd sv 2), .int p0] (fun U => U.heap.size = sz ∧ va_P (dC, dI) vwCl (xW h a e cI cJ cO cE L I M J n cap fE sd si sa dl) U.heap ∧ va_K (dC, dI) vwCl (xT cI cJ cO cE) U ∧ va_D (fun _ => True) (xW h a e cI cJ cO cE L I M J n cap fE sd si sa dl) ∧ pw_N U)) (va_Qi (fun (r : Int32) (u : Unit) => ((r = f_y_allowed n dl sv p0 si sa) ∧ (r = 0 ∨ r = 1))) (fun (u : Unit) (t : State) => va_P (dC, dI) vwCl (xW h a e cI cJ cO cE L I M J n cap fE sd si sa dl) t.heap ∧ va_D (va_A (xW h a e cI cJ cO cE L I M J n cap fE sd si sa dl) sz) (xW h a e cI cJ cO cE L I M J n cap fE sd si sa dl)) (va_A (xW h a e cI cJ cO cE L I M J n cap fE sd si sa dl) sz)) 0 0 (va_A (xW h a e cI cJ cO cE L I M J n cap fE sd si sa dl) sz) := by
  have hn : n ≤ 40 := hX0.1.1
  have hX := hX0
  refine Met.ofW (cc := cX6_allowed) (maxL := 2) (ret := (some .boolean)) (by decide) rfl ?_
  intro p e9 s m args below meth c s₁ B hml hv
  obtain ⟨rfl, hsz, hP, hK, hD0, hN⟩ := hv
  have hx := B.exec
  have hb := B.bytes
  have hr := B.returns
  have hts := atoms_spec (ws := wq_y_allowed) B.pre
  have hown : s.vm.findClass RX6 = some m.cls := findClass_of_methodNamed B.named
  have hlocks := B.notSynchronized
  subst hsz
  have hD := hD0.self (sz := s.heap.size)
  generalize hAe : va_A (xW h a e cI cJ cO cE L I M J n cap fE sd si sa dl) s.heap.size = A at hD ⊢
  have hA : ∀ q : Nat, s.heap.size ≤ q → A q := fun q h => by rw [← hAe]; exact Or.inr h
  have hS : va_S A s.heap s.heap [] := va_S.rf
  have hl := lv_entry ([.ref (sd sv 2), .int p0]) (n := 2) (Nat.le_of_ble_eq_true rfl)
  rw [lg_entry_eq]
  generalize (lg_sl ([.ref (sd sv 2), .int p0]) ++ List.replicate (2 - (lg_sl ([.ref (sd sv 2), .int p0])).length) Slot.unset).toArray = ls at hl ⊢
  have hl : lv_has ls 2 [(0, .ref (sd sv 2)), (1, .int p0)] := hl
  obtain ⟨RES, hR0⟩ : ∃ R9, R9 = f_y_allowed n dl sv p0 si sa := ⟨_, rfl⟩
  have hZ9 := hR0
  unfold f_y_allowed at hZ9
  refine lv_aload_n hx hb dX6_allowed_0 rfl (lv_at hl 0 rfl) ?_
  refine va_get (D := (dC, dI)) (ci := 7) (v := .int (si sv 24)) (C := RX6) (T := TX6) (N := 6) hx hb hts in_y_allowed_X6 hown hK hP (22 + (6 * sv + 2)) (xAt_2 h a e cI cJ cO cE L I M J n cap fE sd si sa dl (s := sv) (by omega)) rfl 4 (by decide) (hts (.fieldLink RX6 22 "ServiceTree$Restarts" "budget" "I") (by decide +kernel)) (fun _ h9 => h9) rfl dX6_allowed_1 ?_
  obtain ⟨z1, hz1, ez1⟩ := hX.2.2.2.2.2.1 sv
  refine p1_topr (v := .int (nI z1)) (congrArg Value.int ez1) ?_
  replace hZ9 := bnd_s hZ9 (show z1 = (si sv 24).toNatClampNeg by rw [ez1, nI_clamp (by omega)])
  refine lv_if_ne (tgt := 9) hx hb dX6_allowed_4 (by decide) (fun c2 => ?_) (fun c2 => ?_)
  · replace c2 : ¬ (z1 = 0) := fun q9 => c2 ((nI_eq (a := z1) (b := 0) (by omega) (by omega)).mpr q9)
    replace hZ9 := ite_f hZ9 c2
    refine lv_aload_n hx hb dX6_allowed_9 rfl (lv_at hl 0 rfl) ?_
    refine va_get (D := (dC, dI)) (ci := 7) (v := .int (si sv 22)) (C := RX6) (T := TX6) (N := 6) hx hb hts in_y_allowed_X6 hown hK hP (22 + (6 * sv + 2)) (xAt_2 h a e cI cJ cO cE L I M J n cap fE sd si sa dl (s := sv) (by omega)) rfl 2 (by decide) (hts (.fieldLink RX6 28 "ServiceTree$Restarts" "filled" "I") (by decide +kernel)) (fun _ h9 => h9) rfl dX6_allowed_10 ?_
    refine lv_topi (fun x3 ex3 => ?_)
    replace hZ9 := bnd_s hZ9 ex3
    refine lv_aload_n hx hb dX6_allowed_13 rfl (lv_at hl 0 rfl) ?_
    refine va_get (D := (dC, dI)) (ci := 7) (v := .int (si sv 24)) (C := RX6) (T := TX6) (N := 6) hx hb hts in_y_allowed_X6 hown hK hP (22 + (6 * sv + 2)) (xAt_2 h a e cI cJ cO cE L I M J n cap fE sd si sa dl (s := sv) (by omega)) rfl 4 (by decide) (hts (.fieldLink RX6 22 "ServiceTree$Restarts" "budget" "I") (by decide +kernel)) (fun _ h9 => h9) rfl dX6_allowed_14 ?_
    refine p1_topr (v := .int (nI z1)) (congrArg Value.int ez1) ?_
    refine lv_icmp_ge (tgt := 22) hx hb dX6_allowed_17 (by decide) (fun c4 => ?_) (fun c4 => ?_)
    · replace hZ9 := ite_t hZ9 c4
      refine lv_aload_n hx hb dX6_allowed_22 rfl (lv_at hl 0 rfl) ?_
      refine va_get (D := (dC, dI)) (ci := 7) (v := .ref (sd sv 3)) (C := RX6) (T := TX6) (N := 6) hx hb hts in_y_allowed_X6 hown hK hP (22 + (6 * sv + 2)) (xAt_2 h a e cI cJ cO cE L I M J n cap fE sd si sa dl (s := sv) (by omega)) rfl 0 (by decide) (hts (.fieldLink RX6 9 "ServiceTree$Restarts" "times" "[I") (by decide +kernel)) (fun _ h9 => h9) rfl dX6_allowed_23 ?_
      refine lv_aload_n hx hb dX6_allowed_26 rfl (lv_at hl 0 rfl) ?_
      refine va_get (D := (dC, dI)) (ci := 7) (v := .int (si sv 21)) (C := RX6) (T := TX6) (N := 6) hx hb hts in_y_allowed_X6 hown hK hP (22 + (6 * sv + 2)) (xAt_2 h a e cI cJ cO cE L I M J n cap fE sd si sa dl (s := sv) (by omega)) rfl 1 (by decide) (hts (.fieldLink RX6 25 "ServiceTree$Restarts" "next" "I") (by decide +kernel)) (fun _ h9 => h9) rfl dX6_allowed_27 ?_
      obtain ⟨z5, hz5, ez5⟩ := hX.2.2.2.2.1 sv
      refine p1_topr (v := .int (nI z5)) (congrArg Value.int ez5) ?_
      replace hZ9 := bnd_s hZ9 (show z5 = (si sv 21).toNatClampNeg by rw [ez5, nI_clamp (by omega)])
      refine lv_bipush (v := 10) hx hb dX6_allowed_30 (by decide) ?_
      refine lv_iadd hx hb dX6_allowed_32 ?_
      refine p1_topr (v := .int (nI (z5 + 10))) (congrArg Value.int (nI_add z5 10)) ?_
      refine lv_aload_n hx hb dX6_allowed_33 rfl (lv_at hl 0 rfl) ?_
      refine va_get (D := (dC, dI)) (ci := 7) (v := .int (si sv 24)) (C := RX6) (T := TX6) (N := 6) hx hb hts in_y_allowed_X6 hown hK hP (22 + (6 * sv + 2)) (xAt_2 h a e cI cJ cO cE L I M J n cap fE sd si sa dl (s := sv) (by omega)) rfl 4 (by decide) (hts (.fieldLink RX6 22 "ServiceTree$Restarts" "budget" "I") (by decide +kernel)) (fun _ h9 => h9) rfl dX6_allowed_34 ?_
      refine p1_topr (v := .int (nI z1)) (congrArg Value.int ez1) ?_
      refine lv_isub hx hb dX6_allowed_37 ?_
      refine p1_topr (v := .int (nI ((z5 + 10) - z1))) (congrArg Value.int (pk_sub (a := z5 + 10) (b := z1) (by omega))) ?_
      refine lv_bipush (v := 10) hx hb dX6_allowed_38 (by decide) ?_
      refine lv_irem hx hb dX6_allowed_40 (by decide) ?_
      obtain ⟨m6, hm6, em6⟩ : ∃ z9 : Nat, z9 < 10 ∧ z9 = ((z5 + 10) - z1) % 10 := ⟨_, Nat.mod_lt _ (by omega), rfl⟩
      refine p1_topr (v := .int (nI m6)) (congrArg Value.int (by rw [em6]; exact pk_rem (a := (z5 + 10) - z1) (d := 10) (by omega) (by omega) (by omega))) ?_
      replace hZ9 := bnd_s hZ9 em6
      refine va_iald (n := 10) (f := sa sv 3) hx hb hK hP (22 + (6 * sv + 3)) 0 (xAt_3 h a e cI cJ cO cE L I M J n cap fE sd si sa dl (s := sv) (by omega)) rfl (vp_in_nI (n := m6) (by omega) (by omega)) dX6_allowed_41 ?_
      refine lv_topi (fun x7 ex7 => ?_)
      replace hZ9 := bnd_s hZ9 ex7
      refine lv_iload_n hx hb dX6_allowed_42 rfl (lv_at hl 1 rfl) ?_
      refine lv_aload_n hx hb dX6_allowed_43 rfl (lv_at hl 0 rfl) ?_
      refine va_get (D := (dC, dI)) (ci := 7) (v := .int (si sv 25)) (C := RX6) (T := TX6) (N := 6) hx hb hts in_y_allowed_X6 hown hK hP (22 + (6 * sv + 2)) (xAt_2 h a e cI cJ cO cE L I M J n cap fE sd si sa dl (s := sv) (by omega)) rfl 5 (by decide) (hts (.fieldLink RX6 19 "ServiceTree$Restarts" "window" "I") (by decide +kernel)) (fun _ h9 => h9) rfl dX6_allowed_44 ?_
      refine lv_topi (fun x8 ex8 => ?_)
      replace hZ9 := bnd_s hZ9 ex8
      refine lv_isub hx hb dX6_allowed_47 ?_
      refine lv_topi (fun x9 ex9 => ?_)
      replace hZ9 := bnd_s hZ9 ex9
      refine lv_icmp_gt (tgt := 55) hx hb dX6_allowed_48 (by decide) (fun c10 => ?_) (fun c10 => ?_)
      · replace hZ9 := ite_t hZ9 c10
        refine lv_iconst (v := 0) hx hb dX6_allowed_55 (by decide) ?_
        exact W.zret (v := 0) hx hb hr (by decide) (fun t ht hW => ⟨⟨0, (), rfl, ⟨hZ9.symm.trans hR0, Or.inl rfl⟩, by rw [ht]; exact hP, hD⟩, hS.F ht⟩) hS.2.2 dX6_allowed_56
      · replace hZ9 := ite_f hZ9 c10
        refine lv_iconst (v := 1) hx hb dX6_allowed_51 (by decide) ?_
        refine lv_goto (tgt := 56) hx hb dX6_allowed_52 (by decide) ?_
        exact W.zret (v := 1) hx hb hr (by decide) (fun t ht hW => ⟨⟨1, (), rfl, ⟨hZ9.symm.trans hR0, Or.inr rfl⟩, by rw [ht]; exact hP, hD⟩, hS.F ht⟩) hS.2.2 dX6_allowed_56
    · replace hZ9 := ite_f hZ9 c4
      refine lv_iconst (v := 1) hx hb dX6_allowed_20 (by decide) ?_
      exact W.zret (v := 1) hx hb hr (by decide) (fun t ht hW => ⟨⟨1, (), rfl, ⟨hZ9.symm.trans hR0, Or.inr rfl⟩, by rw [ht]; exact hP, hD⟩, hS.F ht⟩) hS.2.2 dX6_allowed_21
  · replace c2 : z1 = 0 := (nI_eq (a := z1) (b := 0) (by omega) (by omega)).mp c2
    replace hZ9 := ite_t hZ9 c2
    refine lv_iconst (v := 0) hx hb dX6_allowed_7 (by decide) ?_
    exact W.zret (v := 0) hx hb hr (by decide) (fun t ht hW => ⟨⟨0, (), rfl, ⟨hZ9.symm.trans hR0, Or.inl rfl⟩, by rw [ht]; exact hP, hD⟩, hS.F ht⟩) hS.2.2 dX6_allowed_8
def wq_y_isFull : List Cond := ([.code yX0_isFull cX0_isFull 1 (some .boolean), .fieldLink RX0 17 "ServiceTree$Door" "size" "I", .fieldLink RX0 13 "ServiceTree$Door" "letters" "[I"] : List Cond) ++ (wsX00)
theorem in_y_isFull_X0 : ∀ w ∈ wsX00, w ∈ wq_y_isFull := fun _ h => List.mem_append_right _ (h)
set_option maxRecDepth 20000 in
theorem wi_y_isFull : ∀ w ∈ wq_y_isFull, w ∈ lw_tbl := List.forall_mem_append.mpr ⟨(wix [740, 318, 316] rfl), inKX0⟩
set_option maxRecDepth 20000 in
theorem wg_y_isFull : GoodIn wq_y_isFull wq_y_isFull := goodIn_sub (fun _ h => h) (by decide +kernel)
def rm_y_isFull : Room := { frames := 0, cells := 0, slots := 0, locals := 0 }
set_option maxHeartbeats 4000000 in
set_option maxRecDepth 100000 in
theorem c_y_isFull (l : Launch) (dC : Nat → ClassId) (dI : Nat → Nat → Nat) (h : Nat) (a : Nat → Nat) (e : Nat) (cI cJ cO cE : ClassId) (L : Nat → Int64) (I : Nat → Int32) (M : Nat → Nat → Int64) (J : Nat → Nat → Int32) (n cap : Nat) (fE : Nat → Option Nat) (sd : Nat → Nat → Nat) (si : Nat → Nat → Int32) (sa : Nat → Nat → Nat → Int32) (dl : Nat → Nat) (b : Nat) (sv : Nat) (sz : Nat) (hX0 : InvX n cap fE sd dl b I J si) (hb0 : b + 0 < 2147483648) (hp0 : sv < n) : Met l yX0_isFull wq_y_isFull rm_y_isFull (va_Pc [.ref (sd sv 4)] (fun U => U.heap.size = sz ∧ va_P (dC, dI) vwCl (xW h a e cI cJ cO cE L I M J n cap fE sd si sa dl) U.heap ∧ va_K (dC, dI) vwCl (xT cI cJ cO cE) U ∧ va_D (fun _ => True) (xW h a e cI cJ cO cE L I M J n cap fE sd si sa dl) ∧ pw_N U)) (va_Qi (fun (r : Int32) (u : Unit) => ((r = 1 ∧ ¬ ((si sv 32).toNatClampNeg < dl sv)) ∨ (r = 0 ∧ ∃ z : Nat, z < dl sv ∧ si sv 32 = nI z))) (fun (u : Unit) (t : State) => va_P (dC, dI) vwCl (xW h a e cI cJ cO cE L I M J n cap fE sd si sa dl) t.heap ∧ va_D (va_A (xW h a e cI cJ cO cE L I M J n cap fE sd si sa dl) sz) (xW h a e cI cJ cO cE L I M J n cap fE sd si sa dl)) (va_A (xW h a e cI cJ cO cE L I M J n cap fE sd si sa dl) sz)) 0 0 (va_A (xW h a e cI cJ cO cE L I M J n cap fE sd si sa dl) sz) := by
  have hn : n ≤ 40 := hX0.1.1
  have hX := hX0
  refine Met.ofW (cc := cX0_isFull) (maxL := 1) (ret := (some .boolean)) (by decide) rfl ?_
  intro p e9 s m args below meth c s₁ B hml hv
  obtain ⟨rfl, hsz, hP, hK, hD0, hN⟩ := hv
  have hx := B.exec
  have hb := B.bytes
  have hr := B.returns
  have hts := atoms_spec (ws := wq_y_isFull) B.pre
  have hown : s.vm.findClass RX0 = some m.cls := findClass_of_methodNamed B.named
  have hlocks := B.notSynchronized
  subst hsz
  have hD := hD0.self (sz := s.heap.size)
  generalize hAe : va_A (xW h a e cI cJ cO cE L I M J n cap fE sd si sa dl) s.heap.size = A at hD ⊢
  have hA : ∀ q : Nat, s.heap.size ≤ q → A q := fun q h => by rw [← hAe]; exact Or.inr h
  have hS : va_S A s.heap s.heap [] := va_S.rf
  have hl := lv_entry ([.ref (sd sv 4)]) (n := 1) (Nat.le_of_ble_eq_true rfl)
  rw [lg_entry_eq]
  generalize (lg_sl ([.ref (sd sv 4)]) ++ List.replicate (1 - (lg_sl ([.ref (sd sv 4)])).length) Slot.unset).toArray = ls at hl ⊢
  have hl : lv_has ls 1 [(0, .ref (sd sv 4))] := hl
  obtain ⟨RES, hZ9⟩ : ∃ R9 : Unit, R9 = R9 := ⟨(), rfl⟩
  have hdl := (hX.2.2.2.2.2.2.1 sv).1
  refine lv_aload_n hx hb dX0_isFull_0 rfl (lv_at hl 0 rfl) ?_
  refine va_get (D := (dC, dI)) (ci := 1) (v := .int (si sv 32)) (C := RX0) (T := TX0) (N := 5) hx hb hts in_y_isFull_X0 hown hK hP (22 + (6 * sv + 4)) (xAt_4 h a e cI cJ cO cE L I M J n cap fE sd si sa dl (s := sv) (by omega)) rfl 2 (by decide) (hts (.fieldLink RX0 17 "ServiceTree$Door" "size" "I") (by decide +kernel)) (fun _ h9 => h9) rfl dX0_isFull_1 ?_
  obtain ⟨hdz1, z1, hz1, ez1⟩ := hX.2.2.2.2.2.2.1 sv
  refine p1_topr (v := .int (nI z1)) (congrArg Value.int ez1) ?_
  have hdlz1 := (hX.2.2.2.2.2.2.1 sv).1
  skip
  refine lv_aload_n hx hb dX0_isFull_4 rfl (lv_at hl 0 rfl) ?_
  refine va_get (D := (dC, dI)) (ci := 1) (v := .ref (sd sv 5)) (C := RX0) (T := TX0) (N := 5) hx hb hts in_y_isFull_X0 hown hK hP (22 + (6 * sv + 4)) (xAt_4 h a e cI cJ cO cE L I M J n cap fE sd si sa dl (s := sv) (by omega)) rfl 0 (by decide) (hts (.fieldLink RX0 13 "ServiceTree$Door" "letters" "[I") (by decide +kernel)) (fun _ h9 => h9) rfl dX0_isFull_5 ?_
  refine va_alen (v := (nI (dl sv))) hx hb hK hP (22 + (6 * sv + 5)) 0 (xAt_5 h a e cI cJ cO cE L I M J n cap fE sd si sa dl (s := sv) (by omega)) rfl rfl dX0_isFull_8 ?_
  refine lv_icmp_lt (tgt := 16) hx hb dX0_isFull_9 (by decide) (fun c2 => ?_) (fun c2 => ?_)
  · replace c2 : z1 < dl sv := (nI_ltI (a := z1) (b := dl sv) (by omega) (by omega)).mp c2
    skip
    refine lv_iconst (v := 0) hx hb dX0_isFull_16 (by decide) ?_
    exact W.zret (v := 0) hx hb hr (by decide) (fun t ht hW => ⟨⟨0, (), rfl, Or.inr ⟨rfl, z1, by omega, ez1⟩, by rw [ht]; exact hP, hD⟩, hS.F ht⟩) hS.2.2 dX0_isFull_17
  · replace c2 : ¬ (z1 < dl sv) := fun q9 => c2 ((nI_ltI (a := z1) (b := dl sv) (by omega) (by omega)).mpr q9)
    skip
    refine lv_iconst (v := 1) hx hb dX0_isFull_12 (by decide) ?_
    refine lv_goto (tgt := 17) hx hb dX0_isFull_13 (by decide) ?_
    exact W.zret (v := 1) hx hb hr (by decide) (fun t ht hW => ⟨⟨1, (), rfl, Or.inl ⟨rfl, by rw [ez1, nI_clamp (by omega)]; omega⟩, by rw [ht]; exact hP, hD⟩, hS.F ht⟩) hS.2.2 dX0_isFull_17
def f_y_put (n : Nat) (dl : Nat → Nat) (sv : Nat) (p0 : Int32) (si : Nat → Nat → Int32) (sa : Nat → Nat → Nat → Int32) : (Nat → Nat → Int32) × (Nat → Nat → Nat → Int32) := if (si sv 32).toNatClampNeg < dl sv then (bnd ((si sv 32).toNatClampNeg) (fun (z2 : Nat) => bnd ((si sv 31).toNatClampNeg) (fun (z3 : Nat) => bnd ((z3 + z2) % (dl sv)) (fun (m4 : Nat) => bnd (up2 sa sv 5 (upd (sa sv 5) (nI m4).toNatClampNeg p0)) (fun (sa5 : Nat → Nat → Nat → Int32) => bnd (up2 si sv 32 (nI (z2 + 1))) (fun (si6 : Nat → Nat → Int32) => (si6, sa5))))))) else ((si, sa))
def wq_y_put : List Cond := ([.code yX0_put cX0_put 2 none, .fieldLink RX0 13 "ServiceTree$Door" "letters" "[I", .fieldLink RX0 24 "ServiceTree$Door" "first" "I", .fieldLink RX0 17 "ServiceTree$Door" "size" "I", .methodLink RX0 20 yX0_isFull, .instanceMethod yX0_isFull, .selects RX0 yX0_isFull yX0_isFull, .initialized RX0] : List Cond) ++ (wsX00 ++ (wq_y_isFull))
theorem in_y_put_X0 : ∀ w ∈ wsX00, w ∈ wq_y_put := fun _ h => List.mem_append_right _ (List.mem_append_left _ (h))
set_option maxRecDepth 20000 in
theorem wi_y_put : ∀ w ∈ wq_y_put, w ∈ lw_tbl := List.forall_mem_append.mpr ⟨(wix [744, 316, 317, 318, 745, 738, 739, 72] rfl), List.forall_mem_append.mpr ⟨inKX0, wi_y_isFull⟩⟩
set_option maxRecDepth 20000 in
theorem wg_y_put : GoodIn wq_y_put wq_y_put := goodIn_sub (fun _ h => h) (by decide +kernel)
set_option maxRecDepth 20000 in
theorem wc_y_put_y_isFull_20 : GoodIn wq_y_put (wsV RX0 20 RX0 yX0_isFull wq_y_isFull) := goodIn_app (goodIn_of _ (by decide +kernel)) (fun w h => ⟨List.mem_append_right _ (List.mem_append_right _ (h)), (wg_y_isFull w h).2⟩)
def rm_y_put : Room := { frames := 1, cells := 0, slots := 0, locals := 20 }
set_option maxHeartbeats 4000000 in
set_option maxRecDepth 100000 in
theorem c_y_put (l : Launch) (dC : Nat → ClassId) (dI : Nat → Nat → Nat) (h : Nat) (a : Nat → Nat) (e : Nat) (cI cJ cO cE : ClassId) (L : Nat → Int64) (I : Nat → Int32) (M : Nat → Nat → Int64) (J : Nat → Nat → Int32) (n cap : Nat) (fE : Nat → Option Nat) (sd : Nat → Nat → Nat) (si : Nat → Nat → Int32) (sa : Nat → Nat → Nat → Int32) (dl : Nat → Nat) (b : Nat) (sv : Nat) (p0 : Int32) (sz : Nat) (hX0 : InvX n cap fE sd dl b I J si) (hb0 : b + 0 < 2147483648) (hp0 : sv < n) : Met l yX0_put wq_y_put rm_y_put (va_Pc [.ref (sd sv 4), .int p0] (fun U => U.heap.size = sz ∧ va_P (dC, dI) vwCl (xW h a e cI cJ cO cE L I M J n cap fE sd si sa dl) U.heap ∧ va_K (dC, dI) vwCl (xT cI cJ cO cE) U ∧ va_D (fun _ => True) (xW h a e cI cJ cO cE L I M J n cap fE sd si sa dl) ∧ pw_N U)) (va_Qv (fun (u : (Nat → Nat → Int32) × (Nat → Nat → Nat → Int32)) => InvX n cap fE sd dl (b + 0) I J u.1 ∧ (∀ s9 q9 : Nat, q9 ∉ ([32] : List Nat) → u.1 s9 q9 = si s9 q9) ∧ (∀ s9 q9 : Nat, q9 ∉ ([5] : List Nat) → u.2 s9 q9 = sa s9 q9) ∧ (u = f_y_put n dl sv p0 si sa)) (fun (u : (Nat → Nat → Int32) × (Nat → Nat → Nat → Int32)) (t : State) => va_P (dC, dI) vwCl (xW h a e cI cJ cO cE L I M J n cap fE sd u.1 u.2 dl) t.heap ∧ va_D (va_A (xW h a e cI cJ cO cE L I M J n cap fE sd si sa dl) sz) (xW h a e cI cJ cO cE L I M J n cap fE sd u.1 u.2 dl)) (va_A (xW h a e cI cJ cO cE L I M J n cap fE sd si sa dl) sz)) 0 0 (va_A (xW h a e cI cJ cO cE L I M J n cap fE sd si sa dl) sz) := by
  have hn : n ≤ 40 := hX0.1.1
  have hX := hX0
  have hUsi : ∀ s9 q9 : Nat, q9 ∉ ([32] : List Nat) → si s9 q9 = si s9 q9 := fun _ _ _ => rfl
  have hUsa : ∀ s9 q9 : Nat, q9 ∉ ([5] : List Nat) → sa s9 q9 = sa s9 q9 := fun _ _ _ => rfl
  refine Met.ofW (cc := cX0_put) (maxL := 2) (ret := none) (by decide) rfl ?_
  intro p e9 s m args below meth c s₁ B hml hv
  obtain ⟨rfl, hsz, hP, hK, hD0, hN⟩ := hv
  have hx := B.exec
  have hb := B.bytes
  have hr := B.returns
  have hts := atoms_spec (ws := wq_y_put) B.pre
  have hown : s.vm.findClass RX0 = some m.cls := findClass_of_methodNamed B.named
  have hlocks := B.notSynchronized
  subst hsz
  have hD := hD0.self (sz := s.heap.size)
  generalize hAe : va_A (xW h a e cI cJ cO cE L I M J n cap fE sd si sa dl) s.heap.size = A at hD ⊢
  have hA : ∀ q : Nat, s.heap.size ≤ q → A q := fun q h => by rw [← hAe]; exact Or.inr h
  have hS : va_S A s.heap s.heap [] := va_S.rf
  have hl := lv_entry ([.ref (sd sv 4), .int p0]) (n := 2) (Nat.le_of_ble_eq_true rfl)
  rw [lg_entry_eq]
  generalize (lg_sl ([.ref (sd sv 4), .int p0]) ++ List.replicate (2 - (lg_sl ([.ref (sd sv 4), .int p0])).length) Slot.unset).toArray = ls at hl ⊢
  have hl : lv_has ls 2 [(0, .ref (sd sv 4)), (1, .int p0)] := hl
  obtain ⟨RES, hR0⟩ : ∃ R9, R9 = f_y_put n dl sv p0 si sa := ⟨_, rfl⟩
  have hZ9 := hR0
  unfold f_y_put at hZ9
  have hdl := (hX.2.2.2.2.2.2.1 sv).1
  refine lv_aload_n hx hb dX0_put_0 rfl (lv_at hl 0 rfl) ?_
  have hFc := mw_free hD hS hA
  refine va_calli (va_runV (As := []) (rest := []) ⟨hx, hb, hml, hown, hts⟩ (c_y_isFull l dC dI h a e cI cJ cO cE L I M J n cap fE sd si sa dl (b) sv s.heap.size hX (by omega) (by omega)) (cwV 0 hts wc_y_put_y_isFull_20 rfl rfl rfl (by decide +kernel) ⟨Nat.le_of_ble_eq_true rfl, Nat.le_of_ble_eq_true rfl⟩) ⟨fun a9 U g mk q => by obtain ⟨q0, q1, qP, qK, qD, qN⟩ := q; exact ⟨q0, q1, qP, va_K.moved (u := U) (U := U.calling g mk a9) (Vm.Alike.refl U.vm) qK, qD, pw_N.same (u := U) (U := U.calling g mk a9) rfl qN⟩, va_recv hK hP (ci := 1) (q0 := (22 + (6 * sv + 4))) rfl (xAt_4 h a e cI cJ cO cE L I M J n cap fE sd si sa dl (s := sv) (by omega)), fun U hU hW => ⟨rfl, by rw [hU], by rw [hU]; exact hP, va_K.moved hW.alike hK, hD.weaken (fun _ _ _ _ => trivial), pw_N.warm hW hN⟩⟩ rfl rfl hl.1 rfl (lv_room (Nat.le_of_ble_eq_true rfl)) dX0_put_1 ⟨Nat.le_of_ble_eq_true rfl, Nat.le_of_ble_eq_true rfl⟩) hS (fun q _ h => hFc q h) hFc (fun r1 u t H1 locs ht hvm hw hB hz1 hk1 hS => ?_)
  replace hP := hB.1
  rw [ht] at hP
  replace hD : va_D A (xW h a e cI cJ cO cE L I M J n cap fE sd si sa dl) := hB.2.weaken (fun _ q _ h9 => hFc q.1 h9)
  clear hB
  generalize H1 = H at hP hS ⊢
  replace hP : va_P (dC, dI) vwCl (xW h a e cI cJ cO cE L I M J n cap fE sd si sa dl) H := hP
  rcases hw with ⟨rfl, noz2⟩ | ⟨rfl, z2, hz2, ez2⟩
  · replace hZ9 := ite_f hZ9 noz2
    refine lv_if_eq (tgt := 8) hx hb dX0_put_4 (by decide) (fun c9 => absurd c9 (by decide)) (fun _ => ?_)
    exact W.vret hx hb hr (fun t ht hW => ⟨⟨(si, sa), rfl, ⟨hX.mono (by omega), hUsi, hUsa, hZ9.symm.trans hR0⟩, by rw [ht]; exact hP, hD⟩, hS.F ht⟩) hS.2.2 dX0_put_7
  · have hdz2 := (hX.2.2.2.2.2.2.1 sv).1
    replace hZ9 := ite_t hZ9 (show (si sv 32).toNatClampNeg < dl sv by rw [ez2, nI_clamp (by omega)]; omega)
    replace hZ9 := bnd_s hZ9 (show z2 = (si sv 32).toNatClampNeg by rw [ez2, nI_clamp (by omega)])
    refine lv_if_eq (tgt := 8) hx hb dX0_put_4 (by decide) (fun _ => ?_) (fun c9 => absurd (by decide) c9)
    refine lv_aload_n hx hb dX0_put_8 rfl (lv_at hl 0 rfl) ?_
    refine va_get (D := (dC, dI)) (ci := 1) (v := .ref (sd sv 5)) (C := RX0) (T := TX0) (N := 5) hx hb hts in_y_put_X0 hown hK hP (22 + (6 * sv + 4)) (xAt_4 h a e cI cJ cO cE L I M J n cap fE sd si sa dl (s := sv) (by omega)) rfl 0 (by decide) (hts (.fieldLink RX0 13 "ServiceTree$Door" "letters" "[I") (by decide +kernel)) (fun _ h9 => h9) rfl dX0_put_9 ?_
    refine lv_aload_n hx hb dX0_put_12 rfl (lv_at hl 0 rfl) ?_
    refine va_get (D := (dC, dI)) (ci := 1) (v := .int (si sv 31)) (C := RX0) (T := TX0) (N := 5) hx hb hts in_y_put_X0 hown hK hP (22 + (6 * sv + 4)) (xAt_4 h a e cI cJ cO cE L I M J n cap fE sd si sa dl (s := sv) (by omega)) rfl 1 (by decide) (hts (.fieldLink RX0 24 "ServiceTree$Door" "first" "I") (by decide +kernel)) (fun _ h9 => h9) rfl dX0_put_13 ?_
    obtain ⟨z3, hz3, ez3⟩ := hX.2.2.2.2.2.2.2 sv
    refine p1_topr (v := .int (nI z3)) (congrArg Value.int ez3) ?_
    have hdlz3 := (hX.2.2.2.2.2.2.1 sv).1
    replace hZ9 := bnd_s hZ9 (show z3 = (si sv 31).toNatClampNeg by rw [ez3, nI_clamp (by omega)])
    refine lv_aload_n hx hb dX0_put_16 rfl (lv_at hl 0 rfl) ?_
    refine va_get (D := (dC, dI)) (ci := 1) (v := .int (si sv 32)) (C := RX0) (T := TX0) (N := 5) hx hb hts in_y_put_X0 hown hK hP (22 + (6 * sv + 4)) (xAt_4 h a e cI cJ cO cE L I M J n cap fE sd si sa dl (s := sv) (by omega)) rfl 2 (by decide) (hts (.fieldLink RX0 17 "ServiceTree$Door" "size" "I") (by decide +kernel)) (fun _ h9 => h9) rfl dX0_put_17 ?_
    refine p1_topr (v := .int (nI z2)) (congrArg Value.int ez2) ?_
    refine lv_iadd hx hb dX0_put_20 ?_
    refine p1_topr (v := .int (nI (z3 + z2))) (congrArg Value.int (nI_add z3 z2)) ?_
    refine lv_aload_n hx hb dX0_put_21 rfl (lv_at hl 0 rfl) ?_
    refine va_get (D := (dC, dI)) (ci := 1) (v := .ref (sd sv 5)) (C := RX0) (T := TX0) (N := 5) hx hb hts in_y_put_X0 hown hK hP (22 + (6 * sv + 4)) (xAt_4 h a e cI cJ cO cE L I M J n cap fE sd si sa dl (s := sv) (by omega)) rfl 0 (by decide) (hts (.fieldLink RX0 13 "ServiceTree$Door" "letters" "[I") (by decide +kernel)) (fun _ h9 => h9) rfl dX0_put_22 ?_
    refine va_alen (v := (nI (dl sv))) hx hb hK hP (22 + (6 * sv + 5)) 0 (xAt_5 h a e cI cJ cO cE L I M J n cap fE sd si sa dl (s := sv) (by omega)) rfl rfl dX0_put_25 ?_
    refine lv_irem hx hb dX0_put_26 (nI_ne0 (by omega) (by omega)) ?_
    obtain ⟨m4, hm4, em4⟩ : ∃ z9 : Nat, z9 < dl sv ∧ z9 = (z3 + z2) % (dl sv) := ⟨_, Nat.mod_lt _ (by omega), rfl⟩
    refine p1_topr (v := .int (nI m4)) (congrArg Value.int (by rw [em4]; exact pk_rem (a := z3 + z2) (d := dl sv) (by omega) (by omega) (by omega))) ?_
    replace hZ9 := bnd_s hZ9 em4
    refine lv_iload_n hx hb dX0_put_27 rfl (lv_at hl 1 rfl) ?_
    refine va_iast (n := (dl sv)) (f := sa sv 5) hx hb hK hP hD hS (22 + (6 * sv + 5)) 0 (xAt_5 h a e cI cJ cO cE L I M J n cap fE sd si sa dl (s := sv) (by omega)) rfl (vp_in_nI (n := m4) (by omega) (by omega)) dX0_put_28 (fun H locs hP hD hS => ?_)
    rw [xSa_5 h a e cI cJ cO cE L I M J n cap fE sd si sa dl (s := sv) (by omega)] at hP hD
    obtain ⟨sa5, esa5⟩ : ∃ f9 : Nat → Nat → Nat → Int32, f9 = up2 sa sv 5 (upd (sa sv 5) (nI m4).toNatClampNeg p0) := ⟨_, rfl⟩
    rw [← esa5] at hP hD
    replace hZ9 := bnd_s hZ9 esa5
    replace hUsa : ∀ s9 q9 : Nat, q9 ∉ ([5] : List Nat) → sa5 s9 q9 = sa s9 q9 := by rw [esa5]; exact xw_up2 (by decide) hUsa
    refine lv_aload_n hx hb dX0_put_29 rfl (lv_at hl 0 rfl) ?_
    refine lv_dup hx hb dX0_put_30 rfl ?_
    refine va_get (D := (dC, dI)) (ci := 1) (v := .int (si sv 32)) (C := RX0) (T := TX0) (N := 5) hx hb hts in_y_put_X0 hown hK hP (22 + (6 * sv + 4)) (xAt_4 h a e cI cJ cO cE L I M J n cap fE sd si sa5 dl (s := sv) (by omega)) rfl 2 (by decide) (hts (.fieldLink RX0 17 "ServiceTree$Door" "size" "I") (by decide +kernel)) (fun _ h9 => h9) rfl dX0_put_31 ?_
    refine p1_topr (v := .int (nI z2)) (congrArg Value.int ez2) ?_
    refine lv_iconst (v := 1) hx hb dX0_put_34 (by decide) ?_
    refine lv_iadd hx hb dX0_put_35 ?_
    refine p1_topr (v := .int (nI (z2 + 1))) (congrArg Value.int (nI_add z2 1)) ?_
    refine va_put (D := (dC, dI)) (ci := 1) (fs := [.ref (sd sv 5), .int (si sv 31), .int (si sv 32), .int (si sv 33), .int (si sv 34)]) (v := .int (nI (z2 + 1))) (ty := .int) (C := RX0) (T := TX0) (N := 5) hx hb hts in_y_put_X0 tyX0 tyX0_ok nmX0 hown hK hP hD hS (22 + (6 * sv + 4)) (xAt_4 h a e cI cJ cO cE L I M J n cap fE sd si sa5 dl (s := sv) (by omega)) rfl 2 (by decide) (hts (.fieldLink RX0 17 "ServiceTree$Door" "size" "I") (by decide +kernel)) (fun _ h9 => h9) rfl (by decide +kernel) rfl rfl (Nat.le_of_ble_eq_true rfl) dX0_put_36 (fun H locs hP hD hS => ?_)
    replace hP : va_P (dC, dI) vwCl ((xW h a e cI cJ cO cE L I M J n cap fE sd si sa5 dl).set (22 + (6 * sv + 4)) (sd sv 4, .inr (1, [.ref (sd sv 5), .int (si sv 31), .int (nI (z2 + 1)), .int (si sv 33), .int (si sv 34)]))) H := hP
    replace hD : va_D A ((xW h a e cI cJ cO cE L I M J n cap fE sd si sa5 dl).set (22 + (6 * sv + 4)) (sd sv 4, .inr (1, [.ref (sd sv 5), .int (si sv 31), .int (nI (z2 + 1)), .int (si sv 33), .int (si sv 34)]))) := hD
    rw [xSv_32 h a e cI cJ cO cE L I M J n cap fE sd si sa5 dl (s := sv) (by omega)] at hP hD
    obtain ⟨si6, esi6⟩ : ∃ f9 : Nat → Nat → Int32, f9 = up2 si sv 32 (nI (z2 + 1)) := ⟨_, rfl⟩
    rw [← esi6] at hP hD
    replace hZ9 := bnd_s hZ9 esi6
    replace hX : InvX n cap fE sd dl (b) I J si6 := by rw [esi6]; exact hX.set32 (x := z2 + 1) (by omega)
    replace hUsi : ∀ s9 q9 : Nat, q9 ∉ ([32] : List Nat) → si6 s9 q9 = si s9 q9 := by rw [esi6]; exact xw_up2 (by decide) hUsi
    exact W.vret hx hb hr (fun t ht hW => ⟨⟨(si6, sa5), rfl, ⟨hX.mono (by omega), hUsi, hUsa, hZ9.symm.trans hR0⟩, by rw [ht]; exact hP, hD⟩, hS.F ht⟩) hS.2.2 dX0_put_39
def f_y_readFirst (n : Nat) (dl : Nat → Nat) (sv : Nat) (si : Nat → Nat → Int32) (sa : Nat → Nat → Nat → Int32) : (Nat → Nat → Int32) := bnd ((si sv 32).toNatClampNeg) (fun (z1 : Nat) => if z1 = 0 then ((si)) else (if dl sv = 0 then ((si)) else (bnd ((si sv 31).toNatClampNeg) (fun (z4 : Nat) => bnd (sa sv 5 (nI z4).toNatClampNeg) (fun (x5 : Int32) => bnd (up2 si sv 34 x5) (fun (si6 : Nat → Nat → Int32) => bnd ((z4 + 1) % (dl sv)) (fun (m7 : Nat) => bnd (up2 si6 sv 31 (nI m7)) (fun (si8 : Nat → Nat → Int32) => bnd (up2 si8 sv 32 (nI (z1 - 1))) (fun (si9 : Nat → Nat → Int32) => bnd (si9 sv 33) (fun (x10 : Int32) => bnd (x10 + (1 : Int32)) (fun (x11 : Int32) => bnd (up2 si9 sv 33 x11) (fun (si12 : Nat → Nat → Int32) => (si12)))))))))))))
def wq_y_readFirst : List Cond := ([.code yX0_readFirst cX0_readFirst 1 none, .fieldLink RX0 17 "ServiceTree$Door" "size" "I", .fieldLink RX0 13 "ServiceTree$Door" "letters" "[I", .fieldLink RX0 24 "ServiceTree$Door" "first" "I", .fieldLink RX0 7 "ServiceTree$Door" "lastRead" "I", .fieldLink RX0 27 "ServiceTree$Door" "read" "I"] : List Cond) ++ (wsX00)
theorem in_y_readFirst_X0 : ∀ w ∈ wsX00, w ∈ wq_y_readFirst := fun _ h => List.mem_append_right _ (h)
set_option maxRecDepth 20000 in
theorem wi_y_readFirst : ∀ w ∈ wq_y_readFirst, w ∈ lw_tbl := List.forall_mem_append.mpr ⟨(wix [732, 318, 316, 317, 322, 320] rfl), inKX0⟩
set_option maxRecDepth 20000 in
theorem wg_y_readFirst : GoodIn wq_y_readFirst wq_y_readFirst := goodIn_sub (fun _ h => h) (by decide +kernel)
def rm_y_readFirst : Room := { frames := 0, cells := 0, slots := 0, locals := 0 }
set_option maxHeartbeats 4000000 in
set_option maxRecDepth 100000 in
theorem c_y_readFirst (l : Launch) (dC : Nat → ClassId) (dI : Nat → Nat → Nat) (h : Nat) (a : Nat → Nat) (e : Nat) (cI cJ cO cE : ClassId) (L : Nat → Int64) (I : Nat → Int32) (M : Nat → Nat → Int64) (J : Nat → Nat → Int32) (n cap : Nat) (fE : Nat → Option Nat) (sd : Nat → Nat → Nat) (si : Nat → Nat → Int32) (sa : Nat → Nat → Nat → Int32) (dl : Nat → Nat) (b : Nat) (sv : Nat) (sz : Nat) (hX0 : InvX n cap fE sd dl b I J si) (hb0 : b + 0 < 2147483648) (hp0 : sv < n) : Met l yX0_readFirst wq_y_readFirst rm_y_readFirst (va_Pc [.ref (sd sv 4)] (fun U => U.heap.size = sz ∧ va_P (dC, dI) vwCl (xW h a e cI cJ cO cE L I M J n cap fE sd si sa dl) U.heap ∧ va_K (dC, dI) vwCl (xT cI cJ cO cE) U ∧ va_D (fun _ => True) (xW h a e cI cJ cO cE L I M J n cap fE sd si sa dl) ∧ pw_N U)) (va_Qv (fun (u : (Nat → Nat → Int32)) => InvX n cap fE sd dl (b + 0) I J u ∧ (∀ s9 q9 : Nat, q9 ∉ ([31, 32, 33, 34] : List Nat) → u s9 q9 = si s9 q9) ∧ (u = f_y_readFirst n dl sv si sa)) (fun (u : (Nat → Nat → Int32)) (t : State) => va_P (dC, dI) vwCl (xW h a e cI cJ cO cE L I M J n cap fE sd u sa dl) t.heap ∧ va_D (va_A (xW h a e cI cJ cO cE L I M J n cap fE sd si sa dl) sz) (xW h a e cI cJ cO cE L I M J n cap fE sd u sa dl)) (va_A (xW h a e cI cJ cO cE L I M J n cap fE sd si sa dl) sz)) 0 0 (va_A (xW h a e cI cJ cO cE L I M J n cap fE sd si sa dl) sz) := by
  have hn : n ≤ 40 := hX0.1.1
  have hX := hX0
  have hUsi : ∀ s9 q9 : Nat, q9 ∉ ([31, 32, 33, 34] : List Nat) → si s9 q9 = si s9 q9 := fun _ _ _ => rfl
  refine Met.ofW (cc := cX0_readFirst) (maxL := 1) (ret := none) (by decide) rfl ?_
  intro p e9 s m args below meth c s₁ B hml hv
  obtain ⟨rfl, hsz, hP, hK, hD0, hN⟩ := hv
  have hx := B.exec
  have hb := B.bytes
  have hr := B.returns
  have hts := atoms_spec (ws := wq_y_readFirst) B.pre
  have hown : s.vm.findClass RX0 = some m.cls := findClass_of_methodNamed B.named
  have hlocks := B.notSynchronized
  subst hsz
  have hD := hD0.self (sz := s.heap.size)
  generalize hAe : va_A (xW h a e cI cJ cO cE L I M J n cap fE sd si sa dl) s.heap.size = A at hD ⊢
  have hA : ∀ q : Nat, s.heap.size ≤ q → A q := fun q h => by rw [← hAe]; exact Or.inr h
  have hS : va_S A s.heap s.heap [] := va_S.rf
  have hl := lv_entry ([.ref (sd sv 4)]) (n := 1) (Nat.le_of_ble_eq_true rfl)
  rw [lg_entry_eq]
  generalize (lg_sl ([.ref (sd sv 4)]) ++ List.replicate (1 - (lg_sl ([.ref (sd sv 4)])).length) Slot.unset).toArray = ls at hl ⊢
  have hl : lv_has ls 1 [(0, .ref (sd sv 4))] := hl
  obtain ⟨RES, hR0⟩ : ∃ R9, R9 = f_y_readFirst n dl sv si sa := ⟨_, rfl⟩
  have hZ9 := hR0
  unfold f_y_readFirst at hZ9
  have hdl := (hX.2.2.2.2.2.2.1 sv).1
  refine lv_aload_n hx hb dX0_readFirst_0 rfl (lv_at hl 0 rfl) ?_
  refine va_get (D := (dC, dI)) (ci := 1) (v := .int (si sv 32)) (C := RX0) (T := TX0) (N := 5) hx hb hts in_y_readFirst_X0 hown hK hP (22 + (6 * sv + 4)) (xAt_4 h a e cI cJ cO cE L I M J n cap fE sd si sa dl (s := sv) (by omega)) rfl 2 (by decide) (hts (.fieldLink RX0 17 "ServiceTree$Door" "size" "I") (by decide +kernel)) (fun _ h9 => h9) rfl dX0_readFirst_1 ?_
  obtain ⟨hdz1, z1, hz1, ez1⟩ := hX.2.2.2.2.2.2.1 sv
  refine p1_topr (v := .int (nI z1)) (congrArg Value.int ez1) ?_
  have hdlz1 := (hX.2.2.2.2.2.2.1 sv).1
  replace hZ9 := bnd_s hZ9 (show z1 = (si sv 32).toNatClampNeg by rw [ez1, nI_clamp (by omega)])
  refine lv_if_eq (tgt := 15) hx hb dX0_readFirst_4 (by decide) (fun c2 => ?_) (fun c2 => ?_)
  · replace c2 : z1 = 0 := (nI_eq (a := z1) (b := 0) (by omega) (by omega)).mp c2
    replace hZ9 := ite_t hZ9 c2
    exact W.vret hx hb hr (fun t ht hW => ⟨⟨si, rfl, ⟨hX.mono (by omega), hUsi, hZ9.symm.trans hR0⟩, by rw [ht]; exact hP, hD⟩, hS.F ht⟩) hS.2.2 dX0_readFirst_15
  · replace c2 : ¬ (z1 = 0) := fun q9 => c2 ((nI_eq (a := z1) (b := 0) (by omega) (by omega)).mpr q9)
    replace hZ9 := ite_f hZ9 c2
    refine lv_aload_n hx hb dX0_readFirst_7 rfl (lv_at hl 0 rfl) ?_
    refine va_get (D := (dC, dI)) (ci := 1) (v := .ref (sd sv 5)) (C := RX0) (T := TX0) (N := 5) hx hb hts in_y_readFirst_X0 hown hK hP (22 + (6 * sv + 4)) (xAt_4 h a e cI cJ cO cE L I M J n cap fE sd si sa dl (s := sv) (by omega)) rfl 0 (by decide) (hts (.fieldLink RX0 13 "ServiceTree$Door" "letters" "[I") (by decide +kernel)) (fun _ h9 => h9) rfl dX0_readFirst_8 ?_
    refine va_alen (v := (nI (dl sv))) hx hb hK hP (22 + (6 * sv + 5)) 0 (xAt_5 h a e cI cJ cO cE L I M J n cap fE sd si sa dl (s := sv) (by omega)) rfl rfl dX0_readFirst_11 ?_
    refine lv_if_ne (tgt := 16) hx hb dX0_readFirst_12 (by decide) (fun c3 => ?_) (fun c3 => ?_)
    · replace c3 : ¬ (dl sv = 0) := fun q9 => c3 ((nI_eq (a := dl sv) (b := 0) (by omega) (by omega)).mpr q9)
      replace hZ9 := ite_f hZ9 c3
      refine lv_aload_n hx hb dX0_readFirst_16 rfl (lv_at hl 0 rfl) ?_
      refine lv_aload_n hx hb dX0_readFirst_17 rfl (lv_at hl 0 rfl) ?_
      refine va_get (D := (dC, dI)) (ci := 1) (v := .ref (sd sv 5)) (C := RX0) (T := TX0) (N := 5) hx hb hts in_y_readFirst_X0 hown hK hP (22 + (6 * sv + 4)) (xAt_4 h a e cI cJ cO cE L I M J n cap fE sd si sa dl (s := sv) (by omega)) rfl 0 (by decide) (hts (.fieldLink RX0 13 "ServiceTree$Door" "letters" "[I") (by decide +kernel)) (fun _ h9 => h9) rfl dX0_readFirst_18 ?_
      refine lv_aload_n hx hb dX0_readFirst_21 rfl (lv_at hl 0 rfl) ?_
      refine va_get (D := (dC, dI)) (ci := 1) (v := .int (si sv 31)) (C := RX0) (T := TX0) (N := 5) hx hb hts in_y_readFirst_X0 hown hK hP (22 + (6 * sv + 4)) (xAt_4 h a e cI cJ cO cE L I M J n cap fE sd si sa dl (s := sv) (by omega)) rfl 1 (by decide) (hts (.fieldLink RX0 24 "ServiceTree$Door" "first" "I") (by decide +kernel)) (fun _ h9 => h9) rfl dX0_readFirst_22 ?_
      obtain ⟨z4, hz4, ez4⟩ := hX.2.2.2.2.2.2.2 sv
      refine p1_topr (v := .int (nI z4)) (congrArg Value.int ez4) ?_
      have hdlz4 := (hX.2.2.2.2.2.2.1 sv).1
      replace hZ9 := bnd_s hZ9 (show z4 = (si sv 31).toNatClampNeg by rw [ez4, nI_clamp (by omega)])
      refine va_iald (n := (dl sv)) (f := sa sv 5) hx hb hK hP (22 + (6 * sv + 5)) 0 (xAt_5 h a e cI cJ cO cE L I M J n cap fE sd si sa dl (s := sv) (by omega)) rfl (vp_in_nI (n := z4) (by omega) (by omega)) dX0_readFirst_25 ?_
      refine lv_topi (fun x5 ex5 => ?_)
      replace hZ9 := bnd_s hZ9 ex5
      refine va_put (D := (dC, dI)) (ci := 1) (fs := [.ref (sd sv 5), .int (si sv 31), .int (si sv 32), .int (si sv 33), .int (si sv 34)]) (v := .int x5) (ty := .int) (C := RX0) (T := TX0) (N := 5) hx hb hts in_y_readFirst_X0 tyX0 tyX0_ok nmX0 hown hK hP hD hS (22 + (6 * sv + 4)) (xAt_4 h a e cI cJ cO cE L I M J n cap fE sd si sa dl (s := sv) (by omega)) rfl 4 (by decide) (hts (.fieldLink RX0 7 "ServiceTree$Door" "lastRead" "I") (by decide +kernel)) (fun _ h9 => h9) rfl (by decide +kernel) rfl rfl (Nat.le_of_ble_eq_true rfl) dX0_readFirst_26 (fun H locs hP hD hS => ?_)
      replace hP : va_P (dC, dI) vwCl ((xW h a e cI cJ cO cE L I M J n cap fE sd si sa dl).set (22 + (6 * sv + 4)) (sd sv 4, .inr (1, [.ref (sd sv 5), .int (si sv 31), .int (si sv 32), .int (si sv 33), .int x5]))) H := hP
      replace hD : va_D A ((xW h a e cI cJ cO cE L I M J n cap fE sd si sa dl).set (22 + (6 * sv + 4)) (sd sv 4, .inr (1, [.ref (sd sv 5), .int (si sv 31), .int (si sv 32), .int (si sv 33), .int x5]))) := hD
      rw [xSv_34 h a e cI cJ cO cE L I M J n cap fE sd si sa dl (s := sv) (by omega)] at hP hD
      obtain ⟨si6, esi6⟩ : ∃ f9 : Nat → Nat → Int32, f9 = up2 si sv 34 x5 := ⟨_, rfl⟩
      rw [← esi6] at hP hD
      replace hZ9 := bnd_s hZ9 esi6
      replace hX : InvX n cap fE sd dl (b) I J si6 := by rw [esi6]; exact hX.setsi (by decide)
      replace hUsi : ∀ s9 q9 : Nat, q9 ∉ ([31, 32, 33, 34] : List Nat) → si6 s9 q9 = si s9 q9 := by rw [esi6]; exact xw_up2 (by decide) hUsi
      refine lv_aload_n hx hb dX0_readFirst_29 rfl (lv_at hl 0 rfl) ?_
      refine lv_aload_n hx hb dX0_readFirst_30 rfl (lv_at hl 0 rfl) ?_
      refine va_get (D := (dC, dI)) (ci := 1) (v := .int (si6 sv 31)) (C := RX0) (T := TX0) (N := 5) hx hb hts in_y_readFirst_X0 hown hK hP (22 + (6 * sv + 4)) (xAt_4 h a e cI cJ cO cE L I M J n cap fE sd si6 sa dl (s := sv) (by omega)) rfl 1 (by decide) (hts (.fieldLink RX0 24 "ServiceTree$Door" "first" "I") (by decide +kernel)) (fun _ h9 => h9) rfl dX0_readFirst_31 ?_
      refine p1_topr (v := .int (nI z4)) (congrArg Value.int (by rw [esi6, up2_ne (by decide)]; exact ez4)) ?_
      refine lv_iconst (v := 1) hx hb dX0_readFirst_34 (by decide) ?_
      refine lv_iadd hx hb dX0_readFirst_35 ?_
      refine p1_topr (v := .int (nI (z4 + 1))) (congrArg Value.int (nI_add z4 1)) ?_
      refine lv_aload_n hx hb dX0_readFirst_36 rfl (lv_at hl 0 rfl) ?_
      refine va_get (D := (dC, dI)) (ci := 1) (v := .ref (sd sv 5)) (C := RX0) (T := TX0) (N := 5) hx hb hts in_y_readFirst_X0 hown hK hP (22 + (6 * sv + 4)) (xAt_4 h a e cI cJ cO cE L I M J n cap fE sd si6 sa dl (s := sv) (by omega)) rfl 0 (by decide) (hts (.fieldLink RX0 13 "ServiceTree$Door" "letters" "[I") (by decide +kernel)) (fun _ h9 => h9) rfl dX0_readFirst_37 ?_
      refine va_alen (v := (nI (dl sv))) hx hb hK hP (22 + (6 * sv + 5)) 0 (xAt_5 h a e cI cJ cO cE L I M J n cap fE sd si6 sa dl (s := sv) (by omega)) rfl rfl dX0_readFirst_40 ?_
      refine lv_irem hx hb dX0_readFirst_41 (nI_ne0 (by omega) (by omega)) ?_
      obtain ⟨m7, hm7, em7⟩ : ∃ z9 : Nat, z9 < dl sv ∧ z9 = (z4 + 1) % (dl sv) := ⟨_, Nat.mod_lt _ (by omega), rfl⟩
      refine p1_topr (v := .int (nI m7)) (congrArg Value.int (by rw [em7]; exact pk_rem (a := z4 + 1) (d := dl sv) (by omega) (by omega) (by omega))) ?_
      replace hZ9 := bnd_s hZ9 em7
      refine va_put (D := (dC, dI)) (ci := 1) (fs := [.ref (sd sv 5), .int (si6 sv 31), .int (si6 sv 32), .int (si6 sv 33), .int (si6 sv 34)]) (v := .int (nI m7)) (ty := .int) (C := RX0) (T := TX0) (N := 5) hx hb hts in_y_readFirst_X0 tyX0 tyX0_ok nmX0 hown hK hP hD hS (22 + (6 * sv + 4)) (xAt_4 h a e cI cJ cO cE L I M J n cap fE sd si6 sa dl (s := sv) (by omega)) rfl 1 (by decide) (hts (.fieldLink RX0 24 "ServiceTree$Door" "first" "I") (by decide +kernel)) (fun _ h9 => h9) rfl (by decide +kernel) rfl rfl (Nat.le_of_ble_eq_true rfl) dX0_readFirst_42 (fun H locs hP hD hS => ?_)
      replace hP : va_P (dC, dI) vwCl ((xW h a e cI cJ cO cE L I M J n cap fE sd si6 sa dl).set (22 + (6 * sv + 4)) (sd sv 4, .inr (1, [.ref (sd sv 5), .int (nI m7), .int (si6 sv 32), .int (si6 sv 33), .int (si6 sv 34)]))) H := hP
      replace hD : va_D A ((xW h a e cI cJ cO cE L I M J n cap fE sd si6 sa dl).set (22 + (6 * sv + 4)) (sd sv 4, .inr (1, [.ref (sd sv 5), .int (nI m7), .int (si6 sv 32), .int (si6 sv 33), .int (si6 sv 34)]))) := hD
      rw [xSv_31 h a e cI cJ cO cE L I M J n cap fE sd si6 sa dl (s := sv) (by omega)] at hP hD
      obtain ⟨si8, esi8⟩ : ∃ f9 : Nat → Nat → Int32, f9 = up2 si6 sv 31 (nI m7) := ⟨_, rfl⟩
      rw [← esi8] at hP hD
      replace hZ9 := bnd_s hZ9 esi8
      replace hX : InvX n cap fE sd dl (b) I J si8 := by rw [esi8]; exact hX.set31 (x := m7) (by omega)
      replace hUsi : ∀ s9 q9 : Nat, q9 ∉ ([31, 32, 33, 34] : List Nat) → si8 s9 q9 = si s9 q9 := by rw [esi8]; exact xw_up2 (by decide) hUsi
      refine lv_aload_n hx hb dX0_readFirst_45 rfl (lv_at hl 0 rfl) ?_
      refine lv_dup hx hb dX0_readFirst_46 rfl ?_
      refine va_get (D := (dC, dI)) (ci := 1) (v := .int (si8 sv 32)) (C := RX0) (T := TX0) (N := 5) hx hb hts in_y_readFirst_X0 hown hK hP (22 + (6 * sv + 4)) (xAt_4 h a e cI cJ cO cE L I M J n cap fE sd si8 sa dl (s := sv) (by omega)) rfl 2 (by decide) (hts (.fieldLink RX0 17 "ServiceTree$Door" "size" "I") (by decide +kernel)) (fun _ h9 => h9) rfl dX0_readFirst_47 ?_
      refine p1_topr (v := .int (nI z1)) (congrArg Value.int (by rw [esi8, up2_ne (by decide)]; exact (by rw [esi6, up2_ne (by decide)]; exact ez1))) ?_
      refine lv_iconst (v := 1) hx hb dX0_readFirst_50 (by decide) ?_
      refine lv_isub hx hb dX0_readFirst_51 ?_
      refine p1_topr (v := .int (nI (z1 - 1))) (congrArg Value.int (pk_sub (a := z1) (b := 1) (by omega))) ?_
      refine va_put (D := (dC, dI)) (ci := 1) (fs := [.ref (sd sv 5), .int (si8 sv 31), .int (si8 sv 32), .int (si8 sv 33), .int (si8 sv 34)]) (v := .int (nI (z1 - 1))) (ty := .int) (C := RX0) (T := TX0) (N := 5) hx hb hts in_y_readFirst_X0 tyX0 tyX0_ok nmX0 hown hK hP hD hS (22 + (6 * sv + 4)) (xAt_4 h a e cI cJ cO cE L I M J n cap fE sd si8 sa dl (s := sv) (by omega)) rfl 2 (by decide) (hts (.fieldLink RX0 17 "ServiceTree$Door" "size" "I") (by decide +kernel)) (fun _ h9 => h9) rfl (by decide +kernel) rfl rfl (Nat.le_of_ble_eq_true rfl) dX0_readFirst_52 (fun H locs hP hD hS => ?_)
      replace hP : va_P (dC, dI) vwCl ((xW h a e cI cJ cO cE L I M J n cap fE sd si8 sa dl).set (22 + (6 * sv + 4)) (sd sv 4, .inr (1, [.ref (sd sv 5), .int (si8 sv 31), .int (nI (z1 - 1)), .int (si8 sv 33), .int (si8 sv 34)]))) H := hP
      replace hD : va_D A ((xW h a e cI cJ cO cE L I M J n cap fE sd si8 sa dl).set (22 + (6 * sv + 4)) (sd sv 4, .inr (1, [.ref (sd sv 5), .int (si8 sv 31), .int (nI (z1 - 1)), .int (si8 sv 33), .int (si8 sv 34)]))) := hD
      rw [xSv_32 h a e cI cJ cO cE L I M J n cap fE sd si8 sa dl (s := sv) (by omega)] at hP hD
      obtain ⟨si9, esi9⟩ : ∃ f9 : Nat → Nat → Int32, f9 = up2 si8 sv 32 (nI (z1 - 1)) := ⟨_, rfl⟩
      rw [← esi9] at hP hD
      replace hZ9 := bnd_s hZ9 esi9
      replace hX : InvX n cap fE sd dl (b) I J si9 := by rw [esi9]; exact hX.set32 (x := z1 - 1) (by omega)
      replace hUsi : ∀ s9 q9 : Nat, q9 ∉ ([31, 32, 33, 34] : List Nat) → si9 s9 q9 = si s9 q9 := by rw [esi9]; exact xw_up2 (by decide) hUsi
      refine lv_aload_n hx hb dX0_readFirst_55 rfl (lv_at hl 0 rfl) ?_
      refine lv_dup hx hb dX0_readFirst_56 rfl ?_
      refine va_get (D := (dC, dI)) (ci := 1) (v := .int (si9 sv 33)) (C := RX0) (T := TX0) (N := 5) hx hb hts in_y_readFirst_X0 hown hK hP (22 + (6 * sv + 4)) (xAt_4 h a e cI cJ cO cE L I M J n cap fE sd si9 sa dl (s := sv) (by omega)) rfl 3 (by decide) (hts (.fieldLink RX0 27 "ServiceTree$Door" "read" "I") (by decide +kernel)) (fun _ h9 => h9) rfl dX0_readFirst_57 ?_
      refine lv_topi (fun x10 ex10 => ?_)
      replace hZ9 := bnd_s hZ9 ex10
      refine lv_iconst (v := 1) hx hb dX0_readFirst_60 (by decide) ?_
      refine lv_iadd hx hb dX0_readFirst_61 ?_
      refine lv_topi (fun x11 ex11 => ?_)
      replace hZ9 := bnd_s hZ9 ex11
      refine va_put (D := (dC, dI)) (ci := 1) (fs := [.ref (sd sv 5), .int (si9 sv 31), .int (si9 sv 32), .int (si9 sv 33), .int (si9 sv 34)]) (v := .int x11) (ty := .int) (C := RX0) (T := TX0) (N := 5) hx hb hts in_y_readFirst_X0 tyX0 tyX0_ok nmX0 hown hK hP hD hS (22 + (6 * sv + 4)) (xAt_4 h a e cI cJ cO cE L I M J n cap fE sd si9 sa dl (s := sv) (by omega)) rfl 3 (by decide) (hts (.fieldLink RX0 27 "ServiceTree$Door" "read" "I") (by decide +kernel)) (fun _ h9 => h9) rfl (by decide +kernel) rfl rfl (Nat.le_of_ble_eq_true rfl) dX0_readFirst_62 (fun H locs hP hD hS => ?_)
      replace hP : va_P (dC, dI) vwCl ((xW h a e cI cJ cO cE L I M J n cap fE sd si9 sa dl).set (22 + (6 * sv + 4)) (sd sv 4, .inr (1, [.ref (sd sv 5), .int (si9 sv 31), .int (si9 sv 32), .int x11, .int (si9 sv 34)]))) H := hP
      replace hD : va_D A ((xW h a e cI cJ cO cE L I M J n cap fE sd si9 sa dl).set (22 + (6 * sv + 4)) (sd sv 4, .inr (1, [.ref (sd sv 5), .int (si9 sv 31), .int (si9 sv 32), .int x11, .int (si9 sv 34)]))) := hD
      rw [xSv_33 h a e cI cJ cO cE L I M J n cap fE sd si9 sa dl (s := sv) (by omega)] at hP hD
      obtain ⟨si12, esi12⟩ : ∃ f9 : Nat → Nat → Int32, f9 = up2 si9 sv 33 x11 := ⟨_, rfl⟩
      rw [← esi12] at hP hD
      replace hZ9 := bnd_s hZ9 esi12
      replace hX : InvX n cap fE sd dl (b) I J si12 := by rw [esi12]; exact hX.setsi (by decide)
      replace hUsi : ∀ s9 q9 : Nat, q9 ∉ ([31, 32, 33, 34] : List Nat) → si12 s9 q9 = si s9 q9 := by rw [esi12]; exact xw_up2 (by decide) hUsi
      exact W.vret hx hb hr (fun t ht hW => ⟨⟨si12, rfl, ⟨hX.mono (by omega), hUsi, hZ9.symm.trans hR0⟩, by rw [ht]; exact hP, hD⟩, hS.F ht⟩) hS.2.2 dX0_readFirst_65
    · replace c3 : dl sv = 0 := (nI_eq (a := dl sv) (b := 0) (by omega) (by omega)).mp c3
      replace hZ9 := ite_t hZ9 c3
      exact W.vret hx hb hr (fun t ht hW => ⟨⟨si, rfl, ⟨hX.mono (by omega), hUsi, hZ9.symm.trans hR0⟩, by rw [ht]; exact hP, hD⟩, hS.F ht⟩) hS.2.2 dX0_readFirst_15
def f_y_fss (n : Nat) (dl : Nat → Nat) (sv : Nat) (si : Nat → Nat → Int32) : Int32 := bnd (si sv 1) (fun (x1 : Int32) => if x1 = (0 : Int32) then (((2 : Int32))) else (((1 : Int32))))
def wq_y_fss : List Cond := ([.code yX7_firstStateOfStart cX7_firstStateOfStart 1 (some .int), .fieldLink RX7 29 "ServiceTree$Service" "startTicks" "I"] : List Cond) ++ (wsX70)
theorem in_y_fss_X7 : ∀ w ∈ wsX70, w ∈ wq_y_fss := fun _ h => List.mem_append_right _ (h)
set_option maxRecDepth 20000 in
theorem wi_y_fss : ∀ w ∈ wq_y_fss, w ∈ lw_tbl := List.forall_mem_append.mpr ⟨(wix [668, 337] rfl), inKX7⟩
set_option maxRecDepth 20000 in
theorem wg_y_fss : GoodIn wq_y_fss wq_y_fss := goodIn_sub (fun _ h => h) (by decide +kernel)
def rm_y_fss : Room := { frames := 0, cells := 0, slots := 0, locals := 0 }
set_option maxHeartbeats 4000000 in
set_option maxRecDepth 100000 in
theorem c_y_fss (l : Launch) (dC : Nat → ClassId) (dI : Nat → Nat → Nat) (h : Nat) (a : Nat → Nat) (e : Nat) (cI cJ cO cE : ClassId) (L : Nat → Int64) (I : Nat → Int32) (M : Nat → Nat → Int64) (J : Nat → Nat → Int32) (n cap : Nat) (fE : Nat → Option Nat) (sd : Nat → Nat → Nat) (si : Nat → Nat → Int32) (sa : Nat → Nat → Nat → Int32) (dl : Nat → Nat) (b : Nat) (sv : Nat) (sz : Nat) (hX0 : InvX n cap fE sd dl b I J si) (hb0 : b + 0 < 2147483648) (hp0 : sv < n) : Met l yX7_firstStateOfStart wq_y_fss rm_y_fss (va_Pc [.ref (sd sv 0)] (fun U => U.heap.size = sz ∧ va_P (dC, dI) vwCl (xW h a e cI cJ cO cE L I M J n cap fE sd si sa dl) U.heap ∧ va_K (dC, dI) vwCl (xT cI cJ cO cE) U ∧ va_D (fun _ => True) (xW h a e cI cJ cO cE L I M J n cap fE sd si sa dl) ∧ pw_N U)) (va_Qi (fun (r : Int32) (u : Unit) => ((r = f_y_fss n dl sv si) ∧ (∃ j : Nat, j ≤ 5 ∧ r = nI j))) (fun (u : Unit) (t : State) => va_P (dC, dI) vwCl (xW h a e cI cJ cO cE L I M J n cap fE sd si sa dl) t.heap ∧ va_D (va_A (xW h a e cI cJ cO cE L I M J n cap fE sd si sa dl) sz) (xW h a e cI cJ cO cE L I M J n cap fE sd si sa dl)) (va_A (xW h a e cI cJ cO cE L I M J n cap fE sd si sa dl) sz)) 0 0 (va_A (xW h a e cI cJ cO cE L I M J n cap fE sd si sa dl) sz) := by
  have hn : n ≤ 40 := hX0.1.1
  have hX := hX0
  refine Met.ofW (cc := cX7_firstStateOfStart) (maxL := 1) (ret := (some .int)) (by decide) rfl ?_
  intro p e9 s m args below meth c s₁ B hml hv
  obtain ⟨rfl, hsz, hP, hK, hD0, hN⟩ := hv
  have hx := B.exec
  have hb := B.bytes
  have hr := B.returns
  have hts := atoms_spec (ws := wq_y_fss) B.pre
  have hown : s.vm.findClass RX7 = some m.cls := findClass_of_methodNamed B.named
  have hlocks := B.notSynchronized
  subst hsz
  have hD := hD0.self (sz := s.heap.size)
  generalize hAe : va_A (xW h a e cI cJ cO cE L I M J n cap fE sd si sa dl) s.heap.size = A at hD ⊢
  have hA : ∀ q : Nat, s.heap.size ≤ q → A q := fun q h => by rw [← hAe]; exact Or.inr h
  have hS : va_S A s.heap s.heap [] := va_S.rf
  have hl := lv_entry ([.ref (sd sv 0)]) (n := 1) (Nat.le_of_ble_eq_true rfl)
  rw [lg_entry_eq]
  generalize (lg_sl ([.ref (sd sv 0)]) ++ List.replicate (1 - (lg_sl ([.ref (sd sv 0)])).length) Slot.unset).toArray = ls at hl ⊢
  have hl : lv_has ls 1 [(0, .ref (sd sv 0))] := hl
  obtain ⟨RES, hR0⟩ : ∃ R9, R9 = f_y_fss n dl sv si := ⟨_, rfl⟩
  have hZ9 := hR0
  unfold f_y_fss at hZ9
  refine lv_aload_n hx hb dX7_firstStateOfStart_0 rfl (lv_at hl 0 rfl) ?_
  refine va_get (D := (dC, dI)) (ci := 8) (v := .int (si sv 1)) (C := RX7) (T := TX7) (N := 12) hx hb hts in_y_fss_X7 hown hK hP (22 + (6 * sv + 0)) (xAt_0 h a e cI cJ cO cE L I M J n cap fE sd si sa dl (s := sv) (by omega)) rfl 1 (by decide) (hts (.fieldLink RX7 29 "ServiceTree$Service" "startTicks" "I") (by decide +kernel)) (fun _ h9 => h9) rfl dX7_firstStateOfStart_1 ?_
  refine lv_topi (fun x1 ex1 => ?_)
  replace hZ9 := bnd_s hZ9 ex1
  refine lv_if_ne (tgt := 11) hx hb dX7_firstStateOfStart_4 (by decide) (fun c2 => ?_) (fun c2 => ?_)
  · replace hZ9 := ite_f hZ9 c2
    refine lv_iconst (v := 1) hx hb dX7_firstStateOfStart_11 (by decide) ?_
    exact W.iret (v := 1) hx hb hr (fun t ht hW => ⟨⟨1, (), rfl, ⟨hZ9.symm.trans hR0, ⟨1, by decide, rfl⟩⟩, by rw [ht]; exact hP, hD⟩, hS.F ht⟩) hS.2.2 dX7_firstStateOfStart_12
  · replace hZ9 := ite_t hZ9 c2
    refine lv_iconst (v := 2) hx hb dX7_firstStateOfStart_7 (by decide) ?_
    refine lv_goto (tgt := 12) hx hb dX7_firstStateOfStart_8 (by decide) ?_
    exact W.iret (v := 2) hx hb hr (fun t ht hW => ⟨⟨2, (), rfl, ⟨hZ9.symm.trans hR0, ⟨2, by decide, rfl⟩⟩, by rw [ht]; exact hP, hD⟩, hS.F ht⟩) hS.2.2 dX7_firstStateOfStart_12
def f_y_fsp (n : Nat) (dl : Nat → Nat) (sv : Nat) (si : Nat → Nat → Int32) : Int32 := bnd (si sv 2) (fun (x1 : Int32) => if x1 = (0 : Int32) then (((0 : Int32))) else (((3 : Int32))))
def wq_y_fsp : List Cond := ([.code yX7_firstStateOfStop cX7_firstStateOfStop 1 (some .int), .fieldLink RX7 32 "ServiceTree$Service" "stopTicks" "I"] : List Cond) ++ (wsX70)
theorem in_y_fsp_X7 : ∀ w ∈ wsX70, w ∈ wq_y_fsp := fun _ h => List.mem_append_right _ (h)
set_option maxRecDepth 20000 in
theorem wi_y_fsp : ∀ w ∈ wq_y_fsp, w ∈ lw_tbl := List.forall_mem_append.mpr ⟨(wix [676, 339] rfl), inKX7⟩
set_option maxRecDepth 20000 in
theorem wg_y_fsp : GoodIn wq_y_fsp wq_y_fsp := goodIn_sub (fun _ h => h) (by decide +kernel)
def rm_y_fsp : Room := { frames := 0, cells := 0, slots := 0, locals := 0 }
set_option maxHeartbeats 4000000 in
set_option maxRecDepth 100000 in
theorem c_y_fsp (l : Launch) (dC : Nat → ClassId) (dI : Nat → Nat → Nat) (h : Nat) (a : Nat → Nat) (e : Nat) (cI cJ cO cE : ClassId) (L : Nat → Int64) (I : Nat → Int32) (M : Nat → Nat → Int64) (J : Nat → Nat → Int32) (n cap : Nat) (fE : Nat → Option Nat) (sd : Nat → Nat → Nat) (si : Nat → Nat → Int32) (sa : Nat → Nat → Nat → Int32) (dl : Nat → Nat) (b : Nat) (sv : Nat) (sz : Nat) (hX0 : InvX n cap fE sd dl b I J si) (hb0 : b + 0 < 2147483648) (hp0 : sv < n) : Met l yX7_firstStateOfStop wq_y_fsp rm_y_fsp (va_Pc [.ref (sd sv 0)] (fun U => U.heap.size = sz ∧ va_P (dC, dI) vwCl (xW h a e cI cJ cO cE L I M J n cap fE sd si sa dl) U.heap ∧ va_K (dC, dI) vwCl (xT cI cJ cO cE) U ∧ va_D (fun _ => True) (xW h a e cI cJ cO cE L I M J n cap fE sd si sa dl) ∧ pw_N U)) (va_Qi (fun (r : Int32) (u : Unit) => ((r = f_y_fsp n dl sv si) ∧ (∃ j : Nat, j ≤ 5 ∧ r = nI j))) (fun (u : Unit) (t : State) => va_P (dC, dI) vwCl (xW h a e cI cJ cO cE L I M J n cap fE sd si sa dl) t.heap ∧ va_D (va_A (xW h a e cI cJ cO cE L I M J n cap fE sd si sa dl) sz) (xW h a e cI cJ cO cE L I M J n cap fE sd si sa dl)) (va_A (xW h a e cI cJ cO cE L I M J n cap fE sd si sa dl) sz)) 0 0 (va_A (xW h a e cI cJ cO cE L I M J n cap fE sd si sa dl) sz) := by
  have hn : n ≤ 40 := hX0.1.1
  have hX := hX0
  refine Met.ofW (cc := cX7_firstStateOfStop) (maxL := 1) (ret := (some .int)) (by decide) rfl ?_
  intro p e9 s m args below meth c s₁ B hml hv
  obtain ⟨rfl, hsz, hP, hK, hD0, hN⟩ := hv
  have hx := B.exec
  have hb := B.bytes
  have hr := B.returns
  have hts := atoms_spec (ws := wq_y_fsp) B.pre
  have hown : s.vm.findClass RX7 = some m.cls := findClass_of_methodNamed B.named
  have hlocks := B.notSynchronized
  subst hsz
  have hD := hD0.self (sz := s.heap.size)
  generalize hAe : va_A (xW h a e cI cJ cO cE L I M J n cap fE sd si sa dl) s.heap.size = A at hD ⊢
  have hA : ∀ q : Nat, s.heap.size ≤ q → A q := fun q h => by rw [← hAe]; exact Or.inr h
  have hS : va_S A s.heap s.heap [] := va_S.rf
  have hl := lv_entry ([.ref (sd sv 0)]) (n := 1) (Nat.le_of_ble_eq_true rfl)
  rw [lg_entry_eq]
  generalize (lg_sl ([.ref (sd sv 0)]) ++ List.replicate (1 - (lg_sl ([.ref (sd sv 0)])).length) Slot.unset).toArray = ls at hl ⊢
  have hl : lv_has ls 1 [(0, .ref (sd sv 0))] := hl
  obtain ⟨RES, hR0⟩ : ∃ R9, R9 = f_y_fsp n dl sv si := ⟨_, rfl⟩
  have hZ9 := hR0
  unfold f_y_fsp at hZ9
  refine lv_aload_n hx hb dX7_firstStateOfStop_0 rfl (lv_at hl 0 rfl) ?_
  refine va_get (D := (dC, dI)) (ci := 8) (v := .int (si sv 2)) (C := RX7) (T := TX7) (N := 12) hx hb hts in_y_fsp_X7 hown hK hP (22 + (6 * sv + 0)) (xAt_0 h a e cI cJ cO cE L I M J n cap fE sd si sa dl (s := sv) (by omega)) rfl 2 (by decide) (hts (.fieldLink RX7 32 "ServiceTree$Service" "stopTicks" "I") (by decide +kernel)) (fun _ h9 => h9) rfl dX7_firstStateOfStop_1 ?_
  refine lv_topi (fun x1 ex1 => ?_)
  replace hZ9 := bnd_s hZ9 ex1
  refine lv_if_ne (tgt := 11) hx hb dX7_firstStateOfStop_4 (by decide) (fun c2 => ?_) (fun c2 => ?_)
  · replace hZ9 := ite_f hZ9 c2
    refine lv_iconst (v := 3) hx hb dX7_firstStateOfStop_11 (by decide) ?_
    exact W.iret (v := 3) hx hb hr (fun t ht hW => ⟨⟨3, (), rfl, ⟨hZ9.symm.trans hR0, ⟨3, by decide, rfl⟩⟩, by rw [ht]; exact hP, hD⟩, hS.F ht⟩) hS.2.2 dX7_firstStateOfStop_12
  · replace hZ9 := ite_t hZ9 c2
    refine lv_iconst (v := 0) hx hb dX7_firstStateOfStop_7 (by decide) ?_
    refine lv_goto (tgt := 12) hx hb dX7_firstStateOfStop_8 (by decide) ?_
    exact W.iret (v := 0) hx hb hr (fun t ht hW => ⟨⟨0, (), rfl, ⟨hZ9.symm.trans hR0, ⟨0, by decide, rfl⟩⟩, by rw [ht]; exact hP, hD⟩, hS.F ht⟩) hS.2.2 dX7_firstStateOfStop_12
def f_y_senter (n : Nat) (dl : Nat → Nat) (sv : Nat) (tv : Nat) (p1 : Int32) (si : Nat → Nat → Int32) (sa : Nat → Nat → Nat → Int32) : (Nat → Nat → Int32) × (Nat → Nat → Nat → Int32) := bnd (up2 si sv 6 (nI tv)) (fun (si1 : Nat → Nat → Int32) => bnd (up2 si1 sv 7 p1) (fun (si2 : Nat → Nat → Int32) => bnd (up2 si2 sv 11 0) (fun (si3 : Nat → Nat → Int32) => bnd (up2 si3 sv 10 0) (fun (si4 : Nat → Nat → Int32) => if tv = 2 then (bnd (si4 sv 8) (fun (x23 : Int32) => bnd (if (7 : Int32) < x23 then (7 : Int32) else x23) (fun (x24 : Int32) => bnd (if (0 : Int32) < x24 then x24 else (0 : Int32)) (fun (x25 : Int32) => bnd (x25.toNatClampNeg) (fun (j26 : Nat) => bnd (sa sv 1 (nI j26).toNatClampNeg) (fun (x27 : Int32) => bnd (up2 si4 sv 10 x27) (fun (si28 : Nat → Nat → Int32) => bnd (x23 + (1 : Int32)) (fun (x29 : Int32) => bnd (up2 si28 sv 8 x29) (fun (si30 : Nat → Nat → Int32) => if tv = 4 then (bnd (si30 sv 9) (fun (x32 : Int32) => bnd (x32 + (1 : Int32)) (fun (x33 : Int32) => bnd (up2 si30 sv 9 x33) (fun (si34 : Nat → Nat → Int32) => if tv = 5 then (bn2 (f_y_note n dl sv p1 si34 sa) (fun (si37 : Nat → Nat → Int32) (sa38 : Nat → Nat → Nat → Int32) => (si37, sa38))) else ((si34, sa)))))) else (if tv = 5 then (bnd (si30 sv 9) (fun (x41 : Int32) => bnd (x41 + (1 : Int32)) (fun (x42 : Int32) => bnd (up2 si30 sv 9 x42) (fun (si43 : Nat → Nat → Int32) => bn2 (f_y_note n dl sv p1 si43 sa) (fun (si46 : Nat → Nat → Int32) (sa47 : Nat → Nat → Nat → Int32) => (si46, sa47)))))) else ((si30, sa)))))))))))) else (if tv = 4 then (bnd (si4 sv 9) (fun (x7 : Int32) => bnd (x7 + (1 : Int32)) (fun (x8 : Int32) => bnd (up2 si4 sv 9 x8) (fun (si9 : Nat → Nat → Int32) => if tv = 5 then (bn2 (f_y_note n dl sv p1 si9 sa) (fun (si12 : Nat → Nat → Int32) (sa13 : Nat → Nat → Nat → Int32) => (si12, sa13))) else ((si9, sa)))))) else (if tv = 5 then (bnd (si4 sv 9) (fun (x16 : Int32) => bnd (x16 + (1 : Int32)) (fun (x17 : Int32) => bnd (up2 si4 sv 9 x17) (fun (si18 : Nat → Nat → Int32) => bn2 (f_y_note n dl sv p1 si18 sa) (fun (si21 : Nat → Nat → Int32) (sa22 : Nat → Nat → Nat → Int32) => (si21, sa22)))))) else ((si4, sa))))))))
def wq_y_senter : List Cond := ([.code yX7_enter cX7_enter 3 none, .fieldLink RX7 22 "ServiceTree$Service" "state" "I", .fieldLink RX7 35 "ServiceTree$Service" "since" "I", .fieldLink RX7 47 "ServiceTree$Service" "ended" "Z", .fieldLink RX7 51 "ServiceTree$Service" "life" "I", .fieldLink RX7 66 "ServiceTree$Service" "failures" "I", .fieldLink RX7 18 "ServiceTree$Service" "restarts" "LServiceTree$Restarts;", .fieldLink RX7 9 "ServiceTree$Service" "lives" "[I", .fieldLink RX7 54 "ServiceTree$Service" "starts" "I", .methodLink RX7 57 Lib.Math.min.name, .static Lib.Math.min.name, .initialized "java/lang/Math", .code Lib.Math.min.name Lib.Math.min.code 2 (some .int), .methodLink RX7 63 Lib.Math.max.name, .static Lib.Math.max.name, .code Lib.Math.max.name Lib.Math.max.code 2 (some .int), .methodLink RX7 69 yX6_note, .instanceMethod yX6_note, .selects RX6 yX6_note yX6_note, .initialized RX6] : List Cond) ++ (wsX70 ++ (wq_y_note))
theorem in_y_senter_X7 : ∀ w ∈ wsX70, w ∈ wq_y_senter := fun _ h => List.mem_append_right _ (List.mem_append_left _ (h))
set_option maxRecDepth 20000 in
theorem wi_y_senter : ∀ w ∈ wq_y_senter, w ∈ lw_tbl := List.forall_mem_append.mpr ⟨(wix [601, 347, 349, 357, 355, 353, 343, 341, 351, 602, 435, 74, 436, 603, 404, 405, 604, 605, 606, 71] rfl), List.forall_mem_append.mpr ⟨inKX7, wi_y_note⟩⟩
set_option maxRecDepth 20000 in
theorem wg_y_senter : GoodIn wq_y_senter wq_y_senter := goodIn_sub (fun _ h => h) (by decide +kernel)
set_option maxRecDepth 20000 in
theorem wc_y_senter_y_note_69 : GoodIn wq_y_senter (wsV RX7 69 RX6 yX6_note wq_y_note) := goodIn_app (goodIn_of _ (by decide +kernel)) (fun w h => ⟨List.mem_append_right _ (List.mem_append_right _ (h)), (wg_y_note w h).2⟩)
def rm_y_senter : Room := { frames := 1, cells := 0, slots := 0, locals := 24 }
set_option maxHeartbeats 4000000 in
set_option maxRecDepth 100000 in
theorem c_y_senter (l : Launch) (dC : Nat → ClassId) (dI : Nat → Nat → Nat) (h : Nat) (a : Nat → Nat) (e : Nat) (cI cJ cO cE : ClassId) (L : Nat → Int64) (I : Nat → Int32) (M : Nat → Nat → Int64) (J : Nat → Nat → Int32) (n cap : Nat) (fE : Nat → Option Nat) (sd : Nat → Nat → Nat) (si : Nat → Nat → Int32) (sa : Nat → Nat → Nat → Int32) (dl : Nat → Nat) (b : Nat) (sv : Nat) (tv : Nat) (p1 : Int32) (sz : Nat) (hX0 : InvX n cap fE sd dl b I J si) (hb0 : b + 0 < 2147483648) (hp0 : sv < n) (hp1 : tv ≤ 5) : Met l yX7_enter wq_y_senter rm_y_senter (va_Pc [.ref (sd sv 0), .int (nI tv), .int p1] (fun U => U.heap.size = sz ∧ va_P (dC, dI) vwCl (xW h a e cI cJ cO cE L I M J n cap fE sd si sa dl) U.heap ∧ va_K (dC, dI) vwCl (xT cI cJ cO cE) U ∧ va_D (fun _ => True) (xW h a e cI cJ cO cE L I M J n cap fE sd si sa dl) ∧ pw_N U)) (va_Qv (fun (u : (Nat → Nat → Int32) × (Nat → Nat → Nat → Int32)) => InvX n cap fE sd dl (b + 0) I J u.1 ∧ (∀ s9 q9 : Nat, q9 ∉ ([6, 7, 8, 9, 10, 11, 21, 22] : List Nat) → u.1 s9 q9 = si s9 q9) ∧ (∀ s9 q9 : Nat, q9 ∉ ([3] : List Nat) → u.2 s9 q9 = sa s9 q9) ∧ (u = f_y_senter n dl sv tv p1 si sa)) (fun (u : (Nat → Nat → Int32) × (Nat → Nat → Nat → Int32)) (t : State) => va_P (dC, dI) vwCl (xW h a e cI cJ cO cE L I M J n cap fE sd u.1 u.2 dl) t.heap ∧ va_D (va_A (xW h a e cI cJ cO cE L I M J n cap fE sd si sa dl) sz) (xW h a e cI cJ cO cE L I M J n cap fE sd u.1 u.2 dl)) (va_A (xW h a e cI cJ cO cE L I M J n cap fE sd si sa dl) sz)) 0 0 (va_A (xW h a e cI cJ cO cE L I M J n cap fE sd si sa dl) sz) := by
  have hn : n ≤ 40 := hX0.1.1
  have hX := hX0
  have hUsi : ∀ s9 q9 : Nat, q9 ∉ ([6, 7, 8, 9, 10, 11, 21, 22] : List Nat) → si s9 q9 = si s9 q9 := fun _ _ _ => rfl
  have hUsa : ∀ s9 q9 : Nat, q9 ∉ ([3] : List Nat) → sa s9 q9 = sa s9 q9 := fun _ _ _ => rfl
  refine Met.ofW (cc := cX7_enter) (maxL := 3) (ret := none) (by decide) rfl ?_
  intro p e9 s m args below meth c s₁ B hml hv
  obtain ⟨rfl, hsz, hP, hK, hD0, hN⟩ := hv
  have hx := B.exec
  have hb := B.bytes
  have hr := B.returns
  have hts := atoms_spec (ws := wq_y_senter) B.pre
  have hown : s.vm.findClass RX7 = some m.cls := findClass_of_methodNamed B.named
  have hlocks := B.notSynchronized
  subst hsz
  have hD := hD0.self (sz := s.heap.size)
  generalize hAe : va_A (xW h a e cI cJ cO cE L I M J n cap fE sd si sa dl) s.heap.size = A at hD ⊢
  have hA : ∀ q : Nat, s.heap.size ≤ q → A q := fun q h => by rw [← hAe]; exact Or.inr h
  have hS : va_S A s.heap s.heap [] := va_S.rf
  have hl := lv_entry ([.ref (sd sv 0), .int (nI tv), .int p1]) (n := 3) (Nat.le_of_ble_eq_true rfl)
  rw [lg_entry_eq]
  generalize (lg_sl ([.ref (sd sv 0), .int (nI tv), .int p1]) ++ List.replicate (3 - (lg_sl ([.ref (sd sv 0), .int (nI tv), .int p1])).length) Slot.unset).toArray = ls at hl ⊢
  have hl : lv_has ls 3 [(0, .ref (sd sv 0)), (1, .int (nI tv)), (2, .int p1)] := hl
  obtain ⟨RES, hR0⟩ : ∃ R9, R9 = f_y_senter n dl sv tv p1 si sa := ⟨_, rfl⟩
  have hZ9 := hR0
  unfold f_y_senter at hZ9
  refine lv_aload_n hx hb dX7_enter_0 rfl (lv_at hl 0 rfl) ?_
  refine lv_iload_n hx hb dX7_enter_1 rfl (lv_at hl 1 rfl) ?_
  refine va_put (D := (dC, dI)) (ci := 8) (fs := [.int (si sv 0), .int (si sv 1), .int (si sv 2), .ref (sd sv 1), .ref (sd sv 2), .ref (sd sv 4), .int (si sv 6), .int (si sv 7), .int (si sv 8), .int (si sv 9), .int (si sv 10), .int (si sv 11)]) (v := .int (nI tv)) (ty := .int) (C := RX7) (T := TX7) (N := 12) hx hb hts in_y_senter_X7 tyX7 tyX7_ok nmX7 hown hK hP hD hS (22 + (6 * sv + 0)) (xAt_0 h a e cI cJ cO cE L I M J n cap fE sd si sa dl (s := sv) (by omega)) rfl 6 (by decide) (hts (.fieldLink RX7 22 "ServiceTree$Service" "state" "I") (by decide +kernel)) (fun _ h9 => h9) rfl (by decide +kernel) rfl rfl (Nat.le_of_ble_eq_true rfl) dX7_enter_2 (fun H locs hP hD hS => ?_)
  replace hP : va_P (dC, dI) vwCl ((xW h a e cI cJ cO cE L I M J n cap fE sd si sa dl).set (22 + (6 * sv + 0)) (sd sv 0, .inr (8, [.int (si sv 0), .int (si sv 1), .int (si sv 2), .ref (sd sv 1), .ref (sd sv 2), .ref (sd sv 4), .int (nI tv), .int (si sv 7), .int (si sv 8), .int (si sv 9), .int (si sv 10), .int (si sv 11)]))) H := hP
  replace hD : va_D A ((xW h a e cI cJ cO cE L I M J n cap fE sd si sa dl).set (22 + (6 * sv + 0)) (sd sv 0, .inr (8, [.int (si sv 0), .int (si sv 1), .int (si sv 2), .ref (sd sv 1), .ref (sd sv 2), .ref (sd sv 4), .int (nI tv), .int (si sv 7), .int (si sv 8), .int (si sv 9), .int (si sv 10), .int (si sv 11)]))) := hD
  rw [xSv_6 h a e cI cJ cO cE L I M J n cap fE sd si sa dl (s := sv) (by omega)] at hP hD
  obtain ⟨si1, esi1⟩ : ∃ f9 : Nat → Nat → Int32, f9 = up2 si sv 6 (nI tv) := ⟨_, rfl⟩
  rw [← esi1] at hP hD
  replace hZ9 := bnd_s hZ9 esi1
  replace hX : InvX n cap fE sd dl (b) I J si1 := by rw [esi1]; exact hX.set6 (x := tv) (by omega)
  replace hUsi : ∀ s9 q9 : Nat, q9 ∉ ([6, 7, 8, 9, 10, 11, 21, 22] : List Nat) → si1 s9 q9 = si s9 q9 := by rw [esi1]; exact xw_up2 (by decide) hUsi
  refine lv_aload_n hx hb dX7_enter_5 rfl (lv_at hl 0 rfl) ?_
  refine lv_iload_n hx hb dX7_enter_6 rfl (lv_at hl 2 rfl) ?_
  refine va_put (D := (dC, dI)) (ci := 8) (fs := [.int (si1 sv 0), .int (si1 sv 1), .int (si1 sv 2), .ref (sd sv 1), .ref (sd sv 2), .ref (sd sv 4), .int (si1 sv 6), .int (si1 sv 7), .int (si1 sv 8), .int (si1 sv 9), .int (si1 sv 10), .int (si1 sv 11)]) (v := .int p1) (ty := .int) (C := RX7) (T := TX7) (N := 12) hx hb hts in_y_senter_X7 tyX7 tyX7_ok nmX7 hown hK hP hD hS (22 + (6 * sv + 0)) (xAt_0 h a e cI cJ cO cE L I M J n cap fE sd si1 sa dl (s := sv) (by omega)) rfl 7 (by decide) (hts (.fieldLink RX7 35 "ServiceTree$Service" "since" "I") (by decide +kernel)) (fun _ h9 => h9) rfl (by decide +kernel) rfl rfl (Nat.le_of_ble_eq_true rfl) dX7_enter_7 (fun H locs hP hD hS => ?_)
  replace hP : va_P (dC, dI) vwCl ((xW h a e cI cJ cO cE L I M J n cap fE sd si1 sa dl).set (22 + (6 * sv + 0)) (sd sv 0, .inr (8, [.int (si1 sv 0), .int (si1 sv 1), .int (si1 sv 2), .ref (sd sv 1), .ref (sd sv 2), .ref (sd sv 4), .int (si1 sv 6), .int p1, .int (si1 sv 8), .int (si1 sv 9), .int (si1 sv 10), .int (si1 sv 11)]))) H := hP
  replace hD : va_D A ((xW h a e cI cJ cO cE L I M J n cap fE sd si1 sa dl).set (22 + (6 * sv + 0)) (sd sv 0, .inr (8, [.int (si1 sv 0), .int (si1 sv 1), .int (si1 sv 2), .ref (sd sv 1), .ref (sd sv 2), .ref (sd sv 4), .int (si1 sv 6), .int p1, .int (si1 sv 8), .int (si1 sv 9), .int (si1 sv 10), .int (si1 sv 11)]))) := hD
  rw [xSv_7 h a e cI cJ cO cE L I M J n cap fE sd si1 sa dl (s := sv) (by omega)] at hP hD
  obtain ⟨si2, esi2⟩ : ∃ f9 : Nat → Nat → Int32, f9 = up2 si1 sv 7 p1 := ⟨_, rfl⟩
  rw [← esi2] at hP hD
  replace hZ9 := bnd_s hZ9 esi2
  replace hX : InvX n cap fE sd dl (b) I J si2 := by rw [esi2]; exact hX.setsi (by decide)
  replace hUsi : ∀ s9 q9 : Nat, q9 ∉ ([6, 7, 8, 9, 10, 11, 21, 22] : List Nat) → si2 s9 q9 = si s9 q9 := by rw [esi2]; exact xw_up2 (by decide) hUsi
  refine lv_aload_n hx hb dX7_enter_10 rfl (lv_at hl 0 rfl) ?_
  refine lv_iconst (v := 0) hx hb dX7_enter_11 (by decide) ?_
  refine va_put (D := (dC, dI)) (ci := 8) (fs := [.int (si2 sv 0), .int (si2 sv 1), .int (si2 sv 2), .ref (sd sv 1), .ref (sd sv 2), .ref (sd sv 4), .int (si2 sv 6), .int (si2 sv 7), .int (si2 sv 8), .int (si2 sv 9), .int (si2 sv 10), .int (si2 sv 11)]) (v := .int 0) (ty := .boolean) (C := RX7) (T := TX7) (N := 12) hx hb hts in_y_senter_X7 tyX7 tyX7_ok nmX7 hown hK hP hD hS (22 + (6 * sv + 0)) (xAt_0 h a e cI cJ cO cE L I M J n cap fE sd si2 sa dl (s := sv) (by omega)) rfl 11 (by decide) (hts (.fieldLink RX7 47 "ServiceTree$Service" "ended" "Z") (by decide +kernel)) (fun _ h9 => h9) rfl (by decide +kernel) rfl rfl (Nat.le_of_ble_eq_true rfl) dX7_enter_12 (fun H locs hP hD hS => ?_)
  replace hP : va_P (dC, dI) vwCl ((xW h a e cI cJ cO cE L I M J n cap fE sd si2 sa dl).set (22 + (6 * sv + 0)) (sd sv 0, .inr (8, [.int (si2 sv 0), .int (si2 sv 1), .int (si2 sv 2), .ref (sd sv 1), .ref (sd sv 2), .ref (sd sv 4), .int (si2 sv 6), .int (si2 sv 7), .int (si2 sv 8), .int (si2 sv 9), .int (si2 sv 10), .int 0]))) H := hP
  replace hD : va_D A ((xW h a e cI cJ cO cE L I M J n cap fE sd si2 sa dl).set (22 + (6 * sv + 0)) (sd sv 0, .inr (8, [.int (si2 sv 0), .int (si2 sv 1), .int (si2 sv 2), .ref (sd sv 1), .ref (sd sv 2), .ref (sd sv 4), .int (si2 sv 6), .int (si2 sv 7), .int (si2 sv 8), .int (si2 sv 9), .int (si2 sv 10), .int 0]))) := hD
  rw [xSv_11 h a e cI cJ cO cE L I M J n cap fE sd si2 sa dl (s := sv) (by omega)] at hP hD
  obtain ⟨si3, esi3⟩ : ∃ f9 : Nat → Nat → Int32, f9 = up2 si2 sv 11 0 := ⟨_, rfl⟩
  rw [← esi3] at hP hD
  replace hZ9 := bnd_s hZ9 esi3
  replace hX : InvX n cap fE sd dl (b) I J si3 := by rw [esi3]; exact hX.setsi (by decide)
  replace hUsi : ∀ s9 q9 : Nat, q9 ∉ ([6, 7, 8, 9, 10, 11, 21, 22] : List Nat) → si3 s9 q9 = si s9 q9 := by rw [esi3]; exact xw_up2 (by decide) hUsi
  refine lv_aload_n hx hb dX7_enter_15 rfl (lv_at hl 0 rfl) ?_
  refine lv_iconst (v := 0) hx hb dX7_enter_16 (by decide) ?_
  refine va_put (D := (dC, dI)) (ci := 8) (fs := [.int (si3 sv 0), .int (si3 sv 1), .int (si3 sv 2), .ref (sd sv 1), .ref (sd sv 2), .ref (sd sv 4), .int (si3 sv 6), .int (si3 sv 7), .int (si3 sv 8), .int (si3 sv 9), .int (si3 sv 10), .int (si3 sv 11)]) (v := .int 0) (ty := .int) (C := RX7) (T := TX7) (N := 12) hx hb hts in_y_senter_X7 tyX7 tyX7_ok nmX7 hown hK hP hD hS (22 + (6 * sv + 0)) (xAt_0 h a e cI cJ cO cE L I M J n cap fE sd si3 sa dl (s := sv) (by omega)) rfl 10 (by decide) (hts (.fieldLink RX7 51 "ServiceTree$Service" "life" "I") (by decide +kernel)) (fun _ h9 => h9) rfl (by decide +kernel) rfl rfl (Nat.le_of_ble_eq_true rfl) dX7_enter_17 (fun H locs hP hD hS => ?_)
  replace hP : va_P (dC, dI) vwCl ((xW h a e cI cJ cO cE L I M J n cap fE sd si3 sa dl).set (22 + (6 * sv + 0)) (sd sv 0, .inr (8, [.int (si3 sv 0), .int (si3 sv 1), .int (si3 sv 2), .ref (sd sv 1), .ref (sd sv 2), .ref (sd sv 4), .int (si3 sv 6), .int (si3 sv 7), .int (si3 sv 8), .int (si3 sv 9), .int 0, .int (si3 sv 11)]))) H := hP
  replace hD : va_D A ((xW h a e cI cJ cO cE L I M J n cap fE sd si3 sa dl).set (22 + (6 * sv + 0)) (sd sv 0, .inr (8, [.int (si3 sv 0), .int (si3 sv 1), .int (si3 sv 2), .ref (sd sv 1), .ref (sd sv 2), .ref (sd sv 4), .int (si3 sv 6), .int (si3 sv 7), .int (si3 sv 8), .int (si3 sv 9), .int 0, .int (si3 sv 11)]))) := hD
  rw [xSv_10 h a e cI cJ cO cE L I M J n cap fE sd si3 sa dl (s := sv) (by omega)] at hP hD
  obtain ⟨si4, esi4⟩ : ∃ f9 : Nat → Nat → Int32, f9 = up2 si3 sv 10 0 := ⟨_, rfl⟩
  rw [← esi4] at hP hD
  replace hZ9 := bnd_s hZ9 esi4
  replace hX : InvX n cap fE sd dl (b) I J si4 := by rw [esi4]; exact hX.setsi (by decide)
  replace hUsi : ∀ s9 q9 : Nat, q9 ∉ ([6, 7, 8, 9, 10, 11, 21, 22] : List Nat) → si4 s9 q9 = si s9 q9 := by rw [esi4]; exact xw_up2 (by decide) hUsi
  refine lv_iload_n hx hb dX7_enter_20 rfl (lv_at hl 1 rfl) ?_
  refine lv_iconst (v := 2) hx hb dX7_enter_21 (by decide) ?_
  refine lv_icmp_ne (tgt := 57) hx hb dX7_enter_22 (by decide) (fun c5 => ?_) (fun c5 => ?_)
  · replace c5 : ¬ (tv = 2) := fun q9 => c5 ((nI_eq (a := tv) (b := 2) (by omega) (by omega)).mpr q9)
    replace hZ9 := ite_f hZ9 c5
    refine lv_iload_n hx hb dX7_enter_57 rfl (lv_at hl 1 rfl) ?_
    refine lv_iconst (v := 4) hx hb dX7_enter_58 (by decide) ?_
    refine lv_icmp_eq (tgt := 67) hx hb dX7_enter_59 (by decide) (fun c6 => ?_) (fun c6 => ?_)
    · replace c6 : tv = 4 := (nI_eq (a := tv) (b := 4) (by omega) (by omega)).mp c6
      replace hZ9 := ite_t hZ9 c6
      refine lv_aload_n hx hb dX7_enter_67 rfl (lv_at hl 0 rfl) ?_
      refine lv_dup hx hb dX7_enter_68 rfl ?_
      refine va_get (D := (dC, dI)) (ci := 8) (v := .int (si4 sv 9)) (C := RX7) (T := TX7) (N := 12) hx hb hts in_y_senter_X7 hown hK hP (22 + (6 * sv + 0)) (xAt_0 h a e cI cJ cO cE L I M J n cap fE sd si4 sa dl (s := sv) (by omega)) rfl 9 (by decide) (hts (.fieldLink RX7 66 "ServiceTree$Service" "failures" "I") (by decide +kernel)) (fun _ h9 => h9) rfl dX7_enter_69 ?_
      refine lv_topi (fun x7 ex7 => ?_)
      replace hZ9 := bnd_s hZ9 ex7
      refine lv_iconst (v := 1) hx hb dX7_enter_72 (by decide) ?_
      refine lv_iadd hx hb dX7_enter_73 ?_
      refine lv_topi (fun x8 ex8 => ?_)
      replace hZ9 := bnd_s hZ9 ex8
      refine va_put (D := (dC, dI)) (ci := 8) (fs := [.int (si4 sv 0), .int (si4 sv 1), .int (si4 sv 2), .ref (sd sv 1), .ref (sd sv 2), .ref (sd sv 4), .int (si4 sv 6), .int (si4 sv 7), .int (si4 sv 8), .int (si4 sv 9), .int (si4 sv 10), .int (si4 sv 11)]) (v := .int x8) (ty := .int) (C := RX7) (T := TX7) (N := 12) hx hb hts in_y_senter_X7 tyX7 tyX7_ok nmX7 hown hK hP hD hS (22 + (6 * sv + 0)) (xAt_0 h a e cI cJ cO cE L I M J n cap fE sd si4 sa dl (s := sv) (by omega)) rfl 9 (by decide) (hts (.fieldLink RX7 66 "ServiceTree$Service" "failures" "I") (by decide +kernel)) (fun _ h9 => h9) rfl (by decide +kernel) rfl rfl (Nat.le_of_ble_eq_true rfl) dX7_enter_74 (fun H locs hP hD hS => ?_)
      replace hP : va_P (dC, dI) vwCl ((xW h a e cI cJ cO cE L I M J n cap fE sd si4 sa dl).set (22 + (6 * sv + 0)) (sd sv 0, .inr (8, [.int (si4 sv 0), .int (si4 sv 1), .int (si4 sv 2), .ref (sd sv 1), .ref (sd sv 2), .ref (sd sv 4), .int (si4 sv 6), .int (si4 sv 7), .int (si4 sv 8), .int x8, .int (si4 sv 10), .int (si4 sv 11)]))) H := hP
      replace hD : va_D A ((xW h a e cI cJ cO cE L I M J n cap fE sd si4 sa dl).set (22 + (6 * sv + 0)) (sd sv 0, .inr (8, [.int (si4 sv 0), .int (si4 sv 1), .int (si4 sv 2), .ref (sd sv 1), .ref (sd sv 2), .ref (sd sv 4), .int (si4 sv 6), .int (si4 sv 7), .int (si4 sv 8), .int x8, .int (si4 sv 10), .int (si4 sv 11)]))) := hD
      rw [xSv_9 h a e cI cJ cO cE L I M J n cap fE sd si4 sa dl (s := sv) (by omega)] at hP hD
      obtain ⟨si9, esi9⟩ : ∃ f9 : Nat → Nat → Int32, f9 = up2 si4 sv 9 x8 := ⟨_, rfl⟩
      rw [← esi9] at hP hD
      replace hZ9 := bnd_s hZ9 esi9
      replace hX : InvX n cap fE sd dl (b) I J si9 := by rw [esi9]; exact hX.setsi (by decide)
      replace hUsi : ∀ s9 q9 : Nat, q9 ∉ ([6, 7, 8, 9, 10, 11, 21, 22] : List Nat) → si9 s9 q9 = si s9 q9 := by rw [esi9]; exact xw_up2 (by decide) hUsi
      refine lv_iload_n hx hb dX7_enter_77 rfl (lv_at hl 1 rfl) ?_
      refine lv_iconst (v := 5) hx hb dX7_enter_78 (by decide) ?_
      refine lv_icmp_ne (tgt := 90) hx hb dX7_enter_79 (by decide) (fun c10 => ?_) (fun c10 => ?_)
      · replace c10 : ¬ (tv = 5) := fun q9 => c10 ((nI_eq (a := tv) (b := 5) (by omega) (by omega)).mpr q9)
        replace hZ9 := ite_f hZ9 c10
        exact W.vret hx hb hr (fun t ht hW => ⟨⟨(si9, sa), rfl, ⟨hX.mono (by omega), hUsi, hUsa, hZ9.symm.trans hR0⟩, by rw [ht]; exact hP, hD⟩, hS.F ht⟩) hS.2.2 dX7_enter_90
      · replace c10 : tv = 5 := (nI_eq (a := tv) (b := 5) (by omega) (by omega)).mp c10
        replace hZ9 := ite_t hZ9 c10
        refine lv_aload_n hx hb dX7_enter_82 rfl (lv_at hl 0 rfl) ?_
        refine va_get (D := (dC, dI)) (ci := 8) (v := .ref (sd sv 2)) (C := RX7) (T := TX7) (N := 12) hx hb hts in_y_senter_X7 hown hK hP (22 + (6 * sv + 0)) (xAt_0 h a e cI cJ cO cE L I M J n cap fE sd si9 sa dl (s := sv) (by omega)) rfl 4 (by decide) (hts (.fieldLink RX7 18 "ServiceTree$Service" "restarts" "LServiceTree$Restarts;") (by decide +kernel)) (fun _ h9 => h9) rfl dX7_enter_83 ?_
        refine lv_iload_n hx hb dX7_enter_86 rfl (lv_at hl 2 rfl) ?_
        have hFc := mw_free hD hS hA
        refine va_callv (va_runV (As := [.int p1]) (rest := []) ⟨hx, hb, hml, hown, hts⟩ (c_y_note l dC dI h a e cI cJ cO cE L I M J n cap fE sd si9 sa dl (b) sv p1 H.size hX (by omega) (by omega)) (cwV 1 hts wc_y_senter_y_note_69 rfl rfl rfl (by decide +kernel) ⟨Nat.le_of_ble_eq_true rfl, Nat.le_of_ble_eq_true rfl⟩) ⟨fun a9 U g mk q => by obtain ⟨q0, q1, qP, qK, qD, qN⟩ := q; exact ⟨q0, q1, qP, va_K.moved (u := U) (U := U.calling g mk a9) (Vm.Alike.refl U.vm) qK, qD, pw_N.same (u := U) (U := U.calling g mk a9) rfl qN⟩, va_recv hK hP (ci := 7) (q0 := (22 + (6 * sv + 2))) rfl (xAt_2 h a e cI cJ cO cE L I M J n cap fE sd si9 sa dl (s := sv) (by omega)), fun U hU hW => ⟨rfl, by rw [hU], by rw [hU]; exact hP, va_K.moved hW.alike hK, hD.weaken (fun _ _ _ _ => trivial), pw_N.warm hW hN⟩⟩ rfl rfl hl.1 rfl (lv_room (Nat.le_of_ble_eq_true rfl)) dX7_enter_87 ⟨Nat.le_of_ble_eq_true rfl, Nat.le_of_ble_eq_true rfl⟩) hS (fun q _ h => hFc q h) hFc (fun u t H1 locs ht hvm hw hB hz1 hk1 hS => ?_)
        obtain ⟨si12, sa13⟩ := u
        replace hP := hB.1
        rw [ht] at hP
        replace hD : va_D A (xW h a e cI cJ cO cE L I M J n cap fE sd si12 sa13 dl) := hB.2.weaken (fun _ q _ h9 => hFc q.1 h9)
        clear hB
        generalize H1 = H at hP hS ⊢
        replace hP : va_P (dC, dI) vwCl (xW h a e cI cJ cO cE L I M J n cap fE sd si12 sa13 dl) H := hP
        obtain ⟨hwX, whUsi, whUsa, hw⟩ := hw
        replace hX : InvX n cap fE sd dl (b) I J si12 := hwX
        replace hUsi : ∀ s9 q9 : Nat, q9 ∉ ([6, 7, 8, 9, 10, 11, 21, 22] : List Nat) → si12 s9 q9 = si s9 q9 := xw_tr2 (by decide) whUsi hUsi
        replace hUsa : ∀ s9 q9 : Nat, q9 ∉ ([3] : List Nat) → sa13 s9 q9 = sa s9 q9 := xw_tr2 (by decide) whUsa hUsa
        replace hw : (si12, sa13) = f_y_note n dl sv p1 si9 sa := hw
        replace hZ9 := bn2_s hZ9 hw
        exact W.vret hx hb hr (fun t ht hW => ⟨⟨(si12, sa13), rfl, ⟨hX.mono (by omega), hUsi, hUsa, hZ9.symm.trans hR0⟩, by rw [ht]; exact hP, hD⟩, hS.F ht⟩) hS.2.2 dX7_enter_90
    · replace c6 : ¬ (tv = 4) := fun q9 => c6 ((nI_eq (a := tv) (b := 4) (by omega) (by omega)).mpr q9)
      replace hZ9 := ite_f hZ9 c6
      refine lv_iload_n hx hb dX7_enter_62 rfl (lv_at hl 1 rfl) ?_
      refine lv_iconst (v := 5) hx hb dX7_enter_63 (by decide) ?_
      refine lv_icmp_ne (tgt := 77) hx hb dX7_enter_64 (by decide) (fun c14 => ?_) (fun c14 => ?_)
      · replace c14 : ¬ (tv = 5) := fun q9 => c14 ((nI_eq (a := tv) (b := 5) (by omega) (by omega)).mpr q9)
        replace hZ9 := ite_f hZ9 c14
        refine lv_iload_n hx hb dX7_enter_77 rfl (lv_at hl 1 rfl) ?_
        refine lv_iconst (v := 5) hx hb dX7_enter_78 (by decide) ?_
        refine lv_icmp_ne (tgt := 90) hx hb dX7_enter_79 (by decide) (fun c15 => ?_) (fun c15 => ?_)
        · replace c15 : ¬ (tv = 5) := fun q9 => c15 ((nI_eq (a := tv) (b := 5) (by omega) (by omega)).mpr q9)
          exact W.vret hx hb hr (fun t ht hW => ⟨⟨(si4, sa), rfl, ⟨hX.mono (by omega), hUsi, hUsa, hZ9.symm.trans hR0⟩, by rw [ht]; exact hP, hD⟩, hS.F ht⟩) hS.2.2 dX7_enter_90
        · replace c15 : tv = 5 := (nI_eq (a := tv) (b := 5) (by omega) (by omega)).mp c15
          exact False.elim (by omega)
      · replace c14 : tv = 5 := (nI_eq (a := tv) (b := 5) (by omega) (by omega)).mp c14
        replace hZ9 := ite_t hZ9 c14
        refine lv_aload_n hx hb dX7_enter_67 rfl (lv_at hl 0 rfl) ?_
        refine lv_dup hx hb dX7_enter_68 rfl ?_
        refine va_get (D := (dC, dI)) (ci := 8) (v := .int (si4 sv 9)) (C := RX7) (T := TX7) (N := 12) hx hb hts in_y_senter_X7 hown hK hP (22 + (6 * sv + 0)) (xAt_0 h a e cI cJ cO cE L I M J n cap fE sd si4 sa dl (s := sv) (by omega)) rfl 9 (by decide) (hts (.fieldLink RX7 66 "ServiceTree$Service" "failures" "I") (by decide +kernel)) (fun _ h9 => h9) rfl dX7_enter_69 ?_
        refine lv_topi (fun x16 ex16 => ?_)
        replace hZ9 := bnd_s hZ9 ex16
        refine lv_iconst (v := 1) hx hb dX7_enter_72 (by decide) ?_
        refine lv_iadd hx hb dX7_enter_73 ?_
        refine lv_topi (fun x17 ex17 => ?_)
        replace hZ9 := bnd_s hZ9 ex17
        refine va_put (D := (dC, dI)) (ci := 8) (fs := [.int (si4 sv 0), .int (si4 sv 1), .int (si4 sv 2), .ref (sd sv 1), .ref (sd sv 2), .ref (sd sv 4), .int (si4 sv 6), .int (si4 sv 7), .int (si4 sv 8), .int (si4 sv 9), .int (si4 sv 10), .int (si4 sv 11)]) (v := .int x17) (ty := .int) (C := RX7) (T := TX7) (N := 12) hx hb hts in_y_senter_X7 tyX7 tyX7_ok nmX7 hown hK hP hD hS (22 + (6 * sv + 0)) (xAt_0 h a e cI cJ cO cE L I M J n cap fE sd si4 sa dl (s := sv) (by omega)) rfl 9 (by decide) (hts (.fieldLink RX7 66 "ServiceTree$Service" "failures" "I") (by decide +kernel)) (fun _ h9 => h9) rfl (by decide +kernel) rfl rfl (Nat.le_of_ble_eq_true rfl) dX7_enter_74 (fun H locs hP hD hS => ?_)
        replace hP : va_P (dC, dI) vwCl ((xW h a e cI cJ cO cE L I M J n cap fE sd si4 sa dl).set (22 + (6 * sv + 0)) (sd sv 0, .inr (8, [.int (si4 sv 0), .int (si4 sv 1), .int (si4 sv 2), .ref (sd sv 1), .ref (sd sv 2), .ref (sd sv 4), .int (si4 sv 6), .int (si4 sv 7), .int (si4 sv 8), .int x17, .int (si4 sv 10), .int (si4 sv 11)]))) H := hP
        replace hD : va_D A ((xW h a e cI cJ cO cE L I M J n cap fE sd si4 sa dl).set (22 + (6 * sv + 0)) (sd sv 0, .inr (8, [.int (si4 sv 0), .int (si4 sv 1), .int (si4 sv 2), .ref (sd sv 1), .ref (sd sv 2), .ref (sd sv 4), .int (si4 sv 6), .int (si4 sv 7), .int (si4 sv 8), .int x17, .int (si4 sv 10), .int (si4 sv 11)]))) := hD
        rw [xSv_9 h a e cI cJ cO cE L I M J n cap fE sd si4 sa dl (s := sv) (by omega)] at hP hD
        obtain ⟨si18, esi18⟩ : ∃ f9 : Nat → Nat → Int32, f9 = up2 si4 sv 9 x17 := ⟨_, rfl⟩
        rw [← esi18] at hP hD
        replace hZ9 := bnd_s hZ9 esi18
        replace hX : InvX n cap fE sd dl (b) I J si18 := by rw [esi18]; exact hX.setsi (by decide)
        replace hUsi : ∀ s9 q9 : Nat, q9 ∉ ([6, 7, 8, 9, 10, 11, 21, 22] : List Nat) → si18 s9 q9 = si s9 q9 := by rw [esi18]; exact xw_up2 (by decide) hUsi
        refine lv_iload_n hx hb dX7_enter_77 rfl (lv_at hl 1 rfl) ?_
        refine lv_iconst (v := 5) hx hb dX7_enter_78 (by decide) ?_
        refine lv_icmp_ne (tgt := 90) hx hb dX7_enter_79 (by decide) (fun c19 => ?_) (fun c19 => ?_)
        · replace c19 : ¬ (tv = 5) := fun q9 => c19 ((nI_eq (a := tv) (b := 5) (by omega) (by omega)).mpr q9)
          exact False.elim (by omega)
        · replace c19 : tv = 5 := (nI_eq (a := tv) (b := 5) (by omega) (by omega)).mp c19
          refine lv_aload_n hx hb dX7_enter_82 rfl (lv_at hl 0 rfl) ?_
          refine va_get (D := (dC, dI)) (ci := 8) (v := .ref (sd sv 2)) (C := RX7) (T := TX7) (N := 12) hx hb hts in_y_senter_X7 hown hK hP (22 + (6 * sv + 0)) (xAt_0 h a e cI cJ cO cE L I M J n cap fE sd si18 sa dl (s := sv) (by omega)) rfl 4 (by decide) (hts (.fieldLink RX7 18 "ServiceTree$Service" "restarts" "LServiceTree$Restarts;") (by decide +kernel)) (fun _ h9 => h9) rfl dX7_enter_83 ?_
          refine lv_iload_n hx hb dX7_enter_86 rfl (lv_at hl 2 rfl) ?_
          have hFc := mw_free hD hS hA
          refine va_callv (va_runV (As := [.int p1]) (rest := []) ⟨hx, hb, hml, hown, hts⟩ (c_y_note l dC dI h a e cI cJ cO cE L I M J n cap fE sd si18 sa dl (b) sv p1 H.size hX (by omega) (by omega)) (cwV 1 hts wc_y_senter_y_note_69 rfl rfl rfl (by decide +kernel) ⟨Nat.le_of_ble_eq_true rfl, Nat.le_of_ble_eq_true rfl⟩) ⟨fun a9 U g mk q => by obtain ⟨q0, q1, qP, qK, qD, qN⟩ := q; exact ⟨q0, q1, qP, va_K.moved (u := U) (U := U.calling g mk a9) (Vm.Alike.refl U.vm) qK, qD, pw_N.same (u := U) (U := U.calling g mk a9) rfl qN⟩, va_recv hK hP (ci := 7) (q0 := (22 + (6 * sv + 2))) rfl (xAt_2 h a e cI cJ cO cE L I M J n cap fE sd si18 sa dl (s := sv) (by omega)), fun U hU hW => ⟨rfl, by rw [hU], by rw [hU]; exact hP, va_K.moved hW.alike hK, hD.weaken (fun _ _ _ _ => trivial), pw_N.warm hW hN⟩⟩ rfl rfl hl.1 rfl (lv_room (Nat.le_of_ble_eq_true rfl)) dX7_enter_87 ⟨Nat.le_of_ble_eq_true rfl, Nat.le_of_ble_eq_true rfl⟩) hS (fun q _ h => hFc q h) hFc (fun u t H1 locs ht hvm hw hB hz1 hk1 hS => ?_)
          obtain ⟨si21, sa22⟩ := u
          replace hP := hB.1
          rw [ht] at hP
          replace hD : va_D A (xW h a e cI cJ cO cE L I M J n cap fE sd si21 sa22 dl) := hB.2.weaken (fun _ q _ h9 => hFc q.1 h9)
          clear hB
          generalize H1 = H at hP hS ⊢
          replace hP : va_P (dC, dI) vwCl (xW h a e cI cJ cO cE L I M J n cap fE sd si21 sa22 dl) H := hP
          obtain ⟨hwX, whUsi, whUsa, hw⟩ := hw
          replace hX : InvX n cap fE sd dl (b) I J si21 := hwX
          replace hUsi : ∀ s9 q9 : Nat, q9 ∉ ([6, 7, 8, 9, 10, 11, 21, 22] : List Nat) → si21 s9 q9 = si s9 q9 := xw_tr2 (by decide) whUsi hUsi
          replace hUsa : ∀ s9 q9 : Nat, q9 ∉ ([3] : List Nat) → sa22 s9 q9 = sa s9 q9 := xw_tr2 (by decide) whUsa hUsa
          replace hw : (si21, sa22) = f_y_note n dl sv p1 si18 sa := hw
          replace hZ9 := bn2_s hZ9 hw
          exact W.vret hx hb hr (fun t ht hW => ⟨⟨(si21, sa22), rfl, ⟨hX.mono (by omega), hUsi, hUsa, hZ9.symm.trans hR0⟩, by rw [ht]; exact hP, hD⟩, hS.F ht⟩) hS.2.2 dX7_enter_90
  · replace c5 : tv = 2 := (nI_eq (a := tv) (b := 2) (by omega) (by omega)).mp c5
    replace hZ9 := ite_t hZ9 c5
    refine lv_aload_n hx hb dX7_enter_25 rfl (lv_at hl 0 rfl) ?_
    refine lv_aload_n hx hb dX7_enter_26 rfl (lv_at hl 0 rfl) ?_
    refine va_get (D := (dC, dI)) (ci := 8) (v := .ref (sd sv 1)) (C := RX7) (T := TX7) (N := 12) hx hb hts in_y_senter_X7 hown hK hP (22 + (6 * sv + 0)) (xAt_0 h a e cI cJ cO cE L I M J n cap fE sd si4 sa dl (s := sv) (by omega)) rfl 3 (by decide) (hts (.fieldLink RX7 9 "ServiceTree$Service" "lives" "[I") (by decide +kernel)) (fun _ h9 => h9) rfl dX7_enter_27 ?_
    refine lv_iconst (v := 0) hx hb dX7_enter_30 (by decide) ?_
    refine lv_aload_n hx hb dX7_enter_31 rfl (lv_at hl 0 rfl) ?_
    refine va_get (D := (dC, dI)) (ci := 8) (v := .int (si4 sv 8)) (C := RX7) (T := TX7) (N := 12) hx hb hts in_y_senter_X7 hown hK hP (22 + (6 * sv + 0)) (xAt_0 h a e cI cJ cO cE L I M J n cap fE sd si4 sa dl (s := sv) (by omega)) rfl 8 (by decide) (hts (.fieldLink RX7 54 "ServiceTree$Service" "starts" "I") (by decide +kernel)) (fun _ h9 => h9) rfl dX7_enter_32 ?_
    refine lv_topi (fun x23 ex23 => ?_)
    replace hZ9 := bnd_s hZ9 ex23
    refine lv_bipush (v := 7) hx hb dX7_enter_35 (by decide) ?_
    refine va_mmin hx hb (by rw [hml]; exact hl.1.symm) hown (hts (.methodLink RX7 57 Lib.Math.min.name) (by decide +kernel)) (hts (.static Lib.Math.min.name) (by decide +kernel)) (hts (.initialized "java/lang/Math") (by decide +kernel)) (hts (.code Lib.Math.min.name Lib.Math.min.code 2 (some .int)) (by decide +kernel)) (Nat.le_of_ble_eq_true rfl) (Nat.le_of_ble_eq_true rfl) (Nat.le_of_ble_eq_true rfl) (Nat.le_of_ble_eq_true rfl) dX7_enter_37 ?_
    refine lv_topi (fun x24 ex24 => ?_)
    replace hZ9 := bnd_s hZ9 ex24
    refine va_mmax hx hb (by rw [hml]; exact hl.1.symm) hown (hts (.methodLink RX7 63 Lib.Math.max.name) (by decide +kernel)) (hts (.static Lib.Math.max.name) (by decide +kernel)) (hts (.initialized "java/lang/Math") (by decide +kernel)) (hts (.code Lib.Math.max.name Lib.Math.max.code 2 (some .int)) (by decide +kernel)) (Nat.le_of_ble_eq_true rfl) (Nat.le_of_ble_eq_true rfl) (Nat.le_of_ble_eq_true rfl) (Nat.le_of_ble_eq_true rfl) dX7_enter_40 ?_
    refine lv_topi (fun x25 ex25 => ?_)
    replace hZ9 := bnd_s hZ9 ex25
    obtain ⟨j26, hj26, ej26⟩ := xw_clamp _ ex24 ex25
    replace hZ9 := bnd_s hZ9 (show j26 = x25.toNatClampNeg by rw [ej26, nI_clamp (by omega)])
    refine p1_topr (v := .int (nI j26)) (congrArg Value.int ej26) ?_
    refine va_iald (n := 8) (f := sa sv 1) hx hb hK hP (22 + (6 * sv + 1)) 0 (xAt_1 h a e cI cJ cO cE L I M J n cap fE sd si4 sa dl (s := sv) (by omega)) rfl (vp_in_nI (n := j26) (by omega) (by omega)) dX7_enter_43 ?_
    refine lv_topi (fun x27 ex27 => ?_)
    replace hZ9 := bnd_s hZ9 ex27
    refine va_put (D := (dC, dI)) (ci := 8) (fs := [.int (si4 sv 0), .int (si4 sv 1), .int (si4 sv 2), .ref (sd sv 1), .ref (sd sv 2), .ref (sd sv 4), .int (si4 sv 6), .int (si4 sv 7), .int (si4 sv 8), .int (si4 sv 9), .int (si4 sv 10), .int (si4 sv 11)]) (v := .int x27) (ty := .int) (C := RX7) (T := TX7) (N := 12) hx hb hts in_y_senter_X7 tyX7 tyX7_ok nmX7 hown hK hP hD hS (22 + (6 * sv + 0)) (xAt_0 h a e cI cJ cO cE L I M J n cap fE sd si4 sa dl (s := sv) (by omega)) rfl 10 (by decide) (hts (.fieldLink RX7 51 "ServiceTree$Service" "life" "I") (by decide +kernel)) (fun _ h9 => h9) rfl (by decide +kernel) rfl rfl (Nat.le_of_ble_eq_true rfl) dX7_enter_44 (fun H locs hP hD hS => ?_)
    replace hP : va_P (dC, dI) vwCl ((xW h a e cI cJ cO cE L I M J n cap fE sd si4 sa dl).set (22 + (6 * sv + 0)) (sd sv 0, .inr (8, [.int (si4 sv 0), .int (si4 sv 1), .int (si4 sv 2), .ref (sd sv 1), .ref (sd sv 2), .ref (sd sv 4), .int (si4 sv 6), .int (si4 sv 7), .int (si4 sv 8), .int (si4 sv 9), .int x27, .int (si4 sv 11)]))) H := hP
    replace hD : va_D A ((xW h a e cI cJ cO cE L I M J n cap fE sd si4 sa dl).set (22 + (6 * sv + 0)) (sd sv 0, .inr (8, [.int (si4 sv 0), .int (si4 sv 1), .int (si4 sv 2), .ref (sd sv 1), .ref (sd sv 2), .ref (sd sv 4), .int (si4 sv 6), .int (si4 sv 7), .int (si4 sv 8), .int (si4 sv 9), .int x27, .int (si4 sv 11)]))) := hD
    rw [xSv_10 h a e cI cJ cO cE L I M J n cap fE sd si4 sa dl (s := sv) (by omega)] at hP hD
    obtain ⟨si28, esi28⟩ : ∃ f9 : Nat → Nat → Int32, f9 = up2 si4 sv 10 x27 := ⟨_, rfl⟩
    rw [← esi28] at hP hD
    replace hZ9 := bnd_s hZ9 esi28
    replace hX : InvX n cap fE sd dl (b) I J si28 := by rw [esi28]; exact hX.setsi (by decide)
    replace hUsi : ∀ s9 q9 : Nat, q9 ∉ ([6, 7, 8, 9, 10, 11, 21, 22] : List Nat) → si28 s9 q9 = si s9 q9 := by rw [esi28]; exact xw_up2 (by decide) hUsi
    refine lv_aload_n hx hb dX7_enter_47 rfl (lv_at hl 0 rfl) ?_
    refine lv_dup hx hb dX7_enter_48 rfl ?_
    refine va_get (D := (dC, dI)) (ci := 8) (v := .int (si28 sv 8)) (C := RX7) (T := TX7) (N := 12) hx hb hts in_y_senter_X7 hown hK hP (22 + (6 * sv + 0)) (xAt_0 h a e cI cJ cO cE L I M J n cap fE sd si28 sa dl (s := sv) (by omega)) rfl 8 (by decide) (hts (.fieldLink RX7 54 "ServiceTree$Service" "starts" "I") (by decide +kernel)) (fun _ h9 => h9) rfl dX7_enter_49 ?_
    refine p1_topr (v := .int x23) (congrArg Value.int (by rw [esi28, up2_ne (by decide)]; exact ex23.symm)) ?_
    refine lv_iconst (v := 1) hx hb dX7_enter_52 (by decide) ?_
    refine lv_iadd hx hb dX7_enter_53 ?_
    refine lv_topi (fun x29 ex29 => ?_)
    replace hZ9 := bnd_s hZ9 ex29
    refine va_put (D := (dC, dI)) (ci := 8) (fs := [.int (si28 sv 0), .int (si28 sv 1), .int (si28 sv 2), .ref (sd sv 1), .ref (sd sv 2), .ref (sd sv 4), .int (si28 sv 6), .int (si28 sv 7), .int (si28 sv 8), .int (si28 sv 9), .int (si28 sv 10), .int (si28 sv 11)]) (v := .int x29) (ty := .int) (C := RX7) (T := TX7) (N := 12) hx hb hts in_y_senter_X7 tyX7 tyX7_ok nmX7 hown hK hP hD hS (22 + (6 * sv + 0)) (xAt_0 h a e cI cJ cO cE L I M J n cap fE sd si28 sa dl (s := sv) (by omega)) rfl 8 (by decide) (hts (.fieldLink RX7 54 "ServiceTree$Service" "starts" "I") (by decide +kernel)) (fun _ h9 => h9) rfl (by decide +kernel) rfl rfl (Nat.le_of_ble_eq_true rfl) dX7_enter_54 (fun H locs hP hD hS => ?_)
    replace hP : va_P (dC, dI) vwCl ((xW h a e cI cJ cO cE L I M J n cap fE sd si28 sa dl).set (22 + (6 * sv + 0)) (sd sv 0, .inr (8, [.int (si28 sv 0), .int (si28 sv 1), .int (si28 sv 2), .ref (sd sv 1), .ref (sd sv 2), .ref (sd sv 4), .int (si28 sv 6), .int (si28 sv 7), .int x29, .int (si28 sv 9), .int (si28 sv 10), .int (si28 sv 11)]))) H := hP
    replace hD : va_D A ((xW h a e cI cJ cO cE L I M J n cap fE sd si28 sa dl).set (22 + (6 * sv + 0)) (sd sv 0, .inr (8, [.int (si28 sv 0), .int (si28 sv 1), .int (si28 sv 2), .ref (sd sv 1), .ref (sd sv 2), .ref (sd sv 4), .int (si28 sv 6), .int (si28 sv 7), .int x29, .int (si28 sv 9), .int (si28 sv 10), .int (si28 sv 11)]))) := hD
    rw [xSv_8 h a e cI cJ cO cE L I M J n cap fE sd si28 sa dl (s := sv) (by omega)] at hP hD
    obtain ⟨si30, esi30⟩ : ∃ f9 : Nat → Nat → Int32, f9 = up2 si28 sv 8 x29 := ⟨_, rfl⟩
    rw [← esi30] at hP hD
    replace hZ9 := bnd_s hZ9 esi30
    replace hX : InvX n cap fE sd dl (b) I J si30 := by rw [esi30]; exact hX.setsi (by decide)
    replace hUsi : ∀ s9 q9 : Nat, q9 ∉ ([6, 7, 8, 9, 10, 11, 21, 22] : List Nat) → si30 s9 q9 = si s9 q9 := by rw [esi30]; exact xw_up2 (by decide) hUsi
    refine lv_iload_n hx hb dX7_enter_57 rfl (lv_at hl 1 rfl) ?_
    refine lv_iconst (v := 4) hx hb dX7_enter_58 (by decide) ?_
    refine lv_icmp_eq (tgt := 67) hx hb dX7_enter_59 (by decide) (fun c31 => ?_) (fun c31 => ?_)
    · replace c31 : tv = 4 := (nI_eq (a := tv) (b := 4) (by omega) (by omega)).mp c31
      replace hZ9 := ite_t hZ9 c31
      refine lv_aload_n hx hb dX7_enter_67 rfl (lv_at hl 0 rfl) ?_
      refine lv_dup hx hb dX7_enter_68 rfl ?_
      refine va_get (D := (dC, dI)) (ci := 8) (v := .int (si30 sv 9)) (C := RX7) (T := TX7) (N := 12) hx hb hts in_y_senter_X7 hown hK hP (22 + (6 * sv + 0)) (xAt_0 h a e cI cJ cO cE L I M J n cap fE sd si30 sa dl (s := sv) (by omega)) rfl 9 (by decide) (hts (.fieldLink RX7 66 "ServiceTree$Service" "failures" "I") (by decide +kernel)) (fun _ h9 => h9) rfl dX7_enter_69 ?_
      refine lv_topi (fun x32 ex32 => ?_)
      replace hZ9 := bnd_s hZ9 ex32
      refine lv_iconst (v := 1) hx hb dX7_enter_72 (by decide) ?_
      refine lv_iadd hx hb dX7_enter_73 ?_
      refine lv_topi (fun x33 ex33 => ?_)
      replace hZ9 := bnd_s hZ9 ex33
      refine va_put (D := (dC, dI)) (ci := 8) (fs := [.int (si30 sv 0), .int (si30 sv 1), .int (si30 sv 2), .ref (sd sv 1), .ref (sd sv 2), .ref (sd sv 4), .int (si30 sv 6), .int (si30 sv 7), .int (si30 sv 8), .int (si30 sv 9), .int (si30 sv 10), .int (si30 sv 11)]) (v := .int x33) (ty := .int) (C := RX7) (T := TX7) (N := 12) hx hb hts in_y_senter_X7 tyX7 tyX7_ok nmX7 hown hK hP hD hS (22 + (6 * sv + 0)) (xAt_0 h a e cI cJ cO cE L I M J n cap fE sd si30 sa dl (s := sv) (by omega)) rfl 9 (by decide) (hts (.fieldLink RX7 66 "ServiceTree$Service" "failures" "I") (by decide +kernel)) (fun _ h9 => h9) rfl (by decide +kernel) rfl rfl (Nat.le_of_ble_eq_true rfl) dX7_enter_74 (fun H locs hP hD hS => ?_)
      replace hP : va_P (dC, dI) vwCl ((xW h a e cI cJ cO cE L I M J n cap fE sd si30 sa dl).set (22 + (6 * sv + 0)) (sd sv 0, .inr (8, [.int (si30 sv 0), .int (si30 sv 1), .int (si30 sv 2), .ref (sd sv 1), .ref (sd sv 2), .ref (sd sv 4), .int (si30 sv 6), .int (si30 sv 7), .int (si30 sv 8), .int x33, .int (si30 sv 10), .int (si30 sv 11)]))) H := hP
      replace hD : va_D A ((xW h a e cI cJ cO cE L I M J n cap fE sd si30 sa dl).set (22 + (6 * sv + 0)) (sd sv 0, .inr (8, [.int (si30 sv 0), .int (si30 sv 1), .int (si30 sv 2), .ref (sd sv 1), .ref (sd sv 2), .ref (sd sv 4), .int (si30 sv 6), .int (si30 sv 7), .int (si30 sv 8), .int x33, .int (si30 sv 10), .int (si30 sv 11)]))) := hD
      rw [xSv_9 h a e cI cJ cO cE L I M J n cap fE sd si30 sa dl (s := sv) (by omega)] at hP hD
      obtain ⟨si34, esi34⟩ : ∃ f9 : Nat → Nat → Int32, f9 = up2 si30 sv 9 x33 := ⟨_, rfl⟩
      rw [← esi34] at hP hD
      replace hZ9 := bnd_s hZ9 esi34
      replace hX : InvX n cap fE sd dl (b) I J si34 := by rw [esi34]; exact hX.setsi (by decide)
      replace hUsi : ∀ s9 q9 : Nat, q9 ∉ ([6, 7, 8, 9, 10, 11, 21, 22] : List Nat) → si34 s9 q9 = si s9 q9 := by rw [esi34]; exact xw_up2 (by decide) hUsi
      refine lv_iload_n hx hb dX7_enter_77 rfl (lv_at hl 1 rfl) ?_
      refine lv_iconst (v := 5) hx hb dX7_enter_78 (by decide) ?_
      refine lv_icmp_ne (tgt := 90) hx hb dX7_enter_79 (by decide) (fun c35 => ?_) (fun c35 => ?_)
      · replace c35 : ¬ (tv = 5) := fun q9 => c35 ((nI_eq (a := tv) (b := 5) (by omega) (by omega)).mpr q9)
        replace hZ9 := ite_f hZ9 c35
        exact W.vret hx hb hr (fun t ht hW => ⟨⟨(si34, sa), rfl, ⟨hX.mono (by omega), hUsi, hUsa, hZ9.symm.trans hR0⟩, by rw [ht]; exact hP, hD⟩, hS.F ht⟩) hS.2.2 dX7_enter_90
      · replace c35 : tv = 5 := (nI_eq (a := tv) (b := 5) (by omega) (by omega)).mp c35
        replace hZ9 := ite_t hZ9 c35
        refine lv_aload_n hx hb dX7_enter_82 rfl (lv_at hl 0 rfl) ?_
        refine va_get (D := (dC, dI)) (ci := 8) (v := .ref (sd sv 2)) (C := RX7) (T := TX7) (N := 12) hx hb hts in_y_senter_X7 hown hK hP (22 + (6 * sv + 0)) (xAt_0 h a e cI cJ cO cE L I M J n cap fE sd si34 sa dl (s := sv) (by omega)) rfl 4 (by decide) (hts (.fieldLink RX7 18 "ServiceTree$Service" "restarts" "LServiceTree$Restarts;") (by decide +kernel)) (fun _ h9 => h9) rfl dX7_enter_83 ?_
        refine lv_iload_n hx hb dX7_enter_86 rfl (lv_at hl 2 rfl) ?_
        have hFc := mw_free hD hS hA
        refine va_callv (va_runV (As := [.int p1]) (rest := []) ⟨hx, hb, hml, hown, hts⟩ (c_y_note l dC dI h a e cI cJ cO cE L I M J n cap fE sd si34 sa dl (b) sv p1 H.size hX (by omega) (by omega)) (cwV 1 hts wc_y_senter_y_note_69 rfl rfl rfl (by decide +kernel) ⟨Nat.le_of_ble_eq_true rfl, Nat.le_of_ble_eq_true rfl⟩) ⟨fun a9 U g mk q => by obtain ⟨q0, q1, qP, qK, qD, qN⟩ := q; exact ⟨q0, q1, qP, va_K.moved (u := U) (U := U.calling g mk a9) (Vm.Alike.refl U.vm) qK, qD, pw_N.same (u := U) (U := U.calling g mk a9) rfl qN⟩, va_recv hK hP (ci := 7) (q0 := (22 + (6 * sv + 2))) rfl (xAt_2 h a e cI cJ cO cE L I M J n cap fE sd si34 sa dl (s := sv) (by omega)), fun U hU hW => ⟨rfl, by rw [hU], by rw [hU]; exact hP, va_K.moved hW.alike hK, hD.weaken (fun _ _ _ _ => trivial), pw_N.warm hW hN⟩⟩ rfl rfl hl.1 rfl (lv_room (Nat.le_of_ble_eq_true rfl)) dX7_enter_87 ⟨Nat.le_of_ble_eq_true rfl, Nat.le_of_ble_eq_true rfl⟩) hS (fun q _ h => hFc q h) hFc (fun u t H1 locs ht hvm hw hB hz1 hk1 hS => ?_)
        obtain ⟨si37, sa38⟩ := u
        replace hP := hB.1
        rw [ht] at hP
        replace hD : va_D A (xW h a e cI cJ cO cE L I M J n cap fE sd si37 sa38 dl) := hB.2.weaken (fun _ q _ h9 => hFc q.1 h9)
        clear hB
        generalize H1 = H at hP hS ⊢
        replace hP : va_P (dC, dI) vwCl (xW h a e cI cJ cO cE L I M J n cap fE sd si37 sa38 dl) H := hP
        obtain ⟨hwX, whUsi, whUsa, hw⟩ := hw
        replace hX : InvX n cap fE sd dl (b) I J si37 := hwX
        replace hUsi : ∀ s9 q9 : Nat, q9 ∉ ([6, 7, 8, 9, 10, 11, 21, 22] : List Nat) → si37 s9 q9 = si s9 q9 := xw_tr2 (by decide) whUsi hUsi
        replace hUsa : ∀ s9 q9 : Nat, q9 ∉ ([3] : List Nat) → sa38 s9 q9 = sa s9 q9 := xw_tr2 (by decide) whUsa hUsa
        replace hw : (si37, sa38) = f_y_note n dl sv p1 si34 sa := hw
        replace hZ9 := bn2_s hZ9 hw
        exact W.vret hx hb hr (fun t ht hW => ⟨⟨(si37, sa38), rfl, ⟨hX.mono (by omega), hUsi, hUsa, hZ9.symm.trans hR0⟩, by rw [ht]; exact hP, hD⟩, hS.F ht⟩) hS.2.2 dX7_enter_90
    · replace c31 : ¬ (tv = 4) := fun q9 => c31 ((nI_eq (a := tv) (b := 4) (by omega) (by omega)).mpr q9)
      replace hZ9 := ite_f hZ9 c31
      refine lv_iload_n hx hb dX7_enter_62 rfl (lv_at hl 1 rfl) ?_
      refine lv_iconst (v := 5) hx hb dX7_enter_63 (by decide) ?_
      refine lv_icmp_ne (tgt := 77) hx hb dX7_enter_64 (by decide) (fun c39 => ?_) (fun c39 => ?_)
      · replace c39 : ¬ (tv = 5) := fun q9 => c39 ((nI_eq (a := tv) (b := 5) (by omega) (by omega)).mpr q9)
        replace hZ9 := ite_f hZ9 c39
        refine lv_iload_n hx hb dX7_enter_77 rfl (lv_at hl 1 rfl) ?_
        refine lv_iconst (v := 5) hx hb dX7_enter_78 (by decide) ?_
        refine lv_icmp_ne (tgt := 90) hx hb dX7_enter_79 (by decide) (fun c40 => ?_) (fun c40 => ?_)
        · replace c40 : ¬ (tv = 5) := fun q9 => c40 ((nI_eq (a := tv) (b := 5) (by omega) (by omega)).mpr q9)
          exact W.vret hx hb hr (fun t ht hW => ⟨⟨(si30, sa), rfl, ⟨hX.mono (by omega), hUsi, hUsa, hZ9.symm.trans hR0⟩, by rw [ht]; exact hP, hD⟩, hS.F ht⟩) hS.2.2 dX7_enter_90
        · replace c40 : tv = 5 := (nI_eq (a := tv) (b := 5) (by omega) (by omega)).mp c40
          exact False.elim (by omega)
      · replace c39 : tv = 5 := (nI_eq (a := tv) (b := 5) (by omega) (by omega)).mp c39
        replace hZ9 := ite_t hZ9 c39
        refine lv_aload_n hx hb dX7_enter_67 rfl (lv_at hl 0 rfl) ?_
        refine lv_dup hx hb dX7_enter_68 rfl ?_
        refine va_get (D := (dC, dI)) (ci := 8) (v := .int (si30 sv 9)) (C := RX7) (T := TX7) (N := 12) hx hb hts in_y_senter_X7 hown hK hP (22 + (6 * sv + 0)) (xAt_0 h a e cI cJ cO cE L I M J n cap fE sd si30 sa dl (s := sv) (by omega)) rfl 9 (by decide) (hts (.fieldLink RX7 66 "ServiceTree$Service" "failures" "I") (by decide +kernel)) (fun _ h9 => h9) rfl dX7_enter_69 ?_
        refine lv_topi (fun x41 ex41 => ?_)
        replace hZ9 := bnd_s hZ9 ex41
        refine lv_iconst (v := 1) hx hb dX7_enter_72 (by decide) ?_
        refine lv_iadd hx hb dX7_enter_73 ?_
        refine lv_topi (fun x42 ex42 => ?_)
        replace hZ9 := bnd_s hZ9 ex42
        refine va_put (D := (dC, dI)) (ci := 8) (fs := [.int (si30 sv 0), .int (si30 sv 1), .int (si30 sv 2), .ref (sd sv 1), .ref (sd sv 2), .ref (sd sv 4), .int (si30 sv 6), .int (si30 sv 7), .int (si30 sv 8), .int (si30 sv 9), .int (si30 sv 10), .int (si30 sv 11)]) (v := .int x42) (ty := .int) (C := RX7) (T := TX7) (N := 12) hx hb hts in_y_senter_X7 tyX7 tyX7_ok nmX7 hown hK hP hD hS (22 + (6 * sv + 0)) (xAt_0 h a e cI cJ cO cE L I M J n cap fE sd si30 sa dl (s := sv) (by omega)) rfl 9 (by decide) (hts (.fieldLink RX7 66 "ServiceTree$Service" "failures" "I") (by decide +kernel)) (fun _ h9 => h9) rfl (by decide +kernel) rfl rfl (Nat.le_of_ble_eq_true rfl) dX7_enter_74 (fun H locs hP hD hS => ?_)
        replace hP : va_P (dC, dI) vwCl ((xW h a e cI cJ cO cE L I M J n cap fE sd si30 sa dl).set (22 + (6 * sv + 0)) (sd sv 0, .inr (8, [.int (si30 sv 0), .int (si30 sv 1), .int (si30 sv 2), .ref (sd sv 1), .ref (sd sv 2), .ref (sd sv 4), .int (si30 sv 6), .int (si30 sv 7), .int (si30 sv 8), .int x42, .int (si30 sv 10), .int (si30 sv 11)]))) H := hP
        replace hD : va_D A ((xW h a e cI cJ cO cE L I M J n cap fE sd si30 sa dl).set (22 + (6 * sv + 0)) (sd sv 0, .inr (8, [.int (si30 sv 0), .int (si30 sv 1), .int (si30 sv 2), .ref (sd sv 1), .ref (sd sv 2), .ref (sd sv 4), .int (si30 sv 6), .int (si30 sv 7), .int (si30 sv 8), .int x42, .int (si30 sv 10), .int (si30 sv 11)]))) := hD
        rw [xSv_9 h a e cI cJ cO cE L I M J n cap fE sd si30 sa dl (s := sv) (by omega)] at hP hD
        obtain ⟨si43, esi43⟩ : ∃ f9 : Nat → Nat → Int32, f9 = up2 si30 sv 9 x42 := ⟨_, rfl⟩
        rw [← esi43] at hP hD
        replace hZ9 := bnd_s hZ9 esi43
        replace hX : InvX n cap fE sd dl (b) I J si43 := by rw [esi43]; exact hX.setsi (by decide)
        replace hUsi : ∀ s9 q9 : Nat, q9 ∉ ([6, 7, 8, 9, 10, 11, 21, 22] : List Nat) → si43 s9 q9 = si s9 q9 := by rw [esi43]; exact xw_up2 (by decide) hUsi
        refine lv_iload_n hx hb dX7_enter_77 rfl (lv_at hl 1 rfl) ?_
        refine lv_iconst (v := 5) hx hb dX7_enter_78 (by decide) ?_
        refine lv_icmp_ne (tgt := 90) hx hb dX7_enter_79 (by decide) (fun c44 => ?_) (fun c44 => ?_)
        · replace c44 : ¬ (tv = 5) := fun q9 => c44 ((nI_eq (a := tv) (b := 5) (by omega) (by omega)).mpr q9)
          exact False.elim (by omega)
        · replace c44 : tv = 5 := (nI_eq (a := tv) (b := 5) (by omega) (by omega)).mp c44
          refine lv_aload_n hx hb dX7_enter_82 rfl (lv_at hl 0 rfl) ?_
          refine va_get (D := (dC, dI)) (ci := 8) (v := .ref (sd sv 2)) (C := RX7) (T := TX7) (N := 12) hx hb hts in_y_senter_X7 hown hK hP (22 + (6 * sv + 0)) (xAt_0 h a e cI cJ cO cE L I M J n cap fE sd si43 sa dl (s := sv) (by omega)) rfl 4 (by decide) (hts (.fieldLink RX7 18 "ServiceTree$Service" "restarts" "LServiceTree$Restarts;") (by decide +kernel)) (fun _ h9 => h9) rfl dX7_enter_83 ?_
          refine lv_iload_n hx hb dX7_enter_86 rfl (lv_at hl 2 rfl) ?_
          have hFc := mw_free hD hS hA
          refine va_callv (va_runV (As := [.int p1]) (rest := []) ⟨hx, hb, hml, hown, hts⟩ (c_y_note l dC dI h a e cI cJ cO cE L I M J n cap fE sd si43 sa dl (b) sv p1 H.size hX (by omega) (by omega)) (cwV 1 hts wc_y_senter_y_note_69 rfl rfl rfl (by decide +kernel) ⟨Nat.le_of_ble_eq_true rfl, Nat.le_of_ble_eq_true rfl⟩) ⟨fun a9 U g mk q => by obtain ⟨q0, q1, qP, qK, qD, qN⟩ := q; exact ⟨q0, q1, qP, va_K.moved (u := U) (U := U.calling g mk a9) (Vm.Alike.refl U.vm) qK, qD, pw_N.same (u := U) (U := U.calling g mk a9) rfl qN⟩, va_recv hK hP (ci := 7) (q0 := (22 + (6 * sv + 2))) rfl (xAt_2 h a e cI cJ cO cE L I M J n cap fE sd si43 sa dl (s := sv) (by omega)), fun U hU hW => ⟨rfl, by rw [hU], by rw [hU]; exact hP, va_K.moved hW.alike hK, hD.weaken (fun _ _ _ _ => trivial), pw_N.warm hW hN⟩⟩ rfl rfl hl.1 rfl (lv_room (Nat.le_of_ble_eq_true rfl)) dX7_enter_87 ⟨Nat.le_of_ble_eq_true rfl, Nat.le_of_ble_eq_true rfl⟩) hS (fun q _ h => hFc q h) hFc (fun u t H1 locs ht hvm hw hB hz1 hk1 hS => ?_)
          obtain ⟨si46, sa47⟩ := u
          replace hP := hB.1
          rw [ht] at hP
          replace hD : va_D A (xW h a e cI cJ cO cE L I M J n cap fE sd si46 sa47 dl) := hB.2.weaken (fun _ q _ h9 => hFc q.1 h9)
          clear hB
          generalize H1 = H at hP hS ⊢
          replace hP : va_P (dC, dI) vwCl (xW h a e cI cJ cO cE L I M J n cap fE sd si46 sa47 dl) H := hP
          obtain ⟨hwX, whUsi, whUsa, hw⟩ := hw
          replace hX : InvX n cap fE sd dl (b) I J si46 := hwX
          replace hUsi : ∀ s9 q9 : Nat, q9 ∉ ([6, 7, 8, 9, 10, 11, 21, 22] : List Nat) → si46 s9 q9 = si s9 q9 := xw_tr2 (by decide) whUsi hUsi
          replace hUsa : ∀ s9 q9 : Nat, q9 ∉ ([3] : List Nat) → sa47 s9 q9 = sa s9 q9 := xw_tr2 (by decide) whUsa hUsa
          replace hw : (si46, sa47) = f_y_note n dl sv p1 si43 sa := hw
          replace hZ9 := bn2_s hZ9 hw
          exact W.vret hx hb hr (fun t ht hW => ⟨⟨(si46, sa47), rfl, ⟨hX.mono (by omega), hUsi, hUsa, hZ9.symm.trans hR0⟩, by rw [ht]; exact hP, hD⟩, hS.F ht⟩) hS.2.2 dX7_enter_90
def f_y_endBy (n : Nat) (dl : Nat → Nat) (sv : Nat) (si : Nat → Nat → Int32) : (Nat → Nat → Int32) := bnd (up2 si sv 11 1) (fun (si1 : Nat → Nat → Int32) => bnd (up2 si1 sv 10 0) (fun (si2 : Nat → Nat → Int32) => (si2)))
def wq_y_endBy : List Cond := ([.code yX7_endByItself cX7_endByItself 1 none, .fieldLink RX7 47 "ServiceTree$Service" "ended" "Z", .fieldLink RX7 51 "ServiceTree$Service" "life" "I"] : List Cond) ++ (wsX70)
theorem in_y_endBy_X7 : ∀ w ∈ wsX70, w ∈ wq_y_endBy := fun _ h => List.mem_append_right _ (h)
set_option maxRecDepth 20000 in
theorem wi_y_endBy : ∀ w ∈ wq_y_endBy, w ∈ lw_tbl := List.forall_mem_append.mpr ⟨(wix [704, 357, 355] rfl), inKX7⟩
set_option maxRecDepth 20000 in
theorem wg_y_endBy : GoodIn wq_y_endBy wq_y_endBy := goodIn_sub (fun _ h => h) (by decide +kernel)
def rm_y_endBy : Room := { frames := 0, cells := 0, slots := 0, locals := 0 }
set_option maxHeartbeats 4000000 in
set_option maxRecDepth 100000 in
theorem c_y_endBy (l : Launch) (dC : Nat → ClassId) (dI : Nat → Nat → Nat) (h : Nat) (a : Nat → Nat) (e : Nat) (cI cJ cO cE : ClassId) (L : Nat → Int64) (I : Nat → Int32) (M : Nat → Nat → Int64) (J : Nat → Nat → Int32) (n cap : Nat) (fE : Nat → Option Nat) (sd : Nat → Nat → Nat) (si : Nat → Nat → Int32) (sa : Nat → Nat → Nat → Int32) (dl : Nat → Nat) (b : Nat) (sv : Nat) (sz : Nat) (hX0 : InvX n cap fE sd dl b I J si) (hb0 : b + 0 < 2147483648) (hp0 : sv < n) : Met l yX7_endByItself wq_y_endBy rm_y_endBy (va_Pc [.ref (sd sv 0)] (fun U => U.heap.size = sz ∧ va_P (dC, dI) vwCl (xW h a e cI cJ cO cE L I M J n cap fE sd si sa dl) U.heap ∧ va_K (dC, dI) vwCl (xT cI cJ cO cE) U ∧ va_D (fun _ => True) (xW h a e cI cJ cO cE L I M J n cap fE sd si sa dl) ∧ pw_N U)) (va_Qv (fun (u : (Nat → Nat → Int32)) => InvX n cap fE sd dl (b + 0) I J u ∧ (∀ s9 q9 : Nat, q9 ∉ ([10, 11] : List Nat) → u s9 q9 = si s9 q9) ∧ (u = f_y_endBy n dl sv si)) (fun (u : (Nat → Nat → Int32)) (t : State) => va_P (dC, dI) vwCl (xW h a e cI cJ cO cE L I M J n cap fE sd u sa dl) t.heap ∧ va_D (va_A (xW h a e cI cJ cO cE L I M J n cap fE sd si sa dl) sz) (xW h a e cI cJ cO cE L I M J n cap fE sd u sa dl)) (va_A (xW h a e cI cJ cO cE L I M J n cap fE sd si sa dl) sz)) 0 0 (va_A (xW h a e cI cJ cO cE L I M J n cap fE sd si sa dl) sz) := by
  have hn : n ≤ 40 := hX0.1.1
  have hX := hX0
  have hUsi : ∀ s9 q9 : Nat, q9 ∉ ([10, 11] : List Nat) → si s9 q9 = si s9 q9 := fun _ _ _ => rfl
  refine Met.ofW (cc := cX7_endByItself) (maxL := 1) (ret := none) (by decide) rfl ?_
  intro p e9 s m args below meth c s₁ B hml hv
  obtain ⟨rfl, hsz, hP, hK, hD0, hN⟩ := hv
  have hx := B.exec
  have hb := B.bytes
  have hr := B.returns
  have hts := atoms_spec (ws := wq_y_endBy) B.pre
  have hown : s.vm.findClass RX7 = some m.cls := findClass_of_methodNamed B.named
  have hlocks := B.notSynchronized
  subst hsz
  have hD := hD0.self (sz := s.heap.size)
  generalize hAe : va_A (xW h a e cI cJ cO cE L I M J n cap fE sd si sa dl) s.heap.size = A at hD ⊢
  have hA : ∀ q : Nat, s.heap.size ≤ q → A q := fun q h => by rw [← hAe]; exact Or.inr h
  have hS : va_S A s.heap s.heap [] := va_S.rf
  have hl := lv_entry ([.ref (sd sv 0)]) (n := 1) (Nat.le_of_ble_eq_true rfl)
  rw [lg_entry_eq]
  generalize (lg_sl ([.ref (sd sv 0)]) ++ List.replicate (1 - (lg_sl ([.ref (sd sv 0)])).length) Slot.unset).toArray = ls at hl ⊢
  have hl : lv_has ls 1 [(0, .ref (sd sv 0))] := hl
  obtain ⟨RES, hR0⟩ : ∃ R9, R9 = f_y_endBy n dl sv si := ⟨_, rfl⟩
  have hZ9 := hR0
  unfold f_y_endBy at hZ9
  refine lv_aload_n hx hb dX7_endByItself_0 rfl (lv_at hl 0 rfl) ?_
  refine lv_iconst (v := 1) hx hb dX7_endByItself_1 (by decide) ?_
  refine va_put (D := (dC, dI)) (ci := 8) (fs := [.int (si sv 0), .int (si sv 1), .int (si sv 2), .ref (sd sv 1), .ref (sd sv 2), .ref (sd sv 4), .int (si sv 6), .int (si sv 7), .int (si sv 8), .int (si sv 9), .int (si sv 10), .int (si sv 11)]) (v := .int 1) (ty := .boolean) (C := RX7) (T := TX7) (N := 12) hx hb hts in_y_endBy_X7 tyX7 tyX7_ok nmX7 hown hK hP hD hS (22 + (6 * sv + 0)) (xAt_0 h a e cI cJ cO cE L I M J n cap fE sd si sa dl (s := sv) (by omega)) rfl 11 (by decide) (hts (.fieldLink RX7 47 "ServiceTree$Service" "ended" "Z") (by decide +kernel)) (fun _ h9 => h9) rfl (by decide +kernel) rfl rfl (Nat.le_of_ble_eq_true rfl) dX7_endByItself_2 (fun H locs hP hD hS => ?_)
  replace hP : va_P (dC, dI) vwCl ((xW h a e cI cJ cO cE L I M J n cap fE sd si sa dl).set (22 + (6 * sv + 0)) (sd sv 0, .inr (8, [.int (si sv 0), .int (si sv 1), .int (si sv 2), .ref (sd sv 1), .ref (sd sv 2), .ref (sd sv 4), .int (si sv 6), .int (si sv 7), .int (si sv 8), .int (si sv 9), .int (si sv 10), .int 1]))) H := hP
  replace hD : va_D A ((xW h a e cI cJ cO cE L I M J n cap fE sd si sa dl).set (22 + (6 * sv + 0)) (sd sv 0, .inr (8, [.int (si sv 0), .int (si sv 1), .int (si sv 2), .ref (sd sv 1), .ref (sd sv 2), .ref (sd sv 4), .int (si sv 6), .int (si sv 7), .int (si sv 8), .int (si sv 9), .int (si sv 10), .int 1]))) := hD
  rw [xSv_11 h a e cI cJ cO cE L I M J n cap fE sd si sa dl (s := sv) (by omega)] at hP hD
  obtain ⟨si1, esi1⟩ : ∃ f9 : Nat → Nat → Int32, f9 = up2 si sv 11 1 := ⟨_, rfl⟩
  rw [← esi1] at hP hD
  replace hZ9 := bnd_s hZ9 esi1
  replace hX : InvX n cap fE sd dl (b) I J si1 := by rw [esi1]; exact hX.setsi (by decide)
  replace hUsi : ∀ s9 q9 : Nat, q9 ∉ ([10, 11] : List Nat) → si1 s9 q9 = si s9 q9 := by rw [esi1]; exact xw_up2 (by decide) hUsi
  refine lv_aload_n hx hb dX7_endByItself_5 rfl (lv_at hl 0 rfl) ?_
  refine lv_iconst (v := 0) hx hb dX7_endByItself_6 (by decide) ?_
  refine va_put (D := (dC, dI)) (ci := 8) (fs := [.int (si1 sv 0), .int (si1 sv 1), .int (si1 sv 2), .ref (sd sv 1), .ref (sd sv 2), .ref (sd sv 4), .int (si1 sv 6), .int (si1 sv 7), .int (si1 sv 8), .int (si1 sv 9), .int (si1 sv 10), .int (si1 sv 11)]) (v := .int 0) (ty := .int) (C := RX7) (T := TX7) (N := 12) hx hb hts in_y_endBy_X7 tyX7 tyX7_ok nmX7 hown hK hP hD hS (22 + (6 * sv + 0)) (xAt_0 h a e cI cJ cO cE L I M J n cap fE sd si1 sa dl (s := sv) (by omega)) rfl 10 (by decide) (hts (.fieldLink RX7 51 "ServiceTree$Service" "life" "I") (by decide +kernel)) (fun _ h9 => h9) rfl (by decide +kernel) rfl rfl (Nat.le_of_ble_eq_true rfl) dX7_endByItself_7 (fun H locs hP hD hS => ?_)
  replace hP : va_P (dC, dI) vwCl ((xW h a e cI cJ cO cE L I M J n cap fE sd si1 sa dl).set (22 + (6 * sv + 0)) (sd sv 0, .inr (8, [.int (si1 sv 0), .int (si1 sv 1), .int (si1 sv 2), .ref (sd sv 1), .ref (sd sv 2), .ref (sd sv 4), .int (si1 sv 6), .int (si1 sv 7), .int (si1 sv 8), .int (si1 sv 9), .int 0, .int (si1 sv 11)]))) H := hP
  replace hD : va_D A ((xW h a e cI cJ cO cE L I M J n cap fE sd si1 sa dl).set (22 + (6 * sv + 0)) (sd sv 0, .inr (8, [.int (si1 sv 0), .int (si1 sv 1), .int (si1 sv 2), .ref (sd sv 1), .ref (sd sv 2), .ref (sd sv 4), .int (si1 sv 6), .int (si1 sv 7), .int (si1 sv 8), .int (si1 sv 9), .int 0, .int (si1 sv 11)]))) := hD
  rw [xSv_10 h a e cI cJ cO cE L I M J n cap fE sd si1 sa dl (s := sv) (by omega)] at hP hD
  obtain ⟨si2, esi2⟩ : ∃ f9 : Nat → Nat → Int32, f9 = up2 si1 sv 10 0 := ⟨_, rfl⟩
  rw [← esi2] at hP hD
  replace hZ9 := bnd_s hZ9 esi2
  replace hX : InvX n cap fE sd dl (b) I J si2 := by rw [esi2]; exact hX.setsi (by decide)
  replace hUsi : ∀ s9 q9 : Nat, q9 ∉ ([10, 11] : List Nat) → si2 s9 q9 = si s9 q9 := by rw [esi2]; exact xw_up2 (by decide) hUsi
  exact W.vret hx hb hr (fun t ht hW => ⟨⟨si2, rfl, ⟨hX.mono (by omega), hUsi, hZ9.symm.trans hR0⟩, by rw [ht]; exact hP, hD⟩, hS.F ht⟩) hS.2.2 dX7_endByItself_10
def f_y_span (n : Nat) (dl : Nat → Nat) (sv : Nat) (si : Nat → Nat → Int32) : Int32 := bnd ((si sv 6).toNatClampNeg) (fun (z1 : Nat) => if (nI z1) = 1 then (bnd (si sv 1) (fun (x3 : Int32) => (x3))) else (if (nI z1) = 2 then (bnd (si sv 10) (fun (x5 : Int32) => (x5))) else (if (nI z1) = 3 then (bnd (si sv 2) (fun (x7 : Int32) => (x7))) else (if (nI z1) = 4 then (((0 : Int32))) else (if (nI z1) = 5 then (bnd (si sv 23) (fun (x10 : Int32) => (x10))) else (((0 : Int32))))))))
def wq_y_span : List Cond := ([.code yX7_span cX7_span 1 (some .int), .fieldLink RX7 22 "ServiceTree$Service" "state" "I", .fieldLink RX7 29 "ServiceTree$Service" "startTicks" "I", .fieldLink RX7 51 "ServiceTree$Service" "life" "I", .fieldLink RX7 32 "ServiceTree$Service" "stopTicks" "I", .fieldLink RX7 18 "ServiceTree$Service" "restarts" "LServiceTree$Restarts;"] : List Cond) ++ (wsX60 ++ (wsX70))
theorem in_y_span_X6 : ∀ w ∈ wsX60, w ∈ wq_y_span := fun _ h => List.mem_append_right _ (List.mem_append_left _ (h))
theorem in_y_span_X7 : ∀ w ∈ wsX70, w ∈ wq_y_span := fun _ h => List.mem_append_right _ (List.mem_append_right _ (h))
set_option maxRecDepth 20000 in
theorem wi_y_span : ∀ w ∈ wq_y_span, w ∈ lw_tbl := List.forall_mem_append.mpr ⟨(wix [692, 347, 337, 355, 339, 343] rfl), List.forall_mem_append.mpr ⟨inKX6, inKX7⟩⟩
set_option maxRecDepth 20000 in
theorem wg_y_span : GoodIn wq_y_span wq_y_span := goodIn_sub (fun _ h => h) (by decide +kernel)
def rm_y_span : Room := { frames := 0, cells := 0, slots := 0, locals := 0 }
set_option maxHeartbeats 4000000 in
set_option maxRecDepth 100000 in
theorem c_y_span (l : Launch) (dC : Nat → ClassId) (dI : Nat → Nat → Nat) (h : Nat) (a : Nat → Nat) (e : Nat) (cI cJ cO cE : ClassId) (L : Nat → Int64) (I : Nat → Int32) (M : Nat → Nat → Int64) (J : Nat → Nat → Int32) (n cap : Nat) (fE : Nat → Option Nat) (sd : Nat → Nat → Nat) (si : Nat → Nat → Int32) (sa : Nat → Nat → Nat → Int32) (dl : Nat → Nat) (b : Nat) (sv : Nat) (sz : Nat) (hX0 : InvX n cap fE sd dl b I J si) (hb0 : b + 0 < 2147483648) (hp0 : sv < n) : Met l yX7_span wq_y_span rm_y_span (va_Pc [.ref (sd sv 0)] (fun U => U.heap.size = sz ∧ va_P (dC, dI) vwCl (xW h a e cI cJ cO cE L I M J n cap fE sd si sa dl) U.heap ∧ va_K (dC, dI) vwCl (xT cI cJ cO cE) U ∧ va_D (fun _ => True) (xW h a e cI cJ cO cE L I M J n cap fE sd si sa dl) ∧ pw_N U)) (va_Qi (fun (r : Int32) (u : Unit) => (r = f_y_span n dl sv si)) (fun (u : Unit) (t : State) => va_P (dC, dI) vwCl (xW h a e cI cJ cO cE L I M J n cap fE sd si sa dl) t.heap ∧ va_D (va_A (xW h a e cI cJ cO cE L I M J n cap fE sd si sa dl) sz) (xW h a e cI cJ cO cE L I M J n cap fE sd si sa dl)) (va_A (xW h a e cI cJ cO cE L I M J n cap fE sd si sa dl) sz)) 0 0 (va_A (xW h a e cI cJ cO cE L I M J n cap fE sd si sa dl) sz) := by
  have hn : n ≤ 40 := hX0.1.1
  have hX := hX0
  refine Met.ofW (cc := cX7_span) (maxL := 1) (ret := (some .int)) (by decide) rfl ?_
  intro p e9 s m args below meth c s₁ B hml hv
  obtain ⟨rfl, hsz, hP, hK, hD0, hN⟩ := hv
  have hx := B.exec
  have hb := B.bytes
  have hr := B.returns
  have hts := atoms_spec (ws := wq_y_span) B.pre
  have hown : s.vm.findClass RX7 = some m.cls := findClass_of_methodNamed B.named
  have hlocks := B.notSynchronized
  subst hsz
  have hD := hD0.self (sz := s.heap.size)
  generalize hAe : va_A (xW h a e cI cJ cO cE L I M J n cap fE sd si sa dl) s.heap.size = A at hD ⊢
  have hA : ∀ q : Nat, s.heap.size ≤ q → A q := fun q h => by rw [← hAe]; exact Or.inr h
  have hS : va_S A s.heap s.heap [] := va_S.rf
  have hl := lv_entry ([.ref (sd sv 0)]) (n := 1) (Nat.le_of_ble_eq_true rfl)
  rw [lg_entry_eq]
  generalize (lg_sl ([.ref (sd sv 0)]) ++ List.replicate (1 - (lg_sl ([.ref (sd sv 0)])).length) Slot.unset).toArray = ls at hl ⊢
  have hl : lv_has ls 1 [(0, .ref (sd sv 0))] := hl
  obtain ⟨RES, hR0⟩ : ∃ R9, R9 = f_y_span n dl sv si := ⟨_, rfl⟩
  have hZ9 := hR0
  unfold f_y_span at hZ9
  refine lv_aload_n hx hb dX7_span_0 rfl (lv_at hl 0 rfl) ?_
  refine va_get (D := (dC, dI)) (ci := 8) (v := .int (si sv 6)) (C := RX7) (T := TX7) (N := 12) hx hb hts in_y_span_X7 hown hK hP (22 + (6 * sv + 0)) (xAt_0 h a e cI cJ cO cE L I M J n cap fE sd si sa dl (s := sv) (by omega)) rfl 6 (by decide) (hts (.fieldLink RX7 22 "ServiceTree$Service" "state" "I") (by decide +kernel)) (fun _ h9 => h9) rfl dX7_span_1 ?_
  obtain ⟨z1, hz1, ez1⟩ := hX.2.2.2.1 sv
  refine p1_topr (v := .int (nI z1)) (congrArg Value.int ez1) ?_
  replace hZ9 := bnd_s hZ9 (show z1 = (si sv 6).toNatClampNeg by rw [ez1, nI_clamp (by omega)])
  rcases Classical.em (nI z1 = 1) with c2 | c2
  · replace hZ9 := ite_t hZ9 c2
    refine lv_tableIn (tgt := 40) (off := 36) hx hb dX7_span_4 (by rw [c2]; decide) (by rw [c2]; decide) (by rw [c2]; rfl) (by decide) ?_
    refine lv_aload_n hx hb dX7_span_40 rfl (lv_at hl 0 rfl) ?_
    refine va_get (D := (dC, dI)) (ci := 8) (v := .int (si sv 1)) (C := RX7) (T := TX7) (N := 12) hx hb hts in_y_span_X7 hown hK hP (22 + (6 * sv + 0)) (xAt_0 h a e cI cJ cO cE L I M J n cap fE sd si sa dl (s := sv) (by omega)) rfl 1 (by decide) (hts (.fieldLink RX7 29 "ServiceTree$Service" "startTicks" "I") (by decide +kernel)) (fun _ h9 => h9) rfl dX7_span_41 ?_
    refine lv_topi (fun x3 ex3 => ?_)
    replace hZ9 := bnd_s hZ9 ex3
    exact W.iret (v := x3) hx hb hr (fun t ht hW => ⟨⟨x3, (), rfl, hZ9.symm.trans hR0, by rw [ht]; exact hP, hD⟩, hS.F ht⟩) hS.2.2 dX7_span_44
  replace hZ9 := ite_f hZ9 c2
  rcases Classical.em (nI z1 = 2) with c4 | c4
  · replace hZ9 := ite_t hZ9 c4
    refine lv_tableIn (tgt := 50) (off := 46) hx hb dX7_span_4 (by rw [c4]; decide) (by rw [c4]; decide) (by rw [c4]; rfl) (by decide) ?_
    refine lv_aload_n hx hb dX7_span_50 rfl (lv_at hl 0 rfl) ?_
    refine va_get (D := (dC, dI)) (ci := 8) (v := .int (si sv 10)) (C := RX7) (T := TX7) (N := 12) hx hb hts in_y_span_X7 hown hK hP (22 + (6 * sv + 0)) (xAt_0 h a e cI cJ cO cE L I M J n cap fE sd si sa dl (s := sv) (by omega)) rfl 10 (by decide) (hts (.fieldLink RX7 51 "ServiceTree$Service" "life" "I") (by decide +kernel)) (fun _ h9 => h9) rfl dX7_span_51 ?_
    refine lv_topi (fun x5 ex5 => ?_)
    replace hZ9 := bnd_s hZ9 ex5
    exact W.iret (v := x5) hx hb hr (fun t ht hW => ⟨⟨x5, (), rfl, hZ9.symm.trans hR0, by rw [ht]; exact hP, hD⟩, hS.F ht⟩) hS.2.2 dX7_span_54
  replace hZ9 := ite_f hZ9 c4
  rcases Classical.em (nI z1 = 3) with c6 | c6
  · replace hZ9 := ite_t hZ9 c6
    refine lv_tableIn (tgt := 45) (off := 41) hx hb dX7_span_4 (by rw [c6]; decide) (by rw [c6]; decide) (by rw [c6]; rfl) (by decide) ?_
    refine lv_aload_n hx hb dX7_span_45 rfl (lv_at hl 0 rfl) ?_
    refine va_get (D := (dC, dI)) (ci := 8) (v := .int (si sv 2)) (C := RX7) (T := TX7) (N := 12) hx hb hts in_y_span_X7 hown hK hP (22 + (6 * sv + 0)) (xAt_0 h a e cI cJ cO cE L I M J n cap fE sd si sa dl (s := sv) (by omega)) rfl 2 (by decide) (hts (.fieldLink RX7 32 "ServiceTree$Service" "stopTicks" "I") (by decide +kernel)) (fun _ h9 => h9) rfl dX7_span_46 ?_
    refine lv_topi (fun x7 ex7 => ?_)
    replace hZ9 := bnd_s hZ9 ex7
    exact W.iret (v := x7) hx hb hr (fun t ht hW => ⟨⟨x7, (), rfl, hZ9.symm.trans hR0, by rw [ht]; exact hP, hD⟩, hS.F ht⟩) hS.2.2 dX7_span_49
  replace hZ9 := ite_f hZ9 c6
  rcases Classical.em (nI z1 = 4) with c8 | c8
  · replace hZ9 := ite_t hZ9 c8
    refine lv_tableIn (tgt := 63) (off := 59) hx hb dX7_span_4 (by rw [c8]; decide) (by rw [c8]; decide) (by rw [c8]; rfl) (by decide) ?_
    refine lv_iconst (v := 0) hx hb dX7_span_63 (by decide) ?_
    exact W.iret (v := 0) hx hb hr (fun t ht hW => ⟨⟨0, (), rfl, hZ9.symm.trans hR0, by rw [ht]; exact hP, hD⟩, hS.F ht⟩) hS.2.2 dX7_span_64
  replace hZ9 := ite_f hZ9 c8
  rcases Classical.em (nI z1 = 5) with c9 | c9
  · replace hZ9 := ite_t hZ9 c9
    refine lv_tableIn (tgt := 55) (off := 51) hx hb dX7_span_4 (by rw [c9]; decide) (by rw [c9]; decide) (by rw [c9]; rfl) (by decide) ?_
    refine lv_aload_n hx hb dX7_span_55 rfl (lv_at hl 0 rfl) ?_
    refine va_get (D := (dC, dI)) (ci := 8) (v := .ref (sd sv 2)) (C := RX7) (T := TX7) (N := 12) hx hb hts in_y_span_X7 hown hK hP (22 + (6 * sv + 0)) (xAt_0 h a e cI cJ cO cE L I M J n cap fE sd si sa dl (s := sv) (by omega)) rfl 4 (by decide) (hts (.fieldLink RX7 18 "ServiceTree$Service" "restarts" "LServiceTree$Restarts;") (by decide +kernel)) (fun _ h9 => h9) rfl dX7_span_56 ?_
    refine va_getN (D := (dC, dI)) (ci := 7) (v := .int (si sv 23)) (C := RX6) (T := TX6) (N := 6) hx hb hts in_y_span_X6 hown hK hP (22 + (6 * sv + 2)) (xAt_2 h a e cI cJ cO cE L I M J n cap fE sd si sa dl (s := sv) (by omega)) rfl 3 (by decide) (va_Nw.use rfl (hN (.fieldLinkNest RX7 76 "ServiceTree$Restarts" "delay" "I" "ServiceTree") (by decide +kernel))) (fun _ h9 => h9) rfl dX7_span_59 ?_
    refine lv_topi (fun x10 ex10 => ?_)
    replace hZ9 := bnd_s hZ9 ex10
    exact W.iret (v := x10) hx hb hr (fun t ht hW => ⟨⟨x10, (), rfl, hZ9.symm.trans hR0, by rw [ht]; exact hP, hD⟩, hS.F ht⟩) hS.2.2 dX7_span_62
  replace hZ9 := ite_f hZ9 c9
  refine lv_tableOut (tgt := 63) hx hb dX7_span_4 (by have k0 := c2; have k1 := c4; have k2 := c6; have k3 := c8; have k4 := c9; simp only [p1_le, p1_lt, p1_eq, p1_m6, p1_m1, p1_0, p1_1, p1_2, p1_3, p1_4, p1_5, p1_6, p1_7, p1_8, p1_9, p1_10, p1_11, p1_12, p1_13, p1_14, p1_15, p1_16, p1_17, p1_18, p1_19, p1_20, p1_40, p1_50, p1_200, p1_1000] at k0 k1 k2 k3 k4 ⊢; omega) (by decide) ?_
  refine lv_iconst (v := 0) hx hb dX7_span_63 (by decide) ?_
  exact W.iret (v := 0) hx hb hr (fun t ht hW => ⟨⟨0, (), rfl, hZ9.symm.trans hR0, by rw [ht]; exact hP, hD⟩, hS.F ht⟩) hS.2.2 dX7_span_64
def f_y_isDue (n : Nat) (dl : Nat → Nat) (sv : Nat) (p0 : Int32) (si : Nat → Nat → Int32) : Int32 := bnd (f_y_span n dl sv si) (fun (r1 : Int32) => if r1 ≤ (0 : Int32) then (((0 : Int32))) else (bnd (si sv 7) (fun (x3 : Int32) => bnd (p0 - x3) (fun (x4 : Int32) => if x4 < r1 then (((0 : Int32))) else (((1 : Int32)))))))
def wq_y_isDue : List Cond := ([.code yX7_isDue cX7_isDue 3 (some .boolean), .fieldLink RX7 35 "ServiceTree$Service" "since" "I", .methodLink RX7 72 yX7_span, .instanceMethod yX7_span, .selects RX7 yX7_span yX7_span, .initialized RX7] : List Cond) ++ (wsX70 ++ (wq_y_span))
theorem in_y_isDue_X7 : ∀ w ∈ wsX70, w ∈ wq_y_isDue := fun _ h => List.mem_append_right _ (List.mem_append_left _ (h))
set_option maxRecDepth 20000 in
theorem wi_y_isDue : ∀ w ∈ wq_y_isDue, w ∈ lw_tbl := List.forall_mem_append.mpr ⟨(wix [688, 349, 689, 691, 20, 70] rfl), List.forall_mem_append.mpr ⟨inKX7, wi_y_span⟩⟩
set_option maxRecDepth 20000 in
theorem wg_y_isDue : GoodIn wq_y_isDue wq_y_isDue := goodIn_sub (fun _ h => h) (by decide +kernel)
set_option maxRecDepth 20000 in
theorem wc_y_isDue_y_span_72 : GoodIn wq_y_isDue (wsV RX7 72 RX7 yX7_span wq_y_span) := goodIn_app (goodIn_of _ (by decide +kernel)) (fun w h => ⟨List.mem_append_right _ (List.mem_append_right _ (h)), (wg_y_span w h).2⟩)
def rm_y_isDue : Room := { frames := 1, cells := 0, slots := 0, locals := 20 }
set_option maxHeartbeats 4000000 in
set_option maxRecDepth 100000 in
theorem c_y_isDue (l : Launch) (dC : Nat → ClassId) (dI : Nat → Nat → Nat) (h : Nat) (a : Nat → Nat) (e : Nat) (cI cJ cO cE : ClassId) (L : Nat → Int64) (I : Nat → Int32) (M : Nat → Nat → Int64) (J : Nat → Nat → Int32) (n cap : Nat) (fE : Nat → Option Nat) (sd : Nat → Nat → Nat) (si : Nat → Nat → Int32) (sa : Nat → Nat → Nat → Int32) (dl : Nat → Nat) (b : Nat) (sv : Nat) (p0 : Int32) (sz : Nat) (hX0 : InvX n cap fE sd dl b I J si) (hb0 : b + 0 < 2147483648) (hp0 : sv < n) : Met l yX7_isDue wq_y_isDue rm_y_isDue (va_Pc [.ref (sd sv 0), .int p0] (fun U => U.heap.size = sz ∧ va_P (dC, dI) vwCl (xW h a e cI cJ cO cE L I M J n cap fE sd si sa dl) U.heap ∧ va_K (dC, dI) vwCl (xT cI cJ cO cE) U ∧ va_D (fun _ => True) (xW h a e cI cJ cO cE L I M J n cap fE sd si sa dl) ∧ pw_N U)) (va_Qi (fun (r : Int32) (u : Unit) => ((r = f_y_isDue n dl sv p0 si) ∧ (r = 0 ∨ r = 1))) (fun (u : Unit) (t : State) => va_P (dC, dI) vwCl (xW h a e cI cJ cO cE L I M J n cap fE sd si sa dl) t.heap ∧ va_D (va_A (xW h a e cI cJ cO cE L I M J n cap fE sd si sa dl) sz) (xW h a e cI cJ cO cE L I M J n cap fE sd si sa dl)) (va_A (xW h a e cI cJ cO cE L I M J n cap fE sd si sa dl) sz)) 0 0 (va_A (xW h a e cI cJ cO cE L I M J n cap fE sd si sa dl) sz) := by
  have hn : n ≤ 40 := hX0.1.1
  have hX := hX0
  refine Met.ofW (cc := cX7_isDue) (maxL := 3) (ret := (some .boolean)) (by decide) rfl ?_
  intro p e9 s m args below meth c s₁ B hml hv
  obtain ⟨rfl, hsz, hP, hK, hD0, hN⟩ := hv
  have hx := B.exec
  have hb := B.bytes
  have hr := B.returns
  have hts := atoms_spec (ws := wq_y_isDue) B.pre
  have hown : s.vm.findClass RX7 = some m.cls := findClass_of_methodNamed B.named
  have hlocks := B.notSynchronized
  subst hsz
  have hD := hD0.self (sz := s.heap.size)
  generalize hAe : va_A (xW h a e cI cJ cO cE L I M J n cap fE sd si sa dl) s.heap.size = A at hD ⊢
  have hA : ∀ q : Nat, s.heap.size ≤ q → A q := fun q h => by rw [← hAe]; exact Or.inr h
  have hS : va_S A s.heap s.heap [] := va_S.rf
  have hl := lv_entry ([.ref (sd sv 0), .int p0]) (n := 3) (Nat.le_of_ble_eq_true rfl)
  rw [lg_entry_eq]
  generalize (lg_sl ([.ref (sd sv 0), .int p0]) ++ List.replicate (3 - (lg_sl ([.ref (sd sv 0), .int p0])).length) Slot.unset).toArray = ls at hl ⊢
  have hl : lv_has ls 3 [(0, .ref (sd sv 0)), (1, .int p0)] := hl
  obtain ⟨RES, hR0⟩ : ∃ R9, R9 = f_y_isDue n dl sv p0 si := ⟨_, rfl⟩
  have hZ9 := hR0
  unfold f_y_isDue at hZ9
  refine lv_aload_n hx hb dX7_isDue_0 rfl (lv_at hl 0 rfl) ?_
  have hFc := mw_free hD hS hA
  refine va_calli (va_runV (As := []) (rest := []) ⟨hx, hb, hml, hown, hts⟩ (c_y_span l dC dI h a e cI cJ cO cE L I M J n cap fE sd si sa dl (b) sv s.heap.size hX (by omega) (by omega)) (cwV 0 hts wc_y_isDue_y_span_72 rfl rfl rfl (by decide +kernel) ⟨Nat.le_of_ble_eq_true rfl, Nat.le_of_ble_eq_true rfl⟩) ⟨fun a9 U g mk q => by obtain ⟨q0, q1, qP, qK, qD, qN⟩ := q; exact ⟨q0, q1, qP, va_K.moved (u := U) (U := U.calling g mk a9) (Vm.Alike.refl U.vm) qK, qD, pw_N.same (u := U) (U := U.calling g mk a9) rfl qN⟩, va_recv hK hP (ci := 8) (q0 := (22 + (6 * sv + 0))) rfl (xAt_0 h a e cI cJ cO cE L I M J n cap fE sd si sa dl (s := sv) (by omega)), fun U hU hW => ⟨rfl, by rw [hU], by rw [hU]; exact hP, va_K.moved hW.alike hK, hD.weaken (fun _ _ _ _ => trivial), pw_N.warm hW hN⟩⟩ rfl rfl hl.1 rfl (lv_room (Nat.le_of_ble_eq_true rfl)) dX7_isDue_1 ⟨Nat.le_of_ble_eq_true rfl, Nat.le_of_ble_eq_true rfl⟩) hS (fun q _ h => hFc q h) hFc (fun r1 u t H1 locs ht hvm hw hB hz1 hk1 hS => ?_)
  replace hP := hB.1
  rw [ht] at hP
  replace hD : va_D A (xW h a e cI cJ cO cE L I M J n cap fE sd si sa dl) := hB.2.weaken (fun _ q _ h9 => hFc q.1 h9)
  clear hB
  generalize H1 = H at hP hS ⊢
  replace hP : va_P (dC, dI) vwCl (xW h a e cI cJ cO cE L I M J n cap fE sd si sa dl) H := hP
  replace hw : r1 = f_y_span n dl sv si := hw
  replace hZ9 := bnd_s hZ9 hw
  refine lv_istore_n (lv' := [(2, .int r1), (0, .ref (sd sv 0)), (1, .int p0)]) hx hb dX7_isDue_4 rfl hl (by decide) rfl (fun ls hl => ?_)
  refine lv_iload_n hx hb dX7_isDue_5 rfl (lv_at hl 0 rfl) ?_
  refine lv_if_le (tgt := 23) hx hb dX7_isDue_6 (by decide) (fun c2 => ?_) (fun c2 => ?_)
  · replace hZ9 := ite_t hZ9 c2
    refine lv_iconst (v := 0) hx hb dX7_isDue_23 (by decide) ?_
    exact W.zret (v := 0) hx hb hr (by decide) (fun t ht hW => ⟨⟨0, (), rfl, ⟨hZ9.symm.trans hR0, Or.inl rfl⟩, by rw [ht]; exact hP, hD⟩, hS.F ht⟩) hS.2.2 dX7_isDue_24
  · replace hZ9 := ite_f hZ9 c2
    refine lv_iload_n hx hb dX7_isDue_9 rfl (lv_at hl 2 rfl) ?_
    refine lv_aload_n hx hb dX7_isDue_10 rfl (lv_at hl 1 rfl) ?_
    refine va_get (D := (dC, dI)) (ci := 8) (v := .int (si sv 7)) (C := RX7) (T := TX7) (N := 12) hx hb hts in_y_isDue_X7 hown hK hP (22 + (6 * sv + 0)) (xAt_0 h a e cI cJ cO cE L I M J n cap fE sd si sa dl (s := sv) (by omega)) rfl 7 (by decide) (hts (.fieldLink RX7 35 "ServiceTree$Service" "since" "I") (by decide +kernel)) (fun _ h9 => h9) rfl dX7_isDue_11 ?_
    refine lv_topi (fun x3 ex3 => ?_)
    replace hZ9 := bnd_s hZ9 ex3
    refine lv_isub hx hb dX7_isDue_14 ?_
    refine lv_topi (fun x4 ex4 => ?_)
    replace hZ9 := bnd_s hZ9 ex4
    refine lv_iload_n hx hb dX7_isDue_15 rfl (lv_at hl 0 rfl) ?_
    refine lv_icmp_lt (tgt := 23) hx hb dX7_isDue_16 (by decide) (fun c5 => ?_) (fun c5 => ?_)
    · replace hZ9 := ite_t hZ9 c5
      refine lv_iconst (v := 0) hx hb dX7_isDue_23 (by decide) ?_
      exact W.zret (v := 0) hx hb hr (by decide) (fun t ht hW => ⟨⟨0, (), rfl, ⟨hZ9.symm.trans hR0, Or.inl rfl⟩, by rw [ht]; exact hP, hD⟩, hS.F ht⟩) hS.2.2 dX7_isDue_24
    · replace hZ9 := ite_f hZ9 c5
      refine lv_iconst (v := 1) hx hb dX7_isDue_19 (by decide) ?_
      refine lv_goto (tgt := 24) hx hb dX7_isDue_20 (by decide) ?_
      exact W.zret (v := 1) hx hb hr (by decide) (fun t ht hW => ⟨⟨1, (), rfl, ⟨hZ9.symm.trans hR0, Or.inr rfl⟩, by rw [ht]; exact hP, hD⟩, hS.F ht⟩) hS.2.2 dX7_isDue_24

end
