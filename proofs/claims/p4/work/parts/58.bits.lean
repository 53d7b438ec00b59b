/-! sets of services as the bits of a long -/
def bL (x : Int64) (s : Nat) : Bool := x.toBitVec.getLsbD s
theorem bL_ext {x y : Int64} (h : ∀ s, s < 64 → bL x s = bL y s) : x = y := Int64.toBitVec_inj.mp (BitVec.eq_of_getLsbD_eq (fun i hi => h i hi))
theorem bL_or (x y : Int64) (s : Nat) : bL (x ||| y) s = (bL x s || bL y s) := by unfold bL; rw [Int64.toBitVec_or, BitVec.getLsbD_or]
theorem bL_and (x y : Int64) (s : Nat) : bL (x &&& y) s = (bL x s && bL y s) := by unfold bL; rw [Int64.toBitVec_and, BitVec.getLsbD_and]
theorem bL_xor (x y : Int64) (s : Nat) : bL (x ^^^ y) s = (bL x s ^^ bL y s) := by unfold bL; rw [Int64.toBitVec_xor, BitVec.getLsbD_xor]
theorem bL_m1 : ∀ s, s < 64 → bL (-1) s = true := by decide +kernel
theorem bL_0 (s : Nat) : bL 0 s = false := BitVec.getLsbD_zero
theorem bL_big {x : Int64} {s : Nat} (h : 64 ≤ s) : bL x s = false := BitVec.getLsbD_of_ge _ _ h
theorem bL_not (x : Int64) {s : Nat} (hs : s < 64) : bL (x ^^^ (-1)) s = !bL x s := by rw [bL_xor, bL_m1 s hs]; cases bL x s <;> rfl
def oL (t : Nat) : Int64 := (1 : Int64) <<< ((nI t).toInt64 &&& 63)
theorem oL_bv : ∀ t, t < 64 → (oL t).toBitVec = BitVec.twoPow 64 t := by decide +kernel
theorem bL_only {t : Nat} (ht : t < 64) (s : Nat) : bL (oL t) s = decide (s = t) := by
  unfold bL
  rw [oL_bv t ht, BitVec.getLsbD_twoPow]
  by_cases h : s = t
  · subst h; simp [ht]
  · simp [h, Ne.symm h]
theorem bL_zero_iff {x : Int64} : x = 0 ↔ ∀ s, s < 64 → bL x s = false := by
  constructor
  · intro h s _; rw [h]; exact bL_0 s
  · intro h; exact bL_ext (fun s hs => by rw [h s hs, bL_0])
theorem bL_ne0 {x : Int64} {s : Nat} (h : bL x s = true) : x ≠ 0 := fun e => by rw [e, bL_0] at h; cases h
theorem bL_cnt : ∀ k, k < 64 → ((nI k).toInt64.toUInt64 &&& Int64.toUInt64 63).toNat = k := by decide +kernel
theorem bL_shift {w : Int64} {u : UInt64} {j : Nat} (hj : j < 64) (hu : u.toNat = j) : ((w.toUInt64 >>> u).toInt64 &&& 1) = 0 ↔ bL w j = false := by
  have hm : ((w.toUInt64 >>> u).toInt64 &&& 1).toBitVec = (w.toBitVec >>> j) &&& 1#64 := by
    show (w.toUInt64 >>> u).toInt64.toBitVec &&& (1 : Int64).toBitVec = _
    congr 1
    show (w.toUInt64 >>> u).toBitVec = _
    rw [UInt64.toBitVec_shiftRight]
    show w.toBitVec >>> (u.toBitVec % 64) = _
    have e : (u.toBitVec % 64).toNat = j := by
      rw [BitVec.toNat_umod]
      show u.toNat % 64 = j
      rw [hu]; exact Nat.mod_eq_of_lt hj
    rw [BitVec.shiftRight_eq', e]
  constructor
  · intro h
    have h1 : ((w.toUInt64 >>> u).toInt64 &&& 1).toBitVec = 0#64 := by rw [h]; rfl
    rw [hm] at h1
    have h2 := congrArg (fun b => b.getLsbD 0) h1
    simp [BitVec.getLsbD_and, BitVec.getLsbD_ushiftRight] at h2
    exact h2
  · intro h
    apply Int64.toBitVec_inj.mp
    rw [hm]
    show _ = 0#64
    apply BitVec.eq_of_getLsbD_eq
    intro i hi
    rw [BitVec.getLsbD_and, BitVec.getLsbD_ushiftRight]
    by_cases e : i = 0
    · subst e
      have h3 : w.toBitVec.getLsbD (j + 0) = false := h
      rw [h3]; simp
    · simp [e]
/-- the sets of services that a relation leads to from a set -/
def uS (f : Nat → Int64) (S : Int64) : Nat → Int64
  | 0 => 0
  | k + 1 => if bL S k then uS f S k ||| f k else uS f S k
theorem bL_uS (f : Nat → Int64) (S : Int64) (t : Nat) : ∀ k, bL (uS f S k) t = true ↔ ∃ s, s < k ∧ bL S s = true ∧ bL (f s) t = true
  | 0 => by
    constructor
    · intro h; rw [show uS f S 0 = 0 from rfl, bL_0] at h; cases h
    · rintro ⟨s, hs, _⟩; omega
  | k + 1 => by
    have ih := bL_uS f S t k
    by_cases hb : bL S k = true
    · rw [show uS f S (k + 1) = uS f S k ||| f k from if_pos hb, bL_or, Bool.or_eq_true, ih]
      constructor
      · rintro (⟨s, h1, h2, h3⟩ | h)
        · exact ⟨s, by omega, h2, h3⟩
        · exact ⟨k, by omega, hb, h⟩
      · rintro ⟨s, h1, h2, h3⟩
        by_cases e : s = k
        · subst e; exact Or.inr h3
        · exact Or.inl ⟨s, by omega, h2, h3⟩
    · rw [show uS f S (k + 1) = uS f S k from if_neg hb, ih]
      constructor
      · rintro ⟨s, h1, h2, h3⟩; exact ⟨s, by omega, h2, h3⟩
      · rintro ⟨s, h1, h2, h3⟩
        by_cases e : s = k
        · subst e; exact absurd h2 hb
        · exact ⟨s, by omega, h2, h3⟩
/-- the least set that holds S and follows E -/
def Clo (E : Nat → Nat → Prop) (S : Nat → Prop) (x : Nat) : Prop := ∀ T : Nat → Prop, (∀ y, S y → T y) → (∀ y z, T y → E y z → T z) → T x
theorem Clo.base {E : Nat → Nat → Prop} {S : Nat → Prop} {x : Nat} (h : S x) : Clo E S x := fun _ h1 _ => h1 x h
theorem Clo.step {E : Nat → Nat → Prop} {S : Nat → Prop} {x y : Nat} (h : Clo E S x) (e : E x y) : Clo E S y := fun T h1 h2 => h2 x y (h T h1 h2) e
theorem Clo.least {E : Nat → Nat → Prop} {S T : Nat → Prop} (h1 : ∀ y, S y → T y) (h2 : ∀ y z, T y → E y z → T z) {x : Nat} (h : Clo E S x) : T x := h T h1 h2
/-- how many of k places hold -/
def cN (p : Nat → Bool) : Nat → Nat
  | 0 => 0
  | k + 1 => cN p k + (if p k then 1 else 0)
theorem cN_le (p : Nat → Bool) : ∀ k, cN p k ≤ k
  | 0 => Nat.le_refl _
  | k + 1 => by have h := cN_le p k; show cN p k + _ ≤ k + 1; split <;> omega
theorem cN_mono {p q : Nat → Bool} : ∀ {k : Nat}, (∀ i, i < k → p i = true → q i = true) → cN p k ≤ cN q k
  | 0, _ => Nat.le_refl _
  | k + 1, h => by
    have h1 := cN_mono (p := p) (q := q) (k := k) (fun i hi => h i (by omega))
    show cN p k + (if p k then 1 else 0) ≤ cN q k + (if q k then 1 else 0)
    by_cases e : p k = true
    · rw [if_pos e, if_pos (h k (by omega) e)]; omega
    · rw [if_neg e]; omega
theorem cN_lt {p q : Nat → Bool} : ∀ {k j : Nat}, (∀ i, i < k → p i = true → q i = true) → j < k → p j = false → q j = true → cN p k < cN q k
  | 0, _, _, hj, _, _ => by omega
  | k + 1, j, h, hj, hp, hq => by
    have h1 := cN_mono (p := p) (q := q) (k := k) (fun i hi => h i (by omega))
    show cN p k + (if p k then 1 else 0) < cN q k + (if q k then 1 else 0)
    by_cases e : j = k
    · subst e
      rw [if_pos hq, hp, if_neg (by decide)]; omega
    · have h2 := cN_lt (p := p) (q := q) (k := k) (j := j) (fun i hi => h i (by omega)) (by omega) hp hq
      by_cases e2 : p k = true
      · rw [if_pos e2, if_pos (h k (by omega) e2)]; omega
      · rw [if_neg e2]; omega
/-- a step that only adds, among the first 40 places, stands still after 40 steps -/
def itL (g : Int64 → Int64) : Nat → Int64 → Int64
  | 0, x => x
  | k + 1, x => g (itL g k x)
theorem itL_fix {g : Int64 → Int64} {x : Int64} {k : Nat} (h : g (itL g k x) = itL g k x) : ∀ d, itL g (k + d) x = itL g k x
  | 0 => rfl
  | d + 1 => by show g (itL g (k + d) x) = _; rw [itL_fix h d, h]
theorem itL_stop (g : Int64 → Int64) (x : Int64) (hg : ∀ y s, bL y s = true → bL (g y) s = true) (h40 : ∀ y s, bL (g y) s = true → bL y s = false → s < 40) : g (itL g 40 x) = itL g 40 x := by
  have key : ∀ k, g (itL g k x) = itL g k x ∨ k + cN (bL x) 40 ≤ cN (bL (itL g k x)) 40 := by
    intro k
    induction k with
    | zero => right; show 0 + cN (bL x) 40 ≤ cN (bL x) 40; omega
    | succ k ih =>
      rcases ih with h | h
      · left
        show g (g (itL g k x)) = g (itL g k x)
        rw [h, h]
      · by_cases e : g (itL g k x) = itL g k x
        · left
          show g (g (itL g k x)) = g (itL g k x)
          rw [e, e]
        · right
          have hex : ∃ s, bL (g (itL g k x)) s = true ∧ bL (itL g k x) s = false := by
            refine Classical.byContradiction (fun hn => e (bL_ext (fun s _ => ?_)))
            by_cases h1 : bL (itL g k x) s = true
            · rw [h1, hg _ s h1]
            · have h1' : bL (itL g k x) s = false := by revert h1; cases bL (itL g k x) s <;> simp
              rw [h1']
              refine Classical.byContradiction (fun h2 => hn ⟨s, ?_, h1'⟩)
              revert h2; cases bL (g (itL g k x)) s <;> simp
          obtain ⟨s, h1, h2⟩ := hex
          have h3 := cN_lt (p := bL (itL g k x)) (q := bL (g (itL g k x))) (k := 40) (j := s) (fun i _ => hg _ i) (h40 _ s h1 h2) h2 h1
          show k + 1 + cN (bL x) 40 ≤ cN (bL (g (itL g k x))) 40
          omega
  have hle : ∀ k, cN (bL (itL g k x)) 40 ≤ 40 := fun k => cN_le _ 40
  rcases key 40 with h | h
  · exact h
  · have hl := hle 40
    have hfull : cN (bL (itL g 40 x)) 40 = 40 := by omega
    refine bL_ext (fun s _ => ?_)
    by_cases h1 : bL (itL g 40 x) s = true
    · rw [h1, hg _ s h1]
    · have h1' : bL (itL g 40 x) s = false := by revert h1; cases bL (itL g 40 x) s <;> simp
      rw [h1']
      refine Classical.byContradiction (fun h2 => ?_)
      have h2' : bL (g (itL g 40 x)) s = true := by revert h2; cases bL (g (itL g 40 x)) s <;> simp
      have h3 := cN_lt (p := bL (itL g 40 x)) (q := bL (g (itL g 40 x))) (k := 40) (j := s) (fun i _ => hg _ i) (h40 _ s h2' h1') h1' h2'
      have h4 := cN_le (bL (g (itL g 40 x))) 40
      omega
