section
theorem bnd_id {α : Type} (a : α) : bnd a (fun r => r) = a := rfl
theorem fy_only (n : Nat) (dl : Nat → Nat) (s : Nat) : f_y_only n dl s = oL s := rfl
theorem fy_holds (n : Nat) (dl : Nat → Nat) (x : Int64) {s : Nat} (hs : s < 64) : f_y_holds n dl x s = if bL x s = true then 1 else 0 := by
  unfold f_y_holds
  simp only [bnd]
  by_cases h : bL x s = true
  · rw [if_pos h, if_neg]
    intro q
    have q1 := (lg_cmp_eq _ _).mp q
    have q2 := (bL_shift hs (bL_cnt s hs)).mp q1
    rw [q2] at h; cases h
  · have h0 : bL x s = false := by revert h; cases bL x s <;> simp
    rw [if_neg h, if_pos]
    exact (lg_cmp_eq _ _).mpr ((bL_shift hs (bL_cnt s hs)).mpr h0)
theorem uS_step (f : Nat → Int64) (S : Int64) (k : Nat) : uS f S (k + 1) = if bL S k = true then uS f S k ||| f k else uS f S k := rfl
theorem fy_union0_lp (n : Nat) (dl : Nat → Nat) (p0 : Int64) (M : Nat → Nat → Int64) (K : Nat → Int64 → Int64) : ∀ fu i, i ≤ 40 → 40 < i + fu → f_y_union0_5 n dl p0 M fu i (uS (M 0) p0 i) K = K 40 (uS (M 0) p0 40)
  | 0, i, h1, h2 => by omega
  | fu + 1, i, h1, h2 => by
    rw [f_y_union0_5]
    by_cases hi : 40 ≤ i
    · have e : i = 40 := by omega
      subst e
      rw [if_pos hi]
    · rw [if_neg hi]
      have hs : i < 64 := by omega
      have ih := fy_union0_lp n dl p0 M K fu (i + 1) (by omega) (by omega)
      rw [uS_step] at ih
      simp only [bnd]
      rw [fy_holds n dl p0 hs]
      by_cases hb : bL p0 i = true
      · rw [if_pos hb, if_neg (by decide)]
        rw [if_pos hb] at ih
        rw [nI_clamp (by omega)]
        exact ih
      · rw [if_neg hb, if_pos rfl]
        rw [if_neg hb] at ih
        exact ih
theorem fy_union0 (n : Nat) (dl : Nat → Nat) (p0 : Int64) (M : Nat → Nat → Int64) : f_y_union0 n dl p0 M = uS (M 0) p0 40 := fy_union0_lp n dl p0 M _ 41 0 (by omega) (by omega)
theorem fy_union1_lp (n : Nat) (dl : Nat → Nat) (p0 : Int64) (M : Nat → Nat → Int64) (K : Nat → Int64 → Int64) : ∀ fu i, i ≤ 40 → 40 < i + fu → f_y_union1_5 n dl p0 M fu i (uS (M 1) p0 i) K = K 40 (uS (M 1) p0 40)
  | 0, i, h1, h2 => by omega
  | fu + 1, i, h1, h2 => by
    rw [f_y_union1_5]
    by_cases hi : 40 ≤ i
    · have e : i = 40 := by omega
      subst e
      rw [if_pos hi]
    · rw [if_neg hi]
      have hs : i < 64 := by omega
      have ih := fy_union1_lp n dl p0 M K fu (i + 1) (by omega) (by omega)
      rw [uS_step] at ih
      simp only [bnd]
      rw [fy_holds n dl p0 hs]
      by_cases hb : bL p0 i = true
      · rw [if_pos hb, if_neg (by decide)]
        rw [if_pos hb] at ih
        rw [nI_clamp (by omega)]
        exact ih
      · rw [if_neg hb, if_pos rfl]
        rw [if_neg hb] at ih
        exact ih
theorem fy_union1 (n : Nat) (dl : Nat → Nat) (p0 : Int64) (M : Nat → Nat → Int64) : f_y_union1 n dl p0 M = uS (M 1) p0 40 := fy_union1_lp n dl p0 M _ 41 0 (by omega) (by omega)
theorem fy_union2_lp (n : Nat) (dl : Nat → Nat) (p0 : Int64) (M : Nat → Nat → Int64) (K : Nat → Int64 → Int64) : ∀ fu i, i ≤ 40 → 40 < i + fu → f_y_union2_5 n dl p0 M fu i (uS (M 2) p0 i) K = K 40 (uS (M 2) p0 40)
  | 0, i, h1, h2 => by omega
  | fu + 1, i, h1, h2 => by
    rw [f_y_union2_5]
    by_cases hi : 40 ≤ i
    · have e : i = 40 := by omega
      subst e
      rw [if_pos hi]
    · rw [if_neg hi]
      have hs : i < 64 := by omega
      have ih := fy_union2_lp n dl p0 M K fu (i + 1) (by omega) (by omega)
      rw [uS_step] at ih
      simp only [bnd]
      rw [fy_holds n dl p0 hs]
      by_cases hb : bL p0 i = true
      · rw [if_pos hb, if_neg (by decide)]
        rw [if_pos hb] at ih
        rw [nI_clamp (by omega)]
        exact ih
      · rw [if_neg hb, if_pos rfl]
        rw [if_neg hb] at ih
        exact ih
theorem fy_union2 (n : Nat) (dl : Nat → Nat) (p0 : Int64) (M : Nat → Nat → Int64) : f_y_union2 n dl p0 M = uS (M 2) p0 40 := fy_union2_lp n dl p0 M _ 41 0 (by omega) (by omega)
theorem fy_union3_lp (n : Nat) (dl : Nat → Nat) (p0 : Int64) (M : Nat → Nat → Int64) (K : Nat → Int64 → Int64) : ∀ fu i, i ≤ 40 → 40 < i + fu → f_y_union3_5 n dl p0 M fu i (uS (M 3) p0 i) K = K 40 (uS (M 3) p0 40)
  | 0, i, h1, h2 => by omega
  | fu + 1, i, h1, h2 => by
    rw [f_y_union3_5]
    by_cases hi : 40 ≤ i
    · have e : i = 40 := by omega
      subst e
      rw [if_pos hi]
    · rw [if_neg hi]
      have hs : i < 64 := by omega
      have ih := fy_union3_lp n dl p0 M K fu (i + 1) (by omega) (by omega)
      rw [uS_step] at ih
      simp only [bnd]
      rw [fy_holds n dl p0 hs]
      by_cases hb : bL p0 i = true
      · rw [if_pos hb, if_neg (by decide)]
        rw [if_pos hb] at ih
        rw [nI_clamp (by omega)]
        exact ih
      · rw [if_neg hb, if_pos rfl]
        rw [if_neg hb] at ih
        exact ih
theorem fy_union3 (n : Nat) (dl : Nat → Nat) (p0 : Int64) (M : Nat → Nat → Int64) : f_y_union3 n dl p0 M = uS (M 3) p0 40 := fy_union3_lp n dl p0 M _ 41 0 (by omega) (by omega)
theorem fy_union4_lp (n : Nat) (dl : Nat → Nat) (p0 : Int64) (M : Nat → Nat → Int64) (K : Nat → Int64 → Int64) : ∀ fu i, i ≤ 40 → 40 < i + fu → f_y_union4_5 n dl p0 M fu i (uS (M 4) p0 i) K = K 40 (uS (M 4) p0 40)
  | 0, i, h1, h2 => by omega
  | fu + 1, i, h1, h2 => by
    rw [f_y_union4_5]
    by_cases hi : 40 ≤ i
    · have e : i = 40 := by omega
      subst e
      rw [if_pos hi]
    · rw [if_neg hi]
      have hs : i < 64 := by omega
      have ih := fy_union4_lp n dl p0 M K fu (i + 1) (by omega) (by omega)
      rw [uS_step] at ih
      simp only [bnd]
      rw [fy_holds n dl p0 hs]
      by_cases hb : bL p0 i = true
      · rw [if_pos hb, if_neg (by decide)]
        rw [if_pos hb] at ih
        rw [nI_clamp (by omega)]
        exact ih
      · rw [if_neg hb, if_pos rfl]
        rw [if_neg hb] at ih
        exact ih
theorem fy_union4 (n : Nat) (dl : Nat → Nat) (p0 : Int64) (M : Nat → Nat → Int64) : f_y_union4 n dl p0 M = uS (M 4) p0 40 := fy_union4_lp n dl p0 M _ 41 0 (by omega) (by omega)
theorem fy_fromAny1 (n : Nat) (dl : Nat → Nat) (p : Int64) (M : Nat → Nat → Int64) : f_y_fromAny1 n dl p M = uS (M 1) p 40 := by
  unfold f_y_fromAny1; rw [bnd_id]; exact fy_union1 n dl p M
theorem fy_fromAny3 (n : Nat) (dl : Nat → Nat) (p : Int64) (M : Nat → Nat → Int64) : f_y_fromAny3 n dl p M = uS (M 3) p 40 := by
  unfold f_y_fromAny3; rw [bnd_id]; exact fy_union3 n dl p M
theorem lg_0 (x y : Int64) : lg_cmp x y = 0 ↔ x = y := lg_cmp_eq x y
def gN (M : Nat → Nat → Int64) (y : Int64) : Int64 := y ||| uS (M 0) y 40
def gR (M : Nat → Nat → Int64) (w y : Int64) : Int64 := y ||| (uS (M 4) y 40 &&& w)
theorem itL_done {g : Int64 → Int64} {x : Int64} {i : Nat} (hi : i ≤ 40) (h : g (itL g i x) = itL g i x) : itL g i x = itL g 40 x := by
  have e := itL_fix h (40 - i)
  rw [show i + (40 - i) = 40 by omega] at e
  exact e.symm
theorem fy_withNeeded_lp (n : Nat) (dl : Nat → Nat) (p0 : Int64) (M : Nat → Nat → Int64) (K : Int64 → Int64) : ∀ fu i, i ≤ 40 → 40 < i + fu → f_y_withNeeded_5 n dl M fu i (itL (gN M) i p0) (fun _ y => K y) = K (itL (gN M) 40 p0)
  | 0, i, h1, h2 => by omega
  | fu + 1, i, h1, h2 => by
    rw [f_y_withNeeded_5]
    by_cases hi : 40 ≤ i
    · have e : i = 40 := by omega
      subst e
      rw [if_pos hi]
    · rw [if_neg hi]
      simp only [bnd]
      rw [fy_union0]
      by_cases hc : lg_cmp (itL (gN M) i p0 ||| uS (M 0) (itL (gN M) i p0) 40) (itL (gN M) i p0) = 0
      · rw [if_pos hc]
        have e : gN M (itL (gN M) i p0) = itL (gN M) i p0 := (lg_0 _ _).mp hc
        rw [itL_done (by omega) e]
      · rw [if_neg hc]
        exact fy_withNeeded_lp n dl p0 M K fu (i + 1) (by omega) (by omega)
theorem fy_withNeeded (n : Nat) (dl : Nat → Nat) (p0 : Int64) (M : Nat → Nat → Int64) : f_y_withNeeded n dl p0 M = itL (gN M) 40 p0 := fy_withNeeded_lp n dl p0 M (fun y => y) 41 0 (by omega) (by omega)
theorem fy_withNeeders_lp (n : Nat) (dl : Nat → Nat) (p0 p1 : Int64) (M : Nat → Nat → Int64) (K : Int64 → Int64) : ∀ fu i, i ≤ 40 → 40 < i + fu → f_y_withNeeders_6 n dl p1 M fu i (itL (gR M p1) i p0) (fun _ y => K y) = K (itL (gR M p1) 40 p0)
  | 0, i, h1, h2 => by omega
  | fu + 1, i, h1, h2 => by
    rw [f_y_withNeeders_6]
    by_cases hi : 40 ≤ i
    · have e : i = 40 := by omega
      subst e
      rw [if_pos hi]
    · rw [if_neg hi]
      simp only [bnd]
      rw [fy_union4]
      by_cases hc : lg_cmp (itL (gR M p1) i p0 ||| (uS (M 4) (itL (gR M p1) i p0) 40 &&& p1)) (itL (gR M p1) i p0) = 0
      · rw [if_pos hc]
        have e : gR M p1 (itL (gR M p1) i p0) = itL (gR M p1) i p0 := (lg_0 _ _).mp hc
        rw [itL_done (by omega) e]
      · rw [if_neg hc]
        exact fy_withNeeders_lp n dl p0 p1 M K fu (i + 1) (by omega) (by omega)
theorem fy_withNeeders (n : Nat) (dl : Nat → Nat) (p0 p1 : Int64) (M : Nat → Nat → Int64) : f_y_withNeeders n dl p0 p1 M = itL (gR M p1) 40 p0 := fy_withNeeders_lp n dl p0 p1 M (fun y => y) 41 0 (by omega) (by omega)
theorem fy_clash (n : Nat) (dl : Nat → Nat) (p : Int64) (M : Nat → Nat → Int64) : f_y_clash n dl p M = if uS (M 3) p 40 &&& p = 0 then 0 else 1 := by
  unfold f_y_clash
  simp only [bnd]
  rw [fy_union3]
  by_cases h : uS (M 3) p 40 &&& p = 0
  · rw [if_pos h, if_pos ((lg_0 _ _).mpr h)]
  · rw [if_neg h, if_neg (fun q => h ((lg_0 _ _).mp q))]
def awL (M : Nat → Nat → Int64) (s : Nat) (a b : Int64) : Int64 := if bL a s = true then ((M 0 s ||| M 2 s) &&& a) ||| (M 3 s &&& b) else if bL b s = true then (M 4 s ||| M 6 s) &&& b else 0
theorem fy_rawaited (n : Nat) (dl : Nat → Nat) {s : Nat} (hs : s < 40) (a b : Int64) (M : Nat → Nat → Int64) : f_y_rawaited n dl s a b M = awL M s a b := by
  unfold f_y_rawaited awL
  simp only [bnd]
  rw [fy_holds n dl a (by omega), fy_holds n dl b (by omega), nI_clamp (by omega)]
  by_cases h1 : bL a s = true
  · rw [if_pos h1, if_pos h1, if_neg (by decide)]
  · rw [if_neg h1, if_neg h1, if_pos rfl]
    by_cases h2 : bL b s = true
    · rw [if_pos h2, if_pos h2, if_neg (by decide)]
    · rw [if_neg h2, if_neg h2, if_pos rfl]

end
section
theorem fb_holes : ∀ (m n : Nat) (f : Nat → Nat), (∀ i, i < n → f i < m) → (∀ i j, i < j → j < n → f i ≠ f j) → n ≤ m := by
  intro m
  induction m with
  | zero =>
    intro n f h1 _
    rcases Nat.eq_zero_or_pos n with h | h
    · omega
    · exact absurd (h1 0 h) (Nat.not_lt_zero _)
  | succ m ih =>
    intro n f h1 h2
    by_cases hx : ∃ i, i < n ∧ f i = m
    · obtain ⟨a, ha, hfa⟩ := hx
      have hg := ih (n - 1) (fun i => if i < a then f i else f (i + 1)) (by
        intro i hi
        by_cases q : i < a
        · simp only [if_pos q]
          have b1 := h1 i (by omega)
          have b2 := h2 i a q ha
          omega
        · simp only [if_neg q]
          have b1 := h1 (i + 1) (by omega)
          have b2 := h2 a (i + 1) (by omega) (by omega)
          omega) (by
        intro i j hij hj
        by_cases q : i < a
        · by_cases r : j < a
          · simp only [if_pos q, if_pos r]
            exact h2 i j hij (by omega)
          · simp only [if_pos q, if_neg r]
            exact h2 i (j + 1) (by omega) (by omega)
        · have r : ¬ j < a := by omega
          simp only [if_neg q, if_neg r]
          exact h2 (i + 1) (j + 1) (by omega) (by omega))
      omega
    · have hg := ih n f (fun i hi => by
        have b1 := h1 i hi
        have b2 : f i ≠ m := fun e => hx ⟨i, hi, e⟩
        omega) h2
      omega
def Pth (G : Nat → Nat → Prop) : Nat → Nat → Nat → Prop
  | 0, x, y => x = y
  | k + 1, x, y => ∃ z, Pth G k x z ∧ G z y
theorem Pth.add {G : Nat → Nat → Prop} : ∀ {b a x y z : Nat}, Pth G a x y → Pth G b y z → Pth G (a + b) x z
  | 0, a, x, y, z, h1, h2 => by have e : y = z := h2; subst e; exact h1
  | b + 1, a, x, y, z, h1, h2 => by obtain ⟨w, h3, h4⟩ := h2; exact ⟨w, Pth.add h1 h3, h4⟩
theorem Pth.seq {G : Nat → Nat → Prop} : ∀ {k x y : Nat}, Pth G k x y → ∃ v : Nat → Nat, v 0 = x ∧ v k = y ∧ ∀ i, i < k → G (v i) (v (i + 1))
  | 0, x, y, h => ⟨fun _ => x, rfl, h, fun i hi => absurd hi (by omega)⟩
  | k + 1, x, y, h => by
    obtain ⟨z, h1, h2⟩ := h
    obtain ⟨v, v0, vk, vs⟩ := Pth.seq h1
    refine ⟨fun i => if i ≤ k then v i else y, by simp [v0], if_neg (by omega), fun i hi => ?_⟩
    by_cases e : i < k
    · simp only [if_pos (show i ≤ k by omega), if_pos (show i + 1 ≤ k by omega)]
      exact vs i e
    · have e2 : i = k := by omega
      subst e2
      simp only [if_pos (Nat.le_refl i), if_neg (show ¬ i + 1 ≤ i by omega)]
      rw [vk]; exact h2
theorem Pth.of {G : Nat → Nat → Prop} {v : Nat → Nat} {i : Nat} : ∀ {d : Nat}, (∀ q, i ≤ q → q < i + d → G (v q) (v (q + 1))) → Pth G d (v i) (v (i + d))
  | 0, _ => rfl
  | d + 1, h => ⟨v (i + d), Pth.of (fun q h1 h2 => h q h1 (by omega)), h (i + d) (by omega) (by omega)⟩
theorem Pth.mono {G G2 : Nat → Nat → Prop} (hG : ∀ x y, G x y → G2 x y) : ∀ {k x y : Nat}, Pth G k x y → Pth G2 k x y
  | 0, _, _, h => h
  | _ + 1, _, _, h => by obtain ⟨z, h1, h2⟩ := h; exact ⟨z, Pth.mono hG h1, hG _ _ h2⟩
def SR (G : Nat → Nat → Prop) (r : Nat) : Prop := (r = 0 ∧ ∀ k x, 0 < k → ¬ Pth G k x x) ∨ (0 < r ∧ (∃ x, Pth G r x x) ∧ ∀ k x, 0 < k → k < r → ¬ Pth G k x x)
theorem SR.one {G : Nat → Nat → Prop} {r r2 : Nat} (h : SR G r) (h2 : SR G r2) : r = r2 := by
  rcases h with ⟨e, h⟩ | ⟨e, ⟨x, h⟩, hm⟩ <;> rcases h2 with ⟨e2, h2⟩ | ⟨e2, ⟨x2, h2⟩, hm2⟩
  · omega
  · exact absurd h2 (h r2 x2 e2)
  · exact absurd h (h2 r x e)
  · rcases Nat.lt_trichotomy r r2 with c | c | c
    · exact absurd h (hm2 r x e c)
    · exact c
    · exact absurd h2 (hm r2 x2 e2 c)
theorem SR.iff {G G2 : Nat → Nat → Prop} (h : ∀ k x, 0 < k → (Pth G k x x ↔ Pth G2 k x x)) {r : Nat} (hr : SR G r) : SR G2 r := by
  rcases hr with ⟨e, h1⟩ | ⟨e, ⟨x, h1⟩, hm⟩
  · exact Or.inl ⟨e, fun k x hk q => h1 k x hk ((h k x hk).mpr q)⟩
  · exact Or.inr ⟨e, ⟨x, (h r x e).mp h1⟩, fun k x hk hl q => hm k x hk hl ((h k x hk).mpr q)⟩
theorem Pth.short {G : Nat → Nat → Prop} {N m s : Nat} (hG : ∀ x y, G x y → y < N) (h : Pth G (m + 1) s s) (hm : ∀ j, j < m → ¬ Pth G (j + 1) s s) : m < N := by
  obtain ⟨v, v0, vk, vs⟩ := Pth.seq h
  have hd : ∀ i j, i < j → j < m + 1 → v (i + 1) ≠ v (j + 1) := by
    intro i j hij hj e
    have p1 : Pth G (i + 1) (v 0) (v (0 + (i + 1))) := Pth.of (fun q _ hq => vs q (by omega))
    have p2 : Pth G (m - j) (v (j + 1)) (v (j + 1 + (m - j))) := Pth.of (fun q _ hq => vs q (by omega))
    rw [show 0 + (i + 1) = i + 1 by omega, v0, e] at p1
    rw [show j + 1 + (m - j) = m + 1 by omega, vk] at p2
    have p3 := Pth.add p1 p2
    rw [show i + 1 + (m - j) = (i + (m - j)) + 1 by omega] at p3
    exact hm (i + (m - j)) (by omega) p3
  exact fb_holes N (m + 1) (fun i => v (i + 1)) (fun i hi => hG _ _ (vs i hi)) hd
def BfA (G : Nat → Nat → Prop) (s k : Nat) (y : Nat) : Prop := Pth G (k + 1) s y ∧ ∀ j, j < k → ¬ Pth G (j + 1) s y
theorem Bf_next {G : Nat → Nat → Prop} {s k y : Nat} : BfA G s (k + 1) y ↔ (∃ z, BfA G s k z ∧ G z y) ∧ ∀ j, j < k + 1 → ¬ Pth G (j + 1) s y := by
  constructor
  · rintro ⟨⟨z, h1, h2⟩, hm⟩
    refine ⟨⟨z, ⟨h1, fun j hj q => hm (j + 1) (by omega) ⟨z, q, h2⟩⟩, h2⟩, hm⟩
  · rintro ⟨⟨z, ⟨h1, _⟩, h2⟩, hm⟩
    exact ⟨⟨z, h1, h2⟩, hm⟩
theorem Bf_end {G : Nat → Nat → Prop} {s k : Nat} (h0 : ∀ y, ¬ BfA G s k y) (hk : ∀ j, j < k → ¬ Pth G (j + 1) s s) : ∀ j, ¬ Pth G (j + 1) s s := by
  intro j q
  obtain ⟨m, hm, hmin⟩ := pk_least (fun j => Pth G (j + 1) s s) ⟨j, q⟩
  have hkm : k ≤ m := by
    rcases Nat.lt_or_ge m k with c | c
    · exact absurd hm (hk m c)
    · exact c
  obtain ⟨v, v0, vk, vs⟩ := Pth.seq hm
  have p1 : Pth G (k + 1) (v 0) (v (0 + (k + 1))) := Pth.of (fun q _ hq => vs q (by omega))
  rw [show 0 + (k + 1) = k + 1 by omega, v0] at p1
  refine h0 (v (k + 1)) ⟨p1, fun i hi q => ?_⟩
  have p2 : Pth G (m - k) (v (k + 1)) (v (k + 1 + (m - k))) := Pth.of (fun q _ hq => vs q (by omega))
  rw [show k + 1 + (m - k) = m + 1 by omega, vk] at p2
  have p3 := Pth.add q p2
  rw [show i + 1 + (m - k) = (i + (m - k)) + 1 by omega] at p3
  exact hmin (i + (m - k)) (by omega) p3

end
section
def EM (M : Nat → Nat → Int64) (x y : Nat) : Prop := bL (M 0 x) y = true ∨ bL (M 2 x) y = true
def GS (M : Nat → Nat → Int64) (S : Int64) (x y : Nat) : Prop := EM M x y ∧ bL S y = true
def M40 (M : Nat → Nat → Int64) : Prop := ∀ h a b : Nat, h < 8 → bL (M h a) b = true → b < 40
theorem EM.lt {M : Nat → Nat → Int64} (hM : M40 M) {x y : Nat} (h : EM M x y) : y < 40 := by
  rcases h with h | h
  · exact hM 0 x y (by omega) h
  · exact hM 2 x y (by omega) h
theorem bL_un {M : Nat → Nat → Int64} {r : Int64} (hr : ∀ z, bL r z = true → z < 40) (y : Nat) : bL (uS (M 0) r 40 ||| uS (M 2) r 40) y = true ↔ ∃ z, bL r z = true ∧ EM M z y := by
  rw [bL_or, Bool.or_eq_true, bL_uS, bL_uS]
  constructor
  · rintro (⟨z, _, h1, h2⟩ | ⟨z, _, h1, h2⟩)
    · exact ⟨z, h1, Or.inl h2⟩
    · exact ⟨z, h1, Or.inr h2⟩
  · rintro ⟨z, h1, h2 | h2⟩
    · exact Or.inl ⟨z, hr z h1, h1, h2⟩
    · exact Or.inr ⟨z, hr z h1, h1, h2⟩
def RT (G : Nat → Nat → Prop) (s : Nat) (v : Int32) : Prop := (v = 0 ∧ ∀ j, ¬ Pth G (j + 1) s s) ∨ ∃ m, m < 40 ∧ v = nI (m + 1) ∧ Pth G (m + 1) s s ∧ ∀ j, j < m → ¬ Pth G (j + 1) s s
theorem fy_ring_lp (n : Nat) (dl : Nat → Nat) {s : Nat} (hs : s < 40) (S : Int64) {M : Nat → Nat → Int64} (hM : M40 M) : ∀ fu k r seen, k ≤ 40 → 40 < k + fu →
    (∀ y, bL r y = true ↔ BfA (GS M S) s k y) → (∀ y, bL seen y = true ↔ ∃ j, j < k ∧ Pth (GS M S) (j + 1) s y) → (∀ j, j < k → ¬ Pth (GS M S) (j + 1) s s) →
    RT (GS M S) s (f_y_ringThrough_15 n dl s S M fu (k + 1) r seen (fun _ _ _ => 0))
  | 0, k, r, seen, h1, h2, _, _, _ => by omega
  | fu + 1, k, r, seen, h1, h2, hA, hB, hC => by
    have hG : ∀ x y, GS M S x y → y < 40 := fun x y h => h.1.lt hM
    have hr40 : ∀ z, bL r z = true → z < 40 := by
      intro z hz
      obtain ⟨⟨w, _, hw⟩, _⟩ := (hA z).mp hz
      exact hG _ _ hw
    rw [f_y_ringThrough_15]
    by_cases hk : 40 < k + 1
    · rw [if_pos hk]
      left
      refine ⟨rfl, fun j q => ?_⟩
      obtain ⟨m, hm, hmin⟩ := pk_least (fun j => Pth (GS M S) (j + 1) s s) ⟨j, q⟩
      exact hC m (by have h9 := Pth.short hG hm hmin; omega) hm
    · rw [if_neg hk]
      simp only [bnd]
      by_cases hz : lg_cmp r 0 = 0
      · rw [if_pos hz]
        left
        refine ⟨rfl, Bf_end (k := k) (fun y hy => ?_) hC⟩
        have e : r = 0 := (lg_cmp_eq _ _).mp hz
        have h9 := (hA y).mpr hy
        rw [e, bL_0] at h9
        cases h9
      · rw [if_neg hz, fy_holds n dl r (by omega)]
        by_cases hb : bL r s = true
        · rw [if_pos hb, if_neg (by decide)]
          right
          obtain ⟨h8, h9⟩ := (hA s).mp hb
          exact ⟨k, by omega, rfl, h8, h9⟩
        · rw [if_neg hb, if_pos rfl, fy_union0, fy_union2]
          have hC2 : ∀ j, j < k + 1 → ¬ Pth (GS M S) (j + 1) s s := by
            intro j hj q
            rcases Nat.lt_or_ge j k with c | c
            · exact hC j c q
            · have e : j = k := by omega
              subst e
              exact hb ((hA s).mpr ⟨q, hC⟩)
          have hB2 : ∀ y, bL (seen ||| r) y = true ↔ ∃ j, j < k + 1 ∧ Pth (GS M S) (j + 1) s y := by
            intro y
            rw [bL_or, Bool.or_eq_true, hA, hB]
            constructor
            · rintro (⟨j, hj, q⟩ | ⟨q, _⟩)
              · exact ⟨j, by omega, q⟩
              · exact ⟨k, by omega, q⟩
            · rintro ⟨j, hj, q⟩
              by_cases hex : ∃ i, i < k ∧ Pth (GS M S) (i + 1) s y
              · exact Or.inl hex
              · right
                have e : j = k := by
                  rcases Nat.lt_or_ge j k with c | c
                  · exact absurd ⟨j, c, q⟩ hex
                  · omega
                subst e
                exact ⟨q, fun i hi q2 => hex ⟨i, hi, q2⟩⟩
          have hA2 : ∀ y, bL (((uS (M 0) r 40 ||| uS (M 2) r 40) &&& S) &&& ((seen ||| r) ^^^ (-1))) y = true ↔ BfA (GS M S) s (k + 1) y := by
            intro y
            rw [Bf_next]
            by_cases hy : y < 64
            · rw [bL_and, bL_and, bL_not _ hy, Bool.and_eq_true, Bool.and_eq_true, bL_un hr40]
              constructor
              · rintro ⟨⟨⟨z, h8, h9⟩, hS⟩, hn⟩
                refine ⟨⟨z, (hA z).mp h8, h9, hS⟩, fun j hj q => ?_⟩
                have h7 := (hB2 y).mpr ⟨j, hj, q⟩
                rw [h7] at hn; cases hn
              · rintro ⟨⟨z, h8, h9, hS⟩, hn⟩
                refine ⟨⟨⟨z, (hA z).mpr h8, h9⟩, hS⟩, ?_⟩
                have h7 : ¬ bL (seen ||| r) y = true := fun q => by obtain ⟨j, hj, q2⟩ := (hB2 y).mp q; exact hn j hj q2
                revert h7; cases bL (seen ||| r) y <;> simp
            · constructor
              · intro q; rw [bL_big (by omega)] at q; cases q
              · rintro ⟨⟨z, _, h9⟩, _⟩
                have := hG _ _ h9
                omega
          exact fy_ring_lp n dl hs S hM fu (k + 1) _ _ (by omega) (by omega) hA2 hB2 hC2
theorem fy_ringThrough (n : Nat) (dl : Nat → Nat) {s : Nat} (hs : s < 40) (S : Int64) {M : Nat → Nat → Int64} (hM : M40 M) : RT (GS M S) s (f_y_ringThrough n dl s S M) := by
  unfold f_y_ringThrough f_y_after
  simp only [bnd]
  rw [nI_clamp (by omega)]
  refine fy_ring_lp n dl hs S hM 42 0 _ _ (by omega) (by omega) (fun y => ?_) (fun y => ?_) (fun j hj => absurd hj (by omega))
  · rw [bL_and, bL_or, Bool.and_eq_true, Bool.or_eq_true]
    constructor
    · rintro ⟨h1, h2⟩
      exact ⟨⟨s, rfl, h1, h2⟩, fun j hj => absurd hj (by omega)⟩
    · rintro ⟨⟨z, hz, h1, h2⟩, _⟩
      have e : s = z := hz
      subst e
      exact ⟨h1, h2⟩
  · constructor
    · intro q; rw [bL_0] at q; cases q
    · rintro ⟨j, hj, _⟩; omega

end
section
theorem fy_after (n : Nat) (dl : Nat → Nat) {s : Nat} (hs : s < 40) (M : Nat → Nat → Int64) : f_y_after n dl s M = M 0 s ||| M 2 s := by
  unfold f_y_after
  rw [nI_clamp (by omega)]
  rfl
def kT (M : Nat → Nat → Int64) (y : Int64) : Nat → Int64
  | 0 => 0
  | k + 1 => if bL y k = true ∧ ¬ (M 0 k ||| M 2 k) &&& y = 0 then kT M y k ||| oL k else kT M y k
def gT (M : Nat → Nat → Int64) (y : Int64) : Int64 := kT M y 40
theorem out_iff (M : Nat → Nat → Int64) (y : Int64) (t : Nat) : ¬ (M 0 t ||| M 2 t) &&& y = 0 ↔ ∃ z, EM M t z ∧ bL y z = true := by
  constructor
  · intro h
    refine Classical.byContradiction (fun hn => h (bL_zero_iff.mpr (fun z _ => ?_)))
    rw [bL_and, bL_or]
    refine Classical.byContradiction (fun h2 => hn ⟨z, ?_⟩)
    unfold EM
    revert h2
    cases bL (M 0 t) z <;> cases bL (M 2 t) z <;> cases bL y z <;> simp
  · rintro ⟨z, h1, h2⟩ e
    have h3 : bL ((M 0 t ||| M 2 t) &&& y) z = true := by
      rw [bL_and, bL_or, h2]
      rcases h1 with h1 | h1 <;> rw [h1] <;> simp
    rw [e, bL_0] at h3
    cases h3
theorem bL_kT (M : Nat → Nat → Int64) (y : Int64) (t : Nat) : ∀ k, k ≤ 64 → (bL (kT M y k) t = true ↔ t < k ∧ bL y t = true ∧ ∃ z, EM M t z ∧ bL y z = true)
  | 0, _ => by
    constructor
    · intro h; rw [show kT M y 0 = 0 from rfl, bL_0] at h; cases h
    · rintro ⟨h, _⟩; omega
  | k + 1, hk => by
    have ih := bL_kT M y t k (by omega)
    by_cases hc : bL y k = true ∧ ¬ (M 0 k ||| M 2 k) &&& y = 0
    · rw [show kT M y (k + 1) = kT M y k ||| oL k from if_pos hc, bL_or, Bool.or_eq_true, ih, bL_only (by omega)]
      constructor
      · rintro (⟨h1, h2⟩ | h)
        · exact ⟨by omega, h2⟩
        · have e : t = k := of_decide_eq_true h
          subst e
          exact ⟨by omega, hc.1, (out_iff M y t).mp hc.2⟩
      · rintro ⟨h1, h2⟩
        by_cases e : t = k
        · right; exact decide_eq_true e
        · left; exact ⟨by omega, h2⟩
    · rw [show kT M y (k + 1) = kT M y k from if_neg hc, ih]
      constructor
      · rintro ⟨h1, h2⟩; exact ⟨by omega, h2⟩
      · rintro ⟨h1, h2, h3⟩
        by_cases e : t = k
        · subst e; exact absurd ⟨h2, (out_iff M y t).mpr h3⟩ hc
        · exact ⟨by omega, h2, h3⟩
theorem bL_gT (M : Nat → Nat → Int64) (y : Int64) (t : Nat) : bL (gT M y) t = true ↔ t < 40 ∧ bL y t = true ∧ ∃ z, EM M t z ∧ bL y z = true := bL_kT M y t 40 (by omega)
theorem fy_tangled_in (n : Nat) (dl : Nat → Nat) (M : Nat → Nat → Int64) (y : Int64) (K : Nat → Int64 → Int64) : ∀ fu i, i ≤ 40 → 40 < i + fu → f_y_tangled_18 n dl M y fu i (kT M y i) K = K 40 (kT M y 40)
  | 0, i, h1, h2 => by omega
  | fu + 1, i, h1, h2 => by
    rw [f_y_tangled_18]
    by_cases hi : 40 ≤ i
    · have e : i = 40 := by omega
      subst e
      rw [if_pos hi]
    · rw [if_neg hi]
      have ih := fy_tangled_in n dl M y K fu (i + 1) (by omega) (by omega)
      simp only [bnd]
      rw [fy_holds n dl y (by omega), fy_after n dl (by omega), fy_only]
      by_cases hb : bL y i = true
      · rw [if_pos hb, if_neg (by decide)]
        by_cases hc : (M 0 i ||| M 2 i) &&& y = 0
        · rw [if_pos ((lg_cmp_eq _ _).mpr hc)]
          rw [show kT M y (i + 1) = kT M y i from if_neg (fun q => q.2 hc)] at ih
          exact ih
        · rw [if_neg (fun q => hc ((lg_cmp_eq _ _).mp q))]
          rw [show kT M y (i + 1) = kT M y i ||| oL i from if_pos ⟨hb, hc⟩] at ih
          exact ih
      · rw [if_neg hb, if_pos rfl]
        rw [show kT M y (i + 1) = kT M y i from if_neg (fun q => hb q.1)] at ih
        exact ih
theorem fy_tangled_lp (n : Nat) (dl : Nat → Nat) (p0 : Int64) (M : Nat → Nat → Int64) (K : Int64 → Int64) : ∀ fu i, i ≤ 40 → 40 < i + fu → f_y_tangled_5 n dl M fu i (itL (gT M) i p0) (fun _ y => K y) = K (itL (gT M) 40 p0)
  | 0, i, h1, h2 => by omega
  | fu + 1, i, h1, h2 => by
    rw [f_y_tangled_5]
    by_cases hi : 40 ≤ i
    · have e : i = 40 := by omega
      subst e
      rw [if_pos hi]
    · rw [if_neg hi]
      have e0 := fy_tangled_in n dl M (itL (gT M) i p0) (fun _ y11 => bnd (lg_cmp y11 (itL (gT M) i p0)) (fun x13 => if x13 = (0 : Int32) then K (itL (gT M) i p0) else f_y_tangled_5 n dl M fu (i + 1) y11 (fun _ y => K y))) 41 0 (by omega) (by omega)
      refine Eq.trans e0 ?_
      simp only [bnd]
      by_cases hc : lg_cmp (kT M (itL (gT M) i p0) 40) (itL (gT M) i p0) = 0
      · rw [if_pos hc]
        have e : gT M (itL (gT M) i p0) = itL (gT M) i p0 := (lg_cmp_eq _ _).mp hc
        rw [itL_done (by omega) e]
      · rw [if_neg hc]
        exact fy_tangled_lp n dl p0 M K fu (i + 1) (by omega) (by omega)
theorem fy_tangled (n : Nat) (dl : Nat → Nat) (p0 : Int64) (M : Nat → Nat → Int64) : f_y_tangled n dl p0 M = itL (gT M) 40 p0 := fy_tangled_lp n dl p0 M (fun y => y) 41 0 (by omega) (by omega)
theorem itT_sub {M : Nat → Nat → Int64} {S : Int64} {x : Nat} : ∀ k, bL (itL (gT M) k S) x = true → bL S x = true
  | 0, h => h
  | k + 1, h => itT_sub k ((bL_gT M _ x).mp h).2.1
theorem itT_ring {M : Nat → Nat → Int64} (hM : M40 M) {S : Int64} {m x : Nat} (h : Pth (GS M S) (m + 1) x x) : ∀ k, bL (itL (gT M) k S) x = true := by
  obtain ⟨v, v0, vk, vs⟩ := Pth.seq h
  have hin : ∀ k i, i ≤ m + 1 → bL (itL (gT M) k S) (v i) = true := by
    intro k
    induction k with
    | zero =>
      intro i hi
      rcases Nat.eq_zero_or_pos i with c | c
      · subst c
        have h9 := (vs m (by omega)).2
        rw [vk] at h9
        rw [v0]
        exact h9
      · have h9 := (vs (i - 1) (by omega)).2
        rw [show i - 1 + 1 = i by omega] at h9
        exact h9
    | succ k ih =>
      intro i hi
      refine (bL_gT M _ (v i)).mpr ⟨?_, ih i hi, ?_⟩
      · rcases Nat.eq_zero_or_pos i with c | c
        · subst c
          have h9 := (vs m (by omega)).1.lt hM
          rw [vk, ← v0] at h9
          exact h9
        · have h9 := (vs (i - 1) (by omega)).1.lt hM
          rw [show i - 1 + 1 = i by omega] at h9
          exact h9
      · rcases Nat.lt_or_ge i (m + 1) with c | c
        · exact ⟨v (i + 1), (vs i c).1, ih (i + 1) (by omega)⟩
        · have e : i = m + 1 := by omega
          subst e
          rw [vk, ← v0]
          exact ⟨v 1, (vs 0 (by omega)).1, ih 1 (by omega)⟩
  intro k
  have h9 := hin k 0 (by omega)
  rw [v0] at h9
  exact h9
theorem itT_iff {M : Nat → Nat → Int64} (hM : M40 M) {S : Int64} (k m x : Nat) : Pth (GS M (itL (gT M) k S)) (m + 1) x x ↔ Pth (GS M S) (m + 1) x x := by
  constructor
  · exact Pth.mono (fun a b h => ⟨h.1, itT_sub k h.2⟩)
  · intro h
    obtain ⟨v, v0, vk, vs⟩ := Pth.seq h
    have hr : ∀ i, i ≤ m → Pth (GS M S) (m + 1) (v (i + 1)) (v (i + 1)) := by
      intro i hi
      have p1 : Pth (GS M S) (m - i) (v (i + 1)) (v (i + 1 + (m - i))) := Pth.of (fun q _ hq => vs q (by omega))
      have p2 : Pth (GS M S) (i + 1) (v 0) (v (0 + (i + 1))) := Pth.of (fun q _ hq => vs q (by omega))
      rw [show i + 1 + (m - i) = m + 1 by omega, vk, ← v0] at p1
      rw [show 0 + (i + 1) = i + 1 by omega] at p2
      have p3 := Pth.add p1 p2
      rw [show m - i + (i + 1) = m + 1 by omega] at p3
      exact p3
    have p : Pth (GS M (itL (gT M) k S)) (m + 1) (v 0) (v (0 + (m + 1))) := Pth.of (fun q _ hq => ⟨(vs q (by omega)).1, itT_ring hM (hr q (by omega)) k⟩)
    rw [show 0 + (m + 1) = m + 1 by omega, v0, vk] at p
    exact p

end
section
theorem GS.lt {M : Nat → Nat → Int64} (hM : M40 M) {S : Int64} {m x : Nat} (h : Pth (GS M S) (m + 1) x x) : x < 40 ∧ bL S x = true := by
  obtain ⟨z, _, h2⟩ := h
  exact ⟨h2.1.lt hM, h2.2⟩
def SRi (G : Nat → Nat → Prop) (i b : Nat) : Prop := (b = 0 ∧ ∀ x j, x < i → ¬ Pth G (j + 1) x x) ∨ (0 < b ∧ (∃ x, Pth G b x x) ∧ ∀ x j, x < i → j + 1 < b → ¬ Pth G (j + 1) x x)
theorem fy_short_lp (n : Nat) (dl : Nat → Nat) {M : Nat → Nat → Int64} (hM : M40 M) (T : Int64) : ∀ fu i b, i ≤ 40 → 40 < i + fu → b ≤ 40 → SRi (GS M T) i b → ∃ r, f_y_shortestRing_12 n dl M T fu i (nI b) (fun _ y => y) = nI r ∧ r ≤ 40 ∧ SRi (GS M T) 40 r
  | 0, i, b, h1, h2, _, _ => by omega
  | fu + 1, i, b, h1, h2, hb, hI => by
    rw [f_y_shortestRing_12]
    by_cases hi : 40 ≤ i
    · have e : i = 40 := by omega
      subst e
      rw [if_pos hi]
      exact ⟨b, rfl, hb, hI⟩
    · rw [if_neg hi]
      have ih := fun b2 => fy_short_lp n dl hM T fu (i + 1) b2 (by omega) (by omega)
      have keep : (∀ j, ¬ Pth (GS M T) (j + 1) i i) ∨ (0 < b ∧ ∀ j, j + 1 < b → ¬ Pth (GS M T) (j + 1) i i) → SRi (GS M T) (i + 1) b := by
        intro hk
        rcases hI with ⟨e, h⟩ | ⟨e, hx, h⟩
        · left
          refine ⟨e, fun x j hx q => ?_⟩
          by_cases c : x = i
          · subst c
            rcases hk with hk | ⟨hk, _⟩
            · exact hk j q
            · omega
          · exact h x j (by omega) q
        · right
          refine ⟨e, hx, fun x j hx hj q => ?_⟩
          by_cases c : x = i
          · subst c
            rcases hk with hk | ⟨_, hk⟩
            · exact hk j q
            · exact hk j hj q
          · exact h x j (by omega) hj q
      simp only [bnd]
      rw [fy_holds n dl T (by omega)]
      by_cases hb2 : bL T i = true
      · rw [if_pos hb2, if_neg (by decide)]
        rcases fy_ringThrough n dl (s := i) (by omega) T hM with ⟨ev, hv⟩ | ⟨m, hm, ev, hv, hmin⟩
        · rw [ev, if_pos (by decide)]
          exact ih b hb (keep (Or.inl hv))
        · rw [ev, if_neg (nI_nle (by omega) (by omega))]
          have new : (b = 0 ∨ m + 1 ≤ b) → SRi (GS M T) (i + 1) (m + 1) := by
            intro hn
            right
            refine ⟨by omega, ⟨i, hv⟩, fun x j hx hj q => ?_⟩
            by_cases c : x = i
            · subst c; exact hmin j (by omega) q
            · rcases hI with ⟨e, h⟩ | ⟨e, hx2, h⟩
              · exact h x j (by omega) q
              · exact h x j (by omega) (by omega) q
          by_cases h0 : nI b = 0
          · have e0 : b = 0 := (nI_eq (a := b) (b := 0) (by omega) (by omega)).mp h0
            rw [if_pos h0]
            exact ih (m + 1) (by omega) (new (Or.inl e0))
          · rw [if_neg h0]
            have hb0 : 0 < b := by
              rcases Nat.eq_zero_or_pos b with c | c
              · subst c; exact absurd rfl h0
              · exact c
            by_cases hle : nI b ≤ nI (m + 1)
            · have hle2 : b ≤ m + 1 := (nI_leI (by omega) (by omega)).mp hle
              rw [if_pos hle]
              exact ih b hb (keep (Or.inr ⟨hb0, fun j hj q => hmin j (by omega) q⟩))
            · rw [if_neg hle]
              have hle2 : ¬ b ≤ m + 1 := fun q => hle ((nI_leI (by omega) (by omega)).mpr q)
              exact ih (m + 1) (by omega) (new (Or.inr (by omega)))
      · rw [if_neg hb2, if_pos rfl]
        exact ih b hb (keep (Or.inl (fun j q => hb2 (GS.lt hM q).2)))
theorem fy_shortestRing (n : Nat) (dl : Nat → Nat) {M : Nat → Nat → Int64} (hM : M40 M) (S : Int64) : ∃ r, f_y_shortestRing n dl S M = nI r ∧ r ≤ 40 ∧ SR (GS M S) r := by
  unfold f_y_shortestRing
  simp only [bnd]
  rw [fy_tangled]
  obtain ⟨r, e, hr, h⟩ := fy_short_lp n dl hM (itL (gT M) 40 S) 41 0 0 (by omega) (by omega) (by omega) (Or.inl ⟨rfl, fun x j hx => absurd hx (by omega)⟩)
  refine ⟨r, e, hr, ?_⟩
  have hit : ∀ k x, 0 < k → (Pth (GS M (itL (gT M) 40 S)) k x x ↔ Pth (GS M S) k x x) := by
    intro k x hk
    obtain ⟨m, rfl⟩ : ∃ m, k = m + 1 := ⟨k - 1, by omega⟩
    exact itT_iff hM 40 m x
  refine SR.iff hit ?_
  rcases h with ⟨e0, h⟩ | ⟨e0, hx, h⟩
  · left
    refine ⟨e0, fun k x hk q => ?_⟩
    obtain ⟨m, rfl⟩ : ∃ m, k = m + 1 := ⟨k - 1, by omega⟩
    exact h x m (GS.lt hM q).1 q
  · right
    refine ⟨e0, hx, fun k x hk hl q => ?_⟩
    obtain ⟨m, rfl⟩ : ∃ m, k = m + 1 := ⟨k - 1, by omega⟩
    exact h x m (GS.lt hM q).1 hl q
theorem gN_clo {M : Nat → Nat → Int64} (hM : M40 M) {S : Int64} (hS : ∀ y, bL S y = true → y < 40) (x : Nat) : bL (itL (gN M) 40 S) x = true ↔ Clo (fun a b => bL (M 0 a) b = true) (fun y => bL S y = true) x := by
  have hb : ∀ y t, bL (gN M y) t = true ↔ bL y t = true ∨ ∃ s, s < 40 ∧ bL y s = true ∧ bL (M 0 s) t = true := by
    intro y t
    unfold gN
    rw [bL_or, Bool.or_eq_true, bL_uS]
  have hfix := itL_stop (gN M) S (fun y s h => (hb y s).mpr (Or.inl h)) (fun y s h h2 => by
    rcases (hb y s).mp h with h3 | ⟨z, _, _, h3⟩
    · rw [h2] at h3; cases h3
    · exact hM 0 z s (by omega) h3)
  have h40 : ∀ k y, bL (itL (gN M) k S) y = true → y < 40 := by
    intro k
    induction k with
    | zero => exact hS
    | succ k ih =>
      intro y h
      rcases (hb _ y).mp h with h3 | ⟨z, _, _, h3⟩
      · exact ih y h3
      · exact hM 0 z y (by omega) h3
  have hsub : ∀ k y, bL S y = true → bL (itL (gN M) k S) y = true := by
    intro k
    induction k with
    | zero => exact fun _ h => h
    | succ k ih => exact fun y h => (hb _ y).mpr (Or.inl (ih y h))
  constructor
  · have hin : ∀ k y, bL (itL (gN M) k S) y = true → Clo (fun a b => bL (M 0 a) b = true) (fun y => bL S y = true) y := by
      intro k
      induction k with
      | zero => exact fun y h => Clo.base h
      | succ k ih =>
        intro y h
        rcases (hb _ y).mp h with h3 | ⟨z, _, h4, h3⟩
        · exact ih y h3
        · exact (ih z h4).step h3
    exact hin 40 x
  · intro h
    refine Clo.least (T := fun y => bL (itL (gN M) 40 S) y = true) (hsub 40) (fun y z h1 h2 => ?_) h
    have h3 : bL (gN M (itL (gN M) 40 S)) z = true := (hb _ z).mpr (Or.inr ⟨y, h40 40 y h1, h1, h2⟩)
    rw [hfix] at h3
    exact h3
theorem gR_clo {M : Nat → Nat → Int64} (hM : M40 M) {S w : Int64} (hS : ∀ y, bL S y = true → y < 40) (x : Nat) : bL (itL (gR M w) 40 S) x = true ↔ Clo (fun a b => bL (M 4 a) b = true ∧ bL w b = true) (fun y => bL S y = true) x := by
  have hb : ∀ y t, bL (gR M w y) t = true ↔ bL y t = true ∨ (∃ s, s < 40 ∧ bL y s = true ∧ bL (M 4 s) t = true) ∧ bL w t = true := by
    intro y t
    unfold gR
    rw [bL_or, bL_and, Bool.or_eq_true, Bool.and_eq_true, bL_uS]
  have hfix := itL_stop (gR M w) S (fun y s h => (hb y s).mpr (Or.inl h)) (fun y s h h2 => by
    rcases (hb y s).mp h with h3 | ⟨⟨z, _, _, h3⟩, _⟩
    · rw [h2] at h3; cases h3
    · exact hM 4 z s (by omega) h3)
  have h40 : ∀ k y, bL (itL (gR M w) k S) y = true → y < 40 := by
    intro k
    induction k with
    | zero => exact hS
    | succ k ih =>
      intro y h
      rcases (hb _ y).mp h with h3 | ⟨⟨z, _, _, h3⟩, _⟩
      · exact ih y h3
      · exact hM 4 z y (by omega) h3
  have hsub : ∀ k y, bL S y = true → bL (itL (gR M w) k S) y = true := by
    intro k
    induction k with
    | zero => exact fun _ h => h
    | succ k ih => exact fun y h => (hb _ y).mpr (Or.inl (ih y h))
  constructor
  · have hin : ∀ k y, bL (itL (gR M w) k S) y = true → Clo (fun a b => bL (M 4 a) b = true ∧ bL w b = true) (fun y => bL S y = true) y := by
      intro k
      induction k with
      | zero => exact fun y h => Clo.base h
      | succ k ih =>
        intro y h
        rcases (hb _ y).mp h with h3 | ⟨⟨z, _, h4, h3⟩, h5⟩
        · exact ih y h3
        · exact (ih z h4).step ⟨h3, h5⟩
    exact hin 40 x
  · intro h
    refine Clo.least (T := fun y => bL (itL (gR M w) 40 S) y = true) (hsub 40) (fun y z h1 h2 => ?_) h
    have h3 : bL (gR M w (itL (gR M w) 40 S)) z = true := (hb _ z).mpr (Or.inr ⟨⟨y, h40 40 y h1, h1, h2.1⟩, h2.2⟩)
    rw [hfix] at h3
    exact h3

end
section
theorem pw_and (q r m c : Nat) (hr : r < 256) (hc : c < 256) : (256 * q + r) &&& (256 * m + c) = 256 * (q &&& m) + (r &&& c) := by
  have h1 : ((256 * q + r) &&& (256 * m + c)) / 2 ^ 8 = q &&& m := by
    rw [Nat.and_div_two_pow]
    congr 1 <;> omega
  have h2 : ((256 * q + r) &&& (256 * m + c)) % 2 ^ 8 = r &&& c := by
    rw [Nat.and_mod_two_pow]
    congr 1 <;> omega
  have h3 := Nat.div_add_mod ((256 * q + r) &&& (256 * m + c)) (2 ^ 8)
  rw [h1, h2] at h3
  omega
def mk8 (c : Nat) : Nat → Nat
  | 0 => 0
  | k + 1 => 256 * mk8 c k + c
def s1 (k x : Nat) : Nat := x - (x / 2 &&& mk8 85 k)
def s2 (k x : Nat) : Nat := (x &&& mk8 51 k) + (x / 4 &&& mk8 51 k)
def s3 (k x : Nat) : Nat := (x + x / 16) &&& mk8 15 k
theorem s1_t : ∀ e, e < 2 → ∀ r, r < 256 → (128 * e + r / 2) &&& 85 = r / 2 &&& 85 ∧ (r / 2 &&& 85) ≤ r := by decide +kernel
theorem s2_t : ∀ e, e < 4 → ∀ r, r < 256 → (64 * e + r / 4) &&& 51 = r / 4 &&& 51 := by decide +kernel
theorem s3_t : ∀ e, e < 5 → ∀ r, r < 69 → (r + (16 * e + r / 16)) &&& 15 = (r + r / 16) &&& 15 := by decide +kernel
theorem s1_s (k q r : Nat) (hr : r < 256) : s1 (k + 1) (256 * q + r) = 256 * s1 k q + (r - (r / 2 &&& 85)) := by
  unfold s1
  rw [show mk8 85 (k + 1) = 256 * mk8 85 k + 85 from rfl, show (256 * q + r) / 2 = 256 * (q / 2) + (128 * (q % 2) + r / 2) by omega]
  rw [pw_and _ _ _ _ (by omega) (by omega), (s1_t (q % 2) (by omega) r hr).1]
  have h1 := (s1_t 0 (by omega) r hr).2
  have h2 : (q / 2 &&& mk8 85 k) ≤ q / 2 := Nat.and_le_left
  omega
theorem s2_s (k q r : Nat) (hr : r < 256) : s2 (k + 1) (256 * q + r) = 256 * s2 k q + ((r &&& 51) + (r / 4 &&& 51)) := by
  unfold s2
  rw [show mk8 51 (k + 1) = 256 * mk8 51 k + 51 from rfl, show (256 * q + r) / 4 = 256 * (q / 4) + (64 * (q % 4) + r / 4) by omega]
  rw [pw_and _ _ _ _ hr (by omega), pw_and _ _ _ _ (by omega) (by omega), s2_t (q % 4) (by omega) r hr]
  omega
theorem s3_s (k q r : Nat) (hr : r < 69) (hq : q % 16 < 5) : s3 (k + 1) (256 * q + r) = 256 * s3 k q + ((r + r / 16) &&& 15) := by
  unfold s3
  rw [show mk8 15 (k + 1) = 256 * mk8 15 k + 15 from rfl, show 256 * q + r + (256 * q + r) / 16 = 256 * (q + q / 16) + (r + (16 * (q % 16) + r / 16)) by omega]
  rw [pw_and _ _ _ _ (by omega) (by omega), s3_t (q % 16) hq r hr]
def p8 (r : Nat) : Nat := cN (fun i => r.testBit i) 8
def t2 (r : Nat) : Nat := ((r - (r / 2 &&& 85)) &&& 51) + ((r - (r / 2 &&& 85)) / 4 &&& 51)
theorem t2_t : ∀ r, r < 256 → t2 r < 69 ∧ t2 r % 16 < 5 ∧ ((t2 r + t2 r / 16) &&& 15) = p8 r ∧ r - (r / 2 &&& 85) < 256 ∧ p8 r ≤ 8 := by decide +kernel
def pcs : Nat → Nat → Nat
  | 0, _ => 0
  | k + 1, x => 256 * pcs k (x / 256) + p8 (x % 256)
theorem s12_16 : ∀ k x, x < 256 ^ k → s2 k (s1 k x) % 16 < 5 ∧ s3 k (s2 k (s1 k x)) = pcs k x
  | 0, x, h => by
    have e : x = 0 := by simpa using h
    subst e
    exact ⟨by decide, by decide⟩
  | k + 1, x, h => by
    have hx : x = 256 * (x / 256) + x % 256 := by omega
    have hq : x / 256 < 256 ^ k := by
      have h9 : x < 256 * 256 ^ k := by rw [Nat.pow_succ, Nat.mul_comm] at h; exact h
      omega
    obtain ⟨h1, h2⟩ := s12_16 k (x / 256) hq
    obtain ⟨a1, a2, a3, a4, -⟩ := t2_t (x % 256) (by omega)
    have e2 : s2 (k + 1) (s1 (k + 1) x) = 256 * s2 k (s1 k (x / 256)) + t2 (x % 256) := by
      have e1 : s1 (k + 1) x = 256 * s1 k (x / 256) + (x % 256 - (x % 256 / 2 &&& 85)) := by
        have e0 := s1_s k (x / 256) (x % 256) (by omega)
        rw [← hx] at e0
        exact e0
      rw [e1, s2_s k _ _ a4]
      rfl
    refine ⟨by rw [e2]; omega, ?_⟩
    rw [e2, s3_s k _ _ a1 h1, h2, a3]
    rfl
theorem pcs_sum (x : Nat) : ∃ c0 c1 c2 c3 c4 c5 c6 c7 : Nat, pcs 8 x = c0 + 256 * (c1 + 256 * (c2 + 256 * (c3 + 256 * (c4 + 256 * (c5 + 256 * (c6 + 256 * c7)))))) ∧ (c0 ≤ 8 ∧ c1 ≤ 8 ∧ c2 ≤ 8 ∧ c3 ≤ 8 ∧ c4 ≤ 8 ∧ c5 ≤ 8 ∧ c6 ≤ 8 ∧ c7 ≤ 8) ∧ c0 + c1 + c2 + c3 + c4 + c5 + c6 + c7 = cN (fun i => x.testBit i) 64 := by
  have hp : ∀ r, r < 256 → p8 r ≤ 8 := fun r hr => (t2_t r hr).2.2.2.2
  have hcN : ∀ (p : Nat → Bool) (a b : Nat), cN p (a + b) = cN p a + cN (fun i => p (a + i)) b := by
    intro p a b
    induction b with
    | zero => rfl
    | succ b ih =>
      show cN p (a + b) + (if p (a + b) = true then 1 else 0) = cN p a + (cN (fun i => p (a + i)) b + (if p (a + b) = true then 1 else 0))
      rw [ih]; omega
  have hc : ∀ (p q : Nat → Bool) (m : Nat), (∀ i, i < m → p i = q i) → cN p m = cN q m := by
    intro p q m
    induction m with
    | zero => intro _; rfl
    | succ m ih => intro h; show cN p m + _ = cN q m + _; rw [ih (fun i hi => h i (by omega)), h m (by omega)]
  have hb : ∀ k, p8 (x / 2 ^ (8 * k) % 256) = cN (fun i => x.testBit (8 * k + i)) 8 := by
    intro k
    refine hc _ _ 8 (fun i hi => ?_)
    show (x / 2 ^ (8 * k) % 256).testBit i = x.testBit (8 * k + i)
    rw [show (256 : Nat) = 2 ^ 8 from rfl, Nat.testBit_mod_two_pow, Nat.testBit_div_two_pow, decide_eq_true hi, Bool.true_and, Nat.add_comm i]
  refine ⟨p8 (x / 2 ^ (8 * 0) % 256), p8 (x / 2 ^ (8 * 1) % 256), p8 (x / 2 ^ (8 * 2) % 256), p8 (x / 2 ^ (8 * 3) % 256), p8 (x / 2 ^ (8 * 4) % 256), p8 (x / 2 ^ (8 * 5) % 256), p8 (x / 2 ^ (8 * 6) % 256), p8 (x / 2 ^ (8 * 7) % 256), ?_, ⟨hp _ (by omega), hp _ (by omega), hp _ (by omega), hp _ (by omega), hp _ (by omega), hp _ (by omega), hp _ (by omega), hp _ (by omega)⟩, ?_⟩
  · have e : ∀ k, x / 2 ^ (8 * k) / 256 = x / 2 ^ (8 * (k + 1)) := by
      intro k
      rw [Nat.div_div_eq_div_mul, show 8 * (k + 1) = 8 * k + 8 by omega, Nat.pow_add]
    have e0 : x = x / 2 ^ (8 * 0) := by rw [show 8 * 0 = 0 from rfl, Nat.pow_zero, Nat.div_one]
    have hs : ∀ m k, pcs (m + 1) (x / 2 ^ (8 * k)) = 256 * pcs m (x / 2 ^ (8 * (k + 1))) + p8 (x / 2 ^ (8 * k) % 256) := by
      intro m k
      show 256 * pcs m (x / 2 ^ (8 * k) / 256) + _ = _
      rw [e]
    have h8 : pcs 8 x = pcs (7 + 1) (x / 2 ^ (8 * 0)) := by rw [← e0]
    rw [h8, hs 7 0, hs 6 (0 + 1), hs 5 (0 + 1 + 1), hs 4 (0 + 1 + 1 + 1), hs 3 (0 + 1 + 1 + 1 + 1), hs 2 (0 + 1 + 1 + 1 + 1 + 1), hs 1 (0 + 1 + 1 + 1 + 1 + 1 + 1), hs 0 (0 + 1 + 1 + 1 + 1 + 1 + 1 + 1)]
    rw [show pcs 0 (x / 2 ^ (8 * (0 + 1 + 1 + 1 + 1 + 1 + 1 + 1 + 1))) = 0 from rfl]
    simp only [Nat.zero_add, Nat.reduceAdd]
    omega
  · rw [hb 0, hb 1, hb 2, hb 3, hb 4, hb 5, hb 6, hb 7]
    have h64 : cN (fun i => x.testBit i) 64 = cN (fun i => x.testBit i) (8 + (8 + (8 + (8 + (8 + (8 + (8 + 8))))))) := rfl
    rw [h64]
    rw [hcN _ 8, hcN _ 8, hcN _ 8, hcN _ 8, hcN _ 8, hcN _ 8, hcN _ 8]
    have ex : ∀ k a, a = 8 * k → cN (fun i => x.testBit (8 * k + i)) 8 = cN (fun i => x.testBit (a + i)) 8 := by
      intro k a h; rw [h]
    have e0 : cN (fun i => x.testBit (8 * 0 + i)) 8 = cN (fun i => x.testBit i) 8 := hc _ _ 8 (fun i _ => by simp)
    have e1 : cN (fun i => x.testBit (8 * 1 + i)) 8 = cN (fun i => x.testBit (8 + i)) 8 := ex 1 8 rfl
    have e2 : cN (fun i => x.testBit (8 * 2 + i)) 8 = cN (fun i => x.testBit (8 + (8 + i))) 8 := hc _ _ 8 (fun i _ => by congr 1; omega)
    have e3 : cN (fun i => x.testBit (8 * 3 + i)) 8 = cN (fun i => x.testBit (8 + (8 + (8 + i)))) 8 := hc _ _ 8 (fun i _ => by congr 1; omega)
    have e4 : cN (fun i => x.testBit (8 * 4 + i)) 8 = cN (fun i => x.testBit (8 + (8 + (8 + (8 + i))))) 8 := hc _ _ 8 (fun i _ => by congr 1; omega)
    have e5 : cN (fun i => x.testBit (8 * 5 + i)) 8 = cN (fun i => x.testBit (8 + (8 + (8 + (8 + (8 + i)))))) 8 := hc _ _ 8 (fun i _ => by congr 1; omega)
    have e6 : cN (fun i => x.testBit (8 * 6 + i)) 8 = cN (fun i => x.testBit (8 + (8 + (8 + (8 + (8 + (8 + i))))))) 8 := hc _ _ 8 (fun i _ => by congr 1; omega)
    have e7 : cN (fun i => x.testBit (8 * 7 + i)) 8 = cN (fun i => x.testBit (8 + (8 + (8 + (8 + (8 + (8 + (8 + i)))))))) 8 := hc _ _ 8 (fun i _ => by congr 1; omega)
    rw [e0, e1, e2, e3, e4, e5, e6, e7]
    omega
def uN (x : Int64) : Nat := x.toBitVec.toNat
theorem uN_lt (x : Int64) : uN x < 18446744073709551616 := x.toBitVec.isLt
theorem uN_and (x y : Int64) : uN (x &&& y) = uN x &&& uN y := by unfold uN; rw [Int64.toBitVec_and, BitVec.toNat_and]
theorem uN_add (x y : Int64) : uN (x + y) = (uN x + uN y) % 18446744073709551616 := by unfold uN; rw [Int64.toBitVec_add, BitVec.toNat_add]
theorem uN_sub {x y : Int64} (h : uN y ≤ uN x) : uN (x - y) = uN x - uN y := by
  have h1 := uN_lt x
  have h2 := uN_lt y
  unfold uN at *
  rw [Int64.toBitVec_sub, BitVec.toNat_sub]
  omega
theorem uN_shr (w : Int64) {u : UInt64} {k : Nat} (hu : (u.toBitVec % 64).toNat = k) : uN ((w.toUInt64 >>> u).toInt64) = uN w / 2 ^ k := by
  have e : ((w.toUInt64 >>> u).toInt64).toBitVec = w.toBitVec >>> k := by
    show (w.toUInt64 >>> u).toBitVec = _
    rw [UInt64.toBitVec_shiftRight]
    show BitVec.ushiftRight w.toBitVec (u.toBitVec % 64).toNat = BitVec.ushiftRight w.toBitVec k
    rw [hu]
  unfold uN
  rw [e, BitVec.toNat_ushiftRight, Nat.shiftRight_eq_div_pow]
theorem bc_d1 (A B : Nat) (h : A < 65536) : (A + 65536 * B) / 65536 = B := by omega
theorem bc_d2 (A B : Nat) (h : A < 4294967296) : (A + 4294967296 * B) / 4294967296 = B := by omega
theorem bc_d0 (A B : Nat) (h : A < 256) : (A + 256 * B) / 256 = B := by omega
theorem bc_12 {c0 c1 c2 c3 c4 c5 c6 c7 : Nat} (b0 : c0 ≤ 8) (b1 : c1 ≤ 8) (b2 : c2 ≤ 8) (b3 : c3 ≤ 8) (b4 : c4 ≤ 8) (b5 : c5 ≤ 8) (b6 : c6 ≤ 8) (b7 : c7 ≤ 8) : (c0 + 256 * (c1 + 256 * (c2 + 256 * (c3 + 256 * (c4 + 256 * (c5 + 256 * (c6 + 256 * c7)))))) + (c0 + 256 * (c1 + 256 * (c2 + 256 * (c3 + 256 * (c4 + 256 * (c5 + 256 * (c6 + 256 * c7))))))) / 256) % 18446744073709551616 = (c0 + c1) + 256 * ((c1 + c2) + 256 * ((c2 + c3) + 256 * ((c3 + c4) + 256 * ((c4 + c5) + 256 * ((c5 + c6) + 256 * ((c6 + c7) + 256 * (c7))))))) := by
  rw [bc_d0 c0 _ (by omega), Nat.mod_eq_of_lt (by omega)]
  omega
theorem bc_14 {c0 c1 c2 c3 c4 c5 c6 c7 : Nat} (b0 : c0 ≤ 8) (b1 : c1 ≤ 8) (b2 : c2 ≤ 8) (b3 : c3 ≤ 8) (b4 : c4 ≤ 8) (b5 : c5 ≤ 8) (b6 : c6 ≤ 8) (b7 : c7 ≤ 8) : ((c0 + c1) + 256 * ((c1 + c2) + 256 * ((c2 + c3) + 256 * ((c3 + c4) + 256 * ((c4 + c5) + 256 * ((c5 + c6) + 256 * ((c6 + c7) + 256 * (c7))))))) + ((c0 + c1) + 256 * ((c1 + c2) + 256 * ((c2 + c3) + 256 * ((c3 + c4) + 256 * ((c4 + c5) + 256 * ((c5 + c6) + 256 * ((c6 + c7) + 256 * (c7)))))))) / 65536) % 18446744073709551616 = (c0 + c1 + c2 + c3) + 256 * ((c1 + c2 + c3 + c4) + 256 * ((c2 + c3 + c4 + c5) + 256 * ((c3 + c4 + c5 + c6) + 256 * ((c4 + c5 + c6 + c7) + 256 * ((c5 + c6 + c7) + 256 * ((c6 + c7) + 256 * (c7))))))) := by
  have e : (c0 + c1) + 256 * ((c1 + c2) + 256 * ((c2 + c3) + 256 * ((c3 + c4) + 256 * ((c4 + c5) + 256 * ((c5 + c6) + 256 * ((c6 + c7) + 256 * (c7))))))) = ((c0 + c1) + 256 * (c1 + c2)) + 65536 * ((c2 + c3) + 256 * ((c3 + c4) + 256 * ((c4 + c5) + 256 * ((c5 + c6) + 256 * ((c6 + c7) + 256 * (c7)))))) := by omega
  have e2 : ((c0 + c1) + 256 * ((c1 + c2) + 256 * ((c2 + c3) + 256 * ((c3 + c4) + 256 * ((c4 + c5) + 256 * ((c5 + c6) + 256 * ((c6 + c7) + 256 * (c7)))))))) / 65536 = (c2 + c3) + 256 * ((c3 + c4) + 256 * ((c4 + c5) + 256 * ((c5 + c6) + 256 * ((c6 + c7) + 256 * (c7))))) := by rw [e, bc_d1 _ _ (by omega)]
  rw [e2, Nat.mod_eq_of_lt (by omega)]
  omega
theorem bc_16 {c0 c1 c2 c3 c4 c5 c6 c7 : Nat} (b0 : c0 ≤ 8) (b1 : c1 ≤ 8) (b2 : c2 ≤ 8) (b3 : c3 ≤ 8) (b4 : c4 ≤ 8) (b5 : c5 ≤ 8) (b6 : c6 ≤ 8) (b7 : c7 ≤ 8) : ((c0 + c1 + c2 + c3) + 256 * ((c1 + c2 + c3 + c4) + 256 * ((c2 + c3 + c4 + c5) + 256 * ((c3 + c4 + c5 + c6) + 256 * ((c4 + c5 + c6 + c7) + 256 * ((c5 + c6 + c7) + 256 * ((c6 + c7) + 256 * (c7))))))) + ((c0 + c1 + c2 + c3) + 256 * ((c1 + c2 + c3 + c4) + 256 * ((c2 + c3 + c4 + c5) + 256 * ((c3 + c4 + c5 + c6) + 256 * ((c4 + c5 + c6 + c7) + 256 * ((c5 + c6 + c7) + 256 * ((c6 + c7) + 256 * (c7)))))))) / 4294967296) % 18446744073709551616 % 128 = c0 + c1 + c2 + c3 + c4 + c5 + c6 + c7 := by
  have e : (c0 + c1 + c2 + c3) + 256 * ((c1 + c2 + c3 + c4) + 256 * ((c2 + c3 + c4 + c5) + 256 * ((c3 + c4 + c5 + c6) + 256 * ((c4 + c5 + c6 + c7) + 256 * ((c5 + c6 + c7) + 256 * ((c6 + c7) + 256 * (c7))))))) = ((c0 + c1 + c2 + c3) + 256 * ((c1 + c2 + c3 + c4) + 256 * ((c2 + c3 + c4 + c5) + 256 * (c3 + c4 + c5 + c6)))) + 4294967296 * ((c4 + c5 + c6 + c7) + 256 * ((c5 + c6 + c7) + 256 * ((c6 + c7) + 256 * (c7)))) := by omega
  have e2 : ((c0 + c1 + c2 + c3) + 256 * ((c1 + c2 + c3 + c4) + 256 * ((c2 + c3 + c4 + c5) + 256 * ((c3 + c4 + c5 + c6) + 256 * ((c4 + c5 + c6 + c7) + 256 * ((c5 + c6 + c7) + 256 * ((c6 + c7) + 256 * (c7)))))))) / 4294967296 = (c4 + c5 + c6 + c7) + 256 * ((c5 + c6 + c7) + 256 * ((c6 + c7) + 256 * (c7))) := by rw [e, bc_d2 _ _ (by omega)]
  have e3 : (c0 + c1 + c2 + c3) + 256 * ((c1 + c2 + c3 + c4) + 256 * ((c2 + c3 + c4 + c5) + 256 * ((c3 + c4 + c5 + c6) + 256 * ((c4 + c5 + c6 + c7) + 256 * ((c5 + c6 + c7) + 256 * ((c6 + c7) + 256 * (c7))))))) + ((c4 + c5 + c6 + c7) + 256 * ((c5 + c6 + c7) + 256 * ((c6 + c7) + 256 * (c7)))) = (c0 + c1 + c2 + c3 + c4 + c5 + c6 + c7) + 128 * (2 * (((c1 + c2 + c3 + c4) + (c5 + c6 + c7)) + 256 * (((c2 + c3 + c4 + c5) + (c6 + c7)) + 256 * (((c3 + c4 + c5 + c6) + c7) + 256 * ((c4 + c5 + c6 + c7) + 256 * ((c5 + c6 + c7) + 256 * ((c6 + c7) + 256 * c7))))))) := by omega
  rw [e2, e3, Nat.mod_eq_of_lt (b := 18446744073709551616) (by omega), Nat.add_mul_mod_self_left, Nat.mod_eq_of_lt (by omega)]
theorem bc_core (x x1 x2 x3 x4 x5 x6 x7 x8 x9 x10 x11 x12 x13 x14 x15 x16 : Int64)
    (e1 : x1 = (x.toUInt64 >>> ((1 : Int32).toInt64.toUInt64 &&& Int64.toUInt64 63)).toInt64) (e2 : x2 = x1 &&& (6148914691236517205 : Int64)) (e3 : x3 = x - x2)
    (e4 : x4 = x3 &&& (3689348814741910323 : Int64)) (e5 : x5 = (x3.toUInt64 >>> ((2 : Int32).toInt64.toUInt64 &&& Int64.toUInt64 63)).toInt64) (e6 : x6 = x5 &&& (3689348814741910323 : Int64)) (e7 : x7 = x4 + x6)
    (e8 : x8 = (x7.toUInt64 >>> ((4 : Int32).toInt64.toUInt64 &&& Int64.toUInt64 63)).toInt64) (e9 : x9 = x7 + x8) (e10 : x10 = x9 &&& (1085102592571150095 : Int64))
    (e11 : x11 = (x10.toUInt64 >>> ((8 : Int32).toInt64.toUInt64 &&& Int64.toUInt64 63)).toInt64) (e12 : x12 = x10 + x11) (e13 : x13 = (x12.toUInt64 >>> ((16 : Int32).toInt64.toUInt64 &&& Int64.toUInt64 63)).toInt64) (e14 : x14 = x12 + x13)
    (e15 : x15 = (x14.toUInt64 >>> ((32 : Int32).toInt64.toUInt64 &&& Int64.toUInt64 63)).toInt64) (e16 : x16 = x14 + x15) : x16.toInt32 &&& (127 : Int32) = nI (cN (bL x) 64) := by
  have m1 : uN (6148914691236517205 : Int64) = mk8 85 8 := by decide +kernel
  have m2 : uN (3689348814741910323 : Int64) = mk8 51 8 := by decide +kernel
  have m3 : uN (1085102592571150095 : Int64) = mk8 15 8 := by decide +kernel
  have hx := uN_lt x
  have n1 : uN x1 = uN x / 2 := by rw [e1, uN_shr x (k := 1) (by decide +kernel)]
  have n2 : uN x2 = uN x / 2 &&& mk8 85 8 := by rw [e2, uN_and, n1, m1]
  have n3 : uN x3 = s1 8 (uN x) := by
    have hle : (uN x / 2 &&& mk8 85 8) ≤ uN x / 2 := Nat.and_le_left
    rw [e3, uN_sub (by rw [n2]; omega), n2]
    rfl
  have n5 : uN x5 = uN x3 / 4 := by rw [e5, uN_shr x3 (k := 2) (by decide +kernel)]
  have n7 : uN x7 = s2 8 (uN x3) := by
    have a1 : (uN x3 &&& mk8 51 8) ≤ mk8 51 8 := Nat.and_le_right
    have a2 : (uN x3 / 4 &&& mk8 51 8) ≤ mk8 51 8 := Nat.and_le_right
    have a3 : mk8 51 8 = 3689348814741910323 := by decide +kernel
    rw [e7, uN_add, e4, e6, uN_and, uN_and, n5, m2, Nat.mod_eq_of_lt (by omega)]
    rfl
  have hb7 : uN x7 ≤ 7378697629483820646 := by
    have a1 : (uN x3 &&& mk8 51 8) ≤ mk8 51 8 := Nat.and_le_right
    have a2 : (uN x3 / 4 &&& mk8 51 8) ≤ mk8 51 8 := Nat.and_le_right
    have a3 : mk8 51 8 = 3689348814741910323 := by decide +kernel
    rw [n7]
    unfold s2
    omega
  have n8 : uN x8 = uN x7 / 16 := by rw [e8, uN_shr x7 (k := 4) (by decide +kernel)]
  have n10 : uN x10 = pcs 8 (uN x) := by
    rw [e10, uN_and, e9, uN_add, n8, m3, Nat.mod_eq_of_lt (by omega)]
    show s3 8 (uN x7) = _
    rw [n7, n3]
    exact (s12_16 8 (uN x) hx).2
  obtain ⟨c0, c1, c2, c3, c4, c5, c6, c7, hp, hc, hsum⟩ := pcs_sum (uN x)
  rw [hp] at n10
  obtain ⟨b0, b1, b2, b3, b4, b5, b6, b7⟩ := hc
  have n11 : uN x11 = uN x10 / 256 := by rw [e11, uN_shr x10 (k := 8) (by decide +kernel)]
  have n12 : uN x12 = (c0 + c1) + 256 * ((c1 + c2) + 256 * ((c2 + c3) + 256 * ((c3 + c4) + 256 * ((c4 + c5) + 256 * ((c5 + c6) + 256 * ((c6 + c7) + 256 * (c7))))))) := by
    rw [e12, uN_add, n11, n10]
    exact bc_12 b0 b1 b2 b3 b4 b5 b6 b7
  have n13 : uN x13 = uN x12 / 65536 := by rw [e13, uN_shr x12 (k := 16) (by decide +kernel)]
  have n14 : uN x14 = (c0 + c1 + c2 + c3) + 256 * ((c1 + c2 + c3 + c4) + 256 * ((c2 + c3 + c4 + c5) + 256 * ((c3 + c4 + c5 + c6) + 256 * ((c4 + c5 + c6 + c7) + 256 * ((c5 + c6 + c7) + 256 * ((c6 + c7) + 256 * (c7))))))) := by
    rw [e14, uN_add, n13, n12]
    exact bc_14 b0 b1 b2 b3 b4 b5 b6 b7
  have n15 : uN x15 = uN x14 / 4294967296 := by rw [e15, uN_shr x14 (k := 32) (by decide +kernel)]
  have n16 : uN x16 % 128 = c0 + c1 + c2 + c3 + c4 + c5 + c6 + c7 := by
    rw [e16, uN_add, n15, n14]
    exact bc_16 b0 b1 b2 b3 b4 b5 b6 b7
  have hz : (x16.toInt32).toBitVec.toNat % 128 = uN x16 % 128 := by
    have e : (x16.toInt32).toBitVec = x16.toBitVec.setWidth 32 := by
      rw [Int64.toBitVec_toInt32]
      rw [BitVec.signExtend_eq_setWidth_of_le _ (by omega)]
    rw [e, BitVec.toNat_setWidth]
    show uN x16 % 2 ^ 32 % 128 = uN x16 % 128
    omega
  rw [pk_and x16.toInt32 (m := 127) 7 (by decide), show (2 : Nat) ^ 7 = 128 from rfl, hz, n16, hsum]
  rfl
theorem fy_bitCount (n : Nat) (dl : Nat → Nat) (x : Int64) : f_y_bitCount n dl x = nI (cN (bL x) 64) := bc_core x _ _ _ _ _ _ _ _ _ _ _ _ _ _ _ _ rfl rfl rfl rfl rfl rfl rfl rfl rfl rfl rfl rfl rfl rfl rfl rfl

end
section
def Ag (l : List Nat) (F G : Nat → Nat → Int32) : Prop := ∀ j, j ∉ l → G j = F j
theorem Ag.rf {l : List Nat} {F : Nat → Nat → Int32} : Ag l F F := fun _ _ => rfl
theorem Ag.tr {l : List Nat} {F G H : Nat → Nat → Int32} (h : Ag l F G) (g : Ag l G H) : Ag l F H := fun j hj => (g j hj).trans (h j hj)
theorem Ag.up {l : List Nat} {F : Nat → Nat → Int32} {k : Nat} {g : Nat → Int32} (h : k ∈ l) : Ag l F (va_up F k g) := fun j hj => va_up_ne F g (fun e => hj (e ▸ h))
theorem Ag.sub {l l2 : List Nat} {F G : Nat → Nat → Int32} (h : Ag l F G) (hs : ∀ j, j ∈ l → j ∈ l2) : Ag l2 F G := fun j hj => h j (fun q => hj (hs j q))
theorem Ag.app {l l2 l3 : List Nat} {F G H : Nat → Nat → Int32} (h : Ag l F G) (g : Ag l2 G H) (hs : ∀ j, j ∈ l → j ∈ l3) (hs2 : ∀ j, j ∈ l2 → j ∈ l3) : Ag l3 F H := (h.sub hs).tr (g.sub hs2)
theorem nb0 : vp_nar .boolean 0 = 0 := rfl
theorem nb1 : vp_nar .boolean 1 = 1 := rfl
def fl (c : Bool) : Int32 := if c = true then 1 else 0
theorem fl_n0 {c : Bool} : ¬ fl c = 0 ↔ c = true := by cases c <;> decide
theorem fl_nb (c : Bool) : vp_nar .boolean (fl c) = fl c := by cases c <;> rfl
def anyN (p : Nat → Bool) : Nat → Bool
  | 0 => false
  | k + 1 => anyN p k || p k
theorem anyN_s (p : Nat → Bool) (k : Nat) : anyN p (k + 1) = (anyN p k || p k) := rfl
theorem anyN_iff (p : Nat → Bool) : ∀ k, anyN p k = true ↔ ∃ b, b < k ∧ p b = true
  | 0 => by
    constructor
    · intro h; cases h
    · rintro ⟨b, hb, _⟩; omega
  | k + 1 => by
    rw [anyN_s, Bool.or_eq_true, anyN_iff p k]
    constructor
    · rintro (⟨b, hb, h⟩ | h)
      · exact ⟨b, by omega, h⟩
      · exact ⟨k, by omega, h⟩
    · rintro ⟨b, hb, h⟩
      by_cases e : b = k
      · subst e; exact Or.inr h
      · exact Or.inl ⟨b, by omega, h⟩
theorem anyN_f {p : Nat → Bool} {k : Nat} : anyN p k = false ↔ ∀ b, b < k → p b = false := by
  constructor
  · intro h b hb
    cases e : p b
    · rfl
    · have h2 := (anyN_iff p k).mpr ⟨b, hb, e⟩
      rw [h] at h2; cases h2
  · intro h
    cases e : anyN p k
    · rfl
    · obtain ⟨b, hb, h2⟩ := (anyN_iff p k).mp e
      rw [h b hb] at h2; cases h2
theorem cN_s (p : Nat → Bool) (k : Nat) : cN p (k + 1) = cN p k + (if p k = true then 1 else 0) := rfl
theorem cN_st {p : Nat → Bool} {k : Nat} (h : p k = true) : cN p (k + 1) = cN p k + 1 := by rw [cN_s, if_pos h]
theorem cN_sf {p : Nat → Bool} {k : Nat} (h : p k = false) : cN p (k + 1) = cN p k := by rw [cN_s, h]; rfl
theorem cN_c {p q : Nat → Bool} : ∀ {m : Nat}, (∀ i, i < m → p i = q i) → cN p m = cN q m
  | 0, _ => rfl
  | m + 1, h => by rw [cN_s, cN_s, cN_c (fun i hi => h i (by omega)), h m (by omega)]
theorem cN_ext {p q : Nat → Bool} {n m : Nat} (hn : n ≤ m) (h : ∀ i, i < n → p i = q i) (h2 : ∀ i, n ≤ i → i < m → p i = false) : cN p m = cN q n := by
  obtain ⟨d, rfl⟩ : ∃ d, m = n + d := ⟨m - n, by omega⟩
  induction d with
  | zero => exact cN_c h
  | succ d ih =>
    rw [show n + (d + 1) = (n + d) + 1 by omega, cN_sf (h2 (n + d) (by omega) (by omega))]
    exact ih (by omega) (fun i h3 h4 => h2 i h3 (by omega))
theorem cN_0 {p : Nat → Bool} {m : Nat} : cN p m = 0 ↔ ∀ i, i < m → p i = false := by
  induction m with
  | zero => exact ⟨fun _ i hi => absurd hi (by omega), fun _ => rfl⟩
  | succ m ih =>
    rw [cN_s]
    constructor
    · intro h i hi
      have h1 : cN p m = 0 := by omega
      by_cases e : i = m
      · subst e
        cases e2 : p i
        · rfl
        · rw [e2, if_pos rfl] at h; omega
      · exact ih.mp h1 i (by omega)
    · intro h
      rw [ih.mpr (fun i hi => h i (by omega)), h m (by omega)]; rfl
def ix (h a b : Nat) : Nat := (h * 40 + a) * 40 + b
theorem ix_inj {h a b h2 a2 b2 : Nat} (ha : a < 40) (hb : b < 40) (ha2 : a2 < 40) (hb2 : b2 < 40) (e : ix h a b = ix h2 a2 b2) : h = h2 ∧ a = a2 ∧ b = b2 := by unfold ix at e; omega
def HS (F : Nat → Nat → Int32) (h a b : Nat) : Bool := decide (¬ F 19 (ix h a b) = 0)
theorem HS_f {F : Nat → Nat → Int32} {h a b : Nat} : HS F h a b = false ↔ F 19 (ix h a b) = 0 := by simp [HS]
theorem HS_t {F : Nat → Nat → Int32} {h a b : Nat} : HS F h a b = true ↔ ¬ F 19 (ix h a b) = 0 := by simp [HS]
theorem fw_has (n : Nat) {h a b : Nat} (F : Nat → Nat → Int32) (hh : h < 4) (ha : a < 40) (hb : b < 40) : f_w_has n h a b F = F 19 (ix h a b) := by
  unfold f_w_has
  simp only [bnd]
  rw [nI_clamp (by omega)]
  rfl
theorem cl {n i : Nat} (hn : n ≤ 40) (hi : ¬ n ≤ i) : (nI i).toNatClampNeg = i := nI_clamp (by omega)
theorem nI_a1 (a : Nat) : nI a + 1 = nI (a + 1) := nI_1 a
theorem fw_jobs_lp (n : Nat) (F : Nat → Nat → Int32) (K : Nat → Int32 → Int32) (hn : n ≤ 40) : ∀ fu i, i ≤ n → n < i + fu → f_w_jobs_4 n F fu i (nI (cN (fun s => decide (¬ F 25 s = 0)) i)) K = K n (nI (cN (fun s => decide (¬ F 25 s = 0)) n))
  | 0, i, h1, h2 => by omega
  | fu + 1, i, h1, h2 => by
    rw [f_w_jobs_4]
    by_cases hi : n ≤ i
    · have e : i = n := by omega
      subst e
      rw [if_pos hi]
    · rw [if_neg hi]
      have ih := fw_jobs_lp n F K hn fu (i + 1) (by omega) (by omega)
      simp only [bnd]
      rw [cl hn hi]
      by_cases h3 : F 25 i = 0
      · rw [if_pos h3, Int32.add_zero]
        rw [cN_sf (by simp [h3])] at ih
        exact ih
      · rw [if_neg h3, nI_a1]
        rw [cN_st (by simp [h3])] at ih
        exact ih
theorem fw_jobs (n : Nat) (F : Nat → Nat → Int32) (hn : n ≤ 40) : f_w_jobs n F = nI (cN (fun s => decide (¬ F 25 s = 0)) n) := fw_jobs_lp n F _ hn (n + 1) 0 (by omega) (by omega)
theorem fw_many_lp (n m : Nat) (F : Nat → Nat → Int32) (K : Nat → Int32 → Int32) (hn : m ≤ 40) : ∀ fu i, i ≤ m → m < i + fu → f_w_many_4 n m F fu i (nI (cN (fun s => decide (¬ F 30 s = 0)) i)) K = K m (nI (cN (fun s => decide (¬ F 30 s = 0)) m))
  | 0, i, h1, h2 => by omega
  | fu + 1, i, h1, h2 => by
    rw [f_w_many_4]
    by_cases hi : m ≤ i
    · have e : i = m := by omega
      subst e
      rw [if_pos hi]
    · rw [if_neg hi]
      have ih := fw_many_lp n m F K hn fu (i + 1) (by omega) (by omega)
      simp only [bnd]
      rw [cl hn hi]
      by_cases h3 : F 30 i = 0
      · rw [if_pos h3, Int32.add_zero]
        rw [cN_sf (by simp [h3])] at ih
        exact ih
      · rw [if_neg h3, nI_a1]
        rw [cN_st (by simp [h3])] at ih
        exact ih
theorem fw_many (n m : Nat) (F : Nat → Nat → Int32) (hn : m ≤ 40) : f_w_many n m F = nI (cN (fun s => decide (¬ F 30 s = 0)) m) := fw_many_lp n m F _ hn (m + 1) 0 (by omega) (by omega)
theorem fw_in_lp (n : Nat) (t : Int32) (F : Nat → Nat → Int32) (K : Nat → Int32 → Int32) (hn : n ≤ 40) : ∀ fu i, i ≤ n → n < i + fu → f_w_in_15 n t F fu i (nI (cN (fun s => decide (F 7 s = t)) i)) K = K n (nI (cN (fun s => decide (F 7 s = t)) n))
  | 0, i, h1, h2 => by omega
  | fu + 1, i, h1, h2 => by
    rw [f_w_in_15]
    by_cases hi : n ≤ i
    · have e : i = n := by omega
      subst e
      rw [if_pos hi]
    · rw [if_neg hi]
      have ih := fw_in_lp n t F K hn fu (i + 1) (by omega) (by omega)
      simp only [bnd]
      rw [cl hn hi]
      by_cases h3 : F 7 i = t
      · rw [if_pos h3, nI_a1]
        rw [cN_st (by simp [h3])] at ih
        exact ih
      · rw [if_neg h3, Int32.add_zero]
        rw [cN_sf (by simp [h3])] at ih
        exact ih
theorem fw_in (n : Nat) (t : Int32) (F : Nat → Nat → Int32) (hn : n ≤ 40) (h0 : ¬ t < 0) (h5 : t ≤ 5) : f_w_in n t F = nI (cN (fun s => decide (F 7 s = t)) n) := by
  unfold f_w_in
  rw [if_neg h0, if_pos h5]
  exact fw_in_lp n t F _ hn (n + 1) 0 (by omega) (by omega)
def lkB (F : Nat → Nat → Int32) (s b : Nat) : Bool := HS F 0 s b && decide (¬ F 7 b = 2)
theorem fw_hasNeeds_lp (n s : Nat) (F : Nat → Nat → Int32) (K : Nat → Int32 → Int32) (hs : s < 40) (hn : n ≤ 40) : ∀ fu i, i ≤ n → n < i + fu → f_w_hasNeeds_4 n s F fu i (fl (!anyN (lkB F s) i)) K = K n (fl (!anyN (lkB F s) n))
  | 0, i, h1, h2 => by omega
  | fu + 1, i, h1, h2 => by
    rw [f_w_hasNeeds_4]
    by_cases hi : n ≤ i
    · have e : i = n := by omega
      subst e
      rw [if_pos hi]
    · rw [if_neg hi]
      have ih := fw_hasNeeds_lp n s F K hs hn fu (i + 1) (by omega) (by omega)
      rw [anyN_s] at ih
      simp only [bnd]
      rw [fw_has n F (by omega) hs (by omega), cl hn hi]
      cases h0 : anyN (lkB F s) i
      · rw [h0] at ih
        rw [if_neg (by decide)]
        by_cases h3 : F 19 (ix 0 s i) = 0
        · rw [if_pos h3]
          rw [show lkB F s i = false by simp [lkB, HS, h3]] at ih
          exact ih
        · rw [if_neg h3]
          by_cases h4 : F 7 i = 2
          · rw [if_pos h4]
            rw [show lkB F s i = false by simp [lkB, h4]] at ih
            exact ih
          · rw [if_neg h4]
            rw [show lkB F s i = true by simp [lkB, HS, h3, h4]] at ih
            exact ih
      · rw [h0] at ih
        rw [if_pos (by decide)]
        exact ih
theorem fw_hasNeeds (n s : Nat) (F : Nat → Nat → Int32) (hs : s < 40) (hn : n ≤ 40) : f_w_hasNeeds n s F = fl (!anyN (lkB F s) n) := fw_hasNeeds_lp n s F _ hs hn (n + 1) 0 (by omega) (by omega)
def agB (F : Nat → Nat → Int32) (s b : Nat) : Bool := HS F 3 s b && (decide (F 7 b = 1) || decide (F 7 b = 2) || decide (F 7 b = 3))
theorem fw_isFree_lp (n s : Nat) (F : Nat → Nat → Int32) (c : Bool) (K : Nat → Int32 → Int32) (hs : s < 40) (hn : n ≤ 40) : ∀ fu i, i ≤ n → n < i + fu → f_w_isFree_8 n s F fu i (fl (c && !anyN (agB F s) i)) K = K n (fl (c && !anyN (agB F s) n))
  | 0, i, h1, h2 => by omega
  | fu + 1, i, h1, h2 => by
    rw [f_w_isFree_8]
    by_cases hi : n ≤ i
    · have e : i = n := by omega
      subst e
      rw [if_pos hi]
    · rw [if_neg hi]
      have ih := fw_isFree_lp n s F c K hs hn fu (i + 1) (by omega) (by omega)
      rw [anyN_s] at ih
      simp only [bnd]
      rw [fw_has n F (by omega) hs (by omega), cl hn hi]
      cases hc : c
      · rw [hc] at ih
        rw [if_pos (show fl (false && !anyN (agB F s) i) = 0 from rfl)]
        exact ih
      · rw [hc] at ih
        cases h0 : anyN (agB F s) i
        · rw [h0] at ih
          rw [if_neg (by decide)]
          by_cases h3 : F 19 (ix 3 s i) = 0
          · rw [if_pos h3]
            rw [show agB F s i = false by simp [agB, HS, h3]] at ih
            exact ih
          · rw [if_neg h3]
            by_cases h4 : F 7 i = 1
            · rw [if_pos h4]
              rw [show agB F s i = true by simp [agB, HS, h3, h4]] at ih
              exact ih
            · rw [if_neg h4]
              by_cases h5 : F 7 i = 2
              · rw [if_pos h5]
                rw [show agB F s i = true by simp [agB, HS, h3, h5]] at ih
                exact ih
              · rw [if_neg h5]
                by_cases h6 : F 7 i = 3
                · rw [if_pos h6]
                  rw [show agB F s i = true by simp [agB, HS, h3, h6]] at ih
                  exact ih
                · rw [if_neg h6]
                  rw [show agB F s i = false by simp [agB, h4, h5, h6]] at ih
                  exact ih
        · rw [h0] at ih
          rw [if_pos (by decide)]
          exact ih
theorem fw_isFree (n s : Nat) (F : Nat → Nat → Int32) (hs : s < 40) (hn : n ≤ 40) : f_w_isFree n s F = fl (!anyN (lkB F s) n && !anyN (agB F s) n) := by
  unfold f_w_isFree
  simp only [bnd]
  rw [fw_hasNeeds n s F hs hn]
  have e : fl (!anyN (lkB F s) n) = fl ((!anyN (lkB F s) n) && !anyN (agB F s) 0) := by rw [show anyN (agB F s) 0 = false from rfl]; simp
  rw [e]
  exact fw_isFree_lp n s F _ _ hs hn (n + 1) 0 (by omega) (by omega)
def waB (j : Nat → Int32) (F : Nat → Nat → Int32) (a b : Nat) : Bool := !decide (j a = 0) && !decide (j b = 0) && !decide (a = b) && (if j a = 1 then (if j b = 1 then HS F 0 a b || HS F 2 a b else HS F 3 a b) else decide (j b = 2) && (HS F 0 b a || HS F 2 b a))

end
section
theorem fw_waitsAmong_job (n : Nat) {a b : Nat} (F : Nat → Nat → Int32) (h01 : ∀ j, F 19 j = 0 ∨ F 19 j = 1) (ha : a < 40) (hb : b < 40) : f_w_waitsAmong_job n a b F = fl (waB (F 25) F a b) := by
  unfold f_w_waitsAmong_job f_w_waitsFor waB
  simp only [bnd]
  rw [nI_clamp (show a < 2 ^ 31 by omega), nI_clamp (show b < 2 ^ 31 by omega), fw_has n F (by omega) ha hb, fw_has n F (by omega) ha hb, fw_has n F (by omega) ha hb, fw_has n F (by omega) hb ha, fw_has n F (by omega) hb ha]
  by_cases h1 : F 25 a = 0
  · simp [h1, fl]
  · by_cases h2 : F 25 b = 0
    · simp [h1, h2, fl]
    · by_cases h3 : a = b
      · simp [h1, h2, h3, fl]
      · by_cases h4 : F 25 a = 1
        · by_cases h5 : F 25 b = 1
          · rcases h01 (ix 0 a b) with e | e <;> rcases h01 (ix 2 a b) with e2 | e2 <;> simp [h3, h4, h5, HS, e, e2, fl]
          · rcases h01 (ix 3 a b) with e | e <;> simp [h2, h3, h4, h5, HS, e, fl]
        · by_cases h5 : F 25 b = 2
          · rcases h01 (ix 0 b a) with e | e <;> rcases h01 (ix 2 b a) with e2 | e2 <;> simp [h1, h3, h4, h5, HS, e, e2, fl]
          · simp [h1, h2, h3, h4, h5, fl]
theorem fw_waitsAmong_newJob (n : Nat) {a b : Nat} (F : Nat → Nat → Int32) (h01 : ∀ j, F 19 j = 0 ∨ F 19 j = 1) (ha : a < 40) (hb : b < 40) : f_w_waitsAmong_newJob n a b F = fl (waB (F 30) F a b) := by
  unfold f_w_waitsAmong_newJob f_w_waitsFor waB
  simp only [bnd]
  rw [nI_clamp (show a < 2 ^ 31 by omega), nI_clamp (show b < 2 ^ 31 by omega), fw_has n F (by omega) ha hb, fw_has n F (by omega) ha hb, fw_has n F (by omega) ha hb, fw_has n F (by omega) hb ha, fw_has n F (by omega) hb ha]
  by_cases h1 : F 30 a = 0
  · simp [h1, fl]
  · by_cases h2 : F 30 b = 0
    · simp [h1, h2, fl]
    · by_cases h3 : a = b
      · simp [h1, h2, h3, fl]
      · by_cases h4 : F 30 a = 1
        · by_cases h5 : F 30 b = 1
          · rcases h01 (ix 0 a b) with e | e <;> rcases h01 (ix 2 a b) with e2 | e2 <;> simp [h3, h4, h5, HS, e, e2, fl]
          · rcases h01 (ix 3 a b) with e | e <;> simp [h2, h3, h4, h5, HS, e, fl]
        · by_cases h5 : F 30 b = 2
          · rcases h01 (ix 0 b a) with e | e <;> rcases h01 (ix 2 b a) with e2 | e2 <;> simp [h1, h3, h4, h5, HS, e, e2, fl]
          · simp [h1, h2, h3, h4, h5, fl]
def cl27B (F : Nat → Nat → Int32) (a b : Nat) : Bool := decide (¬ F 27 a = 0) && decide (¬ F 27 b = 0) && HS F 3 a b
theorem fw_clash_member_in (n : Nat) (F : Nat → Nat → Int32) (a : Nat) (c : Bool) (K : Nat → Int32 → Int32) (ha : a < 40) (hn : n ≤ 40) : ∀ fu i, i ≤ n → n < i + fu → f_w_clash_member_15 n F a fu i (fl (c || anyN (cl27B F a) i)) K = K n (fl (c || anyN (cl27B F a) n))
  | 0, i, h1, h2 => by omega
  | fu + 1, i, h1, h2 => by
    rw [f_w_clash_member_15]
    by_cases hi : n ≤ i
    · have e : i = n := by omega
      subst e
      rw [if_pos hi]
    · rw [if_neg hi]
      have ih := fw_clash_member_in n F a c K ha hn fu (i + 1) (by omega) (by omega)
      rw [anyN_s] at ih
      simp only [bnd]
      rw [fw_has n F (by omega) ha (by omega), cl hn hi, nI_clamp (show a < 2 ^ 31 by omega)]
      cases hc : c
      · rw [hc] at ih
        cases h0 : anyN (cl27B F a) i
        · rw [h0] at ih
          rw [if_pos (by decide)]
          by_cases h3 : F 27 a = 0
          · rw [if_pos h3]
            rw [show cl27B F a i = false by simp [cl27B, h3]] at ih
            exact ih
          · rw [if_neg h3]
            by_cases h4 : F 27 i = 0
            · rw [if_pos h4]
              rw [show cl27B F a i = false by simp [cl27B, h4]] at ih
              exact ih
            · rw [if_neg h4]
              by_cases h5 : F 19 (ix 3 a i) = 0
              · rw [if_pos h5]
                rw [show cl27B F a i = false by simp [cl27B, HS, h5]] at ih
                exact ih
              · rw [if_neg h5]
                rw [show cl27B F a i = true by simp [cl27B, HS, h3, h4, h5]] at ih
                exact ih
        · rw [h0] at ih
          rw [if_neg (by decide)]
          exact ih
      · rw [hc] at ih
        rw [if_neg (by simp [fl])]
        simp only [Bool.true_or] at ih
        exact ih
theorem fw_clash_member_lp (n : Nat) (F : Nat → Nat → Int32) (K : Nat → Int32 → Int32) (hn : n ≤ 40) : ∀ fu i, i ≤ n → n < i + fu → f_w_clash_member_4 n F fu i (fl (anyN (fun a => anyN (cl27B F a) n) i)) K = K n (fl (anyN (fun a => anyN (cl27B F a) n) n))
  | 0, i, h1, h2 => by omega
  | fu + 1, i, h1, h2 => by
    rw [f_w_clash_member_4]
    by_cases hi : n ≤ i
    · have e : i = n := by omega
      subst e
      rw [if_pos hi]
    · rw [if_neg hi]
      have ih := fw_clash_member_lp n F K hn fu (i + 1) (by omega) (by omega)
      rw [anyN_s] at ih
      have e0 := fw_clash_member_in n F i (anyN (fun a => anyN (cl27B F a) n) i) (fun _ y11 => f_w_clash_member_4 n F fu (i + 1) y11 K) (by omega) hn (n + 1) 0 (by omega) (by omega)
      rw [show anyN (cl27B F i) 0 = false from rfl, Bool.or_false] at e0
      exact e0.trans ih
theorem fw_clash_member (n : Nat) (F : Nat → Nat → Int32) (hn : n ≤ 40) : f_w_clash_member n F = fl (anyN (fun a => anyN (cl27B F a) n) n) := fw_clash_member_lp n F _ hn (n + 1) 0 (by omega) (by omega)
def cl28B (F : Nat → Nat → Int32) (a b : Nat) : Bool := decide (¬ F 28 a = 0) && decide (¬ F 28 b = 0) && HS F 3 a b
theorem fw_clash_more_in (n : Nat) (F : Nat → Nat → Int32) (a : Nat) (c : Bool) (K : Nat → Int32 → Int32) (ha : a < 40) (hn : n ≤ 40) : ∀ fu i, i ≤ n → n < i + fu → f_w_clash_more_15 n F a fu i (fl (c || anyN (cl28B F a) i)) K = K n (fl (c || anyN (cl28B F a) n))
  | 0, i, h1, h2 => by omega
  | fu + 1, i, h1, h2 => by
    rw [f_w_clash_more_15]
    by_cases hi : n ≤ i
    · have e : i = n := by omega
      subst e
      rw [if_pos hi]
    · rw [if_neg hi]
      have ih := fw_clash_more_in n F a c K ha hn fu (i + 1) (by omega) (by omega)
      rw [anyN_s] at ih
      simp only [bnd]
      rw [fw_has n F (by omega) ha (by omega), cl hn hi, nI_clamp (show a < 2 ^ 31 by omega)]
      cases hc : c
      · rw [hc] at ih
        cases h0 : anyN (cl28B F a) i
        · rw [h0] at ih
          rw [if_pos (by decide)]
          by_cases h3 : F 28 a = 0
          · rw [if_pos h3]
            rw [show cl28B F a i = false by simp [cl28B, h3]] at ih
            exact ih
          · rw [if_neg h3]
            by_cases h4 : F 28 i = 0
            · rw [if_pos h4]
              rw [show cl28B F a i = false by simp [cl28B, h4]] at ih
              exact ih
            · rw [if_neg h4]
              by_cases h5 : F 19 (ix 3 a i) = 0
              · rw [if_pos h5]
                rw [show cl28B F a i = false by simp [cl28B, HS, h5]] at ih
                exact ih
              · rw [if_neg h5]
                rw [show cl28B F a i = true by simp [cl28B, HS, h3, h4, h5]] at ih
                exact ih
        · rw [h0] at ih
          rw [if_neg (by decide)]
          exact ih
      · rw [hc] at ih
        rw [if_neg (by simp [fl])]
        simp only [Bool.true_or] at ih
        exact ih
theorem fw_clash_more_lp (n : Nat) (F : Nat → Nat → Int32) (K : Nat → Int32 → Int32) (hn : n ≤ 40) : ∀ fu i, i ≤ n → n < i + fu → f_w_clash_more_4 n F fu i (fl (anyN (fun a => anyN (cl28B F a) n) i)) K = K n (fl (anyN (fun a => anyN (cl28B F a) n) n))
  | 0, i, h1, h2 => by omega
  | fu + 1, i, h1, h2 => by
    rw [f_w_clash_more_4]
    by_cases hi : n ≤ i
    · have e : i = n := by omega
      subst e
      rw [if_pos hi]
    · rw [if_neg hi]
      have ih := fw_clash_more_lp n F K hn fu (i + 1) (by omega) (by omega)
      rw [anyN_s] at ih
      have e0 := fw_clash_more_in n F i (anyN (fun a => anyN (cl28B F a) n) i) (fun _ y11 => f_w_clash_more_4 n F fu (i + 1) y11 K) (by omega) hn (n + 1) 0 (by omega) (by omega)
      rw [show anyN (cl28B F i) 0 = false from rfl, Bool.or_false] at e0
      exact e0.trans ih
theorem fw_clash_more (n : Nat) (F : Nat → Nat → Int32) (hn : n ≤ 40) : f_w_clash_more n F = fl (anyN (fun a => anyN (cl28B F a) n) n) := fw_clash_more_lp n F _ hn (n + 1) 0 (by omega) (by omega)
theorem fw_waitsForAny_lp (n s : Nat) (F : Nat → Nat → Int32) (h01 : ∀ j, F 19 j = 0 ∨ F 19 j = 1) (K : Nat → Int32 → Int32) (hs : s < 40) (hn : n ≤ 40) : ∀ fu i, i ≤ n → n < i + fu → f_w_waitsForAny_4 n s F fu i (fl (anyN (waB (F 25) F s) i)) K = K n (fl (anyN (waB (F 25) F s) n))
  | 0, i, h1, h2 => by omega
  | fu + 1, i, h1, h2 => by
    rw [f_w_waitsForAny_4]
    by_cases hi : n ≤ i
    · have e : i = n := by omega
      subst e
      rw [if_pos hi]
    · rw [if_neg hi]
      have ih := fw_waitsForAny_lp n s F h01 K hs hn fu (i + 1) (by omega) (by omega)
      rw [anyN_s] at ih
      simp only [bnd]
      rw [fw_waitsAmong_job n F h01 hs (by omega)]
      cases h0 : anyN (waB (F 25) F s) i
      · rw [h0] at ih
        rw [if_pos (by decide)]
        cases h3 : waB (F 25) F s i
        · rw [h3] at ih
          rw [if_pos (by decide)]
          exact ih
        · rw [h3] at ih
          rw [if_neg (by decide)]
          exact ih
      · rw [h0] at ih
        rw [if_neg (by decide)]
        exact ih
theorem fw_waitsForAny (n s : Nat) (F : Nat → Nat → Int32) (h01 : ∀ j, F 19 j = 0 ∨ F 19 j = 1) (hs : s < 40) (hn : n ≤ 40) : f_w_waitsForAny n s F = fl (anyN (waB (F 25) F s) n) := fw_waitsForAny_lp n s F h01 _ hs hn (n + 1) 0 (by omega) (by omega)

end
section
theorem va_uu {α : Type} (F : Nat → α) (k : Nat) (g h : α) : va_up (va_up F k g) k h = va_up F k h := by
  funext j
  by_cases e : j = k <;> simp [va_up, e]
theorem va_id {α : Type} (F : Nat → α) (k : Nat) : va_up F k (F k) = F := by
  funext j
  by_cases e : j = k <;> simp [va_up, e]
theorem va_31 (F : Nat → Nat → Int32) (f : Nat → Int32) : va_up F 32 f 31 = F 31 := va_up_ne F f (by decide)
def GE (n : Nat) (E : Nat → Int32) (x y : Nat) : Prop := x < n ∧ y < n ∧ ¬ E (x * 40 + y) = 0
theorem fw_sh14 (n s : Nat) (F : Nat → Nat → Int32) (V : Nat → Int32) (K : Nat → (Nat → Nat → Int32) → (Nat → Int32) → Int32 × (Nat → Nat → Int32) × (Nat → Int32)) (hn : n ≤ 40) (hs : s < n) : ∀ fu i f, i ≤ n → n < i + fu → (∀ y, y < i → f y = if F 31 (s * 40 + y) = 0 then 0 else 1) → ∃ f2, f_w_shortest_14 n s fu i (va_up F 32 f) V K = K n (va_up F 32 f2) V ∧ ∀ y, y < n → f2 y = if F 31 (s * 40 + y) = 0 then 0 else 1
  | 0, i, f, h1, h2, _ => by omega
  | fu + 1, i, f, h1, h2, hf => by
    rw [f_w_shortest_14]
    by_cases hi : n ≤ i
    · have e : i = n := by omega
      subst e
      rw [if_pos hi]
      exact ⟨f, rfl, hf⟩
    · rw [if_neg hi]
      simp only [bnd]
      rw [va_31, va_uu, va_uu, va_up_self, cl hn hi, nI_clamp (show s * 40 + i < 2 ^ 31 by omega)]
      by_cases h3 : F 31 (s * 40 + i) = 0
      · rw [if_pos h3]
        refine fw_sh14 n s F V K hn hs fu (i + 1) _ (by omega) (by omega) (fun y hy => ?_)
        by_cases e : y = i
        · subst e; rw [pk_us, if_pos h3]
        · rw [pk_un e]; exact hf y (by omega)
      · rw [if_neg h3]
        refine fw_sh14 n s F V K hn hs fu (i + 1) _ (by omega) (by omega) (fun y hy => ?_)
        by_cases e : y = i
        · subst e; rw [pk_us, if_neg h3]
        · rw [pk_un e]; exact hf y (by omega)
def gA (f : Nat → Int32) (E : Nat → Int32) (a m i : Nat) : Nat → Int32 := fun y => if y < i ∧ f y = 0 ∧ ¬ E (a * 40 + y) = 0 then nI (m + 1) else f y
theorem gA_1 {f E : Nat → Int32} {a m i : Nat} (h0 : f i = 0) (he : ¬ E (a * 40 + i) = 0) : upd (gA f E a m i) i (nI (m + 1)) = gA f E a m (i + 1) := by
  funext y
  by_cases e : y = i
  · subst e
    rw [pk_us]
    exact (if_pos ⟨by omega, h0, he⟩).symm
  · rw [pk_un e]
    unfold gA
    have e2 : (y < i + 1) ↔ (y < i) := by omega
    simp only [e2]
theorem gA_0 {f E : Nat → Int32} {a m i : Nat} (h : ¬ (f i = 0 ∧ ¬ E (a * 40 + i) = 0)) : gA f E a m i = gA f E a m (i + 1) := by
  funext y
  unfold gA
  by_cases e : y = i
  · subst e
    rw [if_neg (fun q => absurd q.1 (by omega)), if_neg (fun q => h q.2)]
  · have e2 : (y < i + 1) ↔ (y < i) := by omega
    simp only [e2]
theorem gA_at {f E : Nat → Int32} {a m i : Nat} : gA f E a m i i = f i := if_neg (fun q => absurd q.1 (by omega))
theorem gA_ne {f E : Nat → Int32} {a m i y : Nat} (h : ¬ f y = 0) : gA f E a m i y = f y := if_neg (fun q => h q.2.1)
theorem fw_sh78 (n m a : Nat) (F : Nat → Nat → Int32) (V : Nat → Int32) (K : Nat → (Nat → Nat → Int32) → (Nat → Int32) → Int32 × (Nat → Nat → Int32) × (Nat → Int32)) (f : Nat → Int32) (hn : n ≤ 40) (ha : a < n) (hm : 0 < m) (hm2 : m ≤ 40) (hfa : f a = nI m) : ∀ fu i, i ≤ n → n < i + fu → f_w_shortest_78 n m a fu i (va_up F 32 (gA f (F 31) a m i)) V K = K n (va_up F 32 (gA f (F 31) a m n)) V
  | 0, i, h1, h2 => by omega
  | fu + 1, i, h1, h2 => by
    rw [f_w_shortest_78]
    by_cases hi : n ≤ i
    · have e : i = n := by omega
      subst e
      rw [if_pos hi]
    · rw [if_neg hi]
      have ih := fw_sh78 n m a F V K f hn ha hm hm2 hfa fu (i + 1) (by omega) (by omega)
      simp only [bnd]
      rw [va_31, va_uu, va_up_self, cl hn hi, nI_clamp (show a < 2 ^ 31 by omega), nI_clamp (show a * 40 + i < 2 ^ 31 by omega), gA_at, gA_ne (y := a) (by rw [hfa]; exact nI_ne0 hm (by omega)), if_pos hfa]
      by_cases h3 : f i = 0
      · rw [if_pos h3]
        by_cases h4 : F 31 (a * 40 + i) = 0
        · rw [if_pos h4, gA_0 (fun q => q.2 h4)]
          exact ih
        · rw [if_neg h4, gA_1 h3 h4]
          exact ih
      · rw [if_neg h3, gA_0 (fun q => h3 q.1)]
        exact ih
theorem fw_sh78n (n m a : Nat) (F : Nat → Nat → Int32) (V : Nat → Int32) (K : Nat → (Nat → Nat → Int32) → (Nat → Int32) → Int32 × (Nat → Nat → Int32) × (Nat → Int32)) (f : Nat → Int32) (hn : n ≤ 40) (ha : a < n) (hfa : ¬ f a = nI m) (fu i : Nat) : f_w_shortest_78 n m a (fu + 1) i (va_up F 32 f) V K = K i (va_up F 32 f) V := by
  rw [f_w_shortest_78]
  by_cases hi : n ≤ i
  · rw [if_pos hi]
  · rw [if_neg hi]
    simp only [bnd]
    rw [va_up_self, nI_clamp (show a < 2 ^ 31 by omega), if_neg hfa]
def gP (f E : Nat → Int32) (m y : Nat) : Nat → Bool := fun a => decide (f a = nI m) && decide (¬ E (a * 40 + y) = 0)
def gB (f : Nat → Int32) (E : Nat → Int32) (n m a : Nat) : Nat → Int32 := fun y => if y < n ∧ f y = 0 ∧ anyN (gP f E m y) a = true then nI (m + 1) else f y
theorem gB_ne {f E : Nat → Int32} {n m a y : Nat} (h : ¬ f y = 0) : gB f E n m a y = f y := if_neg (fun q => h q.2.1)
theorem gB_m {f E : Nat → Int32} {n m a y : Nat} (hm : 0 < m) (hm2 : m ≤ 40) : gB f E n m a y = nI m ↔ f y = nI m := by
  by_cases h : f y = 0
  · have hne : ¬ f y = nI m := fun q => nI_ne0 hm (by omega) (q.symm.trans h)
    refine ⟨fun q => ?_, fun q => absurd q hne⟩
    unfold gB at q
    by_cases c : y < n ∧ f y = 0 ∧ anyN (gP f E m y) a = true
    · rw [if_pos c] at q
      have := (nI_eq (by omega) (by omega)).mp q
      omega
    · rw [if_neg c] at q; exact q
  · rw [gB_ne h]
theorem gB_0 {f E : Nat → Int32} {n m a : Nat} (h : ¬ f a = nI m) : gB f E n m a = gB f E n m (a + 1) := by
  funext y
  have e : gP f E m y a = false := by simp [gP, h]
  unfold gB
  rw [anyN_s, e, Bool.or_false]
theorem gB_1 {f E : Nat → Int32} {n m a : Nat} (hm2 : m ≤ 40) (h : f a = nI m) : gA (gB f E n m a) E a m n = gB f E n m (a + 1) := by
  funext y
  have e : gP f E m y a = decide (¬ E (a * 40 + y) = 0) := by simp [gP, h]
  have hz : ¬ nI (m + 1) = 0 := nI_ne0 (by omega) (by omega)
  unfold gA gB
  rw [anyN_s, e]
  by_cases c1 : y < n
  · by_cases c2 : f y = 0
    · cases c3 : anyN (gP f E m y) a
      · by_cases c4 : E (a * 40 + y) = 0
        · simp [c2, c4]
        · simp [c1, c2, c4]
      · simp [c1, c2, hz]
    · simp [c2]
  · simp [c1]
theorem fw_sh66 (n m : Nat) (F : Nat → Nat → Int32) (V : Nat → Int32) (K : Nat → (Nat → Nat → Int32) → (Nat → Int32) → Int32 × (Nat → Nat → Int32) × (Nat → Int32)) (f : Nat → Int32) (hn : n ≤ 40) (hm : 0 < m) (hm2 : m ≤ 40) : ∀ fu a, a ≤ n → n < a + fu → f_w_shortest_66 n m fu a (va_up F 32 (gB f (F 31) n m a)) V K = K n (va_up F 32 (gB f (F 31) n m n)) V
  | 0, i, h1, h2 => by omega
  | fu + 1, i, h1, h2 => by
    rw [f_w_shortest_66]
    by_cases hi : n ≤ i
    · have e : i = n := by omega
      subst e
      rw [if_pos hi]
    · rw [if_neg hi]
      have ih := fw_sh66 n m F V K f hn hm hm2 fu (i + 1) (by omega) (by omega)
      by_cases c : f i = nI m
      · have e0 := fw_sh78 n m i F V (fun _ F41 V42 => f_w_shortest_66 n m fu (i + 1) F41 V42 K) (gB f (F 31) n m i) hn (by omega) hm hm2 ((gB_m hm hm2).mpr c) (n + 1) 0 (by omega) (by omega)
        have e1 : gA (gB f (F 31) n m i) (F 31) i m 0 = gB f (F 31) n m i := by
          funext y
          exact if_neg (fun q => absurd q.1 (by omega))
        rw [e1, gB_1 hm2 c] at e0
        exact e0.trans ih
      · have e0 := fw_sh78n n m i F V (fun _ F41 V42 => f_w_shortest_66 n m fu (i + 1) F41 V42 K) (gB f (F 31) n m i) hn (by omega) (fun q => c ((gB_m hm hm2).mp q)) n 0
        rw [gB_0 c] at e0
        rw [gB_0 c]
        exact e0.trans ih
theorem BfA.one {G : Nat → Nat → Prop} {s j k y : Nat} (h : BfA G s j y) (h2 : BfA G s k y) : j = k := by
  rcases Nat.lt_trichotomy j k with c | c | c
  · exact absurd h.1 (h2.2 j c)
  · exact c
  · exact absurd h2.1 (h.2 k c)
theorem BfA.ex {G : Nat → Nat → Prop} {s j y : Nat} (h : Pth G (j + 1) s y) : ∃ i, i ≤ j ∧ BfA G s i y := by
  obtain ⟨m, hm, hmin⟩ := pk_least (fun j => Pth G (j + 1) s y) ⟨j, h⟩
  refine ⟨m, ?_, hm, fun i hi => hmin i hi⟩
  rcases Nat.lt_or_ge j m with c | c
  · exact absurd h (hmin j c)
  · exact c
def FarP (G : Nat → Nat → Prop) (n s m : Nat) (f : Nat → Int32) : Prop := ∀ y, y < n → (∀ j, j < m → BfA G s j y → f y = nI (j + 1)) ∧ ((∀ j, j < m → ¬ BfA G s j y) → f y = 0)
theorem FarP.next {n s m : Nat} {E f : Nat → Int32} (hn : n ≤ 40) (hm : 0 < m) (hm2 : m < n) (h : FarP (GE n E) n s m f) : FarP (GE n E) n s (m + 1) (gB f E n m n) := by
  have hval : ∀ a, a < n → (f a = nI m ↔ BfA (GE n E) s (m - 1) a) := by
    intro a ha
    constructor
    · intro q
      by_cases hex : ∃ j, j < m ∧ BfA (GE n E) s j a
      · obtain ⟨j, hj, hb⟩ := hex
        have e := (h a ha).1 j hj hb
        rw [q] at e
        have e2 := (nI_eq (by omega) (by omega)).mp e
        rw [show m - 1 = j by omega]
        exact hb
      · have e := (h a ha).2 (fun j hj hb => hex ⟨j, hj, hb⟩)
        rw [q] at e
        exact absurd e (nI_ne0 hm (by omega))
    · intro q
      have e := (h a ha).1 (m - 1) (by omega) q
      rw [show m - 1 + 1 = m by omega] at e
      exact e
  have hany : ∀ y, anyN (gP f E m y) n = true ↔ ∃ a, a < n ∧ BfA (GE n E) s (m - 1) a ∧ ¬ E (a * 40 + y) = 0 := by
    intro y
    rw [anyN_iff]
    constructor
    · rintro ⟨a, ha, q⟩
      simp only [gP, Bool.and_eq_true, decide_eq_true_eq] at q
      exact ⟨a, ha, (hval a ha).mp q.1, q.2⟩
    · rintro ⟨a, ha, q1, q2⟩
      refine ⟨a, ha, ?_⟩
      simp only [gP, Bool.and_eq_true, decide_eq_true_eq]
      exact ⟨(hval a ha).mpr q1, q2⟩
  intro y hy
  constructor
  · intro j hj hb
    rcases Nat.lt_or_ge j m with c | c
    · have e := (h y hy).1 j c hb
      rw [gB_ne (by rw [e]; exact nI_ne0 (by omega) (by omega))]
      exact e
    · have ej : j = m := by omega
      subst ej
      have hz : f y = 0 := (h y hy).2 (fun i hi q => hb.2 i hi q.1)
      obtain ⟨k, rfl⟩ : ∃ k, j = k + 1 := ⟨j - 1, by omega⟩
      obtain ⟨⟨z, hz1, hz2⟩, _⟩ := Bf_next.mp hb
      have ha := (hany y).mpr ⟨z, hz2.1, by rw [show k + 1 - 1 = k by omega]; exact hz1, hz2.2.2⟩
      exact if_pos ⟨hy, hz, ha⟩
  · intro hno
    have hz : f y = 0 := (h y hy).2 (fun i hi q => hno i (by omega) q)
    have : ¬ anyN (gP f E m y) n = true := by
      intro q
      obtain ⟨a, ha, h1, h2⟩ := (hany y).mp q
      obtain ⟨k, rfl⟩ : ∃ k, m = k + 1 := ⟨m - 1, by omega⟩
      rw [show k + 1 - 1 = k by omega] at h1
      refine hno (k + 1) (by omega) (Bf_next.mpr ⟨⟨a, h1, ha, hy, h2⟩, fun j hj p => ?_⟩)
      obtain ⟨i, hi, hb⟩ := BfA.ex p
      exact hno i (by omega) hb
    unfold gB
    rw [if_neg (fun q => this q.2.2)]
    exact hz
theorem fw_sh55 (n s : Nat) (F : Nat → Nat → Int32) (V : Nat → Int32) (K : Nat → (Nat → Nat → Int32) → (Nat → Int32) → Int32 × (Nat → Nat → Int32) × (Nat → Int32)) (hn : n ≤ 40) : ∀ fu m f, 0 < m → m ≤ n → n < m + fu → FarP (GE n (F 31)) n s m f → ∃ f2, f_w_shortest_55 n fu m (va_up F 32 f) V K = K n (va_up F 32 f2) V ∧ FarP (GE n (F 31)) n s n f2
  | 0, m, f, h0, h1, h2, _ => by omega
  | fu + 1, m, f, h0, h1, h2, hf => by
    rw [f_w_shortest_55]
    by_cases hi : n ≤ m
    · have e : m = n := by omega
      subst e
      rw [if_pos hi]
      exact ⟨f, rfl, hf⟩
    · rw [if_neg hi]
      have e0 := fw_sh66 n m F V (fun _ F34 V35 => f_w_shortest_55 n fu (m + 1) F34 V35 K) f hn h0 (by omega) (n + 1) 0 (by omega) (by omega)
      have e1 : gB f (F 31) n m 0 = f := by
        funext y
        exact if_neg (fun q => by have := q.2.2; cases this)
      rw [e1] at e0
      obtain ⟨f2, e2, h3⟩ := fw_sh55 n s F V K hn fu (m + 1) _ (by omega) (by omega) (by omega) (hf.next hn h0 (by omega))
      exact ⟨f2, e0.trans e2, h3⟩
theorem fw_short_lp (n : Nat) (F : Nat → Nat → Int32) (V : Nat → Int32) (hn : n ≤ 40) : ∀ fu i b f, i ≤ n → n < i + fu → b ≤ 40 → SRi (GE n (F 31)) i b → ∃ r f2, f_w_shortest_4 n fu i (nI b) (va_up F 32 f) V (fun _ y F5 V6 => (y, F5, V6)) = (nI r, va_up F 32 f2, V) ∧ r ≤ 40 ∧ SRi (GE n (F 31)) n r
  | 0, i, b, f, h1, h2, _, _ => by omega
  | fu + 1, i, b, f, h1, h2, hb, hI => by
    rw [f_w_shortest_4]
    by_cases hi : n ≤ i
    · have e : i = n := by omega
      subst e
      rw [if_pos hi]
      exact ⟨b, f, rfl, hb, hI⟩
    · rw [if_neg hi]
      have ih := fun b2 f2 => fw_short_lp n F V hn fu (i + 1) b2 f2 (by omega) (by omega)
      obtain ⟨f2, e2, h3⟩ := fw_sh14 n i F V (fun _ F13 V14 => f_w_shortest_55 n (n + 1) (1 : Nat) F13 V14 (fun _ F20 V21 => bnd (F20 32 (nI i).toNatClampNeg) (fun (x23 : Int32) => if x23 ≤ (0 : Int32) then (f_w_shortest_4 n fu (i + 1) (nI b) F20 V21 (fun _ y F5 V6 => (y, F5, V6))) else (if nI b = (0 : Int32) then (f_w_shortest_4 n fu (i + 1) x23 F20 V21 (fun _ y F5 V6 => (y, F5, V6))) else (if nI b ≤ x23 then (f_w_shortest_4 n fu (i + 1) (nI b) F20 V21 (fun _ y F5 V6 => (y, F5, V6))) else (f_w_shortest_4 n fu (i + 1) x23 F20 V21 (fun _ y F5 V6 => (y, F5, V6)))))))) hn (by omega) (n + 1) 0 f (by omega) (by omega) (fun y hy => absurd hy (by omega))
      have hF1 : FarP (GE n (F 31)) n i 1 f2 := by
        intro y hy
        have hG : BfA (GE n (F 31)) i 0 y ↔ ¬ F 31 (i * 40 + y) = 0 := by
          constructor
          · rintro ⟨⟨z, hz, hg⟩, _⟩
            have e : i = z := hz
            subst e
            exact hg.2.2
          · intro q
            exact ⟨⟨i, rfl, by omega, hy, q⟩, fun j hj => absurd hj (by omega)⟩
        constructor
        · intro j hj hb2
          have e : j = 0 := by omega
          subst e
          rw [h3 y hy, if_neg (hG.mp hb2)]
          rfl
        · intro q
          rw [h3 y hy]
          by_cases c : F 31 (i * 40 + y) = 0
          · rw [if_pos c]
          · exact absurd (hG.mpr c) (q 0 (by omega))
      obtain ⟨f3, e3, h4⟩ := fw_sh55 n i F V (fun _ F20 V21 => bnd (F20 32 (nI i).toNatClampNeg) (fun (x23 : Int32) => if x23 ≤ (0 : Int32) then (f_w_shortest_4 n fu (i + 1) (nI b) F20 V21 (fun _ y F5 V6 => (y, F5, V6))) else (if nI b = (0 : Int32) then (f_w_shortest_4 n fu (i + 1) x23 F20 V21 (fun _ y F5 V6 => (y, F5, V6))) else (if nI b ≤ x23 then (f_w_shortest_4 n fu (i + 1) (nI b) F20 V21 (fun _ y F5 V6 => (y, F5, V6))) else (f_w_shortest_4 n fu (i + 1) x23 F20 V21 (fun _ y F5 V6 => (y, F5, V6))))))) hn (n + 1) 1 f2 (by omega) (by omega) (by omega) hF1
      have eq0 := e2.trans e3
      have hR : RT (GE n (F 31)) i (f3 i) := by
        by_cases hex : ∃ j, j < n ∧ BfA (GE n (F 31)) i j i
        · obtain ⟨j, hj, hb2⟩ := hex
          exact Or.inr ⟨j, by omega, (h4 i (by omega)).1 j hj hb2, hb2.1, hb2.2⟩
        · refine Or.inl ⟨(h4 i (by omega)).2 (fun j hj q => hex ⟨j, hj, q⟩), fun j q => ?_⟩
          obtain ⟨k, hk, hb2⟩ := BfA.ex q
          exact hex ⟨k, Pth.short (fun x y hg => hg.2.1) hb2.1 hb2.2, hb2⟩
      have keep : (∀ j, ¬ Pth (GE n (F 31)) (j + 1) i i) ∨ (0 < b ∧ ∀ j, j + 1 < b → ¬ Pth (GE n (F 31)) (j + 1) i i) → SRi (GE n (F 31)) (i + 1) b := by
        intro hk
        rcases hI with ⟨e, h⟩ | ⟨e, hx, h⟩
        · left
          refine ⟨e, fun x j hx q => ?_⟩
          by_cases c : x = i
          · subst c
            rcases hk with hk | ⟨hk, _⟩
            · exact hk j q
            · omega
          · exact h x j (by omega) q
        · right
          refine ⟨e, hx, fun x j hx hj q => ?_⟩
          by_cases c : x = i
          · subst c
            rcases hk with hk | ⟨_, hk⟩
            · exact hk j q
            · exact hk j hj q
          · exact h x j (by omega) hj q
      refine (fun (g : ∃ r f9, bnd (va_up F 32 f3 32 (nI i).toNatClampNeg) (fun (x23 : Int32) => if x23 ≤ (0 : Int32) then (f_w_shortest_4 n fu (i + 1) (nI b) (va_up F 32 f3) V (fun _ y F5 V6 => (y, F5, V6))) else (if nI b = (0 : Int32) then (f_w_shortest_4 n fu (i + 1) x23 (va_up F 32 f3) V (fun _ y F5 V6 => (y, F5, V6))) else (if nI b ≤ x23 then (f_w_shortest_4 n fu (i + 1) (nI b) (va_up F 32 f3) V (fun _ y F5 V6 => (y, F5, V6))) else (f_w_shortest_4 n fu (i + 1) x23 (va_up F 32 f3) V (fun _ y F5 V6 => (y, F5, V6)))))) = (nI r, va_up F 32 f9, V) ∧ r ≤ 40 ∧ SRi (GE n (F 31)) n r) => by obtain ⟨r, f9, e9, h9⟩ := g; exact ⟨r, f9, eq0.trans e9, h9⟩) ?_
      simp only [bnd]
      rw [va_up_self, cl hn hi]
      rcases hR with ⟨ev, hv⟩ | ⟨m, hm, ev, hv, hmin⟩
      · rw [ev, if_pos (by decide)]
        exact ih b f3 hb (keep (Or.inl hv))
      · rw [ev, if_neg (nI_nle (by omega) (by omega))]
        have new : (b = 0 ∨ m + 1 ≤ b) → SRi (GE n (F 31)) (i + 1) (m + 1) := by
          intro hnn
          right
          refine ⟨by omega, ⟨i, hv⟩, fun x j hx hj q => ?_⟩
          by_cases c : x = i
          · subst c; exact hmin j (by omega) q
          · rcases hI with ⟨e, h⟩ | ⟨e, hx2, h⟩
            · exact h x j (by omega) q
            · exact h x j (by omega) (by omega) q
        by_cases h0 : nI b = 0
        · have e0 : b = 0 := (nI_eq (a := b) (b := 0) (by omega) (by omega)).mp h0
          rw [if_pos h0]
          exact ih (m + 1) f3 (by omega) (new (Or.inl e0))
        · rw [if_neg h0]
          have hb0 : 0 < b := by
            rcases Nat.eq_zero_or_pos b with c | c
            · subst c; exact absurd rfl h0
            · exact c
          by_cases hle : nI b ≤ nI (m + 1)
          · have hle2 : b ≤ m + 1 := (nI_leI (by omega) (by omega)).mp hle
            rw [if_pos hle]
            exact ih b f3 hb (keep (Or.inr ⟨hb0, fun j hj q => hmin j (by omega) q⟩))
          · rw [if_neg hle]
            have hle2 : ¬ b ≤ m + 1 := fun q => hle ((nI_leI (by omega) (by omega)).mpr q)
            exact ih (m + 1) f3 (by omega) (new (Or.inr (by omega)))
theorem fw_shortest (n : Nat) (F : Nat → Nat → Int32) (V : Nat → Int32) (hn : n ≤ 40) : ∃ r f2, f_w_shortest n F V = (nI r, va_up F 32 f2, V) ∧ r ≤ 40 ∧ SR (GE n (F 31)) r := by
  obtain ⟨r, f2, e, hr, h⟩ := fw_short_lp n F V hn (n + 1) 0 0 (F 32) (by omega) (by omega) (by omega) (Or.inl ⟨rfl, fun x j hx => absurd hx (by omega)⟩)
  rw [va_id] at e
  refine ⟨r, f2, e, hr, ?_⟩
  have hlt : ∀ {m x : Nat}, Pth (GE n (F 31)) (m + 1) x x → x < n := by
    rintro m x ⟨z, _, hg⟩
    exact hg.2.1
  rcases h with ⟨e0, h⟩ | ⟨e0, hx, h⟩
  · left
    refine ⟨e0, fun k x hk q => ?_⟩
    obtain ⟨m, rfl⟩ : ∃ m, k = m + 1 := ⟨k - 1, by omega⟩
    exact h x m (hlt q) q
  · right
    refine ⟨e0, hx, fun k x hk hl q => ?_⟩
    obtain ⟨m, rfl⟩ : ∃ m, k = m + 1 := ⟨k - 1, by omega⟩
    exact h x m (hlt q) hl q

end
section
def er27 (F : Nat → Nat → Int32) (a b : Nat) : Bool := decide (¬ F 27 a = 0) && decide (¬ F 27 b = 0) && decide (¬ F 7 a = 2) && decide (¬ F 7 b = 2) && (HS F 0 a b || HS F 2 a b)
theorem fw_memberRing_member_12 (n a : Nat) (F : Nat → Nat → Int32) (V : Nat → Int32) (K : Nat → (Nat → Nat → Int32) → (Nat → Int32) → Int32 × (Nat → Nat → Int32) × (Nat → Int32)) (hn : n ≤ 40) (ha : a < 40) : ∀ fu i g, i ≤ n → n < i + fu → (∀ y, y < i → g (a * 40 + y) = fl (er27 F a y)) → (∀ x, x < a → ∀ y, y < n → g (x * 40 + y) = fl (er27 F x y)) → ∃ g2, f_w_memberRing_member_12 n a fu i (va_up F 31 g) V K = K n (va_up F 31 g2) V ∧ (∀ y, y < n → g2 (a * 40 + y) = fl (er27 F a y)) ∧ (∀ x, x < a → ∀ y, y < n → g2 (x * 40 + y) = fl (er27 F x y))
  | 0, i, g, h1, h2, _, _ => by omega
  | fu + 1, i, g, h1, h2, hg, hg2 => by
    rw [f_w_memberRing_member_12]
    by_cases hi : n ≤ i
    · have e : i = n := by omega
      subst e
      rw [if_pos hi]
      exact ⟨g, rfl, hg, hg2⟩
    · rw [if_neg hi]
      have st : ∀ v : Int32, v = fl (er27 F a i) → ∃ g2, f_w_memberRing_member_12 n a fu (i + 1) (va_up F 31 (upd g (a * 40 + i) v)) V K = K n (va_up F 31 g2) V ∧ (∀ y, y < n → g2 (a * 40 + y) = fl (er27 F a y)) ∧ (∀ x, x < a → ∀ y, y < n → g2 (x * 40 + y) = fl (er27 F x y)) := by
        intro v hv
        refine fw_memberRing_member_12 n a F V K hn ha fu (i + 1) _ (by omega) (by omega) (fun y hy => ?_) (fun x hx y hy => ?_)
        · by_cases e : y = i
          · subst e; rw [pk_us]; exact hv
          · rw [pk_un (by omega)]; exact hg y (by omega)
        · rw [pk_un (by omega)]; exact hg2 x hx y hy
      simp only [bnd]
      rw [show va_up F 31 g 27 = F 27 from va_up_ne F g (by decide), show va_up F 31 g 7 = F 7 from va_up_ne F g (by decide), fw_has n _ (by omega) ha (by omega), fw_has n _ (by omega) ha (by omega), show va_up F 31 g 19 = F 19 from va_up_ne F g (by decide), cl hn hi, nI_clamp (show a < 2 ^ 31 by omega), nI_clamp (show a * 40 + i < 2 ^ 31 by omega), va_up_self, va_uu, va_uu, nb0, nb1]
      by_cases h3 : F 27 a = 0
      · rw [if_pos h3]
        exact st 0 (by rw [show er27 F a i = false by simp [er27, h3]]; rfl)
      · rw [if_neg h3]
        by_cases h4 : F 27 i = 0
        · rw [if_pos h4]
          exact st 0 (by rw [show er27 F a i = false by simp [er27, h4]]; rfl)
        · rw [if_neg h4]
          by_cases h5 : F 7 a = 2
          · rw [if_pos h5]
            exact st 0 (by rw [show er27 F a i = false by simp [er27, h5]]; rfl)
          · rw [if_neg h5]
            by_cases h6 : F 7 i = 2
            · rw [if_pos h6]
              exact st 0 (by rw [show er27 F a i = false by simp [er27, h6]]; rfl)
            · rw [if_neg h6]
              by_cases h7 : F 19 (ix 0 a i) = 0
              · rw [if_pos h7]
                by_cases h8 : F 19 (ix 2 a i) = 0
                · rw [if_pos h8]
                  exact st 0 (by rw [show er27 F a i = false by simp [er27, HS, h7, h8]]; rfl)
                · rw [if_neg h8]
                  exact st 1 (by rw [show er27 F a i = true by simp [er27, HS, h3, h4, h5, h6, h8]]; rfl)
              · rw [if_neg h7]
                exact st 1 (by rw [show er27 F a i = true by simp [er27, HS, h3, h4, h5, h6, h7]]; rfl)
theorem fw_memberRing_member_2 (n : Nat) (F : Nat → Nat → Int32) (V : Nat → Int32) (K : Nat → (Nat → Nat → Int32) → (Nat → Int32) → Int32 × (Nat → Nat → Int32) × (Nat → Int32)) (hn : n ≤ 40) : ∀ fu i g, i ≤ n → n < i + fu → (∀ x, x < i → ∀ y, y < n → g (x * 40 + y) = fl (er27 F x y)) → ∃ g2, f_w_memberRing_member_2 n fu i (va_up F 31 g) V K = K n (va_up F 31 g2) V ∧ (∀ x, x < n → ∀ y, y < n → g2 (x * 40 + y) = fl (er27 F x y))
  | 0, i, g, h1, h2, _ => by omega
  | fu + 1, i, g, h1, h2, hg => by
    rw [f_w_memberRing_member_2]
    by_cases hi : n ≤ i
    · have e : i = n := by omega
      subst e
      rw [if_pos hi]
      exact ⟨g, rfl, hg⟩
    · rw [if_neg hi]
      obtain ⟨g2, e2, h3, h4⟩ := fw_memberRing_member_12 n i F V (fun _ F15 V16 => f_w_memberRing_member_2 n fu (i + 1) F15 V16 K) hn (by omega) (n + 1) 0 g (by omega) (by omega) (fun y hy => absurd hy (by omega)) hg
      obtain ⟨g3, e3, h5⟩ := fw_memberRing_member_2 n F V K hn fu (i + 1) g2 (by omega) (by omega) (fun x hx y hy => by
        by_cases e : x = i
        · subst e; exact h3 y hy
        · exact h4 x (by omega) y hy)
      exact ⟨g3, e2.trans e3, h5⟩
theorem fw_memberRing_member (n : Nat) (F : Nat → Nat → Int32) (V : Nat → Int32) (hn : n ≤ 40) : ∃ r F2, f_w_memberRing_member n F V = (nI r, F2, V) ∧ r ≤ 40 ∧ Ag [31, 32] F F2 ∧ SR (fun x y => x < n ∧ y < n ∧ er27 F x y = true) r := by
  obtain ⟨g, e, hg⟩ := fw_memberRing_member_2 n F V (fun (i1 : Nat) (F5 : Nat → Nat → Int32) (V6 : Nat → Int32) => bn3 (f_w_shortest n F5 V6) (fun (r8 : Int32) (F9 : Nat → Nat → Int32) (V10 : Nat → Int32) => (r8, F9, V10))) hn (n + 1) 0 (F 31) (by omega) (by omega) (fun x hx => absurd hx (by omega))
  rw [va_id] at e
  obtain ⟨r, f2, e2, hr, hS⟩ := fw_shortest n (va_up F 31 g) V hn
  refine ⟨r, _, e.trans ?_, hr, (Ag.up (k := 31) (g := g) (by decide)).tr (Ag.up (k := 32) (g := f2) (by decide)), ?_⟩
  · simp only [bn3]
    rw [e2]
  · rw [va_up_self] at hS
    have hq : ∀ x y, GE n g x y ↔ (x < n ∧ y < n ∧ er27 F x y = true) := by
      intro x y
      constructor
      · rintro ⟨h1, h2, h3⟩
        rw [hg x h1 y h2] at h3
        exact ⟨h1, h2, fl_n0.mp h3⟩
      · rintro ⟨h1, h2, h3⟩
        refine ⟨h1, h2, ?_⟩
        rw [hg x h1 y h2, h3]
        decide
    exact SR.iff (fun k x _ => ⟨Pth.mono (fun a b h => (hq a b).mp h), Pth.mono (fun a b h => (hq a b).mpr h)⟩) hS
def er28 (F : Nat → Nat → Int32) (a b : Nat) : Bool := decide (¬ F 28 a = 0) && decide (¬ F 28 b = 0) && decide (¬ F 7 a = 2) && decide (¬ F 7 b = 2) && (HS F 0 a b || HS F 2 a b)
theorem fw_memberRing_more_12 (n a : Nat) (F : Nat → Nat → Int32) (V : Nat → Int32) (K : Nat → (Nat → Nat → Int32) → (Nat → Int32) → Int32 × (Nat → Nat → Int32) × (Nat → Int32)) (hn : n ≤ 40) (ha : a < 40) : ∀ fu i g, i ≤ n → n < i + fu → (∀ y, y < i → g (a * 40 + y) = fl (er28 F a y)) → (∀ x, x < a → ∀ y, y < n → g (x * 40 + y) = fl (er28 F x y)) → ∃ g2, f_w_memberRing_more_12 n a fu i (va_up F 31 g) V K = K n (va_up F 31 g2) V ∧ (∀ y, y < n → g2 (a * 40 + y) = fl (er28 F a y)) ∧ (∀ x, x < a → ∀ y, y < n → g2 (x * 40 + y) = fl (er28 F x y))
  | 0, i, g, h1, h2, _, _ => by omega
  | fu + 1, i, g, h1, h2, hg, hg2 => by
    rw [f_w_memberRing_more_12]
    by_cases hi : n ≤ i
    · have e : i = n := by omega
      subst e
      rw [if_pos hi]
      exact ⟨g, rfl, hg, hg2⟩
    · rw [if_neg hi]
      have st : ∀ v : Int32, v = fl (er28 F a i) → ∃ g2, f_w_memberRing_more_12 n a fu (i + 1) (va_up F 31 (upd g (a * 40 + i) v)) V K = K n (va_up F 31 g2) V ∧ (∀ y, y < n → g2 (a * 40 + y) = fl (er28 F a y)) ∧ (∀ x, x < a → ∀ y, y < n → g2 (x * 40 + y) = fl (er28 F x y)) := by
        intro v hv
        refine fw_memberRing_more_12 n a F V K hn ha fu (i + 1) _ (by omega) (by omega) (fun y hy => ?_) (fun x hx y hy => ?_)
        · by_cases e : y = i
          · subst e; rw [pk_us]; exact hv
          · rw [pk_un (by omega)]; exact hg y (by omega)
        · rw [pk_un (by omega)]; exact hg2 x hx y hy
      simp only [bnd]
      rw [show va_up F 31 g 28 = F 28 from va_up_ne F g (by decide), show va_up F 31 g 7 = F 7 from va_up_ne F g (by decide), fw_has n _ (by omega) ha (by omega), fw_has n _ (by omega) ha (by omega), show va_up F 31 g 19 = F 19 from va_up_ne F g (by decide), cl hn hi, nI_clamp (show a < 2 ^ 31 by omega), nI_clamp (show a * 40 + i < 2 ^ 31 by omega), va_up_self, va_uu, va_uu, nb0, nb1]
      by_cases h3 : F 28 a = 0
      · rw [if_pos h3]
        exact st 0 (by rw [show er28 F a i = false by simp [er28, h3]]; rfl)
      · rw [if_neg h3]
        by_cases h4 : F 28 i = 0
        · rw [if_pos h4]
          exact st 0 (by rw [show er28 F a i = false by simp [er28, h4]]; rfl)
        · rw [if_neg h4]
          by_cases h5 : F 7 a = 2
          · rw [if_pos h5]
            exact st 0 (by rw [show er28 F a i = false by simp [er28, h5]]; rfl)
          · rw [if_neg h5]
            by_cases h6 : F 7 i = 2
            · rw [if_pos h6]
              exact st 0 (by rw [show er28 F a i = false by simp [er28, h6]]; rfl)
            · rw [if_neg h6]
              by_cases h7 : F 19 (ix 0 a i) = 0
              · rw [if_pos h7]
                by_cases h8 : F 19 (ix 2 a i) = 0
                · rw [if_pos h8]
                  exact st 0 (by rw [show er28 F a i = false by simp [er28, HS, h7, h8]]; rfl)
                · rw [if_neg h8]
                  exact st 1 (by rw [show er28 F a i = true by simp [er28, HS, h3, h4, h5, h6, h8]]; rfl)
              · rw [if_neg h7]
                exact st 1 (by rw [show er28 F a i = true by simp [er28, HS, h3, h4, h5, h6, h7]]; rfl)
theorem fw_memberRing_more_2 (n : Nat) (F : Nat → Nat → Int32) (V : Nat → Int32) (K : Nat → (Nat → Nat → Int32) → (Nat → Int32) → Int32 × (Nat → Nat → Int32) × (Nat → Int32)) (hn : n ≤ 40) : ∀ fu i g, i ≤ n → n < i + fu → (∀ x, x < i → ∀ y, y < n → g (x * 40 + y) = fl (er28 F x y)) → ∃ g2, f_w_memberRing_more_2 n fu i (va_up F 31 g) V K = K n (va_up F 31 g2) V ∧ (∀ x, x < n → ∀ y, y < n → g2 (x * 40 + y) = fl (er28 F x y))
  | 0, i, g, h1, h2, _ => by omega
  | fu + 1, i, g, h1, h2, hg => by
    rw [f_w_memberRing_more_2]
    by_cases hi : n ≤ i
    · have e : i = n := by omega
      subst e
      rw [if_pos hi]
      exact ⟨g, rfl, hg⟩
    · rw [if_neg hi]
      obtain ⟨g2, e2, h3, h4⟩ := fw_memberRing_more_12 n i F V (fun _ F15 V16 => f_w_memberRing_more_2 n fu (i + 1) F15 V16 K) hn (by omega) (n + 1) 0 g (by omega) (by omega) (fun y hy => absurd hy (by omega)) hg
      obtain ⟨g3, e3, h5⟩ := fw_memberRing_more_2 n F V K hn fu (i + 1) g2 (by omega) (by omega) (fun x hx y hy => by
        by_cases e : x = i
        · subst e; exact h3 y hy
        · exact h4 x (by omega) y hy)
      exact ⟨g3, e2.trans e3, h5⟩
theorem fw_memberRing_more (n : Nat) (F : Nat → Nat → Int32) (V : Nat → Int32) (hn : n ≤ 40) : ∃ r F2, f_w_memberRing_more n F V = (nI r, F2, V) ∧ r ≤ 40 ∧ Ag [31, 32] F F2 ∧ SR (fun x y => x < n ∧ y < n ∧ er28 F x y = true) r := by
  obtain ⟨g, e, hg⟩ := fw_memberRing_more_2 n F V (fun (i1 : Nat) (F5 : Nat → Nat → Int32) (V6 : Nat → Int32) => bn3 (f_w_shortest n F5 V6) (fun (r8 : Int32) (F9 : Nat → Nat → Int32) (V10 : Nat → Int32) => (r8, F9, V10))) hn (n + 1) 0 (F 31) (by omega) (by omega) (fun x hx => absurd hx (by omega))
  rw [va_id] at e
  obtain ⟨r, f2, e2, hr, hS⟩ := fw_shortest n (va_up F 31 g) V hn
  refine ⟨r, _, e.trans ?_, hr, (Ag.up (k := 31) (g := g) (by decide)).tr (Ag.up (k := 32) (g := f2) (by decide)), ?_⟩
  · simp only [bn3]
    rw [e2]
  · rw [va_up_self] at hS
    have hq : ∀ x y, GE n g x y ↔ (x < n ∧ y < n ∧ er28 F x y = true) := by
      intro x y
      constructor
      · rintro ⟨h1, h2, h3⟩
        rw [hg x h1 y h2] at h3
        exact ⟨h1, h2, fl_n0.mp h3⟩
      · rintro ⟨h1, h2, h3⟩
        refine ⟨h1, h2, ?_⟩
        rw [hg x h1 y h2, h3]
        decide
    exact SR.iff (fun k x _ => ⟨Pth.mono (fun a b h => (hq a b).mp h), Pth.mono (fun a b h => (hq a b).mpr h)⟩) hS
def er30 (F : Nat → Nat → Int32) (a b : Nat) : Bool := waB (F 30) F a b
theorem fw_jobRing_12 (n a : Nat) (F : Nat → Nat → Int32) (V : Nat → Int32) (K : Nat → (Nat → Nat → Int32) → (Nat → Int32) → Int32 × (Nat → Nat → Int32) × (Nat → Int32)) (h01 : ∀ j, F 19 j = 0 ∨ F 19 j = 1) (hn : n ≤ 40) (ha : a < 40) : ∀ fu i g, i ≤ n → n < i + fu → (∀ y, y < i → g (a * 40 + y) = fl (er30 F a y)) → (∀ x, x < a → ∀ y, y < n → g (x * 40 + y) = fl (er30 F x y)) → ∃ g2, f_w_jobRing_12 n a fu i (va_up F 31 g) V K = K n (va_up F 31 g2) V ∧ (∀ y, y < n → g2 (a * 40 + y) = fl (er30 F a y)) ∧ (∀ x, x < a → ∀ y, y < n → g2 (x * 40 + y) = fl (er30 F x y))
  | 0, i, g, h1, h2, _, _ => by omega
  | fu + 1, i, g, h1, h2, hg, hg2 => by
    rw [f_w_jobRing_12]
    by_cases hi : n ≤ i
    · have e : i = n := by omega
      subst e
      rw [if_pos hi]
      exact ⟨g, rfl, hg, hg2⟩
    · rw [if_neg hi]
      have st : ∀ v : Int32, v = fl (er30 F a i) → ∃ g2, f_w_jobRing_12 n a fu (i + 1) (va_up F 31 (upd g (a * 40 + i) v)) V K = K n (va_up F 31 g2) V ∧ (∀ y, y < n → g2 (a * 40 + y) = fl (er30 F a y)) ∧ (∀ x, x < a → ∀ y, y < n → g2 (x * 40 + y) = fl (er30 F x y)) := by
        intro v hv
        refine fw_jobRing_12 n a F V K h01 hn ha fu (i + 1) _ (by omega) (by omega) (fun y hy => ?_) (fun x hx y hy => ?_)
        · by_cases e : y = i
          · subst e; rw [pk_us]; exact hv
          · rw [pk_un (by omega)]; exact hg y (by omega)
        · rw [pk_un (by omega)]; exact hg2 x hx y hy
      simp only [bnd]
      have h019 : ∀ j, va_up F 31 g 19 j = 0 ∨ va_up F 31 g 19 j = 1 := by rw [show va_up F 31 g 19 = F 19 from va_up_ne F g (by decide)]; exact h01
      rw [fw_waitsAmong_newJob n _ h019 ha (by omega), fl_nb, va_up_self, va_uu, nI_clamp (show a * 40 + i < 2 ^ 31 by omega)]
      refine st _ ?_
      have e1 : HS (va_up F 31 g) = HS F := by
        funext h9 a9 b9
        unfold HS
        rw [show va_up F 31 g 19 = F 19 from va_up_ne F g (by decide)]
      unfold er30 waB
      rw [e1, show va_up F 31 g 30 = F 30 from va_up_ne F g (by decide)]
theorem fw_jobRing_2 (n : Nat) (F : Nat → Nat → Int32) (V : Nat → Int32) (K : Nat → (Nat → Nat → Int32) → (Nat → Int32) → Int32 × (Nat → Nat → Int32) × (Nat → Int32)) (h01 : ∀ j, F 19 j = 0 ∨ F 19 j = 1) (hn : n ≤ 40) : ∀ fu i g, i ≤ n → n < i + fu → (∀ x, x < i → ∀ y, y < n → g (x * 40 + y) = fl (er30 F x y)) → ∃ g2, f_w_jobRing_2 n fu i (va_up F 31 g) V K = K n (va_up F 31 g2) V ∧ (∀ x, x < n → ∀ y, y < n → g2 (x * 40 + y) = fl (er30 F x y))
  | 0, i, g, h1, h2, _ => by omega
  | fu + 1, i, g, h1, h2, hg => by
    rw [f_w_jobRing_2]
    by_cases hi : n ≤ i
    · have e : i = n := by omega
      subst e
      rw [if_pos hi]
      exact ⟨g, rfl, hg⟩
    · rw [if_neg hi]
      obtain ⟨g2, e2, h3, h4⟩ := fw_jobRing_12 n i F V (fun _ F15 V16 => f_w_jobRing_2 n fu (i + 1) F15 V16 K) h01 hn (by omega) (n + 1) 0 g (by omega) (by omega) (fun y hy => absurd hy (by omega)) hg
      obtain ⟨g3, e3, h5⟩ := fw_jobRing_2 n F V K h01 hn fu (i + 1) g2 (by omega) (by omega) (fun x hx y hy => by
        by_cases e : x = i
        · subst e; exact h3 y hy
        · exact h4 x (by omega) y hy)
      exact ⟨g3, e2.trans e3, h5⟩
theorem fw_jobRing (n : Nat) (F : Nat → Nat → Int32) (V : Nat → Int32) (h01 : ∀ j, F 19 j = 0 ∨ F 19 j = 1) (hn : n ≤ 40) : ∃ r F2, f_w_jobRing n F V = (nI r, F2, V) ∧ r ≤ 40 ∧ Ag [31, 32] F F2 ∧ SR (fun x y => x < n ∧ y < n ∧ er30 F x y = true) r := by
  obtain ⟨g, e, hg⟩ := fw_jobRing_2 n F V (fun (i1 : Nat) (F5 : Nat → Nat → Int32) (V6 : Nat → Int32) => bn3 (f_w_shortest n F5 V6) (fun (r8 : Int32) (F9 : Nat → Nat → Int32) (V10 : Nat → Int32) => (r8, F9, V10))) h01 hn (n + 1) 0 (F 31) (by omega) (by omega) (fun x hx => absurd hx (by omega))
  rw [va_id] at e
  obtain ⟨r, f2, e2, hr, hS⟩ := fw_shortest n (va_up F 31 g) V hn
  refine ⟨r, _, e.trans ?_, hr, (Ag.up (k := 31) (g := g) (by decide)).tr (Ag.up (k := 32) (g := f2) (by decide)), ?_⟩
  · simp only [bn3]
    rw [e2]
  · rw [va_up_self] at hS
    have hq : ∀ x y, GE n g x y ↔ (x < n ∧ y < n ∧ er30 F x y = true) := by
      intro x y
      constructor
      · rintro ⟨h1, h2, h3⟩
        rw [hg x h1 y h2] at h3
        exact ⟨h1, h2, fl_n0.mp h3⟩
      · rintro ⟨h1, h2, h3⟩
        refine ⟨h1, h2, ?_⟩
        rw [hg x h1 y h2, h3]
        decide
    exact SR.iff (fun k x _ => ⟨Pth.mono (fun a b h => (hq a b).mp h), Pth.mono (fun a b h => (hq a b).mpr h)⟩) hS

end
section
def nE (n : Nat) (F : Nat → Nat → Int32) (a b : Nat) : Prop := a < n ∧ b < n ∧ HS F 0 a b = true
def okP (F : Nat → Nat → Int32) (f : Nat → Int32) (a b : Nat) : Prop := f a = 0 ∨ ¬ f b = 0 ∨ HS F 0 a b = false
def PI (n : Nat) (F : Nat → Nat → Int32) (S : Nat → Prop) (f0 f : Nat → Int32) (c : Bool) : Prop := (∀ z, z < n → ¬ f0 z = 0 → ¬ f z = 0) ∧ (∀ z, z < n → ¬ f z = 0 → Clo (nE n F) S z) ∧ (c = false → ∀ z, z < n → f z = f0 z) ∧ (c = true → ∃ z, z < n ∧ f0 z = 0 ∧ ¬ f z = 0) ∧ (∀ z, f z = f0 z ∨ f z = 1)
theorem closed_Clo {n : Nat} {F : Nat → Nat → Int32} {S : Nat → Prop} {f : Nat → Int32} (hS : ∀ z, S z → z < n) (h2 : ∀ z, z < n → S z → ¬ f z = 0) (h4 : ∀ a, a < n → ∀ b, b < n → okP F f a b) {z : Nat} (h : Clo (nE n F) S z) : ¬ f z = 0 := by
  refine (Clo.least (T := fun z => z < n ∧ ¬ f z = 0) (fun y hy => ⟨hS y hy, h2 y (hS y hy) hy⟩) (fun y z hy he => ⟨he.2.1, ?_⟩) h).2
  rcases h4 y hy.1 z he.2.1 with q | q | q
  · exact absurd q hy.2
  · exact q
  · rw [he.2.2] at q; cases q
theorem fw_addNeeds_member_21 (n a : Nat) (F : Nat → Nat → Int32) (V : Nat → Int32) (K : Nat → Int32 → (Nat → Nat → Int32) → (Nat → Int32) → (Nat → Nat → Int32) × (Nat → Int32)) (S : Nat → Prop) (f0 : Nat → Int32) (hn : n ≤ 40) (ha : a < n) : ∀ fu i c f, i ≤ n → n < i + fu → PI n F S f0 f c → (c = false → ∀ b, b < i → okP F f0 a b) → ∃ c2 f2, f_w_addNeeds_member_21 n a fu i (fl c) (va_up F 27 f) V K = K n (fl c2) (va_up F 27 f2) V ∧ PI n F S f0 f2 c2 ∧ (c2 = false → c = false ∧ ∀ b, b < n → okP F f0 a b)
  | 0, i, c, f, h1, h2, _, _ => by omega
  | fu + 1, i, c, f, h1, h2, hP, hk => by
    rw [f_w_addNeeds_member_21]
    by_cases hi : n ≤ i
    · have e : i = n := by omega
      subst e
      rw [if_pos hi]
      exact ⟨c, f, rfl, hP, fun h => ⟨h, hk h⟩⟩
    · rw [if_neg hi]
      have skip : (c = false → okP F f0 a i) → ∃ c2 f2, f_w_addNeeds_member_21 n a fu (i + 1) (fl c) (va_up F 27 f) V K = K n (fl c2) (va_up F 27 f2) V ∧ PI n F S f0 f2 c2 ∧ (c2 = false → c = false ∧ ∀ b, b < n → okP F f0 a b) := by
        intro hok
        refine fw_addNeeds_member_21 n a F V K S f0 hn ha fu (i + 1) c f (by omega) (by omega) hP (fun h b hb => ?_)
        by_cases e : b = i
        · subst e; exact hok h
        · exact hk h b (by omega)
      simp only [bnd]
      rw [va_up_self, fw_has n _ (by omega) (by omega) (by omega), show va_up F 27 f 19 = F 19 from va_up_ne F f (by decide), cl hn hi, nI_clamp (show a < 2 ^ 31 by omega), va_uu, nb1]
      by_cases h3 : f a = 0
      · rw [if_pos h3]
        exact skip (fun h => Or.inl (by rw [← hP.2.2.1 h a (by omega)]; exact h3))
      · rw [if_neg h3]
        by_cases h4 : f i = 0
        · rw [if_pos h4]
          by_cases h5 : F 19 (ix 0 a i) = 0
          · rw [if_pos h5]
            exact skip (fun h => Or.inr (Or.inr (HS_f.mpr h5)))
          · rw [if_neg h5]
            obtain ⟨p1, p2, p3, p4, p5⟩ := hP
            have hP2 : PI n F S f0 (upd f i 1) true := by
              refine ⟨fun z hz h => ?_, fun z hz h => ?_, fun h => (by cases h), fun _ => ⟨i, by omega, ?_, by rw [pk_us]; decide⟩, fun z => ?_⟩
              · by_cases e : z = i
                · subst e; rw [pk_us]; decide
                · rw [pk_un e]; exact p1 z hz h
              · by_cases e : z = i
                · subst e; exact (p2 a ha h3).step ⟨ha, by omega, HS_t.mpr h5⟩
                · rw [pk_un e] at h; exact p2 z hz h
              · refine Classical.byContradiction (fun q => p1 i (by omega) q h4)
              · by_cases e : z = i
                · subst e; exact Or.inr pk_us
                · rw [pk_un e]; exact p5 z
            obtain ⟨c2, f2, e2, h6, h7⟩ := fw_addNeeds_member_21 n a F V K S f0 hn ha fu (i + 1) true (upd f i 1) (by omega) (by omega) hP2 (fun h => by cases h)
            exact ⟨c2, f2, e2, h6, fun h => by have := (h7 h).1; cases this⟩
        · rw [if_neg h4]
          exact skip (fun h => Or.inr (Or.inl (by rw [← hP.2.2.1 h i (by omega)]; exact h4)))
theorem fw_addNeeds_member_10 (n : Nat) (F : Nat → Nat → Int32) (V : Nat → Int32) (K : Nat → Int32 → (Nat → Nat → Int32) → (Nat → Int32) → (Nat → Nat → Int32) × (Nat → Int32)) (S : Nat → Prop) (f0 : Nat → Int32) (hn : n ≤ 40) : ∀ fu i c f, i ≤ n → n < i + fu → PI n F S f0 f c → (c = false → ∀ a, a < i → ∀ b, b < n → okP F f0 a b) → ∃ c2 f2, f_w_addNeeds_member_10 n fu i (fl c) (va_up F 27 f) V K = K n (fl c2) (va_up F 27 f2) V ∧ PI n F S f0 f2 c2 ∧ (c2 = false → ∀ a, a < n → ∀ b, b < n → okP F f0 a b)
  | 0, i, c, f, h1, h2, _, _ => by omega
  | fu + 1, i, c, f, h1, h2, hP, hk => by
    rw [f_w_addNeeds_member_10]
    by_cases hi : n ≤ i
    · have e : i = n := by omega
      subst e
      rw [if_pos hi]
      exact ⟨c, f, rfl, hP, hk⟩
    · rw [if_neg hi]
      obtain ⟨c2, f2, e2, h3, h4⟩ := fw_addNeeds_member_21 n i F V (fun _ y23 F21 V22 => f_w_addNeeds_member_10 n fu (i + 1) y23 F21 V22 K) S f0 hn (by omega) (n + 1) 0 c f (by omega) (by omega) hP (fun _ b hb => absurd hb (by omega))
      obtain ⟨c3, f3, e3, h5, h6⟩ := fw_addNeeds_member_10 n F V K S f0 hn fu (i + 1) c2 f2 (by omega) (by omega) h3 (fun h a ha b hb => by
        by_cases e : a = i
        · subst e; exact (h4 h).2 b hb
        · exact hk (h4 h).1 a (by omega) b hb)
      exact ⟨c3, f3, e2.trans e3, h5, h6⟩
theorem fw_addNeeds_member_2 (n : Nat) (F : Nat → Nat → Int32) (V : Nat → Int32) (K : Nat → Int32 → (Nat → Nat → Int32) → (Nat → Int32) → (Nat → Nat → Int32) × (Nat → Int32)) (S : Nat → Prop) (fb : Nat → Int32) (hn : n ≤ 40) (hS : ∀ z, S z → z < n) : ∀ fu i c f, (∀ z, f z = fb z ∨ f z = 1) → (c = true → n + 2 ≤ fu + cN (fun z => decide (¬ f z = 0)) n) → (∀ z, z < n → S z → ¬ f z = 0) → (∀ z, z < n → ¬ f z = 0 → Clo (nE n F) S z) → (c = false → ∀ a, a < n → ∀ b, b < n → okP F f a b) → ∃ i2 y2 f2, f_w_addNeeds_member_2 n fu i (fl c) (va_up F 27 f) V K = K i2 y2 (va_up F 27 f2) V ∧ (∀ z, z < n → (¬ f2 z = 0 ↔ Clo (nE n F) S z)) ∧ (∀ z, f2 z = fb z ∨ f2 z = 1)
  | 0, i, true, f, h0, h1, _, _, _ => by have := h1 rfl; have := cN_le (fun z => decide (¬ f z = 0)) n; omega
  | 0, i, false, f, h0, _, h2, h3, h4 => by
    rw [f_w_addNeeds_member_2]
    exact ⟨i, _, f, rfl, fun z hz => ⟨h3 z hz, closed_Clo hS h2 (h4 rfl)⟩, h0⟩
  | fu + 1, i, false, f, h0, _, h2, h3, h4 => by
    rw [f_w_addNeeds_member_2, if_pos (by decide)]
    exact ⟨i, _, f, rfl, fun z hz => ⟨h3 z hz, closed_Clo hS h2 (h4 rfl)⟩, h0⟩
  | fu + 1, i, true, f, h0, h1, h2, h3, _ => by
    rw [f_w_addNeeds_member_2, if_neg (by decide)]
    have hP : PI n F S f f false := ⟨fun _ _ h => h, h3, fun _ _ _ => rfl, fun h => (by cases h), fun _ => Or.inl rfl⟩
    obtain ⟨c2, f2, e2, h5, h6⟩ := fw_addNeeds_member_10 n F V (fun _ y15 F13 V14 => f_w_addNeeds_member_2 n fu (i + 1) y15 F13 V14 K) S f hn (n + 1) 0 false f (by omega) (by omega) hP (fun _ a ha => absurd ha (by omega))
    obtain ⟨p1, p2, p3, p4, p5⟩ := h5
    obtain ⟨i2, y2, f3, e3, h7⟩ := fw_addNeeds_member_2 n F V K S fb hn hS fu (i + 1) c2 f2 (fun z => by
      rcases p5 z with q | q
      · rw [q]; exact h0 z
      · exact Or.inr q) (fun h => by
      obtain ⟨z, hz, q1, q2⟩ := p4 h
      have h8 := cN_lt (p := fun z => decide (¬ f z = 0)) (q := fun z => decide (¬ f2 z = 0)) (k := n) (j := z) (fun i hi hh => decide_eq_true (p1 i hi (of_decide_eq_true hh))) hz (by simp [q1]) (by simp [q2])
      have := h1 rfl
      omega) (fun z hz h => p1 z hz (h2 z hz h)) p2 (fun h a ha b hb => by
      have h8 := h6 h a ha b hb
      unfold okP at h8 ⊢
      rw [p3 h a ha, p3 h b hb]
      exact h8)
    exact ⟨i2, y2, f3, e2.trans e3, h7⟩
theorem fw_addNeeds_member (n : Nat) (F : Nat → Nat → Int32) (V : Nat → Int32) (hn : n ≤ 40) : ∃ f2, f_w_addNeeds_member n F V = (va_up F 27 f2, V) ∧ (∀ z, z < n → (¬ f2 z = 0 ↔ Clo (nE n F) (fun z => z < n ∧ ¬ F 27 z = 0) z)) ∧ (∀ z, f2 z = F 27 z ∨ f2 z = 1) := by
  obtain ⟨i2, y2, f2, e, h⟩ := fw_addNeeds_member_2 n F V (fun (i1 : Nat) (y7 : Int32) (F5 : Nat → Nat → Int32) (V6 : Nat → Int32) => (F5, V6)) (fun z => z < n ∧ ¬ F 27 z = 0) (F 27) hn (fun z h => h.1) 42 0 true (F 27) (fun _ => Or.inl rfl) (fun _ => by omega) (fun z _ h => h.2) (fun z hz h => Clo.base ⟨hz, h⟩) (fun h => by cases h)
  rw [va_id] at e
  exact ⟨f2, e, h⟩
theorem fw_addNeeds_more_21 (n a : Nat) (F : Nat → Nat → Int32) (V : Nat → Int32) (K : Nat → Int32 → (Nat → Nat → Int32) → (Nat → Int32) → (Nat → Nat → Int32) × (Nat → Int32)) (S : Nat → Prop) (f0 : Nat → Int32) (hn : n ≤ 40) (ha : a < n) : ∀ fu i c f, i ≤ n → n < i + fu → PI n F S f0 f c → (c = false → ∀ b, b < i → okP F f0 a b) → ∃ c2 f2, f_w_addNeeds_more_21 n a fu i (fl c) (va_up F 28 f) V K = K n (fl c2) (va_up F 28 f2) V ∧ PI n F S f0 f2 c2 ∧ (c2 = false → c = false ∧ ∀ b, b < n → okP F f0 a b)
  | 0, i, c, f, h1, h2, _, _ => by omega
  | fu + 1, i, c, f, h1, h2, hP, hk => by
    rw [f_w_addNeeds_more_21]
    by_cases hi : n ≤ i
    · have e : i = n := by omega
      subst e
      rw [if_pos hi]
      exact ⟨c, f, rfl, hP, fun h => ⟨h, hk h⟩⟩
    · rw [if_neg hi]
      have skip : (c = false → okP F f0 a i) → ∃ c2 f2, f_w_addNeeds_more_21 n a fu (i + 1) (fl c) (va_up F 28 f) V K = K n (fl c2) (va_up F 28 f2) V ∧ PI n F S f0 f2 c2 ∧ (c2 = false → c = false ∧ ∀ b, b < n → okP F f0 a b) := by
        intro hok
        refine fw_addNeeds_more_21 n a F V K S f0 hn ha fu (i + 1) c f (by omega) (by omega) hP (fun h b hb => ?_)
        by_cases e : b = i
        · subst e; exact hok h
        · exact hk h b (by omega)
      simp only [bnd]
      rw [va_up_self, fw_has n _ (by omega) (by omega) (by omega), show va_up F 28 f 19 = F 19 from va_up_ne F f (by decide), cl hn hi, nI_clamp (show a < 2 ^ 31 by omega), va_uu, nb1]
      by_cases h3 : f a = 0
      · rw [if_pos h3]
        exact skip (fun h => Or.inl (by rw [← hP.2.2.1 h a (by omega)]; exact h3))
      · rw [if_neg h3]
        by_cases h4 : f i = 0
        · rw [if_pos h4]
          by_cases h5 : F 19 (ix 0 a i) = 0
          · rw [if_pos h5]
            exact skip (fun h => Or.inr (Or.inr (HS_f.mpr h5)))
          · rw [if_neg h5]
            obtain ⟨p1, p2, p3, p4, p5⟩ := hP
            have hP2 : PI n F S f0 (upd f i 1) true := by
              refine ⟨fun z hz h => ?_, fun z hz h => ?_, fun h => (by cases h), fun _ => ⟨i, by omega, ?_, by rw [pk_us]; decide⟩, fun z => ?_⟩
              · by_cases e : z = i
                · subst e; rw [pk_us]; decide
                · rw [pk_un e]; exact p1 z hz h
              · by_cases e : z = i
                · subst e; exact (p2 a ha h3).step ⟨ha, by omega, HS_t.mpr h5⟩
                · rw [pk_un e] at h; exact p2 z hz h
              · refine Classical.byContradiction (fun q => p1 i (by omega) q h4)
              · by_cases e : z = i
                · subst e; exact Or.inr pk_us
                · rw [pk_un e]; exact p5 z
            obtain ⟨c2, f2, e2, h6, h7⟩ := fw_addNeeds_more_21 n a F V K S f0 hn ha fu (i + 1) true (upd f i 1) (by omega) (by omega) hP2 (fun h => by cases h)
            exact ⟨c2, f2, e2, h6, fun h => by have := (h7 h).1; cases this⟩
        · rw [if_neg h4]
          exact skip (fun h => Or.inr (Or.inl (by rw [← hP.2.2.1 h i (by omega)]; exact h4)))
theorem fw_addNeeds_more_10 (n : Nat) (F : Nat → Nat → Int32) (V : Nat → Int32) (K : Nat → Int32 → (Nat → Nat → Int32) → (Nat → Int32) → (Nat → Nat → Int32) × (Nat → Int32)) (S : Nat → Prop) (f0 : Nat → Int32) (hn : n ≤ 40) : ∀ fu i c f, i ≤ n → n < i + fu → PI n F S f0 f c → (c = false → ∀ a, a < i → ∀ b, b < n → okP F f0 a b) → ∃ c2 f2, f_w_addNeeds_more_10 n fu i (fl c) (va_up F 28 f) V K = K n (fl c2) (va_up F 28 f2) V ∧ PI n F S f0 f2 c2 ∧ (c2 = false → ∀ a, a < n → ∀ b, b < n → okP F f0 a b)
  | 0, i, c, f, h1, h2, _, _ => by omega
  | fu + 1, i, c, f, h1, h2, hP, hk => by
    rw [f_w_addNeeds_more_10]
    by_cases hi : n ≤ i
    · have e : i = n := by omega
      subst e
      rw [if_pos hi]
      exact ⟨c, f, rfl, hP, hk⟩
    · rw [if_neg hi]
      obtain ⟨c2, f2, e2, h3, h4⟩ := fw_addNeeds_more_21 n i F V (fun _ y23 F21 V22 => f_w_addNeeds_more_10 n fu (i + 1) y23 F21 V22 K) S f0 hn (by omega) (n + 1) 0 c f (by omega) (by omega) hP (fun _ b hb => absurd hb (by omega))
      obtain ⟨c3, f3, e3, h5, h6⟩ := fw_addNeeds_more_10 n F V K S f0 hn fu (i + 1) c2 f2 (by omega) (by omega) h3 (fun h a ha b hb => by
        by_cases e : a = i
        · subst e; exact (h4 h).2 b hb
        · exact hk (h4 h).1 a (by omega) b hb)
      exact ⟨c3, f3, e2.trans e3, h5, h6⟩
theorem fw_addNeeds_more_2 (n : Nat) (F : Nat → Nat → Int32) (V : Nat → Int32) (K : Nat → Int32 → (Nat → Nat → Int32) → (Nat → Int32) → (Nat → Nat → Int32) × (Nat → Int32)) (S : Nat → Prop) (fb : Nat → Int32) (hn : n ≤ 40) (hS : ∀ z, S z → z < n) : ∀ fu i c f, (∀ z, f z = fb z ∨ f z = 1) → (c = true → n + 2 ≤ fu + cN (fun z => decide (¬ f z = 0)) n) → (∀ z, z < n → S z → ¬ f z = 0) → (∀ z, z < n → ¬ f z = 0 → Clo (nE n F) S z) → (c = false → ∀ a, a < n → ∀ b, b < n → okP F f a b) → ∃ i2 y2 f2, f_w_addNeeds_more_2 n fu i (fl c) (va_up F 28 f) V K = K i2 y2 (va_up F 28 f2) V ∧ (∀ z, z < n → (¬ f2 z = 0 ↔ Clo (nE n F) S z)) ∧ (∀ z, f2 z = fb z ∨ f2 z = 1)
  | 0, i, true, f, h0, h1, _, _, _ => by have := h1 rfl; have := cN_le (fun z => decide (¬ f z = 0)) n; omega
  | 0, i, false, f, h0, _, h2, h3, h4 => by
    rw [f_w_addNeeds_more_2]
    exact ⟨i, _, f, rfl, fun z hz => ⟨h3 z hz, closed_Clo hS h2 (h4 rfl)⟩, h0⟩
  | fu + 1, i, false, f, h0, _, h2, h3, h4 => by
    rw [f_w_addNeeds_more_2, if_pos (by decide)]
    exact ⟨i, _, f, rfl, fun z hz => ⟨h3 z hz, closed_Clo hS h2 (h4 rfl)⟩, h0⟩
  | fu + 1, i, true, f, h0, h1, h2, h3, _ => by
    rw [f_w_addNeeds_more_2, if_neg (by decide)]
    have hP : PI n F S f f false := ⟨fun _ _ h => h, h3, fun _ _ _ => rfl, fun h => (by cases h), fun _ => Or.inl rfl⟩
    obtain ⟨c2, f2, e2, h5, h6⟩ := fw_addNeeds_more_10 n F V (fun _ y15 F13 V14 => f_w_addNeeds_more_2 n fu (i + 1) y15 F13 V14 K) S f hn (n + 1) 0 false f (by omega) (by omega) hP (fun _ a ha => absurd ha (by omega))
    obtain ⟨p1, p2, p3, p4, p5⟩ := h5
    obtain ⟨i2, y2, f3, e3, h7⟩ := fw_addNeeds_more_2 n F V K S fb hn hS fu (i + 1) c2 f2 (fun z => by
      rcases p5 z with q | q
      · rw [q]; exact h0 z
      · exact Or.inr q) (fun h => by
      obtain ⟨z, hz, q1, q2⟩ := p4 h
      have h8 := cN_lt (p := fun z => decide (¬ f z = 0)) (q := fun z => decide (¬ f2 z = 0)) (k := n) (j := z) (fun i hi hh => decide_eq_true (p1 i hi (of_decide_eq_true hh))) hz (by simp [q1]) (by simp [q2])
      have := h1 rfl
      omega) (fun z hz h => p1 z hz (h2 z hz h)) p2 (fun h a ha b hb => by
      have h8 := h6 h a ha b hb
      unfold okP at h8 ⊢
      rw [p3 h a ha, p3 h b hb]
      exact h8)
    exact ⟨i2, y2, f3, e2.trans e3, h7⟩
theorem fw_addNeeds_more (n : Nat) (F : Nat → Nat → Int32) (V : Nat → Int32) (hn : n ≤ 40) : ∃ f2, f_w_addNeeds_more n F V = (va_up F 28 f2, V) ∧ (∀ z, z < n → (¬ f2 z = 0 ↔ Clo (nE n F) (fun z => z < n ∧ ¬ F 28 z = 0) z)) ∧ (∀ z, f2 z = F 28 z ∨ f2 z = 1) := by
  obtain ⟨i2, y2, f2, e, h⟩ := fw_addNeeds_more_2 n F V (fun (i1 : Nat) (y7 : Int32) (F5 : Nat → Nat → Int32) (V6 : Nat → Int32) => (F5, V6)) (fun z => z < n ∧ ¬ F 28 z = 0) (F 28) hn (fun z h => h.1) 42 0 true (F 28) (fun _ => Or.inl rfl) (fun _ => by omega) (fun z _ h => h.2) (fun z hz h => Clo.base ⟨hz, h⟩) (fun h => by cases h)
  rw [va_id] at e
  exact ⟨f2, e, h⟩
theorem fw_uw (n : Nat) {s : Nat} (F : Nat → Nat → Int32) (hs : s < 40) : f_w_isUpOrWaiting n s F = fl (decide (F 7 s = 2) || decide (F 7 s = 5)) := by
  unfold f_w_isUpOrWaiting
  simp only [bnd]
  rw [nI_clamp (show s < 2 ^ 31 by omega)]
  by_cases h : F 7 s = 2
  · rw [if_pos h]; simp [h, fl]
  · rw [if_neg h]
    by_cases h2 : F 7 s = 5
    · rw [if_pos h2]; simp [h2, fl]
    · rw [if_neg h2]; simp [h, h2, fl]
def UW (F : Nat → Nat → Int32) (s : Nat) : Bool := decide (F 7 s = 2) || decide (F 7 s = 5)
def dE (n : Nat) (F : Nat → Nat → Int32) (b a : Nat) : Prop := a < n ∧ b < n ∧ UW F a = true ∧ HS F 0 a b = true
def okD (F : Nat → Nat → Int32) (p : Int32) (f : Nat → Int32) (a b : Nat) : Prop := f a = 2 ∨ UW F a = false ∨ HS F 0 a b = false ∨ ¬ (f b = 2 ∨ nI b = p)
def PD (n : Nat) (F : Nat → Nat → Int32) (S : Nat → Prop) (f0 f : Nat → Int32) (c : Bool) : Prop := (∀ z, f z = 2 ∨ f z = f0 z) ∧ (∀ z, z < n → f z = 2 → Clo (dE n F) S z ∧ UW F z = true) ∧ (c = false → ∀ z, z < n → f z = f0 z) ∧ (c = true → ∃ z, z < n ∧ ¬ f0 z = 2 ∧ f z = 2)
theorem closed_D {n : Nat} {F : Nat → Nat → Int32} {S : Nat → Prop} {p : Int32} {f : Nat → Int32} (hS : ∀ z, S z → z < n ∧ (f z = 2 ∨ nI z = p)) (h4 : ∀ a, a < n → ∀ b, b < n → okD F p f a b) {z : Nat} (h : Clo (dE n F) S z) : f z = 2 ∨ nI z = p := by
  refine (Clo.least (T := fun z => z < n ∧ (f z = 2 ∨ nI z = p)) hS (fun y z hy he => ⟨he.1, Or.inl ?_⟩) h).2
  rcases h4 z he.1 y he.2.1 with q | q | q | q
  · exact q
  · rw [he.2.2.1] at q; cases q
  · rw [he.2.2.2] at q; cases q
  · exact absurd hy.2 q
theorem fw_addNeeding_21 (n a : Nat) (p : Int32) (F : Nat → Nat → Int32) (V : Nat → Int32) (K : Nat → Int32 → (Nat → Nat → Int32) → (Nat → Int32) → (Nat → Nat → Int32) × (Nat → Int32)) (S : Nat → Prop) (f0 : Nat → Int32) (hn : n ≤ 40) (ha : a < n) (hSp : ∀ b, b < n → nI b = p → S b) : ∀ fu i c f, i ≤ n → n < i + fu → PD n F S f0 f c → (c = false → ∀ b, b < i → okD F p f0 a b) → ∃ c2 f2, f_w_addNeeding_21 n p a fu i (fl c) (va_up F 30 f) V K = K n (fl c2) (va_up F 30 f2) V ∧ PD n F S f0 f2 c2 ∧ (c2 = false → c = false ∧ ∀ b, b < n → okD F p f0 a b)
  | 0, i, c, f, h1, h2, _, _ => by omega
  | fu + 1, i, c, f, h1, h2, hP, hk => by
    rw [f_w_addNeeding_21]
    by_cases hi : n ≤ i
    · have e : i = n := by omega
      subst e
      rw [if_pos hi]
      exact ⟨c, f, rfl, hP, fun h => ⟨h, hk h⟩⟩
    · rw [if_neg hi]
      have skip : (c = false → okD F p f0 a i) → ∃ c2 f2, f_w_addNeeding_21 n p a fu (i + 1) (fl c) (va_up F 30 f) V K = K n (fl c2) (va_up F 30 f2) V ∧ PD n F S f0 f2 c2 ∧ (c2 = false → c = false ∧ ∀ b, b < n → okD F p f0 a b) := by
        intro hok
        refine fw_addNeeding_21 n a p F V K S f0 hn ha hSp fu (i + 1) c f (by omega) (by omega) hP (fun h b hb => ?_)
        by_cases e : b = i
        · subst e; exact hok h
        · exact hk h b (by omega)
      have eUW : UW (va_up F 30 f) a = UW F a := by
        unfold UW
        rw [show va_up F 30 f 7 = F 7 from va_up_ne F f (by decide)]
      simp only [bnd]
      rw [va_up_self, fw_uw n _ (by omega), show (decide (va_up F 30 f 7 a = 2) || decide (va_up F 30 f 7 a = 5)) = UW F a from eUW, fw_has n _ (by omega) (by omega) (by omega), show va_up F 30 f 19 = F 19 from va_up_ne F f (by decide), cl hn hi, nI_clamp (show a < 2 ^ 31 by omega), va_uu]
      by_cases h3 : f a = 2
      · rw [if_pos h3]
        exact skip (fun h => Or.inl (by rw [← hP.2.2.1 h a (by omega)]; exact h3))
      · rw [if_neg h3]
        cases h4 : UW F a
        · rw [if_pos (by decide)]
          exact skip (fun h => Or.inr (Or.inl h4))
        · rw [if_neg (by decide)]
          by_cases h5 : F 19 (ix 0 a i) = 0
          · rw [if_pos h5]
            exact skip (fun h => Or.inr (Or.inr (Or.inl (HS_f.mpr h5))))
          · rw [if_neg h5]
            have add : (f i = 2 ∨ nI i = p) → ∃ c2 f2, f_w_addNeeding_21 n p a fu (i + 1) (1 : Int32) (va_up F 30 (upd f a 2)) V K = K n (fl c2) (va_up F 30 f2) V ∧ PD n F S f0 f2 c2 ∧ (c2 = false → c = false ∧ ∀ b, b < n → okD F p f0 a b) := by
              intro hin
              obtain ⟨p1, p2, p3, p4⟩ := hP
              have hP2 : PD n F S f0 (upd f a 2) true := by
                refine ⟨fun z => ?_, fun z hz h => ?_, fun h => (by cases h), fun _ => ⟨a, ha, ?_, pk_us⟩⟩
                · by_cases e : z = a
                  · subst e; exact Or.inl pk_us
                  · rw [pk_un e]; exact p1 z
                · by_cases e : z = a
                  · subst e
                    refine ⟨?_, h4⟩
                    have hCi : Clo (dE n F) S i := by
                      rcases hin with q | q
                      · exact (p2 i (by omega) q).1
                      · exact Clo.base (hSp i (by omega) q)
                    exact hCi.step ⟨ha, by omega, h4, HS_t.mpr h5⟩
                  · rw [pk_un e] at h; exact p2 z hz h
                · intro q
                  rcases p1 a with q2 | q2
                  · exact h3 q2
                  · rw [q] at q2; exact h3 q2
              obtain ⟨c2, f2, e2, h6, h7⟩ := fw_addNeeding_21 n a p F V K S f0 hn ha hSp fu (i + 1) true (upd f a 2) (by omega) (by omega) hP2 (fun h => by cases h)
              exact ⟨c2, f2, e2, h6, fun h => by have := (h7 h).1; cases this⟩
            by_cases h6 : f i = 2
            · rw [if_pos h6]
              exact add (Or.inl h6)
            · rw [if_neg h6]
              by_cases h7 : nI i = p
              · rw [if_pos h7]
                exact add (Or.inr h7)
              · rw [if_neg h7]
                refine skip (fun h => Or.inr (Or.inr (Or.inr ?_)))
                rintro (q | q)
                · rw [← hP.2.2.1 h i (by omega)] at q; exact h6 q
                · exact h7 q
theorem fw_addNeeding_10 (n : Nat) (p : Int32) (F : Nat → Nat → Int32) (V : Nat → Int32) (K : Nat → Int32 → (Nat → Nat → Int32) → (Nat → Int32) → (Nat → Nat → Int32) × (Nat → Int32)) (S : Nat → Prop) (f0 : Nat → Int32) (hn : n ≤ 40) (hSp : ∀ b, b < n → nI b = p → S b) : ∀ fu i c f, i ≤ n → n < i + fu → PD n F S f0 f c → (c = false → ∀ a, a < i → ∀ b, b < n → okD F p f0 a b) → ∃ c2 f2, f_w_addNeeding_10 n p fu i (fl c) (va_up F 30 f) V K = K n (fl c2) (va_up F 30 f2) V ∧ PD n F S f0 f2 c2 ∧ (c2 = false → ∀ a, a < n → ∀ b, b < n → okD F p f0 a b)
  | 0, i, c, f, h1, h2, _, _ => by omega
  | fu + 1, i, c, f, h1, h2, hP, hk => by
    rw [f_w_addNeeding_10]
    by_cases hi : n ≤ i
    · have e : i = n := by omega
      subst e
      rw [if_pos hi]
      exact ⟨c, f, rfl, hP, hk⟩
    · rw [if_neg hi]
      obtain ⟨c2, f2, e2, h3, h4⟩ := fw_addNeeding_21 n i p F V (fun _ y23 F21 V22 => f_w_addNeeding_10 n p fu (i + 1) y23 F21 V22 K) S f0 hn (by omega) hSp (n + 1) 0 c f (by omega) (by omega) hP (fun _ b hb => absurd hb (by omega))
      obtain ⟨c3, f3, e3, h5, h6⟩ := fw_addNeeding_10 n p F V K S f0 hn hSp fu (i + 1) c2 f2 (by omega) (by omega) h3 (fun h a ha b hb => by
        by_cases e : a = i
        · subst e; exact (h4 h).2 b hb
        · exact hk (h4 h).1 a (by omega) b hb)
      exact ⟨c3, f3, e2.trans e3, h5, h6⟩
theorem fw_addNeeding_2 (n : Nat) (p : Int32) (F : Nat → Nat → Int32) (V : Nat → Int32) (K : Nat → Int32 → (Nat → Nat → Int32) → (Nat → Int32) → (Nat → Nat → Int32) × (Nat → Int32)) (S : Nat → Prop) (f0 : Nat → Int32) (hn : n ≤ 40) (hSp : ∀ b, b < n → nI b = p → S b) (hS : ∀ z, S z → z < n ∧ (f0 z = 2 ∨ nI z = p)) : ∀ fu i c f, (c = true → n + 2 ≤ fu + cN (fun z => decide (f z = 2)) n) → (∀ z, f z = 2 ∨ f z = f0 z) → (∀ z, z < n → f z = 2 → Clo (dE n F) S z ∧ UW F z = true) → (c = false → ∀ a, a < n → ∀ b, b < n → okD F p f a b) → ∃ i2 y2 f2, f_w_addNeeding_2 n p fu i (fl c) (va_up F 30 f) V K = K i2 y2 (va_up F 30 f2) V ∧ (∀ z, f2 z = 2 ∨ f2 z = f0 z) ∧ (∀ z, z < n → f2 z = 2 → Clo (dE n F) S z ∧ UW F z = true) ∧ (∀ z, Clo (dE n F) S z → f2 z = 2 ∨ nI z = p)
  | 0, i, true, f, h1, _, _, _ => by have := h1 rfl; have := cN_le (fun z => decide (f z = 2)) n; omega
  | 0, i, false, f, _, h2, h3, h4 => by
    rw [f_w_addNeeding_2]
    refine ⟨i, _, f, rfl, h2, h3, fun z hz => closed_D (fun y hy => ⟨(hS y hy).1, ?_⟩) (h4 rfl) hz⟩
    rcases (hS y hy).2 with q | q
    · left
      rcases h2 y with q2 | q2
      · exact q2
      · rw [q2]; exact q
    · exact Or.inr q
  | fu + 1, i, false, f, _, h2, h3, h4 => by
    rw [f_w_addNeeding_2, if_pos (by decide)]
    refine ⟨i, _, f, rfl, h2, h3, fun z hz => closed_D (fun y hy => ⟨(hS y hy).1, ?_⟩) (h4 rfl) hz⟩
    rcases (hS y hy).2 with q | q
    · left
      rcases h2 y with q2 | q2
      · exact q2
      · rw [q2]; exact q
    · exact Or.inr q
  | fu + 1, i, true, f, h1, h2, h3, _ => by
    rw [f_w_addNeeding_2, if_neg (by decide)]
    have hP : PD n F S f f false := ⟨fun z => Or.inr rfl, h3, fun _ _ _ => rfl, fun h => by cases h⟩
    obtain ⟨c2, f2, e2, h5, h6⟩ := fw_addNeeding_10 n p F V (fun _ y15 F13 V14 => f_w_addNeeding_2 n p fu (i + 1) y15 F13 V14 K) S f hn hSp (n + 1) 0 false f (by omega) (by omega) hP (fun _ a ha => absurd ha (by omega))
    obtain ⟨p1, p2, p3, p4⟩ := h5
    have hgrow : ∀ z, f z = 2 → f2 z = 2 := by
      intro z hz
      rcases p1 z with q | q
      · exact q
      · rw [q]; exact hz
    obtain ⟨i2, y2, f3, e3, h7⟩ := fw_addNeeding_2 n p F V K S f0 hn hSp hS fu (i + 1) c2 f2 (fun h => by
      obtain ⟨z, hz, q1, q2⟩ := p4 h
      have h8 := cN_lt (p := fun z => decide (f z = 2)) (q := fun z => decide (f2 z = 2)) (k := n) (j := z) (fun i hi hh => decide_eq_true (hgrow i (of_decide_eq_true hh))) hz (by simp [q1]) (by simp [q2])
      have := h1 rfl
      omega) (fun z => by
      rcases p1 z with q | q
      · exact Or.inl q
      · rw [q]; exact h2 z) p2 (fun h a ha b hb => by
      have h8 := h6 h a ha b hb
      unfold okD at h8 ⊢
      rw [p3 h a ha, p3 h b hb]
      exact h8)
    exact ⟨i2, y2, f3, e2.trans e3, h7⟩
theorem fw_addNeeding (n : Nat) (p : Int32) (F : Nat → Nat → Int32) (V : Nat → Int32) (hn : n ≤ 40) (hU : ∀ z, z < n → F 30 z = 2 → UW F z = true) : ∃ f2, f_w_addNeeding n p F V = (va_up F 30 f2, V) ∧ (∀ z, f2 z = 2 ∨ f2 z = F 30 z) ∧ (∀ z, z < n → f2 z = 2 → Clo (dE n F) (fun z => z < n ∧ (F 30 z = 2 ∨ nI z = p)) z ∧ UW F z = true) ∧ (∀ z, Clo (dE n F) (fun z => z < n ∧ (F 30 z = 2 ∨ nI z = p)) z → f2 z = 2 ∨ nI z = p) := by
  obtain ⟨i2, y2, f2, e, h⟩ := fw_addNeeding_2 n p F V (fun (i1 : Nat) (y7 : Int32) (F5 : Nat → Nat → Int32) (V6 : Nat → Int32) => (F5, V6)) (fun z => z < n ∧ (F 30 z = 2 ∨ nI z = p)) (F 30) hn (fun b hb q => ⟨hb, Or.inr q⟩) (fun z h => h) 42 0 true (F 30) (fun _ => by omega) (fun z => Or.inr rfl) (fun z hz h => ⟨Clo.base ⟨hz, Or.inl h⟩, hU z hz h⟩) (fun h => by cases h)
  rw [va_id] at e
  exact ⟨f2, e, h⟩

end
section
def RR (n : Nat) (M : Nat → Nat → Int64) (F : Nat → Nat → Int32) : Prop := (∀ h a b, h < 4 → (bL (M h a) b = true ↔ a < n ∧ b < n ∧ HS F h a b = true)) ∧ (∀ h a b, h < 4 → (bL (M (4 + h) b) a = true ↔ bL (M h a) b = true)) ∧ (∀ a b, bL (M 3 a) b = true → bL (M 3 b) a = true) ∧ (∀ h a, h < 4 → bL (M h a) a = false) ∧ (∀ j, F 19 j = 0 ∨ F 19 j = 1)
def mB (n : Nat) (S : Int64) (f : Nat → Int32) : Prop := ∀ s, bL S s = true ↔ s < n ∧ ¬ f s = 0
def sB (n : Nat) (S : Int64) (F : Nat → Nat → Int32) (t : Int32) : Prop := ∀ s, bL S s = true ↔ s < n ∧ F 7 s = t
theorem RR.m40 {n : Nat} {M : Nat → Nat → Int64} {F : Nat → Nat → Int32} (h : RR n M F) (hn : n ≤ 40) : M40 M := by
  intro k a b hk hb
  rcases Nat.lt_or_ge k 4 with c | c
  · have := ((h.1 k a b c).mp hb).2.1; omega
  · obtain ⟨j, rfl⟩ : ∃ j, k = 4 + j := ⟨k - 4, by omega⟩
    have h1 := (h.2.1 j b a (by omega)).mp hb
    have := ((h.1 j b a (by omega)).mp h1).1; omega
theorem RR.nE {n : Nat} {M : Nat → Nat → Int64} {F : Nat → Nat → Int32} (h : RR n M F) : (fun a b => bL (M 0 a) b = true) = nE n F := by
  funext a b
  exact propext (h.1 0 a b (by omega))
theorem bL_f {x : Int64} {s : Nat} (h : ¬ bL x s = true) : bL x s = false := by revert h; cases bL x s <;> simp
theorem z_iff {x : Int64} : x = 0 ↔ ∀ s, ¬ bL x s = true := by
  constructor
  · intro h s q; rw [h, bL_0] at q; cases q
  · intro h; exact bL_zero_iff.mpr (fun s _ => bL_f (h s))
theorem nz_iff {x : Int64} : ¬ x = 0 ↔ ∃ s, bL x s = true := by
  constructor
  · intro h
    exact Classical.byContradiction (fun q => h (z_iff.mpr (fun s hs => q ⟨s, hs⟩)))
  · rintro ⟨s, hs⟩ h
    exact z_iff.mp h s hs
theorem bL_lt {x : Int64} {s : Nat} (h : bL x s = true) : s < 64 := by
  rcases Nat.lt_or_ge s 64 with c | c
  · exact c
  · rw [bL_big c] at h; cases h
theorem bL_andT {x y : Int64} {s : Nat} : bL (x &&& y) s = true ↔ bL x s = true ∧ bL y s = true := by rw [bL_and, Bool.and_eq_true]
theorem bL_orT {x y : Int64} {s : Nat} : bL (x ||| y) s = true ↔ bL x s = true ∨ bL y s = true := by rw [bL_or, Bool.or_eq_true]
theorem bL_notT {x : Int64} {s : Nat} (hs : s < 64) : bL (x ^^^ (-1)) s = true ↔ ¬ bL x s = true := by rw [bL_not _ hs]; cases bL x s <;> simp
theorem bL_andN {x y : Int64} {s : Nat} : bL (x &&& (y ^^^ (-1))) s = true ↔ bL x s = true ∧ ¬ bL y s = true := by
  rw [bL_andT]
  constructor
  · rintro ⟨h1, h2⟩; exact ⟨h1, (bL_notT (bL_lt h1)).mp h2⟩
  · rintro ⟨h1, h2⟩; exact ⟨h1, (bL_notT (bL_lt h1)).mpr h2⟩
theorem bL_oL {s t : Nat} (ht : t < 64) : bL (oL t) s = true ↔ s = t := by rw [bL_only ht]; exact decide_eq_true_iff
theorem clash_gen {n : Nat} {M : Nat → Nat → Int64} {F : Nat → Nat → Int32} (hR : RR n M F) (hn : n ≤ 40) (dl : Nat → Nat) {S : Int64} {f : Nat → Int32} (hS : mB n S f) {p : Nat → Nat → Bool} (hp : ∀ a b, p a b = (decide (¬ f a = 0) && decide (¬ f b = 0) && HS F 3 a b)) : f_y_clash n dl S M = fl (anyN (fun a => anyN (p a) n) n) := by
  rw [fy_clash]
  cases e : anyN (fun a => anyN (p a) n) n
  · rw [if_pos]
    · rfl
    · refine z_iff.mpr (fun s hs => ?_)
      rw [bL_andT, bL_uS] at hs
      obtain ⟨⟨a, ha, h1, h2⟩, h3⟩ := hs
      obtain ⟨q1, q2, q3⟩ := (hR.1 3 a s (by omega)).mp h2
      have e1 := anyN_f.mp e a q1
      have e2 := anyN_f.mp e1 s q2
      rw [hp] at e2
      have h4 := ((hS a).mp h1).2
      have h5 := ((hS s).mp h3).2
      simp [h4, h5, q3] at e2
  · obtain ⟨a, ha, e1⟩ := (anyN_iff _ _).mp e
    obtain ⟨b, hb, e2⟩ := (anyN_iff _ _).mp e1
    rw [hp, Bool.and_eq_true, Bool.and_eq_true, decide_eq_true_eq, decide_eq_true_eq] at e2
    rw [if_neg]
    · rfl
    · refine nz_iff.mpr ⟨b, ?_⟩
      rw [bL_andT, bL_uS]
      exact ⟨⟨a, by omega, (hS a).mpr ⟨ha, e2.1.1⟩, (hR.1 3 a b (by omega)).mpr ⟨ha, hb, e2.2⟩⟩, (hS b).mpr ⟨hb, e2.1.2⟩⟩
theorem clash27 {n : Nat} {M : Nat → Nat → Int64} {F : Nat → Nat → Int32} (hR : RR n M F) (hn : n ≤ 40) (dl : Nat → Nat) {S : Int64} (hS : mB n S (F 27)) : f_y_clash n dl S M = f_w_clash_member n F := by
  rw [fw_clash_member n F hn]
  exact clash_gen hR hn dl hS (fun a b => rfl)
theorem clash28 {n : Nat} {M : Nat → Nat → Int64} {F : Nat → Nat → Int32} (hR : RR n M F) (hn : n ≤ 40) (dl : Nat → Nat) {S : Int64} (hS : mB n S (F 28)) : f_y_clash n dl S M = f_w_clash_more n F := by
  rw [fw_clash_more n F hn]
  exact clash_gen hR hn dl hS (fun a b => rfl)
theorem ring_in {G : Nat → Nat → Prop} {P : Nat → Prop} (hP : ∀ x y, G x y → P y) {m x : Nat} (h : Pth G (m + 1) x x) : Pth (fun a b => G a b ∧ P a ∧ P b) (m + 1) x x := by
  obtain ⟨v, v0, vk, vs⟩ := Pth.seq h
  have hv : ∀ i, i ≤ m + 1 → P (v i) := by
    intro i hi
    rcases Nat.eq_zero_or_pos i with c | c
    · subst c
      rw [v0, ← vk]
      exact hP _ _ (vs m (by omega))
    · have h9 := hP _ _ (vs (i - 1) (by omega))
      rw [show i - 1 + 1 = i by omega] at h9
      exact h9
  have p : Pth (fun a b => G a b ∧ P a ∧ P b) (m + 1) (v 0) (v (0 + (m + 1))) := Pth.of (fun q _ hq => ⟨vs q (by omega), hv q (by omega), hv (q + 1) (by omega)⟩)
  rw [show 0 + (m + 1) = m + 1 by omega, v0, vk] at p
  exact p
theorem SR.of {G G2 : Nat → Nat → Prop} (h1 : ∀ m x, Pth G (m + 1) x x → Pth G2 (m + 1) x x) (h2 : ∀ m x, Pth G2 (m + 1) x x → Pth G (m + 1) x x) {r : Nat} (h : SR G r) : SR G2 r := by
  refine SR.iff (fun k x hk => ?_) h
  obtain ⟨m, rfl⟩ : ∃ m, k = m + 1 := ⟨k - 1, by omega⟩
  exact ⟨h1 m x, h2 m x⟩
theorem ring_gen {n : Nat} {M : Nat → Nat → Int64} {F : Nat → Nat → Int32} (hR : RR n M F) {S up : Int64} {f : Nat → Int32} (hS : mB n S f) (hU : sB n up F 2) {p : Nat → Nat → Bool} (hp : ∀ a b, p a b = (decide (¬ f a = 0) && decide (¬ f b = 0) && decide (¬ F 7 a = 2) && decide (¬ F 7 b = 2) && (HS F 0 a b || HS F 2 a b))) {r : Nat} (h : SR (fun x y => x < n ∧ y < n ∧ p x y = true) r) : SR (GS M (S &&& (up ^^^ (-1)))) r := by
  have hin : ∀ z, bL (S &&& (up ^^^ (-1))) z = true ↔ z < n ∧ ¬ f z = 0 ∧ ¬ F 7 z = 2 := by
    intro z
    rw [bL_andN, hS, hU]
    constructor
    · rintro ⟨⟨a1, a2⟩, a3⟩; exact ⟨a1, a2, fun q => a3 ⟨a1, q⟩⟩
    · rintro ⟨a1, a2, a3⟩; exact ⟨⟨a1, a2⟩, fun q => a3 q.2⟩
  have hE : ∀ x y, EM M x y ↔ x < n ∧ y < n ∧ (HS F 0 x y = true ∨ HS F 2 x y = true) := by
    intro x y
    unfold EM
    rw [hR.1 0 x y (by omega), hR.1 2 x y (by omega)]
    constructor
    · rintro (⟨a, b, c⟩ | ⟨a, b, c⟩)
      · exact ⟨a, b, Or.inl c⟩
      · exact ⟨a, b, Or.inr c⟩
    · rintro ⟨a, b, c | c⟩
      · exact Or.inl ⟨a, b, c⟩
      · exact Or.inr ⟨a, b, c⟩
  have hpq : ∀ x y, (x < n ∧ y < n ∧ p x y = true) ↔ (EM M x y ∧ bL (S &&& (up ^^^ (-1))) x = true ∧ bL (S &&& (up ^^^ (-1))) y = true) := by
    intro x y
    rw [hp, hE, hin, hin]
    simp only [Bool.and_eq_true, Bool.or_eq_true, decide_eq_true_eq]
    constructor
    · rintro ⟨a, b, ⟨⟨⟨⟨c1, c2⟩, c3⟩, c4⟩, c5⟩⟩; exact ⟨⟨a, b, c5⟩, ⟨a, c1, c3⟩, ⟨b, c2, c4⟩⟩
    · rintro ⟨⟨a, b, c5⟩, ⟨_, c1, c3⟩, ⟨_, c2, c4⟩⟩; exact ⟨a, b, ⟨⟨⟨⟨c1, c2⟩, c3⟩, c4⟩, c5⟩⟩
  refine SR.of (fun m x q => ?_) (fun m x q => ?_) h
  · exact Pth.mono (fun a b h9 => by obtain ⟨h7, _, h8⟩ := (hpq a b).mp h9; exact ⟨h7, h8⟩) q
  · have q2 := ring_in (P := fun z => bL (S &&& (up ^^^ (-1))) z = true) (fun a b h9 => h9.2) q
    exact Pth.mono (fun a b h9 => (hpq a b).mpr ⟨h9.1.1, h9.2⟩) q2
theorem tangled_0 {M : Nat → Nat → Int64} (hM : M40 M) {S : Int64} (hS : ∀ z, bL S z = true → z < 40) : itL (gT M) 40 S = 0 ↔ SR (GS M S) 0 := by
  have hsub : ∀ y s, bL (gT M y) s = true → bL y s = true := fun y s h => ((bL_gT M y s).mp h).2.1
  have key : ∀ k, gT M (itL (gT M) k S) = itL (gT M) k S ∨ cN (bL (itL (gT M) k S)) 40 + k ≤ 40 := by
    intro k
    induction k with
    | zero => right; have := cN_le (bL (itL (gT M) 0 S)) 40; omega
    | succ k ih =>
      rcases ih with h | h
      · left
        show gT M (gT M (itL (gT M) k S)) = gT M (itL (gT M) k S)
        rw [h, h]
      · by_cases e : gT M (itL (gT M) k S) = itL (gT M) k S
        · left
          show gT M (gT M (itL (gT M) k S)) = gT M (itL (gT M) k S)
          rw [e, e]
        · right
          have hex : ∃ s, bL (itL (gT M) k S) s = true ∧ bL (gT M (itL (gT M) k S)) s = false := by
            refine Classical.byContradiction (fun hn => e (bL_ext (fun s _ => ?_)))
            by_cases h1 : bL (gT M (itL (gT M) k S)) s = true
            · rw [h1, hsub _ s h1]
            · rw [bL_f h1]
              refine (bL_f (fun h2 => hn ⟨s, h2, bL_f h1⟩)).symm
          obtain ⟨s, h1, h2⟩ := hex
          have h40 : s < 40 := hS s (itT_sub k h1)
          have h3 := cN_lt (p := bL (gT M (itL (gT M) k S))) (q := bL (itL (gT M) k S)) (k := 40) (j := s) (fun i _ => hsub _ i) h40 h2 h1
          show cN (bL (gT M (itL (gT M) k S))) 40 + (k + 1) ≤ 40
          omega
  have hfix : gT M (itL (gT M) 40 S) = itL (gT M) 40 S := by
    rcases key 40 with h | h
    · exact h
    · have h0 : cN (bL (itL (gT M) 40 S)) 40 = 0 := by omega
      have e : itL (gT M) 40 S = 0 := z_iff.mpr (fun s hs => by
        have h1 := cN_0.mp h0 s (hS s (itT_sub 40 hs))
        rw [h1] at hs; cases hs)
      rw [e]
      exact z_iff.mpr (fun s hs => by have := hsub _ s hs; rw [bL_0] at this; cases this)
  constructor
  · intro h
    refine Or.inl ⟨rfl, fun k x hk q => ?_⟩
    obtain ⟨m, rfl⟩ : ∃ m, k = m + 1 := ⟨k - 1, by omega⟩
    exact z_iff.mp h x (itT_ring hM q 40)
  · intro h
    refine Classical.byContradiction (fun hne => ?_)
    obtain ⟨x, hx⟩ := nz_iff.mp hne
    have hnext : ∀ y, bL (itL (gT M) 40 S) y = true → ∃ z, EM M y z ∧ bL (itL (gT M) 40 S) z = true := by
      intro y hy
      rw [← hfix] at hy
      exact ((bL_gT M _ y).mp hy).2.2
    have hnx : ∃ g : Nat → Nat, ∀ y, bL (itL (gT M) 40 S) y = true → EM M y (g y) ∧ bL (itL (gT M) 40 S) (g y) = true := by
      refine ⟨fun y => if hy : bL (itL (gT M) 40 S) y = true then Classical.choose (hnext y hy) else 0, fun y hy => ?_⟩
      simp only [dif_pos hy]
      exact Classical.choose_spec (hnext y hy)
    obtain ⟨g, hg⟩ := hnx
    have hv : ∀ i, bL (itL (gT M) 40 S) (Nat.rec x (fun _ z => g z) i : Nat) = true := by
      intro i
      induction i with
      | zero => exact hx
      | succ i ih => exact (hg _ ih).2
    have hst : ∀ i, GS M S (Nat.rec x (fun _ z => g z) i : Nat) (Nat.rec x (fun _ z => g z) (i + 1) : Nat) := fun i => ⟨(hg _ (hv i)).1, itT_sub 40 (hv (i + 1))⟩
    refine Classical.byContradiction (fun hnr => ?_)
    have hd : ∀ i j, i < j → j < 41 → (Nat.rec x (fun _ z => g z) i : Nat) ≠ (Nat.rec x (fun _ z => g z) j : Nat) := by
      intro i j hij _ e
      have p : Pth (GS M S) (j - i) ((fun i => (Nat.rec x (fun _ z => g z) i : Nat)) i) ((fun i => (Nat.rec x (fun _ z => g z) i : Nat)) (i + (j - i))) := Pth.of (v := fun i => (Nat.rec x (fun _ z => g z) i : Nat)) (fun q _ _ => hst q)
      rw [show i + (j - i) = j by omega] at p
      have p2 : Pth (GS M S) (j - i) (Nat.rec x (fun _ z => g z) i : Nat) (Nat.rec x (fun _ z => g z) j : Nat) := p
      rw [← e] at p2
      rcases h with ⟨_, h⟩ | ⟨h, _⟩
      · exact h (j - i) _ (by omega) p2
      · omega
    have := fb_holes 40 41 (fun i => (Nat.rec x (fun _ z => g z) i : Nat)) (fun i _ => hS _ (itT_sub 40 (hv i))) hd
    omega

end
section
theorem HS_c {F G : Nat → Nat → Int32} (h : G 19 = F 19) : HS G = HS F := by
  funext a b c
  unfold HS
  rw [h]
theorem nE_c {n : Nat} {F G : Nat → Nat → Int32} (h : G 19 = F 19) : nE n G = nE n F := by
  unfold nE
  rw [HS_c h]
theorem RR.c {n : Nat} {M : Nat → Nat → Int64} {F G : Nat → Nat → Int32} (h : RR n M F) (e : G 19 = F 19) : RR n M G := by
  unfold RR at h ⊢
  rw [HS_c e, e]
  exact h
theorem sB.c {n : Nat} {S : Int64} {F G : Nat → Nat → Int32} {t : Int32} (h : sB n S F t) (e : G 7 = F 7) : sB n S G t := by
  unfold sB at h ⊢
  rw [e]
  exact h
theorem UW_c {F G : Nat → Nat → Int32} (e : G 7 = F 7) : UW G = UW F := by
  funext s
  unfold UW
  rw [e]
theorem mB.c {n : Nat} {S : Int64} {f g : Nat → Int32} (h : mB n S f) (e : ∀ s, s < n → (g s = 0 ↔ f s = 0)) : mB n S g := by
  intro s
  rw [h s]
  constructor
  · rintro ⟨a, b⟩; exact ⟨a, fun q => b ((e s a).mp q)⟩
  · rintro ⟨a, b⟩; exact ⟨a, fun q => b ((e s a).mpr q)⟩
theorem fw_members_lp (n x : Nat) (F : Nat → Nat → Int32) (V : Nat → Int32) (K : Nat → (Nat → Nat → Int32) → (Nat → Int32) → (Nat → Nat → Int32) × (Nat → Int32)) (hn : n ≤ 40) : ∀ fu i F5, i ≤ n → n < i + fu → Ag [27, 29] F F5 → (∀ y, y < i → F5 27 y = fl (decide (y = x)) ∧ F5 29 y = 0) → ∃ F6, f_w_members_2 n x fu i F5 V K = K n F6 V ∧ Ag [27, 29] F F6 ∧ ∀ y, y < n → F6 27 y = fl (decide (y = x)) ∧ F6 29 y = 0
  | 0, i, F5, h1, h2, _, _ => by omega
  | fu + 1, i, F5, h1, h2, hA, hf => by
    rw [f_w_members_2]
    by_cases hi : n ≤ i
    · have e : i = n := by omega
      subst e
      rw [if_pos hi]
      exact ⟨F5, rfl, hA, hf⟩
    · rw [if_neg hi]
      have st : ∀ v : Int32, v = fl (decide (i = x)) → ∃ F6, f_w_members_2 n x fu (i + 1) (va_up (va_up F5 27 (upd (F5 27) i v)) 29 (upd (F5 29) i 0)) V K = K n F6 V ∧ Ag [27, 29] F F6 ∧ ∀ y, y < n → F6 27 y = fl (decide (y = x)) ∧ F6 29 y = 0 := by
        intro v hv
        refine fw_members_lp n x F V K hn fu (i + 1) _ (by omega) (by omega) ((hA.tr (Ag.up (by decide))).tr (Ag.up (by decide))) (fun y hy => ?_)
        rw [va_up_self, va_up_ne _ _ (show (27 : Nat) ≠ 29 by decide), va_up_self]
        by_cases e : y = i
        · subst e; rw [pk_us, pk_us]; exact ⟨hv, rfl⟩
        · rw [pk_un e, pk_un e]; exact hf y (by omega)
      simp only [bnd]
      rw [cl hn hi, nb0, nb1]
      simp only [va_up_ne _ _ (show (29 : Nat) ≠ 27 by decide)]
      by_cases h3 : i = x
      · rw [if_pos h3]
        exact st 1 (by rw [decide_eq_true h3]; rfl)
      · rw [if_neg h3]
        exact st 0 (by rw [decide_eq_false h3]; rfl)
theorem fw_members (n x : Nat) (F : Nat → Nat → Int32) (V : Nat → Int32) (hn : n ≤ 40) : ∃ F2, f_w_members n x F V = (F2, V) ∧ Ag [27, 29] F F2 ∧ (∀ z, z < n → (¬ F2 27 z = 0 ↔ Clo (nE n F) (fun z => z < n ∧ z = x) z)) ∧ (∀ z, z < n → F2 27 z = 0 ∨ F2 27 z = 1) ∧ ∀ z, z < n → F2 29 z = 0 := by
  obtain ⟨F6, e, hA, hf⟩ := fw_members_lp n x F V (fun (i1 : Nat) (F5 : Nat → Nat → Int32) (V6 : Nat → Int32) => bn2 (f_w_addNeeds_member n F5 V6) (fun (F9 : Nat → Nat → Int32) (V10 : Nat → Int32) => (F9, V10))) hn (n + 1) 0 F (by omega) (by omega) Ag.rf (fun y hy => absurd hy (by omega))
  obtain ⟨f2, e2, h2, h3⟩ := fw_addNeeds_member n F6 V hn
  have eS : (fun z => z < n ∧ ¬ F6 27 z = 0) = (fun z => z < n ∧ z = x) := by
    funext z
    refine propext ⟨fun q => ⟨q.1, ?_⟩, fun q => ⟨q.1, ?_⟩⟩
    · have h9 := q.2
      rw [(hf z q.1).1] at h9
      exact of_decide_eq_true (fl_n0.mp h9)
    · rw [(hf z q.1).1, decide_eq_true q.2]; decide
  rw [eS, nE_c (hA 19 (by decide))] at h2
  refine ⟨va_up F6 27 f2, e.trans ?_, hA.tr (Ag.up (by decide)), fun z hz => ?_, fun z hz => ?_, fun z hz => ?_⟩
  · simp only [bn2]
    rw [e2]
  · rw [va_up_self]; exact h2 z hz
  · rw [va_up_self]
    rcases h3 z with q | q
    · rw [q, (hf z hz).1]; cases decide (z = x)
      · exact Or.inl rfl
      · exact Or.inr rfl
    · exact Or.inr q
  · rw [va_up_ne _ _ (by decide)]; exact (hf z hz).2
def wB (F : Nat → Nat → Int32) (q a : Nat) : Bool := decide (¬ F 27 a = 0) && HS F 1 a q && decide (F 27 q = 0) && decide (F 29 q = 0)
theorem fw_wanted_24 (n q : Nat) (F : Nat → Nat → Int32) (y : Int32) (K : Nat → Int32 → (Nat → Nat → Int32) × (Nat → Int32)) (hn : n ≤ 40) (hq : q < n) : ∀ fu i, i ≤ n → n < i + fu → f_w_addWanted_24 n F q fu i (if anyN (wB F q) i = true then nI q else y) K = K n (if anyN (wB F q) n = true then nI q else y)
  | 0, i, h1, h2 => by omega
  | fu + 1, i, h1, h2 => by
    rw [f_w_addWanted_24]
    by_cases hi : n ≤ i
    · have e : i = n := by omega
      subst e
      rw [if_pos hi]
    · rw [if_neg hi]
      have ih := fw_wanted_24 n q F y K hn hq fu (i + 1) (by omega) (by omega)
      rw [anyN_s] at ih
      simp only [bnd]
      rw [cl hn hi, nI_clamp (show q < 2 ^ 31 by omega), fw_has n F (by omega) (by omega) (by omega)]
      by_cases h3 : F 27 i = 0
      · rw [if_pos h3]
        rw [show wB F q i = false by simp [wB, h3], Bool.or_false] at ih
        exact ih
      · rw [if_neg h3]
        by_cases h4 : F 19 (ix 1 i q) = 0
        · rw [if_pos h4]
          rw [show wB F q i = false by simp [wB, HS, h4], Bool.or_false] at ih
          exact ih
        · rw [if_neg h4]
          by_cases h5 : F 27 q = 0
          · rw [if_pos h5]
            by_cases h6 : F 29 q = 0
            · rw [if_pos h6]
              rw [show wB F q i = true by simp [wB, HS, h3, h4, h5, h6], Bool.or_true, if_pos rfl] at ih
              exact ih
            · rw [if_neg h6]
              rw [show wB F q i = false by simp [wB, h6], Bool.or_false] at ih
              exact ih
          · rw [if_neg h5]
            rw [show wB F q i = false by simp [wB, h5], Bool.or_false] at ih
            exact ih
def LY (p : Nat → Bool) (n i : Nat) (y : Int32) : Prop := (y = -1 ∧ ∀ q, i ≤ q → q < n → p q = false) ∨ (∃ q, i ≤ q ∧ q < n ∧ y = nI q ∧ p q = true ∧ ∀ q2, i ≤ q2 → q2 < q → p q2 = false)
theorem LY.one {p : Nat → Bool} {n : Nat} {y y2 : Int32} (h : LY p n 0 y) (h2 : LY p n 0 y2) : y = y2 := by
  rcases h with ⟨e, h⟩ | ⟨q, _, hq, e, hp, hm⟩ <;> rcases h2 with ⟨e2, h2⟩ | ⟨q2, _, hq2, e2, hp2, hm2⟩
  · rw [e, e2]
  · rw [h q2 (by omega) hq2] at hp2; cases hp2
  · rw [h2 q (by omega) hq] at hp; cases hp
  · have : q = q2 := by
      rcases Nat.lt_trichotomy q q2 with c | c | c
      · rw [hm2 q (by omega) c] at hp; cases hp
      · exact c
      · rw [hm q2 (by omega) c] at hp2; cases hp2
    rw [e, e2, this]
theorem fw_wanted_17 (n : Nat) (F : Nat → Nat → Int32) (K : Nat → Int32 → (Nat → Nat → Int32) × (Nat → Int32)) (hn : n ≤ 40) : ∀ fu i y, i ≤ n → i < fu → LY (fun q => anyN (wB F q) n) n i y → ∃ y2, f_w_addWanted_17 n F fu i y K = K 0 y2 ∧ LY (fun q => anyN (wB F q) n) n 0 y2
  | 0, i, y, h1, h2, _ => by omega
  | fu + 1, i, y, h1, h2, hL => by
    rw [f_w_addWanted_17]
    by_cases hi : i = 0
    · subst hi
      rw [if_pos (by decide)]
      exact ⟨y, rfl, hL⟩
    · obtain ⟨k, rfl⟩ : ∃ k, i = k + 1 := ⟨i - 1, by omega⟩
      rw [pk_m1, if_neg (nI_pos (by omega))]
      simp only [bnd]
      rw [show k + 1 - 1 = k by omega]
      have e0 := fw_wanted_24 n k F y (fun _ y57 => f_w_addWanted_17 n F fu k y57 K) hn (by omega) (n + 1) 0 (by omega) (by omega)
      rw [if_neg (by intro q; cases q)] at e0
      have hL2 : LY (fun q => anyN (wB F q) n) n k (if anyN (wB F k) n = true then nI k else y) := by
        cases e : anyN (wB F k) n
        · rw [if_neg (by decide)]
          rcases hL with ⟨e1, h⟩ | ⟨q, h3, hq, e1, hp, hm⟩
          · refine Or.inl ⟨e1, fun q hq1 hq2 => ?_⟩
            by_cases c : q = k
            · subst c; exact e
            · exact h q (by omega) hq2
          · refine Or.inr ⟨q, by omega, hq, e1, hp, fun q2 h4 h5 => ?_⟩
            by_cases c : q2 = k
            · subst c; exact e
            · exact hm q2 (by omega) h5
        · rw [if_pos rfl]
          exact Or.inr ⟨k, by omega, by omega, rfl, e, fun q2 h4 h5 => absurd h5 (by omega)⟩
      obtain ⟨y2, e2, h9⟩ := fw_wanted_17 n F K hn fu k _ (by omega) (by omega) hL2
      exact ⟨y2, e0.trans e2, h9⟩
theorem fw_wanted_105 (n w : Nat) (F : Nat → Nat → Int32) (V : Nat → Int32) (K : Nat → (Nat → Nat → Int32) → (Nat → Int32) → (Nat → Nat → Int32) × (Nat → Int32)) (hn : n ≤ 40) : ∀ fu i g, i ≤ n → n < i + fu → (∀ y, y < i → g y = fl (decide (¬ F 27 y = 0) || decide (y = w))) → ∃ g2, f_w_addWanted_105 n w fu i (va_up F 28 g) V K = K n (va_up F 28 g2) V ∧ ∀ y, y < n → g2 y = fl (decide (¬ F 27 y = 0) || decide (y = w))
  | 0, i, g, h1, h2, _ => by omega
  | fu + 1, i, g, h1, h2, hf => by
    rw [f_w_addWanted_105]
    by_cases hi : n ≤ i
    · have e : i = n := by omega
      subst e
      rw [if_pos hi]
      exact ⟨g, rfl, hf⟩
    · rw [if_neg hi]
      have st : ∀ v : Int32, v = fl (decide (¬ F 27 i = 0) || decide (i = w)) → ∃ g2, f_w_addWanted_105 n w fu (i + 1) (va_up F 28 (upd g i v)) V K = K n (va_up F 28 g2) V ∧ ∀ y, y < n → g2 y = fl (decide (¬ F 27 y = 0) || decide (y = w)) := by
        intro v hv
        refine fw_wanted_105 n w F V K hn fu (i + 1) _ (by omega) (by omega) (fun y hy => ?_)
        by_cases e : y = i
        · subst e; rw [pk_us]; exact hv
        · rw [pk_un e]; exact hf y (by omega)
      simp only [bnd]
      rw [cl hn hi, nb0, nb1, va_up_self, va_uu, va_uu, va_up_ne F g (show (27 : Nat) ≠ 28 by decide)]
      by_cases h3 : F 27 i = 0
      · rw [if_pos h3]
        by_cases h4 : i = w
        · rw [if_pos h4]
          exact st 1 (by rw [decide_eq_true h4, Bool.or_true]; rfl)
        · rw [if_neg h4]
          exact st 0 (by rw [decide_eq_false h4, decide_eq_false (fun q => q h3)]; rfl)
      · rw [if_neg h3]
        exact st 1 (by rw [decide_eq_true h3, Bool.true_or]; rfl)
theorem fw_wanted_176 (n : Nat) (F : Nat → Nat → Int32) (V : Nat → Int32) (K : Nat → (Nat → Nat → Int32) → (Nat → Int32) → (Nat → Nat → Int32) × (Nat → Int32)) (hn : n ≤ 40) (h01 : ∀ y, y < n → F 28 y = 0 ∨ F 28 y = 1) : ∀ fu i g, i ≤ n → n < i + fu → (∀ y, y < i → g y = F 28 y) → ∃ g2, f_w_addWanted_176 n fu i (va_up F 27 g) V K = K n (va_up F 27 g2) V ∧ ∀ y, y < n → g2 y = F 28 y
  | 0, i, g, h1, h2, _ => by omega
  | fu + 1, i, g, h1, h2, hf => by
    rw [f_w_addWanted_176]
    by_cases hi : n ≤ i
    · have e : i = n := by omega
      subst e
      rw [if_pos hi]
      exact ⟨g, rfl, hf⟩
    · rw [if_neg hi]
      simp only [bnd]
      rw [cl hn hi, va_up_self, va_uu, va_up_ne F g (show (28 : Nat) ≠ 27 by decide)]
      refine fw_wanted_176 n F V K hn h01 fu (i + 1) _ (by omega) (by omega) (fun y hy => ?_)
      by_cases e : y = i
      · subst e
        rw [pk_us]
        rcases h01 y (by omega) with q | q <;> rw [q] <;> rfl
      · rw [pk_un e]; exact hf y (by omega)
theorem fw_wanted_0 (n fu i : Nat) (F : Nat → Nat → Int32) (V : Nat → Int32) (K : Nat → Int32 → (Nat → Nat → Int32) → (Nat → Int32) → (Nat → Nat → Int32) × (Nat → Int32)) : f_w_addWanted_2 n fu i 0 F V K = K i 0 F V := by
  cases fu with
  | zero => rw [f_w_addWanted_2]
  | succ fu => rw [f_w_addWanted_2, if_pos rfl]
theorem fy_least_lp (n : Nat) (dl : Nat → Nat) (x : Int64) : ∀ fu i, i ≤ 40 → 40 < i + fu → (∀ s, s < i → bL x s = false) → LY (bL x) 40 0 (f_y_least_2 n dl x fu i (fun _ => -1))
  | 0, i, h1, h2, _ => by omega
  | fu + 1, i, h1, h2, hf => by
    rw [f_y_least_2]
    by_cases hi : 40 ≤ i
    · rw [if_pos hi]
      exact Or.inl ⟨rfl, fun q _ hq => hf q (by omega)⟩
    · rw [if_neg hi]
      simp only [bnd]
      rw [fy_holds n dl x (by omega)]
      by_cases hb : bL x i = true
      · rw [if_pos hb, if_neg (by decide)]
        exact Or.inr ⟨i, by omega, by omega, rfl, hb, fun q _ hq => hf q hq⟩
      · rw [if_neg hb, if_pos rfl]
        refine fy_least_lp n dl x fu (i + 1) (by omega) (by omega) (fun s hs => ?_)
        by_cases e : s = i
        · subst e; exact bL_f hb
        · exact hf s (by omega)
theorem fy_least (n : Nat) (dl : Nat → Nat) (x : Int64) : LY (bL x) 40 0 (f_y_least n dl x) := fy_least_lp n dl x 41 0 (by omega) (by omega) (fun s hs => absurd hs (by omega))
theorem LY.c {p q : Nat → Bool} {n m : Nat} {y : Int32} (h : LY p m 0 y) (hn : n ≤ m) (e : ∀ s, s < n → p s = q s) (e2 : ∀ s, n ≤ s → s < m → p s = false) : LY q n 0 y := by
  rcases h with ⟨e1, h⟩ | ⟨s, _, hs, e1, hp, hm⟩
  · exact Or.inl ⟨e1, fun s _ hs => by rw [← e s hs]; exact h s (by omega) (by omega)⟩
  · have hsn : s < n := by
      rcases Nat.lt_or_ge s n with c | c
      · exact c
      · rw [e2 s c hs] at hp; cases hp
    exact Or.inr ⟨s, by omega, hsn, e1, by rw [← e s hsn]; exact hp, fun s2 _ h2 => by rw [← e s2 (by omega)]; exact hm s2 (by omega) h2⟩
def WI (n : Nat) (M : Nat → Nat → Int64) (F : Nat → Nat → Int32) (up mem lk : Int64) : Prop := mB n mem (F 27) ∧ mB n lk (F 29) ∧ (∀ s, s < n → F 27 s = 0 ∨ F 27 s = 1) ∧ (∀ a b, bL mem a = true → bL (M 0 a) b = true → bL mem b = true) ∧ SR (GS M (mem &&& (up ^^^ (-1)))) 0
theorem bnd_e {α β : Type} (a : α) (k : α → β) : bnd a k = k a := rfl
def awC (n m i : Nat) (K : Nat → Int32 → (Nat → Nat → Int32) → (Nat → Int32) → (Nat → Nat → Int32) × (Nat → Int32)) (F27 : Nat → Nat → Int32) (V28 : Nat → Int32) : (Nat → Nat → Int32) × (Nat → Int32) := bnd (f_w_clash_more n  F27) (fun (r29 : Int32) => if r29 = (0 : Int32) then (bn3 (f_w_memberRing_more n  F27 V28) (fun (r33 : Int32) (F34 : Nat → Nat → Int32) (V35 : Nat → Int32) => if r33 = (0 : Int32) then (f_w_addWanted_176 n  (n + 1) (0 : Nat) F34 V35 (fun (i37 : Nat) (F41 : Nat → Nat → Int32) (V42 : Nat → Int32) => f_w_addWanted_2 n  m (i + 1) (1 : Int32) F41 V42 K)) else (f_w_addWanted_2 n  m (i + 1) (1 : Int32) F34 V35 K))) else (f_w_addWanted_2 n  m (i + 1) (1 : Int32) F27 V28 K))
def awB (n m i : Nat) (K : Nat → Int32 → (Nat → Nat → Int32) → (Nat → Int32) → (Nat → Nat → Int32) × (Nat → Int32)) (F23 : Nat → Nat → Int32) (V24 : Nat → Int32) : (Nat → Nat → Int32) × (Nat → Int32) := bn2 (f_w_addNeeds_more n  F23 V24) (fun (F27 : Nat → Nat → Int32) (V28 : Nat → Int32) => awC n m i K F27 V28)
def awA (n m i : Nat) (K : Nat → Int32 → (Nat → Nat → Int32) → (Nat → Int32) → (Nat → Nat → Int32) × (Nat → Int32)) (F5 : Nat → Nat → Int32) (V6 : Nat → Int32) (y14 : Int32) : (Nat → Nat → Int32) × (Nat → Int32) := if y14 < (0 : Int32) then (f_w_addWanted_2 n  m (i + 1) (0 : Int32) F5 V6 K) else (bnd (y14.toNatClampNeg) (fun (j17 : Nat) => bnd (va_up F5 29 (upd (F5 29) (nI j17).toNatClampNeg (vp_nar .boolean 1))) (fun (F18 : Nat → Nat → Int32) => f_w_addWanted_105 n j17 (n + 1) (0 : Nat) F18 V6 (fun (i19 : Nat) (F23 : Nat → Nat → Int32) (V24 : Nat → Int32) => awB n m i K F23 V24))))
theorem aw_step (n m i : Nat) (K : Nat → Int32 → (Nat → Nat → Int32) → (Nat → Int32) → (Nat → Nat → Int32) × (Nat → Int32)) (F : Nat → Nat → Int32) (V : Nat → Int32) : f_w_addWanted_2 n (m + 1) i 1 F V K = f_w_addWanted_17 n F (n + 1) n (-1) (fun (i10 : Nat) (y14 : Int32) => awA n m i K F V y14) := by
  rw [f_w_addWanted_2, if_neg (by decide), bnd_e]
  unfold awA awB awC
  exact Eq.refl _
def gwB (n : Nat) (dl : Nat → Nat) (p0 : Int64) (M : Nat → Nat → Int64) (fu i : Nat) (lk : Int64) (L : Nat → Int64) (T : Int64) (w : Nat) : Nat → Int64 := if f_y_clash n dl T M = (0 : Int32) then (if lg_cmp (itL (gT M) 40 (T &&& p0)) (0 : Int64) = (0 : Int32) then (f_y_gatherWanted_5 n dl p0 M fu (i + 1) (lk ||| oL w) (va_up L 2 T) (fun _ _ L5 => L5)) else (f_y_gatherWanted_5 n dl p0 M fu (i + 1) (lk ||| oL w) L (fun _ _ L5 => L5))) else (f_y_gatherWanted_5 n dl p0 M fu (i + 1) (lk ||| oL w) L (fun _ _ L5 => L5))
theorem gw_step (n : Nat) (dl : Nat → Nat) (p0 : Int64) (M : Nat → Nat → Int64) (fu i : Nat) (lk : Int64) (L : Nat → Int64) (hi : ¬ 40 ≤ i) {y : Int32} (hy : f_y_least n dl (uS (M 1) (L 2) 40 &&& ((L 2) ^^^ (-1)) &&& (lk ^^^ (-1))) = y) : f_y_gatherWanted_5 n dl p0 M (fu + 1) i lk L (fun _ _ L5 => L5) = if (0 : Int32) ≤ y then gwB n dl p0 M fu i lk L (L 2 ||| itL (gN M) 40 (oL y.toNatClampNeg)) y.toNatClampNeg else L := by
  rw [f_y_gatherWanted_5, if_neg hi]
  simp only [bnd]
  rw [fy_fromAny1, hy, fy_only, fy_withNeeded, fy_tangled]
  rfl
theorem want_grow (n m i w : Nat) (K : Nat → Int32 → (Nat → Nat → Int32) → (Nat → Int32) → (Nat → Nat → Int32) × (Nat → Int32)) {M : Nat → Nat → Int64} {F : Nat → Nat → Int32} (V : Nat → Int32) {mem lk : Int64} (hn : n ≤ 40) (hwn : w < n) (hR : RR n M F) (w1 : mB n mem (F 27)) (w2 : mB n lk (F 29)) (w4 : ∀ a b, bL mem a = true → bL (M 0 a) b = true → bL mem b = true) : ∃ F3, f_w_addWanted_105 n w (n + 1) (0 : Nat) (va_up F 29 (upd (F 29) w 1)) V (fun (i19 : Nat) (F23 : Nat → Nat → Int32) (V24 : Nat → Int32) => awB n m i K F23 V24) = awC n m i K F3 V ∧ Ag [27, 28, 29, 31, 32] F F3 ∧ F3 27 = F 27 ∧ F3 29 = upd (F 29) w 1 ∧ mB n (mem ||| itL (gN M) 40 (oL w)) (F3 28) ∧ (∀ z, z < n → F3 28 z = 0 ∨ F3 28 z = 1) ∧ (∀ a b, bL (mem ||| itL (gN M) 40 (oL w)) a = true → bL (M 0 a) b = true → bL (mem ||| itL (gN M) 40 (oL w)) b = true) ∧ mB n (lk ||| oL w) (F3 29) := by
  obtain ⟨F1, eF1⟩ : ∃ f9 : Nat → Nat → Int32, f9 = va_up F 29 (upd (F 29) w 1) := ⟨_, rfl⟩
  rw [← eF1]
  have hA1 : Ag [27, 28, 29, 31, 32] F F1 := by rw [eF1]; exact Ag.up (by decide)
  have c1_27 : F1 27 = F 27 := by rw [eF1, va_up_ne _ _ (by decide)]
  have c1_29 : F1 29 = upd (F 29) w 1 := by rw [eF1, va_up_self]
  have c1_19 : F1 19 = F 19 := hA1 19 (by decide)
  clear eF1
  obtain ⟨g2, e3, hg2⟩ := fw_wanted_105 n w F1 V (fun (i19 : Nat) (F23 : Nat → Nat → Int32) (V24 : Nat → Int32) => awB n m i K F23 V24) hn (n + 1) 0 (F1 28) (by omega) (by omega) (fun y hy => absurd hy (by omega))
  rw [va_id] at e3
  obtain ⟨f2, e4, hf2, hf3⟩ := fw_addNeeds_more n (va_up F1 28 g2) V hn
  have e5 : awB n m i K (va_up F1 28 g2) V = awC n m i K (va_up (va_up F1 28 g2) 28 f2) V := by
    unfold awB
    rw [e4]
    rfl
  obtain ⟨F3, eF3⟩ : ∃ f9 : Nat → Nat → Int32, f9 = va_up (va_up F1 28 g2) 28 f2 := ⟨_, rfl⟩
  rw [← eF3] at e5
  have hA3 : Ag [27, 28, 29, 31, 32] F F3 := by rw [eF3]; exact (hA1.tr (Ag.up (by decide))).tr (Ag.up (by decide))
  have c27 : F3 27 = F 27 := by rw [eF3, va_up_ne _ _ (by decide), va_up_ne _ _ (by decide), c1_27]
  have c28 : F3 28 = f2 := by rw [eF3, va_up_self]
  have c29 : F3 29 = upd (F 29) w 1 := by rw [eF3, va_up_ne _ _ (by decide), va_up_ne _ _ (by decide), c1_29]
  clear eF3
  rw [va_up_self, nE_c (show va_up F1 28 g2 19 = F 19 by rw [va_up_ne _ _ (by decide), c1_19])] at hf2
  rw [va_up_self] at hf3
  have h01 : ∀ z, z < n → f2 z = 0 ∨ f2 z = 1 := by
    intro z hz
    rcases hf3 z with q | q
    · rw [q, hg2 z hz]
      cases (decide (¬ F1 27 z = 0) || decide (z = w))
      · exact Or.inl rfl
      · exact Or.inr rfl
    · exact Or.inr q
  have hM := hR.m40 hn
  have hclo : ∀ z, bL (itL (gN M) 40 (oL w)) z = true ↔ Clo (nE n F) (fun z => z = w) z := by
    intro z
    rw [gN_clo hM (fun y hy => by rw [bL_oL (by omega)] at hy; omega), hR.nE]
    have : (fun y => bL (oL w) y = true) = (fun y => y = w) := by
      funext y
      exact propext (bL_oL (by omega))
    rw [this]
  have hlt : ∀ z, Clo (nE n F) (fun z => z = w) z → z < n := fun z h => Clo.least (T := fun z => z < n) (fun y hy => by omega) (fun y z _ he => he.2.1) h
  have hB : mB n (mem ||| itL (gN M) 40 (oL w)) f2 := by
    intro z
    rw [bL_orT, hclo, w1 z]
    constructor
    · rintro (⟨q1, q2⟩ | q)
      · exact ⟨q1, (hf2 z q1).mpr (Clo.base ⟨q1, by rw [hg2 z q1, c1_27, decide_eq_true q2, Bool.true_or]; decide⟩)⟩
      · refine ⟨hlt z q, (hf2 z (hlt z q)).mpr ?_⟩
        exact Clo.least (T := fun z => Clo (nE n F) (fun z => z < n ∧ ¬ g2 z = 0) z) (fun y hy => by subst hy; exact Clo.base ⟨hwn, by rw [hg2 y hwn, decide_eq_true (rfl : y = y), Bool.or_true]; decide⟩) (fun y z h9 he => h9.step he) q
    · rintro ⟨q1, q2⟩
      have q3 := (hf2 z q1).mp q2
      refine Clo.least (T := fun z => (z < n ∧ ¬ F 27 z = 0) ∨ Clo (nE n F) (fun z => z = w) z) (fun y hy => ?_) (fun y z h9 he => ?_) q3
      · have h9 := hy.2
        rw [hg2 y hy.1, c1_27] at h9
        rcases (Bool.or_eq_true _ _).mp (fl_n0.mp h9) with h8 | h8
        · exact Or.inl ⟨hy.1, of_decide_eq_true h8⟩
        · exact Or.inr (Clo.base (of_decide_eq_true h8))
      · rcases h9 with h9 | h9
        · exact Or.inl ((w1 z).mp (w4 y z ((w1 y).mpr h9) ((hR.1 0 y z (by omega)).mpr he)))
        · exact Or.inr (h9.step he)
  refine ⟨F3, e3.trans e5, hA3, c27, c29, by rw [c28]; exact hB, by rw [c28]; exact h01, fun a b h8 h9 => ?_, fun z => ?_⟩
  · rw [bL_orT, hclo] at h8 ⊢
    rcases h8 with h8 | h8
    · exact Or.inl (w4 a b h8 h9)
    · exact Or.inr (h8.step ((hR.1 0 a b (by omega)).mp h9))
  · rw [bL_orT, bL_oL (by omega), w2 z, c29]
    by_cases e : z = w
    · subst e
      rw [pk_us]
      exact ⟨fun _ => ⟨hwn, by decide⟩, fun _ => Or.inr rfl⟩
    · rw [pk_un e]
      exact ⟨fun q => q.resolve_right e, fun q => Or.inl q⟩
theorem want_least (n : Nat) (dl : Nat → Nat) {M : Nat → Nat → Int64} {F : Nat → Nat → Int32} {mem lk : Int64} (hn : n ≤ 40) (hR : RR n M F) (w1 : mB n mem (F 27)) (w2 : mB n lk (F 29)) : LY (fun q => anyN (wB F q) n) n 0 (f_y_least n dl (uS (M 1) mem 40 &&& (mem ^^^ (-1)) &&& (lk ^^^ (-1)))) := by
  refine LY.c (fy_least n dl _) hn (fun s hs => ?_) (fun s hs _ => ?_)
  · have hiff : bL (uS (M 1) mem 40 &&& (mem ^^^ (-1)) &&& (lk ^^^ (-1))) s = true ↔ anyN (wB F s) n = true := by
      rw [bL_andN, bL_andN, bL_uS, anyN_iff, w1 s, w2 s]
      constructor
      · rintro ⟨⟨⟨a, ha, q1, q2⟩, q3⟩, q4⟩
        obtain ⟨b1, b2, b3⟩ := (hR.1 1 a s (by omega)).mp q2
        have c1 := ((w1 a).mp q1).2
        have c2 : F 27 s = 0 := Classical.byContradiction (fun q => q3 ⟨hs, q⟩)
        have c3 : F 29 s = 0 := Classical.byContradiction (fun q => q4 ⟨hs, q⟩)
        exact ⟨a, b1, by simp [wB, c1, b3, c2, c3]⟩
      · rintro ⟨a, ha, q⟩
        simp only [wB, Bool.and_eq_true, decide_eq_true_eq] at q
        obtain ⟨⟨⟨q1, q2⟩, q3⟩, q4⟩ := q
        exact ⟨⟨⟨a, by omega, (w1 a).mpr ⟨ha, q1⟩, (hR.1 1 a s (by omega)).mpr ⟨ha, hs, q2⟩⟩, fun c => c.2 q3⟩, fun c => c.2 q4⟩
    cases e5 : anyN (wB F s) n
    · exact bL_f (fun q => by rw [hiff.mp q] at e5; cases e5)
    · exact hiff.mpr e5
  · refine bL_f (fun q => ?_)
    rw [bL_andN, bL_andN, bL_uS] at q
    obtain ⟨⟨⟨a, ha, q1, q2⟩, q3⟩, q4⟩ := q
    have := ((hR.1 1 a s (by omega)).mp q2).2.1
    omega
def WSp (n : Nat) (M : Nat → Nat → Int64) (V : Nat → Int32) (K : Nat → Int32 → (Nat → Nat → Int32) → (Nat → Int32) → (Nat → Nat → Int32) × (Nat → Int32)) (up : Int64) (F : Nat → Nat → Int32) (L LC : Nat → Int64) (R : (Nat → Nat → Int32) × (Nat → Int32)) : Prop := ∃ i2 y2 F2, R = K i2 y2 F2 V ∧ Ag [27, 28, 29, 31, 32] F F2 ∧ (∀ j, j ≠ 2 → LC j = L j) ∧ ∃ lk2, WI n M F2 up (LC 2) lk2
theorem WSp.mono {n : Nat} {M : Nat → Nat → Int64} {V : Nat → Int32} {K : Nat → Int32 → (Nat → Nat → Int32) → (Nat → Int32) → (Nat → Nat → Int32) × (Nat → Int32)} {up : Int64} {F F3 : Nat → Nat → Int32} {L L3 LC : Nat → Int64} {R : (Nat → Nat → Int32) × (Nat → Int32)} (h : WSp n M V K up F3 L3 LC R) (hA : Ag [27, 28, 29, 31, 32] F F3) (hL : ∀ j, j ≠ 2 → L3 j = L j) : WSp n M V K up F L LC R := by
  obtain ⟨i2, y2, F2, e, hA2, hj, hW⟩ := h
  exact ⟨i2, y2, F2, e, hA.tr hA2, fun j q => (hj j q).trans (hL j q), hW⟩
theorem wanted_sim (n : Nat) (dl : Nat → Nat) (M : Nat → Nat → Int64) (V : Nat → Int32) (K : Nat → Int32 → (Nat → Nat → Int32) → (Nat → Int32) → (Nat → Nat → Int32) × (Nat → Int32)) (up : Int64) (hn : n ≤ 40) : ∀ fuC fuM i iM (L : Nat → Int64) lk F, i ≤ 40 → 40 < i + fuC → n + 2 ≤ fuM + cN (fun s => decide (¬ F 29 s = 0)) n → i ≤ cN (fun s => decide (¬ F 29 s = 0)) n → RR n M F → sB n up F 2 → WI n M F up (L 2) lk →
    WSp n M V K up F L (f_y_gatherWanted_5 n dl (up ^^^ (-1)) M fuC i lk L (fun _ _ L5 => L5)) (f_w_addWanted_2 n fuM iM 1 F V K)
  | 0, fuM, i, iM, L, lk, F, h1, h2, _, _, _, _, _ => by omega
  | fuC + 1, fuM, i, iM, L, lk, F, h1, h2, h3, h4, hR, hU, hW => by
    have hle := cN_le (fun s => decide (¬ F 29 s = 0)) n
    obtain ⟨m, rfl⟩ : ∃ m, fuM = m + 1 := ⟨fuM - 1, by omega⟩
    obtain ⟨w1, w2, w3, w4, w5⟩ := id hW
    rw [aw_step]
    obtain ⟨y2, e2, hL⟩ := fw_wanted_17 n F (fun (i10 : Nat) (y14 : Int32) => awA n m iM K F V y14) hn (n + 1) n (-1) (by omega) (by omega) (Or.inl ⟨rfl, fun q h5 h6 => absurd h6 (by omega)⟩)
    rw [e2]
    clear e2
    have hC := LY.one (want_least n dl hn hR w1 w2) hL
    have stay : WSp n M V K up F L L (f_w_addWanted_2 n m (iM + 1) (0 : Int32) F V K) := by
      rw [fw_wanted_0]
      exact ⟨_, _, F, rfl, Ag.rf, fun j _ => rfl, lk, hW⟩
    by_cases hi : 40 ≤ i
    · -- all were looked at
      have hall : ∀ s, s < n → ¬ F 29 s = 0 := by
        intro s hs q
        have h8 := cN_lt (p := fun s => decide (¬ F 29 s = 0)) (q := fun _ => true) (k := n) (j := s) (fun _ _ _ => rfl) hs (by simp [q]) rfl
        have h9 := cN_le (fun _ => true) n
        omega
      have ey : y2 = -1 := by
        rcases hL with ⟨e, _⟩ | ⟨q, _, hq, _, hp, _⟩
        · exact e
        · obtain ⟨a, ha, hq2⟩ := (anyN_iff _ _).mp hp
          simp [wB, hall q hq] at hq2
      subst ey
      rw [f_y_gatherWanted_5, if_pos hi]
      unfold awA
      rw [if_pos (by decide)]
      exact stay
    · rw [gw_step n dl _ M fuC i lk L hi hC]
      rcases hL with ⟨ey, _⟩ | ⟨w, _, hwn, ey, hp, _⟩
      · subst ey
        unfold awA
        rw [if_neg (show ¬ (0 : Int32) ≤ -1 by decide), if_pos (show (-1 : Int32) < 0 by decide)]
        exact stay
      · subst ey
        unfold awA
        simp only [bnd]
        rw [if_pos (nI_pos' (by omega)), if_neg (nI_pos (by omega)), nI_clamp (show w < 2 ^ 31 by omega), nI_clamp (show w < 2 ^ 31 by omega), nb1]
        obtain ⟨a0, ha0, hwB⟩ := (anyN_iff _ _).mp hp
        simp only [wB, Bool.and_eq_true, decide_eq_true_eq] at hwB
        have hw29 := hwB.2
        clear hwB ha0 hp hC stay
        obtain ⟨F3, e3, hA3, c27, c29, hB3, h01, hcl, hlk⟩ := want_grow n m iM w K V hn hwn hR w1 w2 w4
        rw [e3]
        clear e3
        obtain ⟨T, eT⟩ : ∃ t9 : Int64, t9 = L 2 ||| itL (gN M) 40 (oL w) := ⟨_, rfl⟩
        rw [← eT] at hB3 hcl ⊢
        clear eT
        have hM := hR.m40 hn
        have hR3 := hR.c (hA3 19 (by decide))
        have hU3 := hU.c (hA3 7 (by decide))
        have hcnt : cN (fun s => decide (¬ F 29 s = 0)) n < cN (fun s => decide (¬ F3 29 s = 0)) n := by
          refine cN_lt (j := w) (fun s hs q => ?_) hwn (by simp [hw29]) (by rw [c29, pk_us]; decide)
          rw [c29]
          by_cases e : s = w
          · subst e; rw [pk_us]; decide
          · rw [pk_un e]; exact q
        have hW3 : WI n M F3 up (L 2) (lk ||| oL w) := ⟨by rw [c27]; exact w1, hlk, by rw [c27]; exact w3, w4, w5⟩
        unfold gwB awC
        simp only [bnd]
        rw [clash28 hR3 hn dl hB3]
        by_cases hc : f_w_clash_more n F3 = 0
        · rw [if_pos hc, if_pos hc]
          obtain ⟨r, F4, e5, hr, hA4, hS⟩ := fw_memberRing_more n F3 V hn
          have hA4' : Ag [27, 28, 29, 31, 32] F F4 := hA3.tr (hA4.sub (by decide))
          have hS2 : SR (GS M (T &&& (up ^^^ (-1)))) r := ring_gen hR3 hB3 hU3 (fun a b => rfl) hS
          have hin40 : ∀ z, bL (T &&& (up ^^^ (-1))) z = true → z < 40 := by
            intro z hz
            have := ((hB3 z).mp (bL_andT.mp hz).1).1
            omega
          have ht := tangled_0 hM hin40
          have d27 : F4 27 = F3 27 := hA4 27 (by decide)
          have d28 : F4 28 = F3 28 := hA4 28 (by decide)
          have d29 : F4 29 = F3 29 := hA4 29 (by decide)
          rw [e5]
          clear e5
          simp only [bn3]
          by_cases h0 : r = 0
          · subst h0
            rw [if_pos (show nI 0 = 0 from rfl), if_pos ((lg_0 _ _).mpr (ht.mpr hS2))]
            obtain ⟨g3, e6, hg3⟩ := fw_wanted_176 n F4 V (fun (i37 : Nat) (F41 : Nat → Nat → Int32) (V42 : Nat → Int32) => f_w_addWanted_2 n m (iM + 1) (1 : Int32) F41 V42 K) hn (by rw [d28]; exact h01) (n + 1) 0 (F4 27) (by omega) (by omega) (fun y hy => absurd hy (by omega))
            rw [va_id] at e6
            rw [e6]
            have b29 : va_up F4 27 g3 29 = F3 29 := by rw [va_up_ne _ _ (by decide), d29]
            have ev : va_up L 2 T 2 = T := va_up_self _ _ _
            refine WSp.mono (wanted_sim n dl M V K up hn fuC m (i + 1) (iM + 1) (va_up L 2 T) (lk ||| oL w) (va_up F4 27 g3) (by omega) (by omega) (by rw [b29]; omega) (by rw [b29]; omega) (hR.c (show va_up F4 27 g3 19 = F 19 by rw [va_up_ne _ _ (by decide)]; exact hA4' 19 (by decide))) (hU.c (show va_up F4 27 g3 7 = F 7 by rw [va_up_ne _ _ (by decide)]; exact hA4' 7 (by decide))) ?_) (hA4'.tr (Ag.up (by decide))) (fun j hj2 => va_up_ne _ _ hj2)
            rw [ev]
            refine ⟨?_, by rw [b29]; exact hlk, ?_, hcl, hS2⟩
            · rw [va_up_self]
              exact hB3.c (fun s hs => by rw [hg3 s hs, d28])
            · rw [va_up_self]
              intro s hs
              rw [hg3 s hs, d28]
              exact h01 s hs
          · rw [if_neg (nI_ne0 (by omega) (by omega)), if_neg (fun q => h0 (SR.one hS2 (ht.mp ((lg_0 _ _).mp q))))]
            refine WSp.mono (wanted_sim n dl M V K up hn fuC m (i + 1) (iM + 1) L (lk ||| oL w) F4 (by omega) (by omega) (by rw [d29]; omega) (by rw [d29]; omega) (hR.c (hA4' 19 (by decide))) (hU.c (hA4' 7 (by decide))) ?_) hA4' (fun j _ => rfl)
            obtain ⟨q1, q2, q3, q4, q5⟩ := hW3
            exact ⟨by rw [d27]; exact q1, by rw [d29]; exact q2, by rw [d27]; exact q3, q4, q5⟩
        · rw [if_neg hc, if_neg hc]
          exact WSp.mono (wanted_sim n dl M V K up hn fuC m (i + 1) (iM + 1) L (lk ||| oL w) F3 (by omega) (by omega) (by omega) (by omega) hR3 hU3 hW3) hA3 (fun j _ => rfl)

end
section
def tB (F : Nat → Nat → Int32) (s b : Nat) : Bool := decide (¬ F 27 b = 0) && HS F 3 s b
theorem tB_c {F G : Nat → Nat → Int32} (h : G 27 = F 27) (e : G 19 = F 19) : tB G = tB F := by
  funext s b
  unfold tB
  rw [h, HS_c e]
theorem fw_look_167 (n s : Nat) (F : Nat → Nat → Int32) (V : Nat → Int32) (c : Bool) (K : Nat → Int32 → (Nat → Nat → Int32) → (Nat → Int32) → Int32 × (Nat → Nat → Int32) × (Nat → Int32)) (hn : n ≤ 40) (hs : s < 40) : ∀ fu i, i ≤ n → n < i + fu → f_w_look_167 n s fu i (fl (c || anyN (tB F s) i)) F V K = K n (fl (c || anyN (tB F s) n)) F V
  | 0, i, h1, h2 => by omega
  | fu + 1, i, h1, h2 => by
    rw [f_w_look_167]
    by_cases hi : n ≤ i
    · have e : i = n := by omega
      subst e
      rw [if_pos hi]
    · rw [if_neg hi]
      have ih := fw_look_167 n s F V c K hn hs fu (i + 1) (by omega) (by omega)
      rw [anyN_s, ← Bool.or_assoc] at ih
      simp only [bnd]
      rw [cl hn hi, fw_has n F (by omega) hs (by omega)]
      cases h0 : (c || anyN (tB F s) i)
      · rw [h0] at ih
        rw [if_pos (by decide)]
        by_cases h3 : F 27 i = 0
        · rw [if_pos h3]
          rw [show tB F s i = false by simp [tB, h3]] at ih
          exact ih
        · rw [if_neg h3]
          by_cases h4 : F 19 (ix 3 s i) = 0
          · rw [if_pos h4]
            rw [show tB F s i = false by simp [tB, HS, h4]] at ih
            exact ih
          · rw [if_neg h4]
            rw [show tB F s i = true by simp [tB, HS, h3, h4]] at ih
            exact ih
      · rw [h0] at ih
        rw [if_neg (by decide)]
        exact ih
theorem fw_look_167q1 (n s : Nat) (F : Nat → Nat → Int32) (V : Nat → Int32) (c : Bool) (K : Nat → Int32 → (Nat → Nat → Int32) → (Nat → Int32) → Int32 × (Nat → Nat → Int32) × (Nat → Int32)) (hn : n ≤ 40) (hs : s < 40) : ∀ fu i, i ≤ n → n < i + fu → f_w_look_167q1 n s fu i (fl (c || anyN (tB F s) i)) F V K = K n (fl (c || anyN (tB F s) n)) F V
  | 0, i, h1, h2 => by omega
  | fu + 1, i, h1, h2 => by
    rw [f_w_look_167q1]
    by_cases hi : n ≤ i
    · have e : i = n := by omega
      subst e
      rw [if_pos hi]
    · rw [if_neg hi]
      have ih := fw_look_167q1 n s F V c K hn hs fu (i + 1) (by omega) (by omega)
      rw [anyN_s, ← Bool.or_assoc] at ih
      simp only [bnd]
      rw [cl hn hi, fw_has n F (by omega) hs (by omega)]
      cases h0 : (c || anyN (tB F s) i)
      · rw [h0] at ih
        rw [if_pos (by decide)]
        by_cases h3 : F 27 i = 0
        · rw [if_pos h3]
          rw [show tB F s i = false by simp [tB, h3]] at ih
          exact ih
        · rw [if_neg h3]
          by_cases h4 : F 19 (ix 3 s i) = 0
          · rw [if_pos h4]
            rw [show tB F s i = false by simp [tB, HS, h4]] at ih
            exact ih
          · rw [if_neg h4]
            rw [show tB F s i = true by simp [tB, HS, h3, h4]] at ih
            exact ih
      · rw [h0] at ih
        rw [if_neg (by decide)]
        exact ih
theorem fw_look_167q2 (n s : Nat) (F : Nat → Nat → Int32) (V : Nat → Int32) (c : Bool) (K : Nat → Int32 → (Nat → Nat → Int32) → (Nat → Int32) → Int32 × (Nat → Nat → Int32) × (Nat → Int32)) (hn : n ≤ 40) (hs : s < 40) : ∀ fu i, i ≤ n → n < i + fu → f_w_look_167q2 n s fu i (fl (c || anyN (tB F s) i)) F V K = K n (fl (c || anyN (tB F s) n)) F V
  | 0, i, h1, h2 => by omega
  | fu + 1, i, h1, h2 => by
    rw [f_w_look_167q2]
    by_cases hi : n ≤ i
    · have e : i = n := by omega
      subst e
      rw [if_pos hi]
    · rw [if_neg hi]
      have ih := fw_look_167q2 n s F V c K hn hs fu (i + 1) (by omega) (by omega)
      rw [anyN_s, ← Bool.or_assoc] at ih
      simp only [bnd]
      rw [cl hn hi, fw_has n F (by omega) hs (by omega)]
      cases h0 : (c || anyN (tB F s) i)
      · rw [h0] at ih
        rw [if_pos (by decide)]
        by_cases h3 : F 27 i = 0
        · rw [if_pos h3]
          rw [show tB F s i = false by simp [tB, h3]] at ih
          exact ih
        · rw [if_neg h3]
          by_cases h4 : F 19 (ix 3 s i) = 0
          · rw [if_pos h4]
            rw [show tB F s i = false by simp [tB, HS, h4]] at ih
            exact ih
          · rw [if_neg h4]
            rw [show tB F s i = true by simp [tB, HS, h3, h4]] at ih
            exact ih
      · rw [h0] at ih
        rw [if_neg (by decide)]
        exact ih
def goB (n : Nat) (F : Nat → Nat → Int32) (p : Int32) (y : Nat) : Bool := (decide (p = 2) && decide (F 27 y = 0)) || anyN (tB F y) n
theorem fw_look_133 (n : Nat) (p : Int32) (F : Nat → Nat → Int32) (V : Nat → Int32) (K : Nat → (Nat → Nat → Int32) → (Nat → Int32) → Int32 × (Nat → Nat → Int32) × (Nat → Int32)) (hn : n ≤ 40) : ∀ fu i g, i ≤ n → n < i + fu → (∀ y, y < i → g y = if (goB n F p y && UW F y) = true then 2 else 0) → ∃ g2, f_w_look_133 n p fu i (va_up F 30 g) V K = K n (va_up F 30 g2) V ∧ ∀ y, y < n → g2 y = if (goB n F p y && UW F y) = true then 2 else 0
  | 0, i, g, h1, h2, _ => by omega
  | fu + 1, i, g, h1, h2, hf => by
    rw [f_w_look_133]
    by_cases hi : n ≤ i
    · have e : i = n := by omega
      subst e
      rw [if_pos hi]
      exact ⟨g, rfl, hf⟩
    · rw [if_neg hi]
      have e27 : va_up F 30 g 27 = F 27 := va_up_ne _ _ (by decide)
      have e19 : va_up F 30 g 19 = F 19 := va_up_ne _ _ (by decide)
      have e7 : va_up F 30 g 7 = F 7 := va_up_ne _ _ (by decide)
      have st : ∀ v : Int32, v = (if (goB n F p i && UW F i) = true then 2 else 0) → ∃ g2, f_w_look_133 n p fu (i + 1) (va_up F 30 (upd g i v)) V K = K n (va_up F 30 g2) V ∧ ∀ y, y < n → g2 y = if (goB n F p y && UW F y) = true then 2 else 0 := by
        intro v hv
        refine fw_look_133 n p F V K hn fu (i + 1) _ (by omega) (by omega) (fun y hy => ?_)
        by_cases e : y = i
        · subst e; rw [pk_us]; exact hv
        · rw [pk_un e]; exact hf y (by omega)
      have fin : ∀ c : Bool, goB n F p i = c → ∃ g2, (if fl c = (0 : Int32) then (f_w_look_133 n p fu (i + 1) (va_up (va_up F 30 g) 30 (upd (va_up F 30 g 30) (nI i).toNatClampNeg 0)) V K) else (if f_w_isUpOrWaiting n i (va_up F 30 g) = (0 : Int32) then (f_w_look_133 n p fu (i + 1) (va_up (va_up F 30 g) 30 (upd (va_up F 30 g 30) (nI i).toNatClampNeg 0)) V K) else (f_w_look_133 n p fu (i + 1) (va_up (va_up F 30 g) 30 (upd (va_up F 30 g 30) (nI i).toNatClampNeg 2)) V K))) = K n (va_up F 30 g2) V ∧ ∀ y, y < n → g2 y = if (goB n F p y && UW F y) = true then 2 else 0 := by
        intro c hc
        rw [fw_uw n _ (by omega), e7, show (decide (F 7 i = 2) || decide (F 7 i = 5)) = UW F i from rfl, va_up_self, va_uu, va_uu, cl hn hi]
        cases c
        · rw [if_pos (by decide)]
          exact st 0 (by rw [hc]; rfl)
        · rw [if_neg (by decide)]
          cases hu : UW F i
          · rw [if_pos (by decide)]
            exact st 0 (by rw [hu, Bool.and_false]; rfl)
          · rw [if_neg (by decide)]
            exact st 2 (by rw [hc, hu]; rfl)
      simp only [bnd]
      by_cases hp : p = 2
      · rw [if_pos hp, e27, cl hn hi]
        by_cases h3 : F 27 i = 0
        · rw [if_pos h3]
          have e0 := fw_look_167q2 n i (va_up F 30 g) V true (fun (i129 : Nat) (y135 : Int32) (F133 : Nat → Nat → Int32) (V134 : Nat → Int32) => if y135 = (0 : Int32) then (f_w_look_133 n p fu (i + 1) (va_up F133 30 (upd (F133 30) i 0)) V134 K) else (if f_w_isUpOrWaiting n i F133 = (0 : Int32) then (f_w_look_133 n p fu (i + 1) (va_up F133 30 (upd (F133 30) i 0)) V134 K) else (f_w_look_133 n p fu (i + 1) (va_up F133 30 (upd (F133 30) i 2)) V134 K))) hn (by omega) (n + 1) 0 (by omega) (by omega)
          rw [Bool.true_or, Bool.true_or] at e0
          obtain ⟨g2, e1, h9⟩ := fin true (by simp [goB, hp, h3])
          rw [cl hn hi] at e1
          exact ⟨g2, e0.trans e1, h9⟩
        · rw [if_neg h3]
          have e0 := fw_look_167q1 n i (va_up F 30 g) V false (fun (i129 : Nat) (y135 : Int32) (F133 : Nat → Nat → Int32) (V134 : Nat → Int32) => if y135 = (0 : Int32) then (f_w_look_133 n p fu (i + 1) (va_up F133 30 (upd (F133 30) i 0)) V134 K) else (if f_w_isUpOrWaiting n i F133 = (0 : Int32) then (f_w_look_133 n p fu (i + 1) (va_up F133 30 (upd (F133 30) i 0)) V134 K) else (f_w_look_133 n p fu (i + 1) (va_up F133 30 (upd (F133 30) i 2)) V134 K))) hn (by omega) (n + 1) 0 (by omega) (by omega)
          rw [Bool.false_or, Bool.false_or, tB_c e27 e19] at e0
          obtain ⟨g2, e1, h9⟩ := fin (anyN (tB F i) n) (by simp [goB, h3])
          rw [cl hn hi] at e1
          exact ⟨g2, e0.trans e1, h9⟩
      · rw [if_neg hp, cl hn hi]
        have e0 := fw_look_167 n i (va_up F 30 g) V false (fun (i129 : Nat) (y135 : Int32) (F133 : Nat → Nat → Int32) (V134 : Nat → Int32) => if y135 = (0 : Int32) then (f_w_look_133 n p fu (i + 1) (va_up F133 30 (upd (F133 30) i 0)) V134 K) else (if f_w_isUpOrWaiting n i F133 = (0 : Int32) then (f_w_look_133 n p fu (i + 1) (va_up F133 30 (upd (F133 30) i 0)) V134 K) else (f_w_look_133 n p fu (i + 1) (va_up F133 30 (upd (F133 30) i 2)) V134 K))) hn (by omega) (n + 1) 0 (by omega) (by omega)
        rw [Bool.false_or, Bool.false_or, tB_c e27 e19] at e0
        obtain ⟨g2, e1, h9⟩ := fin (anyN (tB F i) n) (by simp [goB, hp])
        rw [cl hn hi] at e1
        exact ⟨g2, e0.trans e1, h9⟩
def mcB (F : Nat → Nat → Int32) (s : Nat) : Bool := decide (¬ F 27 s = 0) && decide (F 30 s = 2)
theorem fw_look_256 (n : Nat) (F : Nat → Nat → Int32) (V : Nat → Int32) (K : Nat → (Nat → Nat → Int32) → (Nat → Int32) → Int32 × (Nat → Nat → Int32) × (Nat → Int32)) (hn : n ≤ 40) : ∀ fu i, i ≤ n → n < i + fu → (∀ s, s < i → mcB F s = false) → f_w_look_256 n fu i F V K = if anyN (mcB F) n = true then ((-4 : Int32), F, V) else K n F V
  | 0, i, h1, h2, _ => by omega
  | fu + 1, i, h1, h2, hf => by
    rw [f_w_look_256]
    by_cases hi : n ≤ i
    · have e : i = n := by omega
      subst e
      rw [if_pos hi, if_neg (by rw [anyN_f.mpr hf]; decide)]
    · rw [if_neg hi]
      have ih := fun (h : mcB F i = false) => fw_look_256 n F V K hn fu (i + 1) (by omega) (by omega) (fun s hs => by
        by_cases e : s = i
        · subst e; exact h
        · exact hf s (by omega))
      simp only [bnd]
      rw [cl hn hi]
      by_cases h3 : F 27 i = 0
      · rw [if_pos h3]
        exact ih (by simp [mcB, h3])
      · rw [if_neg h3]
        by_cases h4 : F 30 i = 2
        · rw [if_pos h4, if_pos]
          exact (anyN_iff _ _).mpr ⟨i, by omega, by simp [mcB, h3, h4]⟩
        · rw [if_neg h4]
          exact ih (by simp [mcB, h4])
theorem fw_look_298 (n : Nat) (F : Nat → Nat → Int32) (V : Nat → Int32) (K : Nat → (Nat → Nat → Int32) → (Nat → Int32) → Int32 × (Nat → Nat → Int32) × (Nat → Int32)) (hn : n ≤ 40) : ∀ fu i g, i ≤ n → n < i + fu → (∀ y, y < i → g y = if ¬ F 27 y = 0 ∧ ¬ F 7 y = 2 then 1 else F 30 y) → (∀ y, i ≤ y → g y = F 30 y) → ∃ g2, f_w_look_298 n fu i (va_up F 30 g) V K = K n (va_up F 30 g2) V ∧ ∀ y, y < n → g2 y = if ¬ F 27 y = 0 ∧ ¬ F 7 y = 2 then 1 else F 30 y
  | 0, i, g, h1, h2, _, _ => by omega
  | fu + 1, i, g, h1, h2, hf, hg => by
    rw [f_w_look_298]
    by_cases hi : n ≤ i
    · have e : i = n := by omega
      subst e
      rw [if_pos hi]
      exact ⟨g, rfl, hf⟩
    · rw [if_neg hi]
      have st : ∀ v : Int32, v = (if ¬ F 27 i = 0 ∧ ¬ F 7 i = 2 then 1 else F 30 i) → ∃ g2, f_w_look_298 n fu (i + 1) (va_up F 30 (upd g i v)) V K = K n (va_up F 30 g2) V ∧ ∀ y, y < n → g2 y = if ¬ F 27 y = 0 ∧ ¬ F 7 y = 2 then 1 else F 30 y := by
        intro v hv
        refine fw_look_298 n F V K hn fu (i + 1) _ (by omega) (by omega) (fun y hy => ?_) (fun y hy => ?_)
        · by_cases e : y = i
          · subst e; rw [pk_us]; exact hv
          · rw [pk_un e]; exact hf y (by omega)
        · rw [pk_un (by omega)]; exact hg y (by omega)
      simp only [bnd]
      rw [cl hn hi, va_up_self, va_uu, va_uu, va_up_ne F g (show (27 : Nat) ≠ 30 by decide), va_up_ne F g (show (7 : Nat) ≠ 30 by decide)]
      by_cases h3 : F 27 i = 0
      · rw [if_pos h3]
        exact st _ (by rw [if_neg (fun q => q.1 h3)]; exact hg i (by omega))
      · rw [if_neg h3]
        by_cases h4 : F 7 i = 2
        · rw [if_pos h4]
          exact st _ (by rw [if_neg (fun q => q.2 h4)]; exact hg i (by omega))
        · rw [if_neg h4]
          exact st 1 (by rw [if_pos ⟨h3, h4⟩])
theorem fw_look_26 (n : Nat) (F : Nat → Nat → Int32) (V : Nat → Int32) (K : Nat → (Nat → Nat → Int32) → (Nat → Int32) → Int32 × (Nat → Nat → Int32) × (Nat → Int32)) (hn : n ≤ 40) : ∀ fu i F5, i ≤ n → n < i + fu → Ag [27, 30] F F5 → (∀ y, y < i → F5 30 y = 0 ∧ F5 27 y = 0) → ∃ F6, f_w_look_26 n fu i F5 V K = K n F6 V ∧ Ag [27, 30] F F6 ∧ ∀ y, y < n → F6 30 y = 0 ∧ F6 27 y = 0
  | 0, i, F5, h1, h2, _, _ => by omega
  | fu + 1, i, F5, h1, h2, hA, hf => by
    rw [f_w_look_26]
    by_cases hi : n ≤ i
    · have e : i = n := by omega
      subst e
      rw [if_pos hi]
      exact ⟨F5, rfl, hA, hf⟩
    · rw [if_neg hi]
      simp only [bnd]
      rw [cl hn hi, nb0]
      simp only [va_up_ne _ _ (show (27 : Nat) ≠ 30 by decide)]
      refine fw_look_26 n F V K hn fu (i + 1) _ (by omega) (by omega) ((hA.tr (Ag.up (by decide))).tr (Ag.up (by decide))) (fun y hy => ?_)
      rw [va_up_self, va_up_ne _ _ (show (30 : Nat) ≠ 27 by decide), va_up_self]
      by_cases e : y = i
      · subst e; rw [pk_us, pk_us]; exact ⟨rfl, rfl⟩
      · rw [pk_un e, pk_un e]; exact hf y (by omega)
theorem job_ring {n : Nat} {M : Nat → Nat → Int64} {F : Nat → Nat → Int32} (hR : RR n M F) {P Q : Int64} (hP : ∀ s, bL P s = true ↔ s < n ∧ F 30 s = 1) (hQ : ∀ s, bL Q s = true ↔ s < n ∧ F 30 s = 2) (h012 : ∀ s, s < n → F 30 s = 0 ∨ F 30 s = 1 ∨ F 30 s = 2) (hno : SR (GS M P) 0) {r : Nat} (h : SR (fun x y => x < n ∧ y < n ∧ er30 F x y = true) r) : SR (GS M Q) r := by
  have hE : ∀ x y, x < n → y < n → (HS F 0 x y = true ∨ HS F 2 x y = true) → EM M x y := by
    intro x y hx hy q
    rcases q with q | q
    · exact Or.inl ((hR.1 0 x y (by omega)).mpr ⟨hx, hy, q⟩)
    · exact Or.inr ((hR.1 2 x y (by omega)).mpr ⟨hx, hy, q⟩)
  have hE2 : ∀ x y, EM M x y → x < n ∧ y < n ∧ (HS F 0 x y = true ∨ HS F 2 x y = true) := by
    intro x y q
    rcases q with q | q
    · obtain ⟨a, b, c⟩ := (hR.1 0 x y (by omega)).mp q; exact ⟨a, b, Or.inl c⟩
    · obtain ⟨a, b, c⟩ := (hR.1 2 x y (by omega)).mp q; exact ⟨a, b, Or.inr c⟩
  have hnx : ∀ x y, er30 F x y = true → ¬ F 30 x = 0 ∧ (F 30 x = 1 → F 30 y = 1 → HS F 0 x y = true ∨ HS F 2 x y = true) ∧ (¬ F 30 x = 1 → F 30 y = 2 ∧ (HS F 0 y x = true ∨ HS F 2 y x = true)) := by
    intro x y q
    unfold er30 waB at q
    simp only [Bool.and_eq_true, Bool.not_eq_true', decide_eq_false_iff_not] at q
    obtain ⟨⟨⟨q1, q2⟩, q3⟩, q4⟩ := q
    refine ⟨q1, fun e1 e2 => ?_, fun e1 => ?_⟩
    · rw [if_pos e1, if_pos e2, Bool.or_eq_true] at q4; exact q4
    · rw [if_neg e1, Bool.and_eq_true, Bool.or_eq_true, decide_eq_true_eq] at q4; exact q4
  refine SR.of (fun m x q => ?_) (fun m x q => ?_) h
  · obtain ⟨v, v0, vk, vs⟩ := Pth.seq q
    have hne : ∀ i, i ≤ m → ¬ F 30 (v i) = 0 := fun i hi => (hnx _ _ (vs i (by omega)).2.2).1
    have hfw : ∀ i d, i + d ≤ m + 1 → F 30 (v i) = 2 → F 30 (v (i + d)) = 2 := by
      intro i d
      induction d with
      | zero => exact fun _ h => h
      | succ d ih =>
        intro hd h2
        have h3 := ih (by omega) h2
        exact ((hnx _ _ (vs (i + d) (by omega)).2.2).2.2 (by rw [h3]; decide)).1
    by_cases hex : ∃ i, i ≤ m ∧ F 30 (v i) = 2
    · obtain ⟨i, hi, h2⟩ := hex
      have h3 := hfw i (m + 1 - i) (by omega) h2
      rw [show i + (m + 1 - i) = m + 1 by omega, vk, ← v0] at h3
      have hall : ∀ j, j ≤ m + 1 → F 30 (v j) = 2 := fun j hj => by
        have := hfw 0 j (by omega) h3
        rw [show 0 + j = j by omega] at this
        exact this
      have hst : ∀ j, j ≤ m → GS M Q (v (j + 1)) (v j) := by
        intro j hj
        obtain ⟨a1, a2, a3⟩ := vs j (by omega)
        obtain ⟨_, _, a4⟩ := hnx _ _ a3
        exact ⟨hE _ _ a2 a1 (a4 (by rw [hall j (by omega)]; decide)).2, (hQ _).mpr ⟨a1, hall j (by omega)⟩⟩
      have p : Pth (GS M Q) (m + 1) ((fun i => v (m + 1 - i)) 0) ((fun i => v (m + 1 - i)) (0 + (m + 1))) := Pth.of (v := fun i => v (m + 1 - i)) (fun q _ hq => by
        have h9 := hst (m - q) (by omega)
        rw [show m - q + 1 = m + 1 - q by omega, show m - q = m + 1 - (q + 1) by omega] at h9
        exact h9)
      have p2 : Pth (GS M Q) (m + 1) (v (m + 1)) (v 0) := by
        have e1 : m + 1 - (0 + (m + 1)) = 0 := by omega
        have p3 : Pth (GS M Q) (m + 1) (v (m + 1 - 0)) (v (m + 1 - (0 + (m + 1)))) := p
        rw [e1] at p3
        exact p3
      rw [vk, v0] at p2
      exact p2
    · have hall : ∀ j, j ≤ m → F 30 (v j) = 1 := by
        intro j hj
        rcases h012 (v j) (vs j (by omega)).1 with c | c | c
        · exact absurd c (hne j hj)
        · exact c
        · exact absurd ⟨j, hj, c⟩ hex
      have hall2 : ∀ j, j ≤ m + 1 → F 30 (v j) = 1 := by
        intro j hj
        by_cases c : j = m + 1
        · subst c; rw [vk, ← v0]; exact hall 0 (by omega)
        · exact hall j (by omega)
      have p : Pth (GS M P) (m + 1) (v 0) (v (0 + (m + 1))) := Pth.of (fun q _ hq => by
        obtain ⟨a1, a2, a3⟩ := vs q (by omega)
        exact ⟨hE _ _ a1 a2 ((hnx _ _ a3).2.1 (hall2 q (by omega)) (hall2 (q + 1) (by omega))), (hP _).mpr ⟨a2, hall2 (q + 1) (by omega)⟩⟩)
      rw [show 0 + (m + 1) = m + 1 by omega, v0, vk] at p
      rcases hno with ⟨_, hno⟩ | ⟨hno, _⟩
      · exact absurd p (hno (m + 1) x (by omega))
      · omega
  · have q2 := ring_in (P := fun z => bL Q z = true) (fun a b h9 => h9.2) q
    obtain ⟨v, v0, vk, vs⟩ := Pth.seq q2
    have hst : ∀ j, j ≤ m → (fun x y => x < n ∧ y < n ∧ er30 F x y = true) (v (j + 1)) (v j) := by
      intro j hj
      obtain ⟨⟨a1, _⟩, a2, a3⟩ := vs j (by omega)
      obtain ⟨b1, b2, b3⟩ := hE2 _ _ a1
      have c1 := ((hQ _).mp a2).2
      have c2 := ((hQ _).mp a3).2
      refine ⟨b2, b1, ?_⟩
      have hne : ¬ v (j + 1) = v j := by
        intro e
        rw [e] at a1
        rcases a1 with a1 | a1
        · rw [hR.2.2.2.1 0 (v j) (by omega)] at a1; cases a1
        · rw [hR.2.2.2.1 2 (v j) (by omega)] at a1; cases a1
      unfold er30 waB
      rcases b3 with b3 | b3 <;> simp [c1, c2, hne, b3]
    have p : Pth (fun x y => x < n ∧ y < n ∧ er30 F x y = true) (m + 1) ((fun i => v (m + 1 - i)) 0) ((fun i => v (m + 1 - i)) (0 + (m + 1))) := Pth.of (v := fun i => v (m + 1 - i)) (fun q _ hq => by
      have h9 := hst (m - q) (by omega)
      rw [show m - q + 1 = m + 1 - q by omega, show m - q = m + 1 - (q + 1) by omega] at h9
      exact h9)
    have p2 : Pth (fun x y => x < n ∧ y < n ∧ er30 F x y = true) (m + 1) (v (m + 1)) (v 0) := by
      have e1 : m + 1 - (0 + (m + 1)) = 0 := by omega
      have p3 : Pth (fun x y => x < n ∧ y < n ∧ er30 F x y = true) (m + 1) (v (m + 1 - 0)) (v (m + 1 - (0 + (m + 1)))) := p
      rw [e1] at p3
      exact p3
    rw [vk, v0] at p2
    exact p2

end
section
def LKd (n : Nat) (F F2 : Nat → Nat → Int32) (L2 : Nat → Int64) : Prop := (∀ s, bL (L2 3) s = true ↔ s < n ∧ F2 30 s = 1) ∧ (∀ s, bL (L2 4) s = true ↔ s < n ∧ F2 30 s = 2) ∧ (∀ s, s < n → F2 30 s = 0 ∨ F2 30 s = 1 ∨ F2 30 s = 2) ∧ (∀ s, s < n → F 7 s = 5 → (¬ F2 27 s = 0 ↔ F2 30 s = 1))
def LWp (n : Nat) (F : Nat → Nat → Int32) (V : Nat → Int32) (L : Nat → Int64) (I : Nat → Int32) (A : Int32 × (Nat → Int64) × (Nat → Int32)) (B : Int32 × (Nat → Nat → Int32) × (Nat → Int32)) : Prop := ((A.1 = -4 ∧ B.1 = -4 ∧ B.2.2 = V) ∨ (A.1 = -5 ∧ B.1 = -5 ∧ B.2.2 = va_up V 33 (A.2.2 8)) ∨ (B.1 = 0 ∧ B.2.2 = V ∧ A.1 = nI (cN (fun s => decide (¬ B.2.1 30 s = 0)) n) ∧ LKd n F B.2.1 A.2.1)) ∧ Ag [27, 28, 29, 30, 31, 32] F B.2.1 ∧ (∀ j, j ≠ 2 → j ≠ 3 → j ≠ 4 → A.2.1 j = L j) ∧ (∀ j, j ≠ 8 → A.2.2 j = I j)
theorem bits_cN {n : Nat} {P Q : Int64} {f : Nat → Int32} (hn : n ≤ 40) (hP : ∀ s, bL P s = true ↔ s < n ∧ f s = 1) (hQ : ∀ s, bL Q s = true ↔ s < n ∧ f s = 2) (h012 : ∀ s, s < n → f s = 0 ∨ f s = 1 ∨ f s = 2) : cN (bL (P ||| Q)) 64 = cN (fun s => decide (¬ f s = 0)) n := by
  have hb : ∀ s, bL (P ||| Q) s = true ↔ s < n ∧ ¬ f s = 0 := by
    intro s
    rw [bL_orT, hP, hQ]
    constructor
    · rintro (⟨a, b⟩ | ⟨a, b⟩)
      · exact ⟨a, by rw [b]; decide⟩
      · exact ⟨a, by rw [b]; decide⟩
    · rintro ⟨a, b⟩
      rcases h012 s a with c | c | c
      · exact absurd c b
      · exact Or.inl ⟨a, c⟩
      · exact Or.inr ⟨a, c⟩
  refine cN_ext (by omega) (fun i hi => ?_) (fun i h1 _ => bL_f (fun q => by have := ((hb i).mp q).1; omega))
  by_cases c : f i = 0
  · rw [bL_f (fun q => ((hb i).mp q).2 c), decide_eq_false (fun q => q c)]
  · rw [(hb i).mpr ⟨hi, c⟩, decide_eq_true c]
def lkT (n : Nat) (F : Nat → Nat → Int32) (V : Nat → Int32) : Int32 × (Nat → Nat → Int32) × (Nat → Int32) := bn3 (f_w_jobRing n F V) (fun (r23 : Int32) (F24 : Nat → Nat → Int32) (V25 : Nat → Int32) => if r23 ≤ (0 : Int32) then (((0 : Int32), F24, V25)) else (((-5 : Int32), F24, va_up V25 33 r23)))
def lkS (n x : Nat) (v : Int32) (F : Nat → Nat → Int32) (V : Nat → Int32) : Int32 × (Nat → Nat → Int32) × (Nat → Int32) := lkT n (f_w_addNeeding n (nI x) (va_up F 30 (upd (F 30) (nI x).toNatClampNeg v)) V).1 (f_w_addNeeding n (nI x) (va_up F 30 (upd (F 30) (nI x).toNatClampNeg v)) V).2
def lkC (n : Nat) (F : Nat → Nat → Int32) (V : Nat → Int32) : Int32 × (Nat → Nat → Int32) × (Nat → Int32) := f_w_look_256 n (n + 1) (0 : Nat) F V (fun (i53 : Nat) (F57 : Nat → Nat → Int32) (V58 : Nat → Int32) => f_w_look_298 n (n + 1) (0 : Nat) F57 V58 (fun (i60 : Nat) (F64 : Nat → Nat → Int32) (V65 : Nat → Int32) => lkT n F64 V65))
def lkB2 (n : Nat) (F : Nat → Nat → Int32) (V : Nat → Int32) : Int32 × (Nat → Nat → Int32) × (Nat → Int32) := lkC n (f_w_addNeeding n (-1) F V).1 (f_w_addNeeding n (-1) F V).2
def lkA (n : Nat) (p : Int32) (F : Nat → Nat → Int32) (V : Nat → Int32) : Int32 × (Nat → Nat → Int32) × (Nat → Int32) := f_w_look_133 n p (n + 1) (0 : Nat) F V (fun (i43 : Nat) (F47 : Nat → Nat → Int32) (V48 : Nat → Int32) => lkB2 n F47 V48)
def lkR (n : Nat) (p : Int32) (A : Int32 × (Nat → Nat → Int32) × (Nat → Int32)) : Int32 × (Nat → Nat → Int32) × (Nat → Int32) := if A.1 ≤ (0 : Int32) then lkA n p (f_w_addWanted n A.2.1 A.2.2).1 (f_w_addWanted n A.2.1 A.2.2).2 else ((-5 : Int32), A.2.1, va_up A.2.2 33 A.1)
def lkM (n : Nat) (p : Int32) (F : Nat → Nat → Int32) (V : Nat → Int32) : Int32 × (Nat → Nat → Int32) × (Nat → Int32) := if f_w_clash_member n F = (0 : Int32) then lkR n p (f_w_memberRing_member n F V) else ((-4 : Int32), F, V)
def lkX (n : Nat) (p : Int32) (x : Nat) (F : Nat → Nat → Int32) (V : Nat → Int32) : Int32 × (Nat → Nat → Int32) × (Nat → Int32) := if p = (1 : Int32) then (if f_w_isUpOrWaiting n x F = (0 : Int32) then lkS n x 0 F V else lkS n x 2 F V) else lkM n p (f_w_members n x F V).1 (f_w_members n x F V).2
theorem fw_look_eq (n : Nat) (p : Int32) (x : Nat) (F : Nat → Nat → Int32) (V : Nat → Int32) : f_w_look n p x F V = if (0 : Int32) < f_w_jobs n F then ((-3 : Int32), F, V) else if f_w_in n 1 F + f_w_in n 3 F ≤ (0 : Int32) then f_w_look_26 n (n + 1) (0 : Nat) F V (fun (i13 : Nat) (F17 : Nat → Nat → Int32) (V18 : Nat → Int32) => lkX n p x F17 V18) else ((-3 : Int32), F, V) := rfl
def wgE (n : Nat) (dl : Nat → Nat) (P Q : Int64) (L : Nat → Int64) (I : Nat → Int32) (M : Nat → Nat → Int64) : Int32 × (Nat → Int64) × (Nat → Int32) := if f_y_shortestRing n dl Q M ≤ (0 : Int32) then (f_y_bitCount n dl (P ||| Q), L, va_up I 8 (f_y_shortestRing n dl Q M)) else ((-5 : Int32), L, va_up I 8 (f_y_shortestRing n dl Q M))
def wgQ (n : Nat) (dl : Nat → Nat) (up sw Q : Int64) (L : Nat → Int64) (I : Nat → Int32) (M : Nat → Nat → Int64) : Int32 × (Nat → Int64) × (Nat → Int32) := if lg_cmp (Q &&& L 2) (0 : Int64) = (0 : Int32) then wgE n dl (L 2 &&& (up ^^^ (-1))) Q (va_up (va_up L 4 Q) 3 (L 2 &&& (up ^^^ (-1)))) I M else ((-4 : Int32), va_up L 4 Q, I)
def wgN (n : Nat) (dl : Nat → Nat) (p : Int32) (up sw : Int64) (L : Nat → Int64) (I : Nat → Int32) (M : Nat → Nat → Int64) : Int32 × (Nat → Int64) × (Nat → Int32) := if p = (2 : Int32) then wgQ n dl up sw (f_y_withNeeders n dl ((f_y_fromAny3 n dl (L 2) M ||| (L 2 ^^^ (-1))) &&& sw) sw M) L I M else wgQ n dl up sw (f_y_withNeeders n dl ((f_y_fromAny3 n dl (L 2) M ||| 0) &&& sw) sw M) L I M
def wgG (n : Nat) (dl : Nat → Nat) (p : Int32) (up sw : Int64) (M : Nat → Nat → Int64) (A : Int32 × (Nat → Int64) × (Nat → Int32)) : Int32 × (Nat → Int64) × (Nat → Int32) := if (0 : Int32) ≤ A.1 then wgN n dl p up sw (f_y_gatherWanted n dl (up ^^^ (-1)) A.2.1 M) A.2.2 M else A
theorem fy_weigh_eq (n : Nat) (dl : Nat → Nat) (p : Int32) (x : Nat) (up wt : Int64) (L : Nat → Int64) (I : Nat → Int32) (M : Nat → Nat → Int64) : f_y_weigh n dl p x up wt L I M = if p = (1 : Int32) then wgE n dl ((0 : Int64) &&& (up ^^^ (-1))) (f_y_withNeeders n dl (f_y_only n dl x) (up ||| wt) M &&& (up ||| wt)) (va_up (va_up (va_up L 2 0) 4 (f_y_withNeeders n dl (f_y_only n dl x) (up ||| wt) M &&& (up ||| wt))) 3 ((0 : Int64) &&& (up ^^^ (-1)))) I M else wgG n dl p up (up ||| wt) M (f_y_gatherNeeded n dl x (up ^^^ (-1)) (va_up L 2 0) I M) := by
  unfold f_y_weigh
  simp only [bnd]
  by_cases h : p = 1
  · rw [if_pos h, if_pos h]
    unfold wgE
    rfl
  · rw [if_neg h, if_neg h]
    generalize f_y_gatherNeeded n dl x (up ^^^ (-1)) (va_up L 2 0) I M = A
    unfold wgG
    simp only [bn3]
    by_cases h2 : (0 : Int32) ≤ A.1
    · rw [if_pos h2, if_pos h2]
      generalize f_y_gatherWanted n dl (up ^^^ (-1)) A.2.1 M = Lg
      unfold wgN
      by_cases h3 : p = 2
      · rw [if_pos h3, if_pos h3]
        unfold wgQ wgE
        rfl
      · rw [if_neg h3, if_neg h3]
        unfold wgQ wgE
        rfl
    · rw [if_neg h2, if_neg h2]
def gnR (n : Nat) (dl : Nat → Nat) (T : Int64) (r : Int32) (L : Nat → Int64) (I : Nat → Int32) : Int32 × (Nat → Int64) × (Nat → Int32) := if r ≤ (0 : Int32) then ((0 : Int32), va_up L 2 T, va_up I 8 r) else ((-5 : Int32), va_up L 2 T, va_up I 8 r)
theorem fy_gatherNeeded_eq (n : Nat) (dl : Nat → Nat) (x : Nat) (p1 : Int64) (L : Nat → Int64) (I : Nat → Int32) (M : Nat → Nat → Int64) {T : Int64} (eT : itL (gN M) 40 (oL x) = T) : f_y_gatherNeeded n dl x p1 L I M = if f_y_clash n dl T M = (0 : Int32) then gnR n dl T (f_y_shortestRing n dl (T &&& p1) M) L I else ((-4 : Int32), va_up L 2 T, I) := by
  unfold f_y_gatherNeeded
  simp only [bnd]
  rw [fy_only, fy_withNeeded, eT]
  rfl
theorem look_end (n : Nat) (dl : Nat → Nat) {M : Nat → Nat → Int64} {F0 F : Nat → Nat → Int32} (V : Nat → Int32) {P Q : Int64} (hR : RR n M F) (hn : n ≤ 40) (hP : ∀ s, bL P s = true ↔ s < n ∧ F 30 s = 1) (hQ : ∀ s, bL Q s = true ↔ s < n ∧ F 30 s = 2) (h012 : ∀ s, s < n → F 30 s = 0 ∨ F 30 s = 1 ∨ F 30 s = 2) (hno : SR (GS M P) 0) (h5 : ∀ s, s < n → F0 7 s = 5 → (¬ F 27 s = 0 ↔ F 30 s = 1)) (hA : Ag [27, 28, 29, 30, 31, 32] F0 F) (L0 : Nat → Int64) (I0 : Nat → Int32) (L : Nat → Int64) (I : Nat → Int32) (hL3 : L 3 = P) (hL4 : L 4 = Q) (hL : ∀ j, j ≠ 2 → j ≠ 3 → j ≠ 4 → L j = L0 j) (hI : ∀ j, j ≠ 8 → I j = I0 j) :
    LWp n F0 V L0 I0 (wgE n dl P Q L I M) (lkT n F V) := by
  unfold wgE lkT
  obtain ⟨r, F2, e, hr, hA2, hS⟩ := fw_jobRing n F V hR.2.2.2.2 hn
  have hS2 := job_ring hR hP hQ h012 hno hS
  obtain ⟨r2, e2, hr2, hS3⟩ := fy_shortestRing n dl (hR.m40 hn) Q
  have er : r2 = r := SR.one hS3 hS2
  subst er
  simp only [bn3]
  rw [e, e2]
  simp only
  have h30 : F2 30 = F 30 := hA2 30 (by decide)
  have h27 : F2 27 = F 27 := hA2 27 (by decide)
  have hI8 : ∀ j, j ≠ 8 → va_up I 8 (nI r2) j = I0 j := fun j hj => (va_up_ne _ _ hj).trans (hI j hj)
  by_cases h0 : r2 = 0
  · subst h0
    rw [if_pos (show nI 0 ≤ 0 by decide), if_pos (show nI 0 ≤ 0 by decide)]
    refine ⟨Or.inr (Or.inr ⟨rfl, rfl, ?_, ?_⟩), hA.tr (hA2.sub (by decide)), hL, hI8⟩
    · show f_y_bitCount n dl (P ||| Q) = nI (cN (fun s => decide (¬ F2 30 s = 0)) n)
      rw [fy_bitCount, h30, bits_cN hn hP hQ h012]
    · refine ⟨fun s => ?_, fun s => ?_, fun s hs => ?_, fun s hs q => ?_⟩
      · show bL (L 3) s = true ↔ s < n ∧ F2 30 s = 1
        rw [hL3, h30]; exact hP s
      · show bL (L 4) s = true ↔ s < n ∧ F2 30 s = 2
        rw [hL4, h30]; exact hQ s
      · show F2 30 s = 0 ∨ F2 30 s = 1 ∨ F2 30 s = 2
        rw [h30]; exact h012 s hs
      · show ¬ F2 27 s = 0 ↔ F2 30 s = 1
        rw [h30, h27]; exact h5 s hs q
  · rw [if_neg (nI_nle (by omega) (by omega)), if_neg (nI_nle (by omega) (by omega))]
    refine ⟨Or.inr (Or.inl ⟨rfl, rfl, ?_⟩), hA.tr (hA2.sub (by decide)), hL, hI8⟩
    show va_up V 33 (nI r2) = va_up V 33 (va_up I 8 (nI r2) 8)
    rw [va_up_self]
theorem SR_empty {M : Nat → Nat → Int64} {S : Int64} (h : ∀ s, ¬ bL S s = true) : SR (GS M S) 0 := by
  refine Or.inl ⟨rfl, fun k x hk q => ?_⟩
  obtain ⟨m, rfl⟩ : ∃ m, k = m + 1 := ⟨k - 1, by omega⟩
  obtain ⟨z, _, hg⟩ := q
  exact h x hg.2
theorem uw_bits {n : Nat} {F : Nat → Nat → Int32} {up wt : Int64} (hU : sB n up F 2) (hW : sB n wt F 5) (s : Nat) : bL (up ||| wt) s = true ↔ s < n ∧ UW F s = true := by
  rw [bL_orT, hU s, hW s]
  unfold UW
  rw [Bool.or_eq_true, decide_eq_true_eq, decide_eq_true_eq]
  constructor
  · rintro (⟨a, b⟩ | ⟨a, b⟩)
    · exact ⟨a, Or.inl b⟩
    · exact ⟨a, Or.inr b⟩
  · rintro ⟨a, b | b⟩
    · exact Or.inl ⟨a, b⟩
    · exact Or.inr ⟨a, b⟩
theorem stop_clo {n : Nat} {M : Nat → Nat → Int64} {F : Nat → Nat → Int32} (hR : RR n M F) (hn : n ≤ 40) {sw S : Int64} (hw : ∀ s, bL sw s = true ↔ s < n ∧ UW F s = true) {T : Nat → Prop} (hT : ∀ s, bL S s = true ↔ T s) (hTn : ∀ s, T s → s < n) (z : Nat) : bL (itL (gR M sw) 40 S) z = true ↔ Clo (dE n F) T z := by
  rw [gR_clo (hR.m40 hn) (fun y hy => by have := hTn y ((hT y).mp hy); omega)]
  have e1 : (fun y => bL S y = true) = T := by
    funext y
    exact propext (hT y)
  have e2 : (fun a b => bL (M 4 a) b = true ∧ bL sw b = true) = dE n F := by
    funext b a
    refine propext ?_
    rw [hR.2.1 0 a b (by omega), hR.1 0 a b (by omega), hw a]
    constructor
    · rintro ⟨⟨h1, h2, h3⟩, _, h5⟩; exact ⟨h1, h2, h5, h3⟩
    · rintro ⟨h1, h2, h5, h3⟩; exact ⟨⟨h1, h2, h3⟩, h1, h5⟩
  rw [e1, e2]
theorem dE_c {n : Nat} {F G : Nat → Nat → Int32} (h : G 19 = F 19) (h7 : G 7 = F 7) : dE n G = dE n F := by
  unfold dE
  rw [HS_c h, UW_c h7]
theorem look_stop (n : Nat) (dl : Nat → Nat) (x : Nat) (up wt : Int64) (L : Nat → Int64) (I : Nat → Int32) {M : Nat → Nat → Int64} {F F6 : Nat → Nat → Int32} (V : Nat → Int32) (hn : n ≤ 40) (hx : x < n) (hR : RR n M F) (hU : sB n up F 2) (hW : sB n wt F 5) (hA6 : Ag [27, 30] F F6) (h6 : ∀ y, y < n → F6 30 y = 0 ∧ F6 27 y = 0) (v : Int32) (hv : v = 2 ∧ UW F6 x = true ∨ v = 0 ∧ UW F6 x = false) : LWp n F V L I (wgE n dl ((0 : Int64) &&& (up ^^^ (-1))) (f_y_withNeeders n dl (f_y_only n dl x) (up ||| wt) M &&& (up ||| wt)) (va_up (va_up (va_up L 2 0) 4 (f_y_withNeeders n dl (f_y_only n dl x) (up ||| wt) M &&& (up ||| wt))) 3 ((0 : Int64) &&& (up ^^^ (-1)))) I M) (lkS n x v F6 V) := by
  have hA6' : Ag [27, 28, 29, 30, 31, 32] F F6 := hA6.sub (by decide)
  have c67 : F6 7 = F 7 := hA6 7 (by decide)
  unfold lkS
  rw [nI_clamp (show x < 2 ^ 31 by omega)]
  obtain ⟨F7, eF7⟩ : ∃ f9 : Nat → Nat → Int32, f9 = va_up F6 30 (upd (F6 30) x v) := ⟨_, rfl⟩
  rw [← eF7]
  have c7 : F7 7 = F 7 := by rw [eF7, va_up_ne _ _ (by decide)]; exact c67
  have c19 : F7 19 = F 19 := by rw [eF7, va_up_ne _ _ (by decide)]; exact hA6 19 (by decide)
  have c27 : F7 27 = F6 27 := by rw [eF7, va_up_ne _ _ (by decide)]
  have hA7 : Ag [27, 28, 29, 30, 31, 32] F F7 := by rw [eF7]; exact hA6'.tr (Ag.up (by decide))
  have c30 : ∀ z, z < n → F7 30 z = if z = x then v else 0 := by
    intro z hz
    rw [eF7, va_up_self]
    by_cases e : z = x
    · subst e; rw [pk_us, if_pos rfl]
    · rw [pk_un e, if_neg e]; exact (h6 z hz).1
  clear eF7
  have hUx : UW F6 x = UW F7 x := by rw [UW_c c7, ← UW_c c67]
  obtain ⟨f2, e2, g1, g2, g3⟩ := fw_addNeeding n (nI x) F7 V hn (fun z hz q => by
    rw [c30 z hz] at q
    by_cases e : z = x
    · subst e
      rw [if_pos rfl] at q
      rcases hv with ⟨_, hv2⟩ | ⟨hv1, _⟩
      · rw [← hUx]; exact hv2
      · rw [hv1] at q; exact absurd q (by decide)
    · rw [if_neg e] at q; exact absurd q (by decide))
  rw [e2]
  clear e2
  have eS2 : (fun z => z < n ∧ (F7 30 z = 2 ∨ nI z = nI x)) = (fun z => z = x) := by
    funext z
    refine propext ⟨?_, ?_⟩
    · rintro ⟨hz, q | q⟩
      · rw [c30 z hz] at q
        by_cases e : z = x
        · exact e
        · rw [if_neg e] at q; exact absurd q (by decide)
      · exact (nI_eq (by omega) (by omega)).mp q
    · intro e; subst e; exact ⟨hx, Or.inr rfl⟩
  rw [eS2] at g2 g3
  have hclo := fun z => stop_clo (hR.c c19) hn (sw := up ||| wt) (S := oL x) (T := fun z => z = x) (fun s => by rw [UW_c c7]; exact uw_bits hU hW s) (fun s => bL_oL (by omega)) (fun s q => by omega) z
  have hb : ∀ z, bL (itL (gR M (up ||| wt)) 40 (oL x) &&& (up ||| wt)) z = true ↔ z < n ∧ f2 z = 2 := by
    intro z
    rw [bL_andT, hclo, uw_bits hU hW]
    constructor
    · rintro ⟨q1, q2, q3⟩
      refine ⟨q2, ?_⟩
      rcases g3 z q1 with q | q
      · exact q
      · have e := (nI_eq (by omega) (by omega)).mp q
        subst e
        rcases g1 z with q4 | q4
        · exact q4
        · rw [q4, c30 z hx, if_pos rfl]
          rcases hv with ⟨hv1, _⟩ | ⟨_, hv2⟩
          · exact hv1
          · rw [hUx, UW_c c7, q3] at hv2; cases hv2
    · rintro ⟨q1, q2⟩
      obtain ⟨q3, q4⟩ := g2 z q1 q2
      rw [UW_c c7] at q4
      exact ⟨q3, q1, q4⟩
  rw [fy_withNeeders, fy_only]
  have h012 : ∀ s, s < n → f2 s = 0 ∨ f2 s = 1 ∨ f2 s = 2 := by
    intro s hs
    rcases g1 s with q | q
    · exact Or.inr (Or.inr q)
    · rw [q, c30 s hs]
      by_cases e : s = x
      · rw [if_pos e]
        rcases hv with ⟨hv1, _⟩ | ⟨hv1, _⟩ <;> rw [hv1]
        · exact Or.inr (Or.inr rfl)
        · exact Or.inl rfl
      · rw [if_neg e]; exact Or.inl rfl
  have hn1 : ∀ s, s < n → ¬ f2 s = 1 := by
    intro s hs q1
    rcases g1 s with q | q
    · rw [q] at q1; exact absurd q1 (by decide)
    · rw [q, c30 s hs] at q1
      by_cases e : s = x
      · rw [if_pos e] at q1
        rcases hv with ⟨hv1, _⟩ | ⟨hv1, _⟩ <;> rw [hv1] at q1 <;> exact absurd q1 (by decide)
      · rw [if_neg e] at q1; exact absurd q1 (by decide)
  have hz : ∀ s, ¬ bL ((0 : Int64) &&& (up ^^^ (-1))) s = true := fun s q => by
    have := (bL_andT.mp q).1
    rw [bL_0] at this; cases this
  refine look_end n dl V (F0 := F) (F := va_up F7 30 f2) (P := (0 : Int64) &&& (up ^^^ (-1))) (Q := itL (gR M (up ||| wt)) 40 (oL x) &&& (up ||| wt)) (hR.c (by rw [va_up_ne _ _ (by decide)]; exact c19)) hn (fun s => ?_) (fun s => ?_) (fun s hs => ?_) (SR_empty hz) (fun s hs _ => ?_) (hA7.tr (Ag.up (by decide))) L I _ I ?_ ?_ (fun j a b c => ?_) (fun j _ => rfl)
  · rw [va_up_self]
    exact ⟨fun q => absurd q (hz s), fun q => absurd q.2 (hn1 s q.1)⟩
  · rw [va_up_self]; exact hb s
  · rw [va_up_self]; exact h012 s hs
  · rw [va_up_self, va_up_ne _ _ (by decide), c27, (h6 s hs).2]
    exact ⟨fun q => absurd rfl q, fun q => absurd q (hn1 s hs)⟩
  · rw [va_up_self]
  · rw [va_up_ne _ _ (by decide), va_up_self]
  · rw [va_up_ne _ _ b, va_up_ne _ _ c, va_up_ne _ _ a]
theorem look_mem (n : Nat) (dl : Nat → Nat) (how : Nat) (up wt : Int64) (L : Nat → Int64) (I : Nat → Int32) {M : Nat → Nat → Int64} {F Fw : Nat → Nat → Int32} (V : Nat → Int32) (hn : n ≤ 40) (hh : how ≤ 2) (hR : RR n M F) (hU : sB n up F 2) (hW : sB n wt F 5) {Lg : Nat → Int64} {lk : Int64} (hWw : WI n M Fw up (Lg 2) lk) (hAw' : Ag [27, 28, 29, 30, 31, 32] F Fw) (hLj : ∀ j, j ≠ 2 → Lg j = L j) (I7 : Nat → Int32) (hI7 : ∀ j, j ≠ 8 → I7 j = I j) : LWp n F V L I (wgN n dl (nI how) up (up ||| wt) Lg I7 M) (lkA n (nI how) Fw V) := by
  obtain ⟨w1, w2, w3, w4, w5⟩ := hWw
  have cw7 : Fw 7 = F 7 := hAw' 7 (by decide)
  have cw19 : Fw 19 = F 19 := hAw' 19 (by decide)
  have hRw := hR.c cw19
  obtain ⟨g, eg, hg⟩ := fw_look_133 n (nI how) Fw V (fun (i43 : Nat) (F47 : Nat → Nat → Int32) (V48 : Nat → Int32) => lkB2 n F47 V48) hn (n + 1) 0 (Fw 30) (by omega) (by omega) (fun y hy => absurd hy (by omega))
  rw [va_id] at eg
  unfold lkA
  rw [eg]
  clear eg
  obtain ⟨f2, e3, g1, g2, g3⟩ := fw_addNeeding n (-1) (va_up Fw 30 g) V hn (fun z hz q => by
    rw [va_up_self, hg z hz] at q
    by_cases c : (goB n Fw (nI how) z && UW Fw z) = true
    · rw [UW_c (show va_up Fw 30 g 7 = Fw 7 from va_up_ne _ _ (by decide))]
      exact ((Bool.and_eq_true _ _).mp c).2
    · rw [if_neg c] at q; exact absurd q (by decide))
  unfold lkB2
  rw [e3, va_uu]
  clear e3
  have hneg : ∀ z, z < n → ¬ nI z = -1 := by
    intro z hz q
    have h9 : ¬ nI z < 0 := nI_pos (by omega)
    rw [q] at h9
    exact h9 (by decide)
  have cu7 : va_up Fw 30 g 7 = F 7 := by rw [va_up_ne _ _ (by decide)]; exact cw7
  have cu19 : va_up Fw 30 g 19 = F 19 := by rw [va_up_ne _ _ (by decide)]; exact cw19
  rw [dE_c cu19 cu7, UW_c cu7] at g2
  rw [dE_c cu19 cu7] at g3
  have eT : (fun z => z < n ∧ (va_up Fw 30 g 30 z = 2 ∨ nI z = -1)) = (fun z => z < n ∧ goB n Fw (nI how) z = true ∧ UW F z = true) := by
    funext z
    refine propext ⟨fun q => ⟨q.1, ?_⟩, fun q => ⟨q.1, Or.inl ?_⟩⟩
    · rcases q.2 with q2 | q2
      · rw [va_up_self, hg z q.1] at q2
        by_cases c : (goB n Fw (nI how) z && UW Fw z) = true
        · rw [UW_c cw7] at c; exact (Bool.and_eq_true _ _).mp c
        · rw [if_neg c] at q2; exact absurd q2 (by decide)
      · exact absurd q2 (hneg z q.1)
    · rw [va_up_self, hg z q.1, UW_c cw7, if_pos]
      exact (Bool.and_eq_true _ _).mpr q.2
  rw [eT] at g2 g3
  have hgo : ∀ z, z < n → (goB n Fw (nI how) z = true ↔ (how = 2 ∧ ¬ bL (Lg 2) z = true) ∨ bL (uS (M 3) (Lg 2) 40) z = true) := by
    intro z hz
    unfold goB
    rw [Bool.or_eq_true, Bool.and_eq_true, decide_eq_true_eq, decide_eq_true_eq, anyN_iff, bL_uS]
    have hmz : Fw 27 z = 0 ↔ ¬ bL (Lg 2) z = true := by
      rw [w1 z]
      exact ⟨fun q1 q2 => q2.2 q1, fun q => Classical.byContradiction (fun q1 => q ⟨hz, q1⟩)⟩
    rw [hmz]
    have e2 : nI how = 2 ↔ how = 2 := nI_eq (a := how) (b := 2) (by omega) (by omega)
    rw [e2]
    refine or_congr Iff.rfl ?_
    constructor
    · rintro ⟨b, hb, q⟩
      simp only [tB, Bool.and_eq_true, decide_eq_true_eq] at q
      have q2 := (hRw.1 3 z b (by omega)).mpr ⟨hz, hb, q.2⟩
      exact ⟨b, by omega, (w1 b).mpr ⟨hb, q.1⟩, hR.2.2.1 z b q2⟩
    · rintro ⟨b, hb, q1, q2⟩
      obtain ⟨c1, c2⟩ := (w1 b).mp q1
      refine ⟨b, c1, ?_⟩
      have q3 := (hRw.1 3 z b (by omega)).mp (hR.2.2.1 b z q2)
      simp only [tB, Bool.and_eq_true, decide_eq_true_eq]
      exact ⟨c2, q3.2.2⟩
  have fin : ∀ S : Int64, (∀ z, z < n → (bL S z = true ↔ goB n Fw (nI how) z = true)) → LWp n F V L I (wgQ n dl up (up ||| wt) (f_y_withNeeders n dl (S &&& (up ||| wt)) (up ||| wt) M) Lg I7 M) (lkC n (va_up Fw 30 f2) V) := by
    intro S hS
    rw [fy_withNeeders]
    have hclo := fun z => stop_clo hR hn (sw := up ||| wt) (S := S &&& (up ||| wt)) (T := fun z => z < n ∧ goB n Fw (nI how) z = true ∧ UW F z = true) (fun s => uw_bits hU hW s) (fun s => by
      rw [bL_andT, uw_bits hU hW]
      constructor
      · rintro ⟨q1, q2, q3⟩; exact ⟨q2, (hS s q2).mp q1, q3⟩
      · rintro ⟨q1, q2, q3⟩; exact ⟨(hS s q1).mpr q2, q1, q3⟩) (fun s q => q.1) z
    have hlt2 : ∀ z, Clo (dE n F) (fun z => z < n ∧ goB n Fw (nI how) z = true ∧ UW F z = true) z → z < n := fun z h => Clo.least (T := fun z => z < n) (fun y hy => hy.1) (fun y z _ he => he.1) h
    obtain ⟨Q, eQ⟩ : ∃ q9 : Int64, q9 = itL (gR M (up ||| wt)) 40 (S &&& (up ||| wt)) := ⟨_, rfl⟩
    rw [← eQ] at hclo ⊢
    clear eQ
    have hQ2 : ∀ z, bL Q z = true ↔ z < n ∧ f2 z = 2 := by
      intro z
      rw [hclo z]
      constructor
      · intro q
        refine ⟨hlt2 z q, ?_⟩
        rcases g3 z q with c | c
        · exact c
        · exact absurd c (hneg z (hlt2 z q))
      · rintro ⟨q1, q2⟩; exact (g2 z q1 q2).1
    unfold lkC wgQ
    rw [fw_look_256 n (va_up Fw 30 f2) V _ hn (n + 1) 0 (by omega) (by omega) (fun s hs => absurd hs (by omega))]
    have cv27 : va_up Fw 30 f2 27 = Fw 27 := va_up_ne _ _ (by decide)
    have hAv : Ag [27, 28, 29, 30, 31, 32] F (va_up Fw 30 f2) := hAw'.tr (Ag.up (by decide))
    by_cases hcl2 : Q &&& Lg 2 = 0
    · rw [if_pos ((lg_0 _ _).mpr hcl2)]
      have hnone : anyN (mcB (va_up Fw 30 f2)) n = false := by
        refine anyN_f.mpr (fun z hz => ?_)
        cases e : mcB (va_up Fw 30 f2) z
        · rfl
        · unfold mcB at e
          rw [cv27, va_up_self, Bool.and_eq_true, decide_eq_true_eq, decide_eq_true_eq] at e
          exact absurd (bL_andT.mpr ⟨(hQ2 z).mpr ⟨hz, e.2⟩, (w1 z).mpr ⟨hz, e.1⟩⟩) (z_iff.mp hcl2 z)
      rw [if_neg (by rw [hnone]; decide)]
      obtain ⟨g9, e9, h9⟩ := fw_look_298 n (va_up Fw 30 f2) V (fun (i60 : Nat) (F64 : Nat → Nat → Int32) (V65 : Nat → Int32) => lkT n F64 V65) hn (n + 1) 0 f2 (by omega) (by omega) (fun y hy => absurd hy (by omega)) (fun y _ => by rw [va_up_self])
      rw [va_uu, va_uu] at e9
      rw [e9]
      clear e9
      have cv7 : va_up Fw 30 f2 7 = F 7 := by rw [va_up_ne _ _ (by decide)]; exact cw7
      rw [cv27, cv7, va_up_self] at h9
      have hf02 : ∀ z, z < n → f2 z = 0 ∨ f2 z = 2 := by
        intro z hz
        rcases g1 z with q | q
        · exact Or.inr q
        · rw [q, va_up_self, hg z hz]
          by_cases c : (goB n Fw (nI how) z && UW Fw z) = true
          · rw [if_pos c]; exact Or.inr rfl
          · rw [if_neg c]; exact Or.inl rfl
      have hmQ : ∀ z, z < n → ¬ Fw 27 z = 0 → ¬ f2 z = 2 := fun z hz q1 q2 => z_iff.mp hcl2 z (bL_andT.mpr ⟨(hQ2 z).mpr ⟨hz, q2⟩, (w1 z).mpr ⟨hz, q1⟩⟩)
      have hg1 : ∀ z, z < n → (g9 z = 1 ↔ ¬ Fw 27 z = 0 ∧ ¬ F 7 z = 2) := by
        intro z hz
        rw [h9 z hz]
        by_cases c : ¬ Fw 27 z = 0 ∧ ¬ F 7 z = 2
        · rw [if_pos c]; exact ⟨fun _ => c, fun _ => rfl⟩
        · rw [if_neg c]
          refine ⟨fun q => ?_, fun q => absurd q c⟩
          rcases hf02 z hz with d | d <;> rw [d] at q <;> exact absurd q (by decide)
      have hg2 : ∀ z, z < n → (g9 z = 2 ↔ f2 z = 2) := by
        intro z hz
        rw [h9 z hz]
        by_cases c : ¬ Fw 27 z = 0 ∧ ¬ F 7 z = 2
        · rw [if_pos c]
          exact ⟨fun q => absurd q (by decide), fun q => absurd q (hmQ z hz c.1)⟩
        · rw [if_neg c]
      refine look_end n dl V (F0 := F) (F := va_up Fw 30 g9) (P := Lg 2 &&& (up ^^^ (-1))) (Q := Q) (hR.c (by rw [va_up_ne _ _ (by decide)]; exact cw19)) hn (fun s => ?_) (fun s => ?_) (fun s hs => ?_) w5 (fun s hs q5 => ?_) (hAw'.tr (Ag.up (by decide))) L I _ _ ?_ ?_ (fun j a b c => ?_) hI7
      · rw [va_up_self, bL_andN, w1 s, hU s]
        constructor
        · rintro ⟨⟨q1, q2⟩, q3⟩; exact ⟨q1, (hg1 s q1).mpr ⟨q2, fun q => q3 ⟨q1, q⟩⟩⟩
        · rintro ⟨q1, q2⟩
          obtain ⟨q3, q4⟩ := (hg1 s q1).mp q2
          exact ⟨⟨q1, q3⟩, fun q => q4 q.2⟩
      · rw [va_up_self, hQ2 s]
        constructor
        · rintro ⟨q1, q2⟩; exact ⟨q1, (hg2 s q1).mpr q2⟩
        · rintro ⟨q1, q2⟩; exact ⟨q1, (hg2 s q1).mp q2⟩
      · rw [va_up_self, h9 s hs]
        by_cases c : ¬ Fw 27 s = 0 ∧ ¬ F 7 s = 2
        · rw [if_pos c]; exact Or.inr (Or.inl rfl)
        · rw [if_neg c]
          rcases hf02 s hs with d | d
          · exact Or.inl d
          · exact Or.inr (Or.inr d)
      · rw [va_up_self, va_up_ne _ _ (by decide), hg1 s hs]
        exact ⟨fun q => ⟨q, by rw [q5]; decide⟩, fun q => q.1⟩
      · rw [va_up_self]
      · rw [va_up_ne _ _ (by decide), va_up_self]
      · rw [va_up_ne _ _ b, va_up_ne _ _ c]; exact hLj j a
    · rw [if_neg (fun q => hcl2 ((lg_0 _ _).mp q))]
      have hsome : anyN (mcB (va_up Fw 30 f2)) n = true := by
        obtain ⟨z, hz⟩ := nz_iff.mp hcl2
        obtain ⟨q1, q2⟩ := bL_andT.mp hz
        obtain ⟨q3, q4⟩ := (hQ2 z).mp q1
        refine (anyN_iff _ _).mpr ⟨z, q3, ?_⟩
        unfold mcB
        rw [cv27, va_up_self, Bool.and_eq_true, decide_eq_true_eq, decide_eq_true_eq]
        exact ⟨((w1 z).mp q2).2, q4⟩
      rw [if_pos hsome]
      refine ⟨Or.inl ⟨rfl, rfl, rfl⟩, hAv, fun j a b c => ?_, hI7⟩
      show va_up Lg 4 Q j = L j
      rw [va_up_ne _ _ c]; exact hLj j a
  unfold wgN
  rw [fy_fromAny3]
  by_cases hh2 : how = 2
  · subst hh2
    rw [if_pos (show nI 2 = 2 from rfl)]
    refine fin (uS (M 3) (Lg 2) 40 ||| (Lg 2 ^^^ (-1))) (fun z hz => ?_)
    rw [hgo z hz, bL_orT, bL_notT (by omega)]
    constructor
    · rintro (q | q)
      · exact Or.inr q
      · exact Or.inl ⟨rfl, q⟩
    · rintro (q | q)
      · exact Or.inr q.2
      · exact Or.inl q
  · have hne2 : ¬ nI how = 2 := fun q => hh2 ((nI_eq (a := how) (b := 2) (by omega) (by omega)).mp q)
    rw [if_neg hne2]
    refine fin (uS (M 3) (Lg 2) 40 ||| 0) (fun z hz => ?_)
    rw [hgo z hz, bL_orT, bL_0]
    constructor
    · rintro (q | q)
      · exact Or.inr q
      · cases q
    · rintro (q | q)
      · exact absurd q.1 hh2
      · exact Or.inl q
theorem look_weigh (n : Nat) (dl : Nat → Nat) (how x : Nat) (up wt : Int64) (L : Nat → Int64) (I : Nat → Int32) {M : Nat → Nat → Int64} {F : Nat → Nat → Int32} (V : Nat → Int32) (hn : n ≤ 40) (hx : x < n) (hh : how ≤ 2) (hR : RR n M F) (hU : sB n up F 2) (hW : sB n wt F 5) (hj : f_w_jobs n F = 0) (h1 : f_w_in n 1 F = 0) (h3 : f_w_in n 3 F = 0) : LWp n F V L I (f_y_weigh n dl (nI how) x up wt L I M) (f_w_look n (nI how) x F V) := by
  rw [fw_look_eq, fy_weigh_eq, hj, h1, h3, if_neg (show ¬ (0 : Int32) < 0 by decide), if_pos (show (0 : Int32) + 0 ≤ 0 by decide)]
  obtain ⟨F6, e6, hA6, h6⟩ := fw_look_26 n F V (fun (i13 : Nat) (F17 : Nat → Nat → Int32) (V18 : Nat → Int32) => lkX n (nI how) x F17 V18) hn (n + 1) 0 F (by omega) (by omega) Ag.rf (fun y hy => absurd hy (by omega))
  rw [e6]
  clear e6
  unfold lkX
  have hA6' : Ag [27, 28, 29, 30, 31, 32] F F6 := hA6.sub (by decide)
  have c67 : F6 7 = F 7 := hA6 7 (by decide)
  have hM := hR.m40 hn
  by_cases hh1 : how = 1
  · subst hh1
    rw [if_pos (show nI 1 = 1 from rfl), if_pos (show nI 1 = 1 from rfl)]
    have eU : f_w_isUpOrWaiting n x F6 = fl (UW F6 x) := fw_uw n F6 (by omega)
    rw [eU]
    cases hux : UW F6 x
    · rw [if_pos (show fl false = 0 from rfl)]
      exact look_stop n dl x up wt L I V hn hx hR hU hW hA6 h6 0 (Or.inr ⟨rfl, hux⟩)
    · rw [if_neg (show ¬ fl true = 0 by decide)]
      exact look_stop n dl x up wt L I V hn hx hR hU hW hA6 h6 2 (Or.inl ⟨rfl, hux⟩)
  · have hne1 : ¬ nI how = 1 := fun q => hh1 ((nI_eq (a := how) (b := 1) (by omega) (by omega)).mp q)
    rw [if_neg hne1, if_neg hne1]
    obtain ⟨Fm, em, hAm, hm1, hm2, hm3⟩ := fw_members n x F6 V hn
    rw [em]
    clear em
    have cm19 : Fm 19 = F 19 := (hAm 19 (by decide)).trans (hA6 19 (by decide))
    have cm7 : Fm 7 = F 7 := (hAm 7 (by decide)).trans c67
    have hAm' : Ag [27, 28, 29, 30, 31, 32] F Fm := hA6'.tr (hAm.sub (by decide))
    have hRm := hR.c cm19
    have hUm := hU.c cm7
    rw [nE_c (hA6 19 (by decide))] at hm1
    have hcl : ∀ z, bL (itL (gN M) 40 (oL x)) z = true ↔ Clo (nE n F) (fun z => z < n ∧ z = x) z := by
      intro z
      rw [gN_clo hM (fun y hy => by rw [bL_oL (by omega)] at hy; omega), hR.nE]
      have : (fun y => bL (oL x) y = true) = (fun z => z < n ∧ z = x) := by
        funext y
        refine propext ?_
        rw [bL_oL (by omega)]
        exact ⟨fun q => ⟨by omega, q⟩, fun q => q.2⟩
      rw [this]
    obtain ⟨T, eT⟩ : ∃ t9 : Int64, itL (gN M) 40 (oL x) = t9 := ⟨_, rfl⟩
    rw [fy_gatherNeeded_eq n dl x _ _ I M eT]
    rw [eT] at hcl
    clear eT
    have hlt : ∀ z, Clo (nE n F) (fun z => z < n ∧ z = x) z → z < n := fun z h => Clo.least (T := fun z => z < n) (fun y hy => hy.1) (fun y z _ he => he.2.1) h
    have hB : mB n T (Fm 27) := by
      intro z
      rw [hcl z]
      exact ⟨fun q => ⟨hlt z q, (hm1 z (hlt z q)).mpr q⟩, fun q => (hm1 z q.1).mp q.2⟩
    rw [clash27 hRm hn dl hB]
    unfold lkM
    by_cases hc : f_w_clash_member n Fm = 0
    · rw [if_pos hc, if_pos hc]
      obtain ⟨r, Fr, er, hr, hAr, hSr⟩ := fw_memberRing_member n Fm V hn
      have hS2 := ring_gen hRm hB hUm (fun a b => rfl) hSr
      obtain ⟨r2, e2, hr2, hS3⟩ := fy_shortestRing n dl hM (T &&& (up ^^^ (-1)))
      have err : r2 = r := SR.one hS3 hS2
      subst err
      rw [er, e2]
      clear er e2
      have hAr' : Ag [27, 28, 29, 30, 31, 32] F Fr := hAm'.tr (hAr.sub (by decide))
      unfold lkR gnR wgG
      by_cases h0 : r2 = 0
      · subst h0
        rw [if_pos (show nI 0 ≤ 0 by decide), if_pos (show (0 : Int32) ≤ 0 by decide), if_pos (show nI 0 ≤ 0 by decide)]
        obtain ⟨i2, y2, Fw, ew, hAw, hLw, lk2, hWw⟩ := wanted_sim n dl M V (fun (i1 : Nat) (y7 : Int32) (F5 : Nat → Nat → Int32) (V6 : Nat → Int32) => (F5, V6)) up hn 41 42 0 0 (va_up (va_up L 2 0) 2 T) 0 Fr (by omega) (by omega) (by omega) (by omega) (hR.c (hAr' 19 (by decide))) (hU.c (hAr' 7 (by decide))) (by
          rw [va_up_self]
          have c27 : Fr 27 = Fm 27 := hAr 27 (by decide)
          have c29 : Fr 29 = Fm 29 := hAr 29 (by decide)
          refine ⟨by rw [c27]; exact hB, fun s => ?_, by rw [c27]; exact hm2, fun a b q1 q2 => ?_, hS2⟩
          · rw [c29, bL_0]
            exact ⟨fun q => (by cases q), fun q => absurd (hm3 s q.1) q.2⟩
          · rw [hcl] at q1 ⊢
            exact q1.step ((hR.1 0 a b (by omega)).mp q2))
        have ew2 : f_w_addWanted n Fr V = (Fw, V) := ew
        rw [ew2]
        exact look_mem n dl how up wt L I V hn hh hR hU hW hWw (hAr'.tr (hAw.sub (by decide))) (fun j q => (hLw j q).trans (by rw [va_up_ne _ _ q, va_up_ne _ _ q])) _ (fun j a => va_up_ne _ _ a)
      · rw [if_neg (nI_nle (by omega) (by omega)), if_neg (show ¬ (0 : Int32) ≤ -5 by decide), if_neg (nI_nle (by omega) (by omega))]
        refine ⟨Or.inr (Or.inl ⟨rfl, rfl, ?_⟩), hAr', fun j a b c => ?_, fun j a => va_up_ne _ _ a⟩
        · show va_up V 33 (nI r2) = va_up V 33 (va_up I 8 (nI r2) 8)
          rw [va_up_self]
        · show va_up (va_up L 2 0) 2 _ j = L j
          rw [va_up_ne _ _ a, va_up_ne _ _ a]
    · rw [if_neg hc, if_neg hc]
      unfold wgG
      rw [if_neg (show ¬ (0 : Int32) ≤ -4 by decide)]
      refine ⟨Or.inl ⟨rfl, rfl, rfl⟩, hAm', fun j a b c => ?_, fun j a => rfl⟩
      show va_up (va_up L 2 0) 2 _ j = L j
      rw [va_up_ne _ _ a, va_up_ne _ _ a]

end
section
def RA (n : Nat) (dl : Nat → Nat) (si : Nat → Nat → Int32) (sa : Nat → Nat → Nat → Int32) (F : Nat → Nat → Int32) : Prop := ∀ s, s < n → (si s 0 = F 0 s ∧ si s 1 = F 1 s ∧ si s 2 = F 2 s ∧ si s 23 = F 4 s ∧ si s 24 = F 5 s ∧ si s 25 = F 6 s) ∧ (∀ i, i < 8 → sa s 1 i = F 3 (8 * s + i) ∧ ∃ v, v ≤ 1000 ∧ F 3 (8 * s + i) = nI v) ∧ ((∃ a, a ≤ 50 ∧ F 1 s = nI a) ∧ (∃ a, a ≤ 50 ∧ F 2 s = nI a) ∧ (∃ d, 0 < d ∧ d ≤ 50 ∧ F 4 s = nI d) ∧ (∃ b, b ≤ 10 ∧ F 5 s = nI b) ∧ (∃ w, 0 < w ∧ w ≤ 200 ∧ F 6 s = nI w)) ∧ dl s = (if F 0 s = 2 then 20 else 0)
def RE (n : Nat) (si : Nat → Nat → Int32) (F : Nat → Nat → Int32) : Prop := ∀ s, s < n → si s 6 = F 7 s ∧ (∃ t, t ≤ 5 ∧ F 7 s = nI t) ∧ (¬ F 7 s = 0 → si s 7 = F 8 s) ∧ si s 8 = F 9 s ∧ (si s 11 = F 11 s ∧ (F 11 s = 0 ∨ F 11 s = 1)) ∧ si s 10 = (if F 7 s = 2 ∧ F 11 s = 0 then F 12 s else 0) ∧ (∃ v, v ≤ 1000 ∧ si s 10 = nI v) ∧ (F 7 s = 1 → ¬ F 1 s = 0) ∧ (F 7 s = 3 → ¬ F 2 s = 0)
def RS (n : Nat) (L0 : Int64) (M9 : Nat → Int64) (si : Nat → Nat → Int32) (F : Nat → Nat → Int32) : Prop := (∀ t, t ≤ 5 → ∀ s, bL (M9 t) s = true ↔ s < n ∧ F 7 s = nI t) ∧ (∀ s, bL L0 s = true ↔ s < n ∧ ¬ si s 10 = 0)
def RI (n B : Nat) (I V : Nat → Int32) (F : Nat → Nat → Int32) : Prop := (I 0 = V 22 ∧ ∃ T, T ≤ B ∧ V 22 = nI T) ∧ (I 1 = V 23 ∧ I 2 = V 24 ∧ I 3 = V 33) ∧ (I 7 = V 20 ∧ ∃ r u, u ≤ B ∧ r ≤ 400 + u ∧ V 20 = nI r - nI u) ∧ (∃ c, c ≤ B ∧ I 12 = nI c ∧ V 45 = nI c ∧ (∃ d, d ≤ c ∧ I 4 = nI d) ∧ ∀ s, s < n → ∃ k, k ≤ c ∧ F 9 s = nI k)
def RH (M8 : Nat → Int64) (F : Nat → Nat → Int32) : Prop := ∀ j, j < 2000 → ∃ a s t : Nat, a < 1073741824 ∧ s < 40 ∧ t ≤ 5 ∧ F 42 j = nI a ∧ F 43 j = nI s ∧ F 44 j = nI t ∧ M8 j = lN (a * 512 + s * 8 + t)
def RG (n : Nat) (I : Nat → Int32) (F : Nat → Nat → Int32) : Prop := I 4 = I 12 → ∀ s, s < n → (F 7 s = 1 ∨ F 7 s = 2) → anyN (lkB F s) n = false
def ejb (F : Nat → Nat → Int32) (s : Nat) : Bool := !decide (F 25 s = 0) && !decide (F 26 s = 0) && (if F 25 s = 1 then !decide (F 7 s = 1) else decide (F 7 s = 0))
def RJ (n : Nat) (L : Nat → Int64) (F : Nat → Nat → Int32) : Prop := (∀ s, bL (L 5) s = true ↔ s < n ∧ F 25 s = 1 ∧ ejb F s = false) ∧ (∀ s, bL (L 6) s = true ↔ s < n ∧ F 25 s = 2 ∧ ejb F s = false) ∧ (∀ s, bL (L 7) s = true ↔ s < n ∧ ¬ F 25 s = 0 ∧ ¬ F 26 s = 0 ∧ ejb F s = false) ∧ (∀ s, s < n → F 25 s = 0 ∨ F 25 s = 1 ∨ F 25 s = 2)
def RB (M : Nat → Nat → Int64) (L : Nat → Int64) : Prop := ∀ s, bL (L 7) s = true → awL M s (L 5) (L 6) = 0
def RD (n : Nat) (dl : Nat → Nat) (L1 : Int64) (si : Nat → Nat → Int32) (sa : Nat → Nat → Nat → Int32) (F : Nat → Nat → Int32) : Prop := (∀ s, s < n → (si s 33 = F 15 s ∧ si s 34 = F 16 s) ∧ ∃ fi sz, si s 31 = nI fi ∧ si s 32 = nI sz ∧ F 18 s = nI sz ∧ fi < 20 ∧ sz ≤ dl s ∧ ∀ k, k < sz → F 17 (20 * s + k) = sa s 5 ((fi + k) % 20)) ∧ (∀ s, bL L1 s = true ↔ s < n ∧ ¬ F 18 s = 0)
def RF (n : Nat) (si : Nat → Nat → Int32) (F : Nat → Nat → Int32) : Prop := ∀ s, s < n → si s 9 = F 10 s
def RTm (n : Nat) (si : Nat → Nat → Int32) (sa : Nat → Nat → Nat → Int32) (F : Nat → Nat → Int32) (V : Nat → Int32) : Prop := ∀ s, s < n → ∃ nx fi T : Nat, nx < 10 ∧ fi ≤ 10 ∧ T < 536870912 ∧ si s 21 = nI nx ∧ si s 22 = nI fi ∧ F 14 s = nI fi ∧ V 22 = nI T ∧ ∃ τ : Nat → Nat, (∀ k, k < fi → F 13 (10 * s + k) = nI (τ k) ∧ sa s 3 ((nx + 10 - fi + k) % 10) = nI (τ k) ∧ τ k ≤ T) ∧ (∀ j k, j ≤ k → k < fi → τ j ≤ τ k)
def RZ (n : Nat) (F : Nat → Nat → Int32) : Prop := ∀ s, n ≤ s → s < 40 → (F 5 s = 0 ∧ F 7 s = 0 ∧ F 9 s = 0 ∧ F 10 s = 0 ∧ F 11 s = 0 ∧ F 14 s = 0 ∧ F 15 s = 0 ∧ F 18 s = 0 ∧ F 25 s = 0) ∧ ∀ i, i < 8 → F 3 (8 * s + i) = 0
def R00 (n : Nat) (dl : Nat → Nat) (B : Nat) (L : Nat → Int64) (I : Nat → Int32) (M : Nat → Nat → Int64) (si : Nat → Nat → Int32) (sa : Nat → Nat → Nat → Int32) (F : Nat → Nat → Int32) (V : Nat → Int32) : Prop := (n ≤ 40 ∧ B < 536870912) ∧ RR n M F ∧ RA n dl si sa F ∧ RE n si F ∧ RS n (L 0) (M 9) si F ∧ RI n B I V F ∧ RH (M 8) F ∧ RG n I F ∧ RD n dl (L 1) si sa F ∧ RZ n F
def R0 (n : Nat) (dl : Nat → Nat) (B : Nat) (L : Nat → Int64) (I : Nat → Int32) (M : Nat → Nat → Int64) (si : Nat → Nat → Int32) (sa : Nat → Nat → Nat → Int32) (F : Nat → Nat → Int32) (V : Nat → Int32) : Prop := R00 n dl B L I M si sa F V ∧ RJ n L F ∧ RB M L
def Rf (n : Nat) (dl : Nat → Nat) (B : Nat) (L : Nat → Int64) (I : Nat → Int32) (M : Nat → Nat → Int64) (si : Nat → Nat → Int32) (sa : Nat → Nat → Nat → Int32) (F : Nat → Nat → Int32) (V : Nat → Int32) : Prop := R0 n dl B L I M si sa F V ∧ RF n si F ∧ RTm n si sa F V
theorem fy_senter (n : Nat) (dl : Nat → Nat) (s t : Nat) (p : Int32) (si : Nat → Nat → Int32) (sa : Nat → Nat → Nat → Int32) {k : Nat} (hk : si s 8 = nI k) (hk2 : k < 2147483647) : (∀ s2 q, s2 ≠ s → (f_y_senter n dl s t p si sa).1 s2 q = si s2 q) ∧ (∀ q, q ∉ ([6, 7, 8, 9, 10, 11, 21, 22] : List Nat) → (f_y_senter n dl s t p si sa).1 s q = si s q) ∧ (f_y_senter n dl s t p si sa).1 s 6 = nI t ∧ (f_y_senter n dl s t p si sa).1 s 7 = p ∧ (f_y_senter n dl s t p si sa).1 s 11 = 0 ∧ (f_y_senter n dl s t p si sa).1 s 8 = (if t = 2 then nI (k + 1) else si s 8) ∧ (f_y_senter n dl s t p si sa).1 s 10 = (if t = 2 then sa s 1 (if 7 ≤ k then 7 else k) else 0) ∧ (f_y_senter n dl s t p si sa).1 s 9 = (if t = 4 ∨ t = 5 then si s 9 + 1 else si s 9) ∧ (¬ t = 5 → (f_y_senter n dl s t p si sa).2 = sa ∧ (f_y_senter n dl s t p si sa).1 s 21 = si s 21 ∧ (f_y_senter n dl s t p si sa).1 s 22 = si s 22) ∧ (t = 5 → (f_y_senter n dl s t p si sa).2 = up2 sa s 3 (upd (sa s 3) (nI (si s 21).toNatClampNeg).toNatClampNeg p) ∧ (f_y_senter n dl s t p si sa).1 s 21 = nI (((si s 21).toNatClampNeg + 1) % 10) ∧ (f_y_senter n dl s t p si sa).1 s 22 = (if (10 : Int32) ≤ si s 22 then si s 22 else si s 22 + 1)) := by
  have e7 : (if (7 : Int32) < nI k then (7 : Int32) else nI k) = nI (if 7 ≤ k then 7 else k) := by
    by_cases c : 7 < k
    · rw [if_pos (show (7 : Int32) < nI k from nI_lt (a := 7) c (by omega)), if_pos (by omega)]; rfl
    · rw [if_neg (show ¬ (7 : Int32) < nI k from nI_nlt (a := 7) (b := k) (by omega) (by omega))]
      by_cases c2 : 7 ≤ k
      · rw [if_pos c2, show k = 7 by omega]
      · rw [if_neg c2]
  have e0 : ∀ m : Nat, m ≤ 7 → (if (0 : Int32) < nI m then nI m else (0 : Int32)) = nI m := by
    intro m hm
    by_cases c : 0 < m
    · rw [if_pos (show (0 : Int32) < nI m from nI_lt (a := 0) c (by omega))]
    · rw [if_neg (show ¬ (0 : Int32) < nI m from nI_nlt (a := 0) (b := m) (by omega) (by omega)), show m = 0 by omega]; rfl
  have hm7 : (if 7 ≤ k then 7 else k) ≤ 7 := by
    by_cases c : 7 ≤ k
    · rw [if_pos c]; omega
    · rw [if_neg c]; omega
  have h8 : nI k + 1 = nI (k + 1) := nI_1 k
  have hcl : (nI (if 7 ≤ k then 7 else k)).toNatClampNeg = (if 7 ≤ k then 7 else k) := nI_clamp (by omega)
  have key : ∀ si4 : Nat → Nat → Int32, si4 s 8 = nI k → (if (0 : Int32) < (if (7 : Int32) < si4 s 8 then (7 : Int32) else si4 s 8) then (if (7 : Int32) < si4 s 8 then (7 : Int32) else si4 s 8) else (0 : Int32)).toNatClampNeg = (if 7 ≤ k then 7 else k) := by
    intro si4 h
    rw [h, e7, e0 _ hm7, hcl]
  have hl : ∀ q : Nat, q ∉ ([6, 7, 8, 9, 10, 11, 21, 22] : List Nat) → q ≠ 6 ∧ q ≠ 7 ∧ q ≠ 8 ∧ q ≠ 9 ∧ q ≠ 10 ∧ q ≠ 11 ∧ q ≠ 21 ∧ q ≠ 22 := by
    intro q hq
    simp only [List.mem_cons, List.not_mem_nil, or_false, not_or] at hq
    exact hq
  have h48 : up2 (up2 (up2 (up2 si s 6 (nI t)) s 7 p) s 11 0) s 10 0 s 8 = nI k := by
    rw [up2_ne (by decide), up2_ne (by decide), up2_ne (by decide), up2_ne (by decide)]; exact hk
  unfold f_y_senter f_y_note
  simp only [bnd, bn2]
  rw [key _ h48]
  by_cases c2 : t = 2
  · subst c2
    simp only [if_pos, if_neg (show ¬ (2 : Nat) = 4 by decide), if_neg (show ¬ (2 : Nat) = 5 by decide)]
    refine ⟨fun s2 q h => ?_, fun q hq => ?_, ?_, ?_, ?_, ?_, ?_, ?_, fun _ => ⟨by first | rfl | trivial, ?_, ?_⟩, fun h => absurd h (by decide)⟩
    · simp [up2, h]
    · obtain ⟨a1, a2, a3, a4, a5, a6, a7, a8⟩ := hl q hq
      simp [up2, a1, a2, a3, a5, a6]
    · simp [up2]
    · simp [up2]
    · simp [up2]
    · rw [← h8, ← hk]; simp [up2]
    · rw [nI_clamp (by omega)]; simp [up2]
    · simp [up2]
    · simp [up2]
    · simp [up2]
  · by_cases c4 : t = 4
    · subst c4
      simp only [if_neg (show ¬ (4 : Nat) = 2 by decide), if_pos, if_neg (show ¬ (4 : Nat) = 5 by decide)]
      refine ⟨fun s2 q h => ?_, fun q hq => ?_, ?_, ?_, ?_, ?_, ?_, ?_, fun _ => ⟨by first | rfl | trivial, ?_, ?_⟩, fun h => absurd h (by decide)⟩
      · simp [up2, h]
      · obtain ⟨a1, a2, a3, a4, a5, a6, a7, a8⟩ := hl q hq
        simp [up2, a1, a2, a4, a5, a6]
      all_goals simp [up2]
    · by_cases c5 : t = 5
      · subst c5
        simp only [if_neg (show ¬ (5 : Nat) = 2 by decide), if_neg (show ¬ (5 : Nat) = 4 by decide), if_pos]
        have g22 : up2 (up2 (up2 (up2 (up2 (up2 si s 6 (nI 5)) s 7 p) s 11 0) s 10 0) s 9 (up2 (up2 (up2 (up2 si s 6 (nI 5)) s 7 p) s 11 0) s 10 0 s 9 + 1)) s 21 (nI (((up2 (up2 (up2 (up2 (up2 si s 6 (nI 5)) s 7 p) s 11 0) s 10 0) s 9 (up2 (up2 (up2 (up2 si s 6 (nI 5)) s 7 p) s 11 0) s 10 0 s 9 + 1) s 21).toNatClampNeg + 1) % 10)) s 22 = si s 22 := by simp [up2]
        rw [g22]
        by_cases c10 : (10 : Int32) ≤ si s 22
        · rw [if_pos c10]
          refine ⟨fun s2 q h => ?_, fun q hq => ?_, ?_, ?_, ?_, ?_, ?_, ?_, fun h => absurd (by first | rfl | trivial) h, fun _ => ⟨?_, ?_, ?_⟩⟩
          · simp [up2, h]
          · obtain ⟨a1, a2, a3, a4, a5, a6, a7, a8⟩ := hl q hq
            simp [up2, a1, a2, a4, a5, a6, a7]
          all_goals simp [up2, c10]
        · rw [if_neg c10]
          refine ⟨fun s2 q h => ?_, fun q hq => ?_, ?_, ?_, ?_, ?_, ?_, ?_, fun h => absurd (by first | rfl | trivial) h, fun _ => ⟨?_, ?_, ?_⟩⟩
          · simp [up2, h]
          · obtain ⟨a1, a2, a3, a4, a5, a6, a7, a8⟩ := hl q hq
            simp [up2, a1, a2, a4, a5, a6, a7, a8]
          all_goals simp [up2, c10]
      · simp only [if_neg c2, if_neg c4, if_neg c5]
        refine ⟨fun s2 q h => ?_, fun q hq => ?_, ?_, ?_, ?_, ?_, ?_, ?_, fun _ => ⟨by first | rfl | trivial, ?_, ?_⟩, fun h => absurd h c5⟩
        · simp [up2, h]
        · obtain ⟨a1, a2, a3, a4, a5, a6, a7, a8⟩ := hl q hq
          simp [up2, a1, a2, a5, a6]
        all_goals simp [up2, c4, c5]
def toT (n : Nat) (sv : Nat) (p1 : Int32) (F16 : Nat → Nat → Int32) (V15 : Nat → Int32) : (Nat → Nat → Int32) × (Nat → Int32) := if p1 = (2 : Int32) then (bnd (F16 9 (nI sv).toNatClampNeg) (fun (x18 : Int32) => bnd (x18.toNatClampNeg) (fun (m19 : Nat) => if 7 ≤ m19 then (bnd (F16 3 (nI ((8 * sv) + 7)).toNatClampNeg) (fun (x21 : Int32) => bnd (va_up F16 12 (upd (F16 12) (nI sv).toNatClampNeg x21)) (fun (F22 : Nat → Nat → Int32) => bnd (F22 9 (nI sv).toNatClampNeg) (fun (x23 : Int32) => bnd (x23.toNatClampNeg) (fun (m24 : Nat) => bnd (va_up F22 9 (upd (F22 9) (nI sv).toNatClampNeg (nI (m24 + 1)))) (fun (F25 : Nat → Nat → Int32) => (F25, V15))))))) else (bnd (F16 3 (nI ((8 * sv) + m19)).toNatClampNeg) (fun (x27 : Int32) => bnd (va_up F16 12 (upd (F16 12) (nI sv).toNatClampNeg x27)) (fun (F28 : Nat → Nat → Int32) => bnd (F28 9 (nI sv).toNatClampNeg) (fun (x29 : Int32) => bnd (x29.toNatClampNeg) (fun (m30 : Nat) => bnd (va_up F28 9 (upd (F28 9) (nI sv).toNatClampNeg (nI (m30 + 1)))) (fun (F31 : Nat → Nat → Int32) => (F31, V15)))))))))) else ((F16, V15))
theorem fw_toT (n s t : Nat) (F G : Nat → Nat → Int32) (V : Nat → Int32) {k : Nat} (hs : s < 40) (ht : t ≤ 5) (hk : G 9 s = nI k) (hk2 : k < 2147483647) : ∃ F2, toT n s (nI t) G V = (F2, V) ∧ Ag [9, 12] G F2 ∧ F2 9 = (if t = 2 then upd (G 9) s (nI (k + 1)) else G 9) ∧ F2 12 = (if t = 2 then upd (G 12) s (G 3 (8 * s + if 7 ≤ k then 7 else k)) else G 12) := by
  unfold toT
  simp only [bnd]
  by_cases c2 : t = 2
  · subst c2
    rw [if_pos (show nI 2 = 2 from rfl), if_pos rfl, if_pos rfl, nI_clamp (show s < 2 ^ 31 by omega), hk, nI_clamp (show k < 2 ^ 31 by omega), va_up_ne _ _ (show (9 : Nat) ≠ 12 by decide), va_up_ne _ _ (show (9 : Nat) ≠ 12 by decide), hk, nI_clamp (show k < 2 ^ 31 by omega)]
    by_cases c7 : 7 ≤ k
    · rw [if_pos c7, if_pos c7, nI_clamp (show 8 * s + 7 < 2 ^ 31 by omega)]
      refine ⟨_, rfl, (Ag.up (by decide)).tr (Ag.up (by decide)), ?_, ?_⟩
      · rw [va_up_self]
      · rw [va_up_ne _ _ (by decide), va_up_self]
    · rw [if_neg c7, if_neg c7, nI_clamp (show 8 * s + k < 2 ^ 31 by omega)]
      refine ⟨_, rfl, (Ag.up (by decide)).tr (Ag.up (by decide)), ?_, ?_⟩
      · rw [va_up_self]
      · rw [va_up_ne _ _ (by decide), va_up_self]
  · have hne : ¬ nI t = 2 := fun q => c2 ((nI_eq (a := t) (b := 2) (by omega) (by omega)).mp q)
    rw [if_neg hne, if_neg c2, if_neg c2]
    exact ⟨G, rfl, Ag.rf, rfl, rfl⟩
theorem fw_to (n s t : Nat) (F : Nat → Nat → Int32) (V : Nat → Int32) {c k : Nat} (hs : s < 40) (ht : t ≤ 5) (hc : V 45 = nI c) (hc2 : c < 2147483647) (hk : F 9 s = nI k) (hk2 : k < 2147483647) : ∃ F2, f_w_to n s (nI t) F V = (F2, va_up V 45 (nI (c + 1))) ∧ Ag [7, 8, 9, 11, 12, 42, 43, 44] F F2 ∧ F2 7 = upd (F 7) s (nI t) ∧ F2 8 = upd (F 8) s (V 22) ∧ F2 11 = upd (F 11) s 0 ∧ F2 42 = upd (F 42) (c % 2000) (V 22) ∧ F2 43 = upd (F 43) (c % 2000) (nI s) ∧ F2 44 = upd (F 44) (c % 2000) (nI t) ∧ F2 9 = (if t = 2 then upd (F 9) s (nI (k + 1)) else F 9) ∧ F2 12 = (if t = 2 then upd (F 12) s (F 3 (8 * s + if 7 ≤ k then 7 else k)) else F 12) := by
  have e0 : f_w_to n s (nI t) F V = toT n s (nI t) (va_up (va_up (va_up (va_up (va_up (va_up F 7 (upd (F 7) (nI s).toNatClampNeg (nI t))) 8 (upd (va_up F 7 (upd (F 7) (nI s).toNatClampNeg (nI t)) 8) (nI s).toNatClampNeg (V 22))) 42 (upd (va_up (va_up F 7 (upd (F 7) (nI s).toNatClampNeg (nI t))) 8 (upd (va_up F 7 (upd (F 7) (nI s).toNatClampNeg (nI t)) 8) (nI s).toNatClampNeg (V 22)) 42) (nI ((V 45).toNatClampNeg % 2000)).toNatClampNeg (V 22))) 43 (upd (va_up (va_up (va_up F 7 (upd (F 7) (nI s).toNatClampNeg (nI t))) 8 (upd (va_up F 7 (upd (F 7) (nI s).toNatClampNeg (nI t)) 8) (nI s).toNatClampNeg (V 22))) 42 (upd (va_up (va_up F 7 (upd (F 7) (nI s).toNatClampNeg (nI t))) 8 (upd (va_up F 7 (upd (F 7) (nI s).toNatClampNeg (nI t)) 8) (nI s).toNatClampNeg (V 22)) 42) (nI ((V 45).toNatClampNeg % 2000)).toNatClampNeg (V 22)) 43) (nI ((V 45).toNatClampNeg % 2000)).toNatClampNeg (nI s))) 44 (upd (va_up (va_up (va_up (va_up F 7 (upd (F 7) (nI s).toNatClampNeg (nI t))) 8 (upd (va_up F 7 (upd (F 7) (nI s).toNatClampNeg (nI t)) 8) (nI s).toNatClampNeg (V 22))) 42 (upd (va_up (va_up F 7 (upd (F 7) (nI s).toNatClampNeg (nI t))) 8 (upd (va_up F 7 (upd (F 7) (nI s).toNatClampNeg (nI t)) 8) (nI s).toNatClampNeg (V 22)) 42) (nI ((V 45).toNatClampNeg % 2000)).toNatClampNeg (V 22))) 43 (upd (va_up (va_up (va_up F 7 (upd (F 7) (nI s).toNatClampNeg (nI t))) 8 (upd (va_up F 7 (upd (F 7) (nI s).toNatClampNeg (nI t)) 8) (nI s).toNatClampNeg (V 22))) 42 (upd (va_up (va_up F 7 (upd (F 7) (nI s).toNatClampNeg (nI t))) 8 (upd (va_up F 7 (upd (F 7) (nI s).toNatClampNeg (nI t)) 8) (nI s).toNatClampNeg (V 22)) 42) (nI ((V 45).toNatClampNeg % 2000)).toNatClampNeg (V 22)) 43) (nI ((V 45).toNatClampNeg % 2000)).toNatClampNeg (nI s)) 44) (nI ((V 45).toNatClampNeg % 2000)).toNatClampNeg (nI t))) 11 (upd (F 11) (nI s).toNatClampNeg 0)) (va_up V 45 (nI ((V 45).toNatClampNeg + 1))) := rfl
  rw [e0, hc, nI_clamp (show c < 2 ^ 31 by omega), nI_clamp (show c % 2000 < 2 ^ 31 by omega), nI_clamp (show s < 2 ^ 31 by omega)]
  clear e0
  obtain ⟨G1, eG1⟩ : ∃ f9 : Nat → Nat → Int32, f9 = va_up F 7 (upd (F 7) s (nI t)) := ⟨_, rfl⟩
  rw [← eG1]
  obtain ⟨G2, eG2⟩ : ∃ f9 : Nat → Nat → Int32, f9 = va_up G1 8 (upd (G1 8) s (V 22)) := ⟨_, rfl⟩
  rw [← eG2]
  obtain ⟨G3, eG3⟩ : ∃ f9 : Nat → Nat → Int32, f9 = va_up G2 42 (upd (G2 42) (c % 2000) (V 22)) := ⟨_, rfl⟩
  rw [← eG3]
  obtain ⟨G4, eG4⟩ : ∃ f9 : Nat → Nat → Int32, f9 = va_up G3 43 (upd (G3 43) (c % 2000) (nI s)) := ⟨_, rfl⟩
  rw [← eG4]
  obtain ⟨G5, eG5⟩ : ∃ f9 : Nat → Nat → Int32, f9 = va_up G4 44 (upd (G4 44) (c % 2000) (nI t)) := ⟨_, rfl⟩
  rw [← eG5]
  obtain ⟨G, eG⟩ : ∃ f9 : Nat → Nat → Int32, f9 = va_up G5 11 (upd (F 11) s 0) := ⟨_, rfl⟩
  rw [← eG]
  have hA : Ag [7, 8, 9, 11, 12, 42, 43, 44] F G := by
    rw [eG, eG5, eG4, eG3, eG2, eG1]
    exact (((((Ag.up (by decide)).tr (Ag.up (by decide))).tr (Ag.up (by decide))).tr (Ag.up (by decide))).tr (Ag.up (by decide))).tr (Ag.up (by decide))
  have g7 : G 7 = upd (F 7) s (nI t) := by rw [eG, va_up_ne _ _ (by decide), eG5, va_up_ne _ _ (by decide), eG4, va_up_ne _ _ (by decide), eG3, va_up_ne _ _ (by decide), eG2, va_up_ne _ _ (by decide), eG1, va_up_self]
  have g8 : G 8 = upd (F 8) s (V 22) := by rw [eG, va_up_ne _ _ (by decide), eG5, va_up_ne _ _ (by decide), eG4, va_up_ne _ _ (by decide), eG3, va_up_ne _ _ (by decide), eG2, va_up_self, eG1, va_up_ne _ _ (by decide)]
  have g42 : G 42 = upd (F 42) (c % 2000) (V 22) := by rw [eG, va_up_ne _ _ (by decide), eG5, va_up_ne _ _ (by decide), eG4, va_up_ne _ _ (by decide), eG3, va_up_self, eG2, va_up_ne _ _ (by decide), eG1, va_up_ne _ _ (by decide)]
  have g43 : G 43 = upd (F 43) (c % 2000) (nI s) := by rw [eG, va_up_ne _ _ (by decide), eG5, va_up_ne _ _ (by decide), eG4, va_up_self, eG3, va_up_ne _ _ (by decide), eG2, va_up_ne _ _ (by decide), eG1, va_up_ne _ _ (by decide)]
  have g44 : G 44 = upd (F 44) (c % 2000) (nI t) := by rw [eG, va_up_ne _ _ (by decide), eG5, va_up_self, eG4, va_up_ne _ _ (by decide), eG3, va_up_ne _ _ (by decide), eG2, va_up_ne _ _ (by decide), eG1, va_up_ne _ _ (by decide)]
  have g11 : G 11 = upd (F 11) s 0 := by rw [eG, va_up_self]
  have g9 : G 9 = F 9 := by rw [eG, va_up_ne _ _ (by decide), eG5, va_up_ne _ _ (by decide), eG4, va_up_ne _ _ (by decide), eG3, va_up_ne _ _ (by decide), eG2, va_up_ne _ _ (by decide), eG1, va_up_ne _ _ (by decide)]
  have g12 : G 12 = F 12 := by rw [eG, va_up_ne _ _ (by decide), eG5, va_up_ne _ _ (by decide), eG4, va_up_ne _ _ (by decide), eG3, va_up_ne _ _ (by decide), eG2, va_up_ne _ _ (by decide), eG1, va_up_ne _ _ (by decide)]
  have g3 : G 3 = F 3 := hA 3 (by decide)
  clear eG eG5 eG4 eG3 eG2 eG1
  obtain ⟨F2, e2, hA2, h9, h12⟩ := fw_toT n s t F G (va_up V 45 (nI (c + 1))) hs ht (by rw [g9]; exact hk) hk2
  rw [g9] at h9
  rw [g12, g3] at h12
  refine ⟨F2, e2, hA.tr (hA2.sub (by decide)), ?_, ?_, ?_, ?_, ?_, ?_, h9, h12⟩
  · rw [hA2 7 (by decide)]; exact g7
  · rw [hA2 8 (by decide)]; exact g8
  · rw [hA2 11 (by decide)]; exact g11
  · rw [hA2 42 (by decide)]; exact g42
  · rw [hA2 43 (by decide)]; exact g43
  · rw [hA2 44 (by decide)]; exact g44

end
section
theorem fy_jend (n : Nat) (dl : Nat → Nat) (s : Nat) (L : Nat → Int64) : (f_y_jend n dl s L) 5 = L 5 &&& (oL s ^^^ (-1)) ∧ (f_y_jend n dl s L) 6 = L 6 &&& (oL s ^^^ (-1)) ∧ (f_y_jend n dl s L) 7 = L 7 &&& (oL s ^^^ (-1)) ∧ ∀ j, j ≠ 5 → j ≠ 6 → j ≠ 7 → (f_y_jend n dl s L) j = L j := by
  unfold f_y_jend
  simp only [bnd]
  refine ⟨?_, ?_, ?_, fun j a b c => ?_⟩
  · rw [va_up_ne _ _ (by decide), va_up_ne _ _ (by decide), va_up_self]; rfl
  · rw [va_up_ne _ _ (by decide), va_up_self, va_up_ne _ _ (by decide)]; rfl
  · rw [va_up_self, va_up_ne _ _ (by decide), va_up_ne _ _ (by decide)]; rfl
  · rw [va_up_ne _ _ c, va_up_ne _ _ b, va_up_ne _ _ a]
theorem fy_noteState (n : Nat) (dl : Nat → Nat) {s : Nat} (t : Nat) (L : Nat → Int64) (hs : s < 64) : f_y_noteState n dl s t L = if bL (L 7) s = true ∧ (if bL (L 5) s = true then ¬ t = 1 else t = 0) then f_y_jend n dl s L else L := by
  unfold f_y_noteState
  simp only [bnd]
  rw [fy_holds n dl _ hs, fy_holds n dl _ hs]
  by_cases h7 : bL (L 7) s = true
  · rw [if_pos h7, if_neg (by decide)]
    by_cases h5 : bL (L 5) s = true
    · rw [if_pos h5, if_neg (by decide)]
      by_cases h1 : t = 1
      · rw [if_pos h1, if_neg (fun q => by have q2 := q.2; rw [if_pos h5] at q2; exact q2 h1)]
      · rw [if_neg h1, if_pos ⟨h7, by rw [if_pos h5]; exact h1⟩]
    · rw [if_neg h5, if_pos rfl]
      by_cases h0 : t = 0
      · rw [if_pos h0, if_pos ⟨h7, by rw [if_neg h5]; exact h0⟩]
      · rw [if_neg h0, if_neg (fun q => by have q2 := q.2; rw [if_neg h5] at q2; exact h0 q2)]
  · rw [if_neg h7, if_pos rfl, if_neg (fun q => h7 q.1)]
theorem bL_clr {x : Int64} {s z : Nat} (hs : s < 64) : bL (x &&& (oL s ^^^ (-1))) z = true ↔ bL x z = true ∧ z ≠ s := by
  rw [bL_andN, bL_oL hs]
theorem bL_set {x : Int64} {s z : Nat} (hs : s < 64) : bL (x ||| oL s) z = true ↔ bL x z = true ∨ z = s := by
  rw [bL_orT, bL_oL hs]
theorem RR.cM {n : Nat} {M M2 : Nat → Nat → Int64} {F : Nat → Nat → Int32} (h : RR n M F) (e : ∀ j, j < 8 → M2 j = M j) : RR n M2 F := by
  obtain ⟨h1, h2, h3, h4, h5⟩ := h
  refine ⟨fun k a b hk => ?_, fun k a b hk => ?_, fun a b q => ?_, fun k a hk => ?_, h5⟩
  · rw [e k (by omega)]; exact h1 k a b hk
  · rw [e k (by omega), e (4 + k) (by omega)]; exact h2 k a b hk
  · rw [e 3 (by omega)] at q ⊢; exact h3 a b q
  · rw [e k (by omega)]; exact h4 k a hk
theorem awL_c {M M2 : Nat → Nat → Int64} (e : ∀ j, j < 8 → M2 j = M j) (s : Nat) (a b : Int64) : awL M2 s a b = awL M s a b := by
  unfold awL
  rw [e 0 (by omega), e 2 (by omega), e 3 (by omega), e 4 (by omega), e 6 (by omega)]
theorem awL_less {M : Nat → Nat → Int64} {s x : Nat} {a b : Int64} (hs : s < 64) (hx : x ≠ s) (h : awL M x a b = 0) : awL M x (a &&& (oL s ^^^ (-1))) (b &&& (oL s ^^^ (-1))) = 0 := by
  refine z_iff.mpr (fun z hz => ?_)
  have h9 := z_iff.mp h z
  apply h9
  unfold awL at hz ⊢
  by_cases ha : bL a x = true
  · rw [if_pos ((bL_clr hs).mpr ⟨ha, hx⟩)] at hz
    rw [if_pos ha]
    rw [bL_orT] at hz
    rw [bL_orT]
    rcases hz with q | q
    · obtain ⟨q1, q2⟩ := bL_andT.mp q
      exact Or.inl (bL_andT.mpr ⟨q1, ((bL_clr hs).mp q2).1⟩)
    · obtain ⟨q1, q2⟩ := bL_andT.mp q
      exact Or.inr (bL_andT.mpr ⟨q1, ((bL_clr hs).mp q2).1⟩)
  · rw [if_neg (fun q => ha ((bL_clr hs).mp q).1)] at hz
    rw [if_neg ha]
    by_cases hb : bL b x = true
    · rw [if_pos ((bL_clr hs).mpr ⟨hb, hx⟩)] at hz
      rw [if_pos hb]
      obtain ⟨q1, q2⟩ := bL_andT.mp hz
      exact bL_andT.mpr ⟨q1, ((bL_clr hs).mp q2).1⟩
    · rw [if_neg (fun q => hb ((bL_clr hs).mp q).1), bL_0] at hz
      cases hz
theorem ejb_c {F G : Nat → Nat → Int32} {s : Nat} (h25 : G 25 s = F 25 s) (h26 : G 26 s = F 26 s) (h7 : G 7 s = F 7 s) : ejb G s = ejb F s := by
  unfold ejb
  rw [h25, h26, h7]
theorem RJ.enter {n : Nat} (dl : Nat → Nat) {L : Nat → Int64} {F F2 : Nat → Nat → Int32} {s t : Nat} (h : RJ n L F) (hn : n ≤ 40) (hs : s < n) (ht : t ≤ 5) (h25 : F2 25 = F 25) (h26 : F2 26 = F 26) (h7 : F2 7 = upd (F 7) s (nI t)) (hj : ejb F s = true → (F 25 s = 1 → ¬ t = 1) ∧ (F 25 s = 2 → t = 0)) : RJ n (f_y_noteState n dl s t L) F2 := by
  obtain ⟨j5, j6, j7, j3⟩ := h
  have hs64 : s < 64 := by omega
  have hne : ∀ z, z ≠ s → ejb F2 z = ejb F z := fun z q => ejb_c (by rw [h25]) (by rw [h26]) (by rw [h7, pk_un q])
  have i1 : nI t = 1 ↔ t = 1 := nI_eq (a := t) (b := 1) (by omega) (by omega)
  have i0 : nI t = 0 ↔ t = 0 := nI_eq (a := t) (b := 0) (by omega) (by omega)
  have e2s : ejb F2 s = (!decide (F 25 s = 0) && !decide (F 26 s = 0) && (if F 25 s = 1 then !decide (t = 1) else decide (t = 0))) := by
    unfold ejb
    rw [h25, h26, h7, pk_us]
    simp only [i1, i0]
  have hL2 : ∀ L2 : Nat → Int64, (∀ z, z ≠ s → (bL (L2 5) z = true ↔ bL (L 5) z = true) ∧ (bL (L2 6) z = true ↔ bL (L 6) z = true) ∧ (bL (L2 7) z = true ↔ bL (L 7) z = true)) → ((bL (L2 5) s = true ↔ F 25 s = 1 ∧ ejb F2 s = false) ∧ (bL (L2 6) s = true ↔ F 25 s = 2 ∧ ejb F2 s = false) ∧ (bL (L2 7) s = true ↔ ¬ F 25 s = 0 ∧ ¬ F 26 s = 0 ∧ ejb F2 s = false)) → RJ n L2 F2 := by
    intro L2 ho ha
    refine ⟨fun z => ?_, fun z => ?_, fun z => ?_, by rw [h25]; exact j3⟩
    · by_cases e : z = s
      · subst e
        rw [ha.1, h25]
        exact ⟨fun q => ⟨hs, q⟩, fun q => q.2⟩
      · rw [(ho z e).1, j5 z, h25, hne z e]
    · by_cases e : z = s
      · subst e
        rw [ha.2.1, h25]
        exact ⟨fun q => ⟨hs, q⟩, fun q => q.2⟩
      · rw [(ho z e).2.1, j6 z, h25, hne z e]
    · by_cases e : z = s
      · subst e
        rw [ha.2.2, h25, h26]
        exact ⟨fun q => ⟨hs, q⟩, fun q => q.2⟩
      · rw [(ho z e).2.2, j7 z, h25, h26, hne z e]
  obtain ⟨b5, b6, b7, bj⟩ := fy_jend n dl s L
  rw [fy_noteState n dl t L hs64]
  by_cases hend : bL (L 7) s = true ∧ (if bL (L 5) s = true then ¬ t = 1 else t = 0)
  · rw [if_pos hend]
    obtain ⟨q7, qt⟩ := hend
    obtain ⟨_, n25, n26, ef⟩ := (j7 s).mp q7
    have et : ejb F2 s = true := by
      rw [e2s]
      by_cases c1 : F 25 s = 1
      · rw [if_pos ((j5 s).mpr ⟨hs, c1, ef⟩)] at qt
        simp [c1, n26, qt]
      · rw [if_neg (fun q => c1 ((j5 s).mp q).2.1)] at qt
        simp [n25, n26, c1, qt]
    refine hL2 _ (fun z hz => ⟨?_, ?_, ?_⟩) ⟨?_, ?_, ?_⟩
    · rw [b5, bL_clr hs64]; exact ⟨fun q => q.1, fun q => ⟨q, hz⟩⟩
    · rw [b6, bL_clr hs64]; exact ⟨fun q => q.1, fun q => ⟨q, hz⟩⟩
    · rw [b7, bL_clr hs64]; exact ⟨fun q => q.1, fun q => ⟨q, hz⟩⟩
    · rw [b5, bL_clr hs64, et]; exact ⟨fun q => absurd rfl q.2, fun q => absurd q.2 (by decide)⟩
    · rw [b6, bL_clr hs64, et]; exact ⟨fun q => absurd rfl q.2, fun q => absurd q.2 (by decide)⟩
    · rw [b7, bL_clr hs64, et]; exact ⟨fun q => absurd rfl q.2, fun q => absurd q.2.2 (by decide)⟩
  · rw [if_neg hend]
    have same : ejb F2 s = ejb F s := by
      cases ef : ejb F s
      · -- not ended before
        rw [e2s]
        by_cases c0 : F 25 s = 0
        · simp [c0]
        · by_cases c6 : F 26 s = 0
          · simp [c6]
          · have q7 := (j7 s).mpr ⟨hs, c0, c6, ef⟩
            by_cases c1 : F 25 s = 1
            · have q5 := (j5 s).mpr ⟨hs, c1, ef⟩
              have : t = 1 := Classical.byContradiction (fun q => hend ⟨q7, by rw [if_pos q5]; exact q⟩)
              simp [c1, this]
            · have q5 : ¬ bL (L 5) s = true := fun q => c1 ((j5 s).mp q).2.1
              have : ¬ t = 0 := fun q => hend ⟨q7, by rw [if_neg q5]; exact q⟩
              simp [c1, this]
      · -- ended before
        obtain ⟨p1, p2⟩ := hj ef
        have ef2 := ef
        unfold ejb at ef2
        simp only [Bool.and_eq_true, Bool.not_eq_true', decide_eq_false_iff_not] at ef2
        obtain ⟨⟨n25, n26⟩, _⟩ := ef2
        rw [e2s]
        rcases j3 s hs with c | c | c
        · exact absurd c n25
        · simp [c, n26, p1 c]
        · simp [c, n26, p2 c]
    refine hL2 L (fun z hz => ⟨Iff.rfl, Iff.rfl, Iff.rfl⟩) ⟨?_, ?_, ?_⟩
    · rw [same, j5 s]; exact ⟨fun q => q.2, fun q => ⟨hs, q⟩⟩
    · rw [same, j6 s]; exact ⟨fun q => q.2, fun q => ⟨hs, q⟩⟩
    · rw [same, j7 s]; exact ⟨fun q => q.2, fun q => ⟨hs, q⟩⟩
theorem RB.enter {M : Nat → Nat → Int64} (n : Nat) (dl : Nat → Nat) {L : Nat → Int64} {s t : Nat} (h : RB M L) (hs : s < 64) : RB M (f_y_noteState n dl s t L) := by
  rw [fy_noteState n dl t L hs]
  by_cases hend : bL (L 7) s = true ∧ (if bL (L 5) s = true then ¬ t = 1 else t = 0)
  · rw [if_pos hend]
    obtain ⟨b5, b6, b7, bj⟩ := fy_jend n dl s L
    intro z hz
    rw [b7, bL_clr hs] at hz
    rw [b5, b6]
    exact awL_less hs hz.2 (h z hz.1)
  · rw [if_neg hend]; exact h
theorem note_j (n : Nat) (dl : Nat → Nat) {s : Nat} (t : Nat) (L : Nat → Int64) (hs : s < 64) {j : Nat} (h5 : j ≠ 5) (h6 : j ≠ 6) (h7 : j ≠ 7) : f_y_noteState n dl s t L j = L j := by
  rw [fy_noteState n dl t L hs]
  by_cases hend : bL (L 7) s = true ∧ (if bL (L 5) s = true then ¬ t = 1 else t = 0)
  · rw [if_pos hend]; exact (fy_jend n dl s L).2.2.2 j h5 h6 h7
  · rw [if_neg hend]
def EnX (s t : Nat) (L : Nat → Int64) (I : Nat → Int32) (M : Nat → Nat → Int64) (si : Nat → Nat → Int32) (sa : Nat → Nat → Nat → Int32) (F : Nat → Nat → Int32) (V : Nat → Int32) (x : (Nat → Int64) × (Nat → Int32) × (Nat → Nat → Int64) × (Nat → Nat → Int32) × (Nat → Nat → Nat → Int32)) (m : (Nat → Nat → Int32) × (Nat → Int32)) : Prop := (m.1 7 = upd (F 7) s (nI t) ∧ Ag [7, 8, 9, 11, 12, 42, 43, 44] F m.1 ∧ m.1 8 = upd (F 8) s (V 22) ∧ ∀ j, j ≠ 45 → m.2 j = V j) ∧ (x.2.2.2.1 s 9 = (if t = 4 ∨ t = 5 then si s 9 + 1 else si s 9)) ∧ (∀ s2 q, s2 ≠ s → x.2.2.2.1 s2 q = si s2 q ∧ x.2.2.2.2 s2 q = sa s2 q) ∧ (¬ t = 5 → x.2.2.2.2 = sa ∧ x.2.2.2.1 s 21 = si s 21 ∧ x.2.2.2.1 s 22 = si s 22) ∧ (t = 5 → x.2.2.2.2 = up2 sa s 3 (upd (sa s 3) (nI (si s 21).toNatClampNeg).toNatClampNeg (I 0)) ∧ x.2.2.2.1 s 21 = nI (((si s 21).toNatClampNeg + 1) % 10) ∧ x.2.2.2.1 s 22 = (if (10 : Int32) ≤ si s 22 then si s 22 else si s 22 + 1)) ∧ (∀ j, j ≠ 0 → j ≠ 5 → j ≠ 6 → j ≠ 7 → x.1 j = L j) ∧ (∀ j, j ≠ 12 → x.2.1 j = I j) ∧ (∀ j, j < 8 → x.2.2.1 j = M j)
theorem enter_R0 (n : Nat) (dl : Nat → Nat) (B : Nat) {L : Nat → Int64} {I : Nat → Int32} {M : Nat → Nat → Int64} {si : Nat → Nat → Int32} {sa : Nat → Nat → Nat → Int32} {F : Nat → Nat → Int32} {V : Nat → Int32} (s t : Nat) (hs : s < n) (ht : t ≤ 5) (hB : B + 1 < 536870912) (h : R00 n dl B L I M si sa F V) (h1 : t = 1 → ¬ F 1 s = 0) (h3 : t = 3 → ¬ F 2 s = 0) :
    R00 n dl (B + 1) (f_y_enter n dl s t L I M si sa).1 (f_y_enter n dl s t L I M si sa).2.1 (f_y_enter n dl s t L I M si sa).2.2.1 (f_y_enter n dl s t L I M si sa).2.2.2.1 (f_y_enter n dl s t L I M si sa).2.2.2.2 (f_w_to n s (nI t) F V).1 (f_w_to n s (nI t) F V).2 ∧ EnX s t L I M si sa F V (f_y_enter n dl s t L I M si sa) (f_w_to n s (nI t) F V) ∧ ∃ x0, (f_y_enter n dl s t L I M si sa).1 = f_y_noteState n dl s t (va_up L 0 x0) := by
  obtain ⟨⟨hn, _⟩, hRR, hRA, hRE, hRS, hRI, hRH, hRG, hRD, hRZ⟩ := h
  obtain ⟨⟨i0, T, hT, i22⟩, ⟨i1, i2, i3⟩, ⟨i7, hrel⟩, c, hc, c12, c45, ⟨d, hd, d4⟩, hst⟩ := hRI
  obtain ⟨k, hk, ek⟩ := hst s hs
  obtain ⟨s6, ⟨t0, ht0, e7⟩, s7, s8, ⟨s11, s11b⟩, s10, ⟨v10, hv10, ev10⟩, s1, s3⟩ := hRE s hs
  have hs64 : s < 64 := by omega
  obtain ⟨F2, eF, hA, g7, g8, g11, g42, g43, g44, g9, g12⟩ := fw_to n s t F V (by omega) ht c45 (by omega) ek (by omega)
  obtain ⟨u1, u2, u6, u7, u11, u8, u10, u9, un5, u5⟩ := fy_senter n dl s t (I 0) si sa (s8.trans ek) (by omega)
  rw [eF]
  obtain ⟨si2, esi⟩ : ∃ f9 : Nat → Nat → Int32, f9 = (f_y_senter n dl s t (I 0) si sa).1 := ⟨_, rfl⟩
  obtain ⟨sa2, esa⟩ : ∃ f9 : Nat → Nat → Nat → Int32, f9 = (f_y_senter n dl s t (I 0) si sa).2 := ⟨_, rfl⟩
  rw [← esi] at u1 u2 u6 u7 u11 u8 u10 u9 un5 u5
  rw [← esa] at un5 u5
  -- the class's answer
  obtain ⟨M2, eM2⟩ : ∃ f9 : Nat → Nat → Int64, f9 = va_up (va_up M 9 (vp_updL (M 9) t0 (M 9 t0 &&& (oL s ^^^ (-1))))) 9 (vp_updL (vp_updL (M 9) t0 (M 9 t0 &&& (oL s ^^^ (-1)))) t (vp_updL (M 9) t0 (M 9 t0 &&& (oL s ^^^ (-1))) t ||| oL s)) := ⟨_, rfl⟩
  obtain ⟨M3, eM3⟩ : ∃ f9 : Nat → Nat → Int64, f9 = va_up M2 8 (vp_updL (M 8) (c % 2000) (lN (T * 512 + s * 8 + t))) := ⟨_, rfl⟩
  obtain ⟨x0, ex0⟩ : ∃ q9 : Int64, q9 = (if si2 s 10 ≤ (0 : Int32) then L 0 &&& (oL s ^^^ (-1)) else L 0 ||| oL s) := ⟨_, rfl⟩
  have hM28 : M2 8 = M 8 := by rw [eM2, va_up_ne _ _ (by decide), va_up_ne _ _ (by decide)]
  have eX : f_y_enter n dl s t L I M si sa = (f_y_noteState n dl s t (va_up L 0 x0), va_up I 12 (nI (c + 1)), M3, si2, sa2) := by
    unfold f_y_enter f_y_hadd
    simp only [bnd, bn5, bn2]
    rw [← esi, ← esa, s6, e7, nI_clamp (show t0 < 2 ^ 31 by omega), nI_clamp (show t0 < 2 ^ 31 by omega), nI_clamp (show t < 2 ^ 31 by omega), fy_only, va_up_self, ← eM2, c12, nI_clamp (show c < 2 ^ 31 by omega), nI_clamp (show c % 2000 < 2 ^ 31 by omega), hM28, i0, i22]
    have e9 : (nI T).toInt64 * (512 : Int64) + (nI (s * 8)).toInt64 + (nI t).toInt64 = lN (T * 512 + s * 8 + t) := by
      rw [nI_l (by omega), nI_l (by omega), nI_l (by omega), show (512 : Int64) = lN 512 from rfl, lN_mul, lN_add, lN_add]
    rw [e9, ← eM3]
    by_cases cc : si2 s 10 ≤ (0 : Int32)
    · rw [if_pos cc] at ex0 ⊢
      rw [ex0]
    · rw [if_neg cc] at ex0 ⊢
      rw [ex0]
  rw [eX]
  have m9 : ∀ t2, t2 ≤ 5 → ∀ z, bL (M3 9 t2) z = true ↔ z < n ∧ F2 7 z = nI t2 := by
    intro t2 ht2 z
    have e9 : M3 9 = vp_updL (vp_updL (M 9) t0 (M 9 t0 &&& (oL s ^^^ (-1)))) t (vp_updL (M 9) t0 (M 9 t0 &&& (oL s ^^^ (-1))) t ||| oL s) := by rw [eM3, va_up_ne _ _ (by decide), eM2, va_up_self]
    have hb := hRS.1
    rw [e9, g7]
    by_cases ez : z = s
    · subst ez
      rw [pk_us]
      by_cases e2 : t2 = t
      · subst e2
        rw [pk_uLs, bL_set hs64]
        exact ⟨fun _ => ⟨hs, rfl⟩, fun _ => Or.inr rfl⟩
      · rw [pk_uLn e2]
        have hne : ¬ nI t = nI t2 := fun q => e2 ((nI_eq (by omega) (by omega)).mp q).symm
        refine ⟨fun q => ?_, fun q => absurd q.2 hne⟩
        by_cases e3 : t2 = t0
        · subst e3
          rw [pk_uLs, bL_clr hs64] at q
          exact absurd rfl q.2
        · rw [pk_uLn e3, hb t2 ht2 z] at q
          have := (nI_eq (by omega) (by omega)).mp (e7.symm.trans q.2)
          omega
    · rw [pk_un ez]
      by_cases e2 : t2 = t
      · subst e2
        rw [pk_uLs, bL_set hs64]
        by_cases e3 : t2 = t0
        · subst e3
          rw [pk_uLs, bL_clr hs64, hb t2 ht2 z]
          exact ⟨fun q => (q.resolve_right ez).1, fun q => Or.inl ⟨q, ez⟩⟩
        · rw [pk_uLn e3, hb t2 ht2 z]
          exact ⟨fun q => q.resolve_right ez, fun q => Or.inl q⟩
      · rw [pk_uLn e2]
        by_cases e3 : t2 = t0
        · subst e3
          rw [pk_uLs, bL_clr hs64, hb t2 ht2 z]
          exact ⟨fun q => q.1, fun q => ⟨q, ez⟩⟩
        · rw [pk_uLn e3]; exact hb t2 ht2 z
  have v10 : ∃ v, v ≤ 1000 ∧ si2 s 10 = nI v := by
    rw [u10]
    by_cases c2 : t = 2
    · rw [if_pos c2]
      have hl7 : (if 7 ≤ k then 7 else k) < 8 := by
        by_cases c7 : 7 ≤ k
        · rw [if_pos c7]; omega
        · rw [if_neg c7]; omega
      obtain ⟨q1, v, hv, ev⟩ := (hRA s hs).2.1 _ hl7
      exact ⟨v, hv, q1.trans ev⟩
    · rw [if_neg c2]; exact ⟨0, by omega, rfl⟩
  have i2t : nI t = 2 ↔ t = 2 := nI_eq (a := t) (b := 2) (by omega) (by omega)
  refine ⟨⟨⟨hn, hB⟩, ?_, ?_, ?_, ?_, ?_, ?_, ?_, ?_, ?_⟩, ?_, x0, rfl⟩
  · exact (hRR.c (hA 19 (by decide))).cM (fun j hj8 => by show M3 j = M j; rw [eM3, va_up_ne _ _ (by omega), eM2, va_up_ne _ _ (by omega), va_up_ne _ _ (by omega)])
  · intro z hz
    obtain ⟨⟨a0, a1, a2, a3, a4, a5⟩, b, cc, dd⟩ := hRA z hz
    have hsi : ∀ q, q ∉ ([6, 7, 8, 9, 10, 11, 21, 22] : List Nat) → si2 z q = si z q := by
      intro q hq
      by_cases ez : z = s
      · subst ez; exact u2 q hq
      · exact u1 z q ez
    have hsa : sa2 z 1 = sa z 1 := by
      by_cases c5 : t = 5
      · rw [(u5 c5).1]; simp [up2]
      · rw [(un5 c5).1]
    refine ⟨⟨?_, ?_, ?_, ?_, ?_, ?_⟩, ?_, ?_, ?_⟩
    · show si2 z 0 = F2 0 z; rw [hsi 0 (by decide), hA 0 (by decide)]; exact a0
    · show si2 z 1 = F2 1 z; rw [hsi 1 (by decide), hA 1 (by decide)]; exact a1
    · show si2 z 2 = F2 2 z; rw [hsi 2 (by decide), hA 2 (by decide)]; exact a2
    · show si2 z 23 = F2 4 z; rw [hsi 23 (by decide), hA 4 (by decide)]; exact a3
    · show si2 z 24 = F2 5 z; rw [hsi 24 (by decide), hA 5 (by decide)]; exact a4
    · show si2 z 25 = F2 6 z; rw [hsi 25 (by decide), hA 6 (by decide)]; exact a5
    · show ∀ i, i < 8 → sa2 z 1 i = F2 3 (8 * z + i) ∧ ∃ v, v ≤ 1000 ∧ F2 3 (8 * z + i) = nI v
      rw [hsa, hA 3 (by decide)]; exact b
    · show (∃ a, a ≤ 50 ∧ F2 1 z = nI a) ∧ (∃ a, a ≤ 50 ∧ F2 2 z = nI a) ∧ (∃ d, 0 < d ∧ d ≤ 50 ∧ F2 4 z = nI d) ∧ (∃ b, b ≤ 10 ∧ F2 5 z = nI b) ∧ (∃ w, 0 < w ∧ w ≤ 200 ∧ F2 6 z = nI w)
      rw [hA 1 (by decide), hA 2 (by decide), hA 4 (by decide), hA 5 (by decide), hA 6 (by decide)]; exact cc
    · show dl z = (if F2 0 z = 2 then 20 else 0)
      rw [hA 0 (by decide)]; exact dd
  · intro z hz
    show si2 z 6 = F2 7 z ∧ (∃ t, t ≤ 5 ∧ F2 7 z = nI t) ∧ (¬ F2 7 z = 0 → si2 z 7 = F2 8 z) ∧ si2 z 8 = F2 9 z ∧ (si2 z 11 = F2 11 z ∧ (F2 11 z = 0 ∨ F2 11 z = 1)) ∧ si2 z 10 = (if F2 7 z = 2 ∧ F2 11 z = 0 then F2 12 z else 0) ∧ (∃ v, v ≤ 1000 ∧ si2 z 10 = nI v) ∧ (F2 7 z = 1 → ¬ F2 1 z = 0) ∧ (F2 7 z = 3 → ¬ F2 2 z = 0)
    rw [g7, g8, g11, g9, g12, hA 1 (by decide), hA 2 (by decide)]
    by_cases ez : z = s
    · subst ez
      rw [pk_us, pk_us, pk_us, u6, u7, u11]
      refine ⟨rfl, ⟨t, ht, rfl⟩, fun _ => i0, ?_, ⟨rfl, Or.inl rfl⟩, ?_, v10, fun q => h1 ((nI_eq (a := t) (b := 1) (by omega) (by omega)).mp q), fun q => h3 ((nI_eq (a := t) (b := 3) (by omega) (by omega)).mp q)⟩
      · rw [u8]
        by_cases c2 : t = 2
        · rw [if_pos c2, if_pos c2, pk_us]
        · rw [if_neg c2, if_neg c2]; exact s8
      · rw [u10]
        by_cases c2 : t = 2
        · rw [if_pos c2, if_pos (show nI t = 2 ∧ (0 : Int32) = 0 from ⟨i2t.mpr c2, rfl⟩), if_pos c2, pk_us]
          have hl7 : (if 7 ≤ k then 7 else k) < 8 := by
            by_cases c7 : 7 ≤ k
            · rw [if_pos c7]; omega
            · rw [if_neg c7]; omega
          exact ((hRA z hz).2.1 _ hl7).1
        · rw [if_neg c2, if_neg (fun q => c2 (i2t.mp q.1))]
    · have e9 : (if t = 2 then upd (F 9) s (nI (k + 1)) else F 9) z = F 9 z := by
        by_cases c2 : t = 2
        · rw [if_pos c2, pk_un ez]
        · rw [if_neg c2]
      have e12 : (if t = 2 then upd (F 12) s (F 3 (8 * s + if 7 ≤ k then 7 else k)) else F 12) z = F 12 z := by
        by_cases c2 : t = 2
        · rw [if_pos c2, pk_un ez]
        · rw [if_neg c2]
      rw [pk_un ez, pk_un ez, pk_un ez, e9, e12, u1 z 6 ez, u1 z 7 ez, u1 z 8 ez, u1 z 11 ez, u1 z 10 ez]
      exact hRE z hz
  · refine ⟨m9, fun z => ?_⟩
    show bL (f_y_noteState n dl s t (va_up L 0 x0) 0) z = true ↔ z < n ∧ ¬ si2 z 10 = 0
    rw [note_j n dl t _ hs64 (by decide) (by decide) (by decide), va_up_self, ex0]
    obtain ⟨v, hv, ev⟩ := v10
    by_cases ez : z = s
    · subst ez
      rw [ev]
      by_cases c0 : v = 0
      · subst c0
        rw [if_pos (show nI 0 ≤ 0 by decide), bL_clr hs64]
        exact ⟨fun q => absurd rfl q.2, fun q => absurd rfl q.2⟩
      · rw [if_neg (nI_nle (by omega) (by omega)), bL_set hs64]
        exact ⟨fun _ => ⟨hs, nI_ne0 (by omega) (by omega)⟩, fun _ => Or.inr rfl⟩
    · rw [u1 z 10 ez]
      by_cases c0 : si2 s 10 ≤ 0
      · rw [if_pos c0, bL_clr hs64, hRS.2 z]
        exact ⟨fun q => q.1, fun q => ⟨q, ez⟩⟩
      · rw [if_neg c0, bL_set hs64, hRS.2 z]
        exact ⟨fun q => q.resolve_right ez, fun q => Or.inl q⟩
  · show RI n (B + 1) (va_up I 12 (nI (c + 1))) (va_up V 45 (nI (c + 1))) F2
    have w22 : va_up V 45 (nI (c + 1)) 22 = V 22 := va_up_ne _ _ (by decide)
    have w23 : va_up V 45 (nI (c + 1)) 23 = V 23 := va_up_ne _ _ (by decide)
    have w24 : va_up V 45 (nI (c + 1)) 24 = V 24 := va_up_ne _ _ (by decide)
    have w33 : va_up V 45 (nI (c + 1)) 33 = V 33 := va_up_ne _ _ (by decide)
    have w20 : va_up V 45 (nI (c + 1)) 20 = V 20 := va_up_ne _ _ (by decide)
    have y0 : va_up I 12 (nI (c + 1)) 0 = I 0 := va_up_ne _ _ (by decide)
    have y1 : va_up I 12 (nI (c + 1)) 1 = I 1 := va_up_ne _ _ (by decide)
    have y2 : va_up I 12 (nI (c + 1)) 2 = I 2 := va_up_ne _ _ (by decide)
    have y3 : va_up I 12 (nI (c + 1)) 3 = I 3 := va_up_ne _ _ (by decide)
    have y7 : va_up I 12 (nI (c + 1)) 7 = I 7 := va_up_ne _ _ (by decide)
    have y4 : va_up I 12 (nI (c + 1)) 4 = I 4 := va_up_ne _ _ (by decide)
    unfold RI
    rw [w22, w23, w24, w33, w20, y0, y1, y2, y3, y7, y4, va_up_self, va_up_self]
    obtain ⟨r, u, hu, hr, er⟩ := hrel
    refine ⟨⟨i0, T, by omega, i22⟩, ⟨i1, i2, i3⟩, ⟨i7, r, u, by omega, hr, er⟩, c + 1, by omega, rfl, rfl, ⟨d, by omega, d4⟩, fun z hz => ?_⟩
    rw [g9]
    by_cases c2 : t = 2
    · rw [if_pos c2]
      by_cases ez : z = s
      · subst ez; rw [pk_us]; exact ⟨k + 1, by omega, rfl⟩
      · rw [pk_un ez]
        obtain ⟨k2, hk2, ek2⟩ := hst z hz
        exact ⟨k2, by omega, ek2⟩
    · rw [if_neg c2]
      obtain ⟨k2, hk2, ek2⟩ := hst z hz
      exact ⟨k2, by omega, ek2⟩
  · show RH (M3 8) F2
    intro j hj2
    rw [g42, g43, g44, eM3, va_up_self]
    by_cases e : j = c % 2000
    · subst e
      rw [pk_us, pk_us, pk_us, pk_uLs]
      exact ⟨T, s, t, by omega, by omega, ht, i22, rfl, rfl, rfl⟩
    · rw [pk_un e, pk_un e, pk_un e, pk_uLn e]
      exact hRH j hj2
  · show RG n (va_up I 12 (nI (c + 1))) F2
    intro q
    rw [va_up_self, va_up_ne _ _ (by decide), d4] at q
    have := (nI_eq (by omega) (by omega)).mp q
    omega
  · show RD n dl (f_y_noteState n dl s t (va_up L 0 x0) 1) si2 sa2 F2
    rw [note_j n dl t _ hs64 (by decide) (by decide) (by decide), va_up_ne _ _ (by decide)]
    refine ⟨fun z hz => ?_, by rw [hA 18 (by decide)]; exact hRD.2⟩
    have hsi : ∀ q, q ∉ ([6, 7, 8, 9, 10, 11, 21, 22] : List Nat) → si2 z q = si z q := by
      intro q hq
      by_cases ez : z = s
      · subst ez; exact u2 q hq
      · exact u1 z q ez
    have hsa : sa2 z 5 = sa z 5 := by
      by_cases c5 : t = 5
      · rw [(u5 c5).1]; simp [up2]
      · rw [(un5 c5).1]
    rw [hsi 33 (by decide), hsi 34 (by decide), hsi 31 (by decide), hsi 32 (by decide), hsa, hA 15 (by decide), hA 16 (by decide), hA 17 (by decide), hA 18 (by decide)]
    exact hRD.1 z hz
  · show RZ n F2
    intro z hz1 hz2
    have hzs : z ≠ s := by omega
    rw [hA 5 (by decide), g7, g9, hA 10 (by decide), g11, hA 14 (by decide), hA 15 (by decide), hA 18 (by decide), hA 25 (by decide), hA 3 (by decide), pk_un hzs, pk_un hzs]
    have e9 : (if t = 2 then upd (F 9) s (nI (k + 1)) else F 9) z = F 9 z := by
      by_cases c2 : t = 2
      · rw [if_pos c2, pk_un hzs]
      · rw [if_neg c2]
    rw [e9]
    exact hRZ z hz1 hz2
  · refine ⟨⟨g7, hA, g8, fun j q => va_up_ne _ _ q⟩, u9, fun s2 q h9 => ⟨u1 s2 q h9, ?_⟩, un5, u5, fun j a b cc dd => ?_, fun j q => va_up_ne _ _ q, fun j q => ?_⟩
    · show sa2 s2 q = sa s2 q
      by_cases c5 : t = 5
      · rw [(u5 c5).1]; simp [up2, h9]
      · rw [(un5 c5).1]
    · show f_y_noteState n dl s t (va_up L 0 x0) j = L j
      rw [note_j n dl t _ hs64 b cc dd, va_up_ne _ _ a]
    · show M3 j = M j
      rw [eM3, va_up_ne _ _ (by omega), eM2, va_up_ne _ _ (by omega), va_up_ne _ _ (by omega)]
theorem enter_R (n : Nat) (dl : Nat → Nat) (B : Nat) {L : Nat → Int64} {I : Nat → Int32} {M : Nat → Nat → Int64} {si : Nat → Nat → Int32} {sa : Nat → Nat → Nat → Int32} {F : Nat → Nat → Int32} {V : Nat → Int32} (s t : Nat) (hs : s < n) (ht : t ≤ 5) (hB : B + 1 < 536870912) (h : R0 n dl B L I M si sa F V) (h1 : t = 1 → ¬ F 1 s = 0) (h3 : t = 3 → ¬ F 2 s = 0) (hj : ejb F s = true → (F 25 s = 1 → ¬ t = 1) ∧ (F 25 s = 2 → t = 0)) :
    R0 n dl (B + 1) (f_y_enter n dl s t L I M si sa).1 (f_y_enter n dl s t L I M si sa).2.1 (f_y_enter n dl s t L I M si sa).2.2.1 (f_y_enter n dl s t L I M si sa).2.2.2.1 (f_y_enter n dl s t L I M si sa).2.2.2.2 (f_w_to n s (nI t) F V).1 (f_w_to n s (nI t) F V).2 ∧ EnX s t L I M si sa F V (f_y_enter n dl s t L I M si sa) (f_w_to n s (nI t) F V) := by
  obtain ⟨h00, hJ, hB2⟩ := h
  obtain ⟨g, gX, x0, ex⟩ := enter_R0 n dl B s t hs ht hB h00 h1 h3
  have hn : n ≤ 40 := h00.1.1
  refine ⟨⟨g, ?_, ?_⟩, gX⟩
  · rw [ex]
    have hRJ2 : RJ n (va_up L 0 x0) F := by
      unfold RJ
      rw [va_up_ne _ _ (show (5 : Nat) ≠ 0 by decide), va_up_ne _ _ (show (6 : Nat) ≠ 0 by decide), va_up_ne _ _ (show (7 : Nat) ≠ 0 by decide)]
      exact hJ
    exact hRJ2.enter dl hn hs ht (gX.1.2.1 25 (by decide)) (gX.1.2.1 26 (by decide)) gX.1.1 hj
  · rw [ex]
    have hRB2 : RB M (va_up L 0 x0) := by
      unfold RB
      rw [va_up_ne _ _ (show (5 : Nat) ≠ 0 by decide), va_up_ne _ _ (show (6 : Nat) ≠ 0 by decide), va_up_ne _ _ (show (7 : Nat) ≠ 0 by decide)]
      exact hB2
    intro z hz
    rw [awL_c gX.2.2.2.2.2.2.2]
    exact hRB2.enter n dl (by omega) z hz

end
section
theorem RTm.keep {n : Nat} {si si2 : Nat → Nat → Int32} {sa sa2 : Nat → Nat → Nat → Int32} {F F2 : Nat → Nat → Int32} {V V2 : Nat → Int32} (h : RTm n si sa F V) (e1 : ∀ s, s < n → si2 s 21 = si s 21 ∧ si2 s 22 = si s 22 ∧ sa2 s 3 = sa s 3) (e13 : F2 13 = F 13) (e14 : F2 14 = F 14) (e22 : V2 22 = V 22) : RTm n si2 sa2 F2 V2 := by
  intro s hs
  obtain ⟨a, b, c⟩ := e1 s hs
  rw [a, b, c, e13, e14, e22]
  exact h s hs
theorem enter_Rf (n : Nat) (dl : Nat → Nat) (B : Nat) {L : Nat → Int64} {I : Nat → Int32} {M : Nat → Nat → Int64} {si : Nat → Nat → Int32} {sa : Nat → Nat → Nat → Int32} {F G : Nat → Nat → Int32} {V : Nat → Int32} {s t : Nat} (hs : s < n) (ht : t ≤ 3) (h : RF n si F ∧ RTm n si sa F V) (hG : Ag [26] F G) (gX : EnX s t L I M si sa G V (f_y_enter n dl s t L I M si sa) (f_w_to n s (nI t) G V)) : RF n (f_y_enter n dl s t L I M si sa).2.2.2.1 (f_w_to n s (nI t) G V).1 ∧ RTm n (f_y_enter n dl s t L I M si sa).2.2.2.1 (f_y_enter n dl s t L I M si sa).2.2.2.2 (f_w_to n s (nI t) G V).1 (f_w_to n s (nI t) G V).2 := by
  obtain ⟨⟨g7, gA, g8, gV⟩, g9, go, gn5, g5, gL, gI, gM⟩ := gX
  have c10 : (f_w_to n s (nI t) G V).1 10 = F 10 := (gA 10 (by decide)).trans (hG 10 (by decide))
  have c13 : (f_w_to n s (nI t) G V).1 13 = F 13 := (gA 13 (by decide)).trans (hG 13 (by decide))
  have c14 : (f_w_to n s (nI t) G V).1 14 = F 14 := (gA 14 (by decide)).trans (hG 14 (by decide))
  constructor
  · intro z hz
    rw [c10]
    by_cases e : z = s
    · subst e
      rw [g9, if_neg (by omega)]
      exact h.1 z hz
    · rw [(go z 9 e).1]; exact h.1 z hz
  · refine h.2.keep (fun z hz => ?_) c13 c14 (gV 22 (by decide))
    obtain ⟨a, b, c⟩ := gn5 (by omega)
    rw [a]
    by_cases e : z = s
    · subst e; exact ⟨b, c, rfl⟩
    · exact ⟨(go z 21 e).1, (go z 22 e).1, rfl⟩
theorem fw_endJobs_lp (n : Nat) (F : Nat → Nat → Int32) (V : Nat → Int32) (K : Nat → (Nat → Nat → Int32) → (Nat → Int32) → (Nat → Nat → Int32) × (Nat → Int32)) (hn : n ≤ 40) : ∀ fu i g, i ≤ n → n < i + fu → (∀ y, y < i → g y = if ejb F y = true then 0 else F 25 y) → (∀ y, i ≤ y → g y = F 25 y) → ∃ g2, f_w_endJobs_2 n fu i (va_up F 25 g) V K = K n (va_up F 25 g2) V ∧ (∀ y, y < n → g2 y = if ejb F y = true then 0 else F 25 y) ∧ (∀ y, n ≤ y → g2 y = F 25 y)
  | 0, i, g, h1, h2, _, _ => by omega
  | fu + 1, i, g, h1, h2, hf, hg => by
    rw [f_w_endJobs_2]
    by_cases hi : n ≤ i
    · have e : i = n := by omega
      subst e
      rw [if_pos hi]
      exact ⟨g, rfl, hf, hg⟩
    · rw [if_neg hi]
      have skip : ejb F i = false → ∃ g2, f_w_endJobs_2 n fu (i + 1) (va_up F 25 g) V K = K n (va_up F 25 g2) V ∧ (∀ y, y < n → g2 y = if ejb F y = true then 0 else F 25 y) ∧ (∀ y, n ≤ y → g2 y = F 25 y) := by
        intro he
        refine fw_endJobs_lp n F V K hn fu (i + 1) g (by omega) (by omega) (fun y hy => ?_) (fun y hy => hg y (by omega))
        by_cases e : y = i
        · subst e; rw [he, if_neg (by decide)]; exact hg y (by omega)
        · exact hf y (by omega)
      have stp : ejb F i = true → ∃ g2, f_w_endJobs_2 n fu (i + 1) (va_up F 25 (upd g i 0)) V K = K n (va_up F 25 g2) V ∧ (∀ y, y < n → g2 y = if ejb F y = true then 0 else F 25 y) ∧ (∀ y, n ≤ y → g2 y = F 25 y) := by
        intro he
        refine fw_endJobs_lp n F V K hn fu (i + 1) _ (by omega) (by omega) (fun y hy => ?_) (fun y hy => ?_)
        · by_cases e : y = i
          · subst e; rw [pk_us, he, if_pos rfl]
          · rw [pk_un e]; exact hf y (by omega)
        · rw [pk_un (by omega)]; exact hg y (by omega)
      simp only [bnd]
      rw [cl hn hi, va_up_self, va_uu, va_up_ne F g (show (26 : Nat) ≠ 25 by decide), va_up_ne F g (show (7 : Nat) ≠ 25 by decide), hg i (by omega)]
      by_cases h3 : F 25 i = 0
      · rw [if_pos h3]; exact skip (by simp [ejb, h3])
      · rw [if_neg h3]
        by_cases h4 : F 26 i = 0
        · rw [if_pos h4]; exact skip (by simp [ejb, h4])
        · rw [if_neg h4]
          by_cases h5 : F 25 i = 1
          · rw [if_pos h5]
            by_cases h6 : F 7 i = 1
            · rw [if_pos h6]; exact skip (by simp [ejb, h5, h6])
            · rw [if_neg h6]; exact stp (by simp [ejb, h4, h5, h6])
          · rw [if_neg h5]
            by_cases h6 : F 7 i = 0
            · rw [if_pos h6]; exact stp (by simp [ejb, h3, h4, h5, h6])
            · rw [if_neg h6]; exact skip (by simp [ejb, h5, h6])
def J0 (n : Nat) (F : Nat → Nat → Int32) : Prop := ∀ s, s < n → ejb F s = false
theorem R00.c {n : Nat} {dl : Nat → Nat} {B : Nat} {L L2 : Nat → Int64} {I : Nat → Int32} {M : Nat → Nat → Int64} {si : Nat → Nat → Int32} {sa : Nat → Nat → Nat → Int32} {F F2 : Nat → Nat → Int32} {V : Nat → Int32} (h : R00 n dl B L I M si sa F V) (hA : Ag [25, 26] F F2) (h25 : ∀ s, n ≤ s → s < 40 → F2 25 s = F 25 s) (h0 : L2 0 = L 0) (h1 : L2 1 = L 1) : R00 n dl B L2 I M si sa F2 V := by
  obtain ⟨hn, hRR, hRA, hRE, hRS, hRI, hRH, hRG, hRD, hRZ⟩ := h
  have hl : lkB F2 = lkB F := by
    funext a b
    unfold lkB
    rw [HS_c (hA 19 (by decide)), hA 7 (by decide)]
  refine ⟨hn, hRR.c (hA 19 (by decide)), ?_, ?_, ?_, ?_, ?_, ?_, ?_, ?_⟩
  · unfold RA; rw [hA 0 (by decide), hA 1 (by decide), hA 2 (by decide), hA 3 (by decide), hA 4 (by decide), hA 5 (by decide), hA 6 (by decide)]; exact hRA
  · unfold RE; rw [hA 1 (by decide), hA 2 (by decide), hA 7 (by decide), hA 8 (by decide), hA 9 (by decide), hA 11 (by decide), hA 12 (by decide)]; exact hRE
  · unfold RS; rw [h0, hA 7 (by decide)]; exact hRS
  · unfold RI; rw [hA 9 (by decide)]; exact hRI
  · unfold RH; rw [hA 42 (by decide), hA 43 (by decide), hA 44 (by decide)]; exact hRH
  · unfold RG; rw [hl, hA 7 (by decide)]; exact hRG
  · unfold RD; rw [h1, hA 15 (by decide), hA 16 (by decide), hA 17 (by decide), hA 18 (by decide)]; exact hRD
  · intro s a b
    rw [hA 5 (by decide), hA 7 (by decide), hA 9 (by decide), hA 10 (by decide), hA 11 (by decide), hA 14 (by decide), hA 15 (by decide), hA 18 (by decide), hA 3 (by decide), h25 s a b]
    exact hRZ s a b
theorem endJobs_R (n : Nat) (dl : Nat → Nat) (B : Nat) {L : Nat → Int64} {I : Nat → Int32} {M : Nat → Nat → Int64} {si : Nat → Nat → Int32} {sa : Nat → Nat → Nat → Int32} {F : Nat → Nat → Int32} {V : Nat → Int32} (h : Rf n dl B L I M si sa F V) : ∃ F2, f_w_endJobs n F V = (F2, V) ∧ Ag [25] F F2 ∧ Rf n dl B L I M si sa F2 V ∧ J0 n F2 ∧ (∀ s, s < n → F2 25 s = 0 ∨ F2 25 s = F 25 s) := by
  obtain ⟨⟨h00, ⟨j5, j6, j7, j3⟩, hB⟩, hF, hT⟩ := h
  have hn : n ≤ 40 := h00.1.1
  obtain ⟨g, e, hg, hg2⟩ := fw_endJobs_lp n F V (fun (i1 : Nat) (F5 : Nat → Nat → Int32) (V6 : Nat → Int32) => (F5, V6)) hn (n + 1) 0 (F 25) (by omega) (by omega) (fun y hy => absurd hy (by omega)) (fun y _ => rfl)
  rw [va_id] at e
  have hA : Ag [25] F (va_up F 25 g) := Ag.up (by decide)
  have c25 : va_up F 25 g 25 = g := va_up_self _ _ _
  have hej : ∀ s, s < n → ejb (va_up F 25 g) s = false := by
    intro s hs
    have e9 := hg s hs
    unfold ejb
    rw [c25, hA 26 (by decide), hA 7 (by decide)]
    cases ee : ejb F s
    · rw [ee, if_neg (by decide)] at e9
      rw [e9]; exact ee
    · rw [ee, if_pos rfl] at e9
      simp [e9]
  have hval : ∀ s, s < n → ∀ v : Int32, ¬ v = 0 → (g s = v ↔ F 25 s = v ∧ ejb F s = false) := by
    intro s hs v hv
    rw [hg s hs]
    cases ee : ejb F s
    · rw [if_neg (by decide)]; exact ⟨fun q => ⟨q, rfl⟩, fun q => q.1⟩
    · rw [if_pos rfl]; exact ⟨fun q => absurd q.symm hv, fun q => absurd q.2 (by decide)⟩
  have hnz : ∀ s, s < n → (¬ g s = 0 ↔ ¬ F 25 s = 0 ∧ ejb F s = false) := by
    intro s hs
    rw [hg s hs]
    cases ee : ejb F s
    · rw [if_neg (by decide)]; exact ⟨fun q => ⟨q, rfl⟩, fun q => q.1⟩
    · rw [if_pos rfl]; exact ⟨fun q => absurd rfl q, fun q => absurd q.2 (by decide)⟩
  refine ⟨va_up F 25 g, e, hA, ⟨⟨h00.c (hA.sub (by decide)) (fun s a _ => by rw [c25]; exact hg2 s a) rfl rfl, ⟨fun s => ?_, fun s => ?_, fun s => ?_, fun s hs => ?_⟩, hB⟩, ?_, ?_⟩, hej, fun s hs => ?_⟩
  · rw [j5 s, c25]
    constructor
    · rintro ⟨a, b⟩; exact ⟨a, (hval s a 1 (by decide)).mpr b, hej s a⟩
    · rintro ⟨a, b, _⟩; exact ⟨a, (hval s a 1 (by decide)).mp b⟩
  · rw [j6 s, c25]
    constructor
    · rintro ⟨a, b⟩; exact ⟨a, (hval s a 2 (by decide)).mpr b, hej s a⟩
    · rintro ⟨a, b, _⟩; exact ⟨a, (hval s a 2 (by decide)).mp b⟩
  · rw [j7 s, c25, hA 26 (by decide)]
    constructor
    · rintro ⟨a, b, c, d⟩; exact ⟨a, (hnz s a).mpr ⟨b, d⟩, c, hej s a⟩
    · rintro ⟨a, b, c, _⟩
      obtain ⟨d1, d2⟩ := (hnz s a).mp b
      exact ⟨a, d1, c, d2⟩
  · rw [c25, hg s hs]
    cases ejb F s
    · rw [if_neg (by decide)]; exact j3 s hs
    · rw [if_pos rfl]; exact Or.inl rfl
  · unfold RF; rw [hA 10 (by decide)]; exact hF
  · exact hT.keep (fun s _ => ⟨rfl, rfl, rfl⟩) (hA 13 (by decide)) (hA 14 (by decide)) rfl
  · rw [c25, hg s hs]
    cases ejb F s
    · rw [if_neg (by decide)]; exact Or.inr rfl
    · rw [if_pos rfl]; exact Or.inl rfl
theorem aw_wa {n : Nat} {L : Nat → Int64} {M : Nat → Nat → Int64} {F : Nat → Nat → Int32} (hR : RR n M F) (hJ : RJ n L F) (h0 : J0 n F) {s : Nat} (hs : s < n) (b : Nat) : bL (awL M s (L 5) (L 6)) b = true ↔ b < n ∧ waB (F 25) F s b = true := by
  obtain ⟨j5, j6, j7, j3⟩ := hJ
  have k5 : ∀ z, bL (L 5) z = true ↔ z < n ∧ F 25 z = 1 := fun z => by
    rw [j5 z]; exact ⟨fun q => ⟨q.1, q.2.1⟩, fun q => ⟨q.1, q.2, h0 z q.1⟩⟩
  have k6 : ∀ z, bL (L 6) z = true ↔ z < n ∧ F 25 z = 2 := fun z => by
    rw [j6 z]; exact ⟨fun q => ⟨q.1, q.2.1⟩, fun q => ⟨q.1, q.2, h0 z q.1⟩⟩
  have hne : ∀ h, h < 4 → ∀ a c, bL (M h a) c = true → a ≠ c := by
    intro h hh a c q e
    subst e
    rw [hR.2.2.2.1 h a hh] at q; cases q
  unfold awL waB
  rcases j3 s hs with c | c | c
  · rw [if_neg (fun q => by have := ((k5 s).mp q).2; rw [c] at this; exact absurd this (by decide)), if_neg (fun q => by have := ((k6 s).mp q).2; rw [c] at this; exact absurd this (by decide)), bL_0]
    simp [c]
  · rw [if_pos ((k5 s).mpr ⟨hs, c⟩), bL_orT, bL_andT, bL_andT, bL_orT, k5, k6]
    constructor
    · rintro (⟨q, hb, q1⟩ | ⟨q, hb, q2⟩)
      · refine ⟨hb, ?_⟩
        rcases q with q | q
        · have h1 := ((hR.1 0 s b (by omega)).mp q).2.2
          simp [c, q1, hne 0 (by omega) s b q, h1]
        · have h1 := ((hR.1 2 s b (by omega)).mp q).2.2
          simp [c, q1, hne 2 (by omega) s b q, h1]
      · refine ⟨hb, ?_⟩
        have h1 := ((hR.1 3 s b (by omega)).mp q).2.2
        simp [c, q2, hne 3 (by omega) s b q, h1]
    · rintro ⟨hb, q⟩
      rcases j3 b hb with d | d | d
      · simp [d] at q
      · simp [c, d] at q
        rcases q.2 with q | q
        · exact Or.inl ⟨Or.inl ((hR.1 0 s b (by omega)).mpr ⟨hs, hb, q⟩), hb, d⟩
        · exact Or.inl ⟨Or.inr ((hR.1 2 s b (by omega)).mpr ⟨hs, hb, q⟩), hb, d⟩
      · simp [c, d] at q
        exact Or.inr ⟨(hR.1 3 s b (by omega)).mpr ⟨hs, hb, q.2⟩, hb, d⟩
  · rw [if_neg (fun q => by have := ((k5 s).mp q).2; rw [c] at this; exact absurd this (by decide)), if_pos ((k6 s).mpr ⟨hs, c⟩), bL_andT, bL_orT, k6]
    constructor
    · rintro ⟨q, hb, q2⟩
      refine ⟨hb, ?_⟩
      rcases q with q | q
      · have q3 := (hR.2.1 0 b s (by omega)).mp q
        have h1 := ((hR.1 0 b s (by omega)).mp q3).2.2
        simp [c, q2, (hne 0 (by omega) b s q3).symm, h1]
      · have q3 := (hR.2.1 2 b s (by omega)).mp q
        have h1 := ((hR.1 2 b s (by omega)).mp q3).2.2
        simp [c, q2, (hne 2 (by omega) b s q3).symm, h1]
    · rintro ⟨hb, q⟩
      rcases j3 b hb with d | d | d
      · simp [d] at q
      · simp [c, d] at q
      · simp [c, d] at q
        rcases q.2 with q | q
        · exact ⟨Or.inl ((hR.2.1 0 b s (by omega)).mpr ((hR.1 0 b s (by omega)).mpr ⟨hb, hs, q⟩)), hb, d⟩
        · exact ⟨Or.inr ((hR.2.1 2 b s (by omega)).mpr ((hR.1 2 b s (by omega)).mpr ⟨hb, hs, q⟩)), hb, d⟩
def rdB (n : Nat) (F : Nat → Nat → Int32) (s : Nat) : Bool := decide (¬ F 25 s = 0) && decide (F 26 s = 0) && !anyN (waB (F 25) F s) n
theorem fw_begin_12 (n : Nat) (F : Nat → Nat → Int32) (K : Nat → (Nat → Nat → Int32) × (Nat → Int32)) (h01 : ∀ j, F 19 j = 0 ∨ F 19 j = 1) (hn : n ≤ 40) : ∀ fu i, i ≤ n → n < i + fu → (∀ s, s < i → rdB n F s = false) → ∃ i2, f_w_begin_12 n F fu i K = K i2 ∧ (∀ s, s < i2 → rdB n F s = false) ∧ (i2 = n ∨ i2 < n ∧ rdB n F i2 = true)
  | 0, i, h1, h2, _ => by omega
  | fu + 1, i, h1, h2, hf => by
    rw [f_w_begin_12]
    by_cases hi : n ≤ i
    · have e : i = n := by omega
      subst e
      rw [if_pos hi]
      exact ⟨i, rfl, hf, Or.inl rfl⟩
    · rw [if_neg hi]
      have ih := fun (h : rdB n F i = false) => fw_begin_12 n F K h01 hn fu (i + 1) (by omega) (by omega) (fun s hs => by
        by_cases e : s = i
        · subst e; exact h
        · exact hf s (by omega))
      simp only [bnd]
      rw [cl hn hi, fw_waitsForAny n i F h01 (by omega) hn]
      by_cases h3 : F 25 i = 0
      · rw [if_pos h3]; exact ih (by simp [rdB, h3])
      · rw [if_neg h3]
        by_cases h4 : F 26 i = 0
        · rw [if_pos h4]
          cases h5 : anyN (waB (F 25) F i) n
          · rw [if_pos (by decide)]
            exact ⟨i, rfl, hf, Or.inr ⟨by omega, by simp [rdB, h3, h4, h5]⟩⟩
          · rw [if_neg (by decide)]; exact ih (by simp [rdB, h5])
        · rw [if_neg h4]; exact ih (by simp [rdB, h4])
theorem ready_f {M : Nat → Nat → Int64} {L : Nat → Int64} {x : Int64} {q : Nat} (h : ¬ (bL x q = true ∧ awL M q (L 5) (L 6) = 0)) : (bL x q && decide (awL M q (L 5) (L 6) = 0)) = false := by
  cases e1 : bL x q
  · rfl
  · rw [Bool.true_and]
    exact decide_eq_false (fun q2 => h ⟨e1, q2⟩)
theorem fy_jawaited (n : Nat) (dl : Nat → Nat) {s : Nat} (hs : s < 40) (L : Nat → Int64) (M : Nat → Nat → Int64) : f_y_jawaited n dl s L M = awL M s (L 5) (L 6) := fy_rawaited n dl hs (L 5) (L 6) M
theorem fy_ready_lp (n : Nat) (dl : Nat → Nat) (L : Nat → Int64) (M : Nat → Nat → Int64) (x : Int64) : ∀ fu i, i ≤ 40 → 40 < i + fu → (∀ s, s < i → ¬ (bL x s = true ∧ awL M s (L 5) (L 6) = 0)) → LY (fun s => bL x s && decide (awL M s (L 5) (L 6) = 0)) 40 0 (f_y_leastReady_16 n dl L M x fu i (fun _ => -1))
  | 0, i, h1, h2, _ => by omega
  | fu + 1, i, h1, h2, hf => by
    rw [f_y_leastReady_16]
    by_cases hi : 40 ≤ i
    · rw [if_pos hi]
      exact Or.inl ⟨rfl, fun q _ hq => ready_f (hf q (by omega))⟩
    · rw [if_neg hi]
      have ih := fun (h : ¬ (bL x i = true ∧ awL M i (L 5) (L 6) = 0)) => fy_ready_lp n dl L M x fu (i + 1) (by omega) (by omega) (fun s hs => by
        by_cases e : s = i
        · subst e; exact h
        · exact hf s (by omega))
      simp only [bnd]
      rw [fy_holds n dl x (show i < 64 by omega), fy_jawaited n dl (show i < 40 by omega) L M]
      by_cases hb : bL x i = true
      · rw [if_pos hb, if_neg (by decide)]
        by_cases h0 : awL M i (L 5) (L 6) = 0
        · rw [if_pos ((lg_0 _ _).mpr h0)]
          exact Or.inr ⟨i, by omega, by omega, rfl, by simp [hb, h0], fun q _ hq => ready_f (hf q hq)⟩
        · rw [if_neg (fun q => h0 ((lg_0 _ _).mp q))]
          exact ih (fun q => h0 q.2)
      · rw [if_neg hb, if_pos rfl]
        exact ih (fun q => hb q.1)
theorem ready_eq (n : Nat) (dl : Nat → Nat) {L : Nat → Int64} {M : Nat → Nat → Int64} {F : Nat → Nat → Int32} (hn : n ≤ 40) (hR : RR n M F) (hJ : RJ n L F) (h0 : J0 n F) : LY (rdB n F) n 0 (f_y_leastReady n dl L M) := by
  have e : f_y_leastReady n dl L M = f_y_leastReady_16 n dl L M ((L 5 ||| L 6) &&& (L 7 ^^^ (-1))) 41 0 (fun _ => -1) := rfl
  rw [e]
  have hb : ∀ s, bL ((L 5 ||| L 6) &&& (L 7 ^^^ (-1))) s = true ↔ s < n ∧ ¬ F 25 s = 0 ∧ F 26 s = 0 := by
    intro s
    obtain ⟨j5, j6, j7, j3⟩ := hJ
    rw [bL_andN, bL_orT, j5 s, j6 s, j7 s]
    constructor
    · rintro ⟨q, q7⟩
      rcases q with ⟨a, b, c⟩ | ⟨a, b, c⟩
      · have n25 : ¬ F 25 s = 0 := by rw [b]; decide
        exact ⟨a, n25, Classical.byContradiction (fun q => q7 ⟨a, n25, q, c⟩)⟩
      · have n25 : ¬ F 25 s = 0 := by rw [b]; decide
        exact ⟨a, n25, Classical.byContradiction (fun q => q7 ⟨a, n25, q, c⟩)⟩
    · rintro ⟨a, b, c⟩
      refine ⟨?_, fun q => q.2.2.1 c⟩
      rcases j3 s a with d | d | d
      · exact absurd d b
      · exact Or.inl ⟨a, d, h0 s a⟩
      · exact Or.inr ⟨a, d, h0 s a⟩
  refine LY.c (fy_ready_lp n dl L M _ 41 0 (by omega) (by omega) (fun s hs => absurd hs (by omega))) hn (fun s hs => ?_) (fun s h1 h2 => ?_)
  · have haw : awL M s (L 5) (L 6) = 0 ↔ anyN (waB (F 25) F s) n = false := by
      rw [anyN_f, z_iff]
      constructor
      · intro q b hb2
        cases e5 : waB (F 25) F s b
        · rfl
        · exact absurd ((aw_wa hR hJ h0 hs b).mpr ⟨hb2, e5⟩) (q b)
      · intro q b hb2
        obtain ⟨a, c⟩ := (aw_wa hR hJ h0 hs b).mp hb2
        rw [q b a] at c; cases c
    unfold rdB
    by_cases c1 : ¬ F 25 s = 0 ∧ F 26 s = 0
    · rw [(hb s).mpr ⟨hs, c1⟩]
      cases e6 : anyN (waB (F 25) F s) n
      · simp [c1.1, c1.2, haw.mpr e6]
      · have : ¬ awL M s (L 5) (L 6) = 0 := fun q => by rw [haw.mp q] at e6; cases e6
        simp [this]
    · rw [bL_f (fun q => c1 ((hb s).mp q).2)]
      by_cases c2 : F 25 s = 0
      · simp [c2]
      · have : ¬ F 26 s = 0 := fun q => c1 ⟨c2, q⟩
        simp [this]
  · rw [bL_f (fun q => by have := ((hb s).mp q).1; omega)]
    rfl

end
section
theorem needs_eq (n : Nat) (dl : Nat → Nat) {M : Nat → Nat → Int64} {F : Nat → Nat → Int32} {s : Nat} (hn : n ≤ 40) (hR : RR n M F) (hS : sB n (M 9 2) F 2) (hs : s < n) : f_y_hasItsNeeds n dl s M = fl (!anyN (lkB F s) n) := by
  have e0 : f_y_hasItsNeeds n dl s M = if lg_cmp (M 0 (nI s).toNatClampNeg &&& (M 9 (nI 2).toNatClampNeg ^^^ (-1))) 0 = 0 then 1 else 0 := rfl
  rw [e0, nI_clamp (show s < 2 ^ 31 by omega), nI_clamp (show 2 < 2 ^ 31 by omega)]
  cases e : anyN (lkB F s) n
  · rw [if_pos]
    · rfl
    · refine (lg_0 _ _).mpr (z_iff.mpr (fun b hb => ?_))
      obtain ⟨q1, q2⟩ := bL_andN.mp hb
      obtain ⟨a1, a2, a3⟩ := (hR.1 0 s b (by omega)).mp q1
      have e1 := anyN_f.mp e b a2
      unfold lkB at e1
      rw [a3, Bool.true_and] at e1
      have e2 : F 7 b = 2 := Classical.byContradiction (fun q => by rw [decide_eq_true q] at e1; cases e1)
      exact q2 ((hS b).mpr ⟨a2, e2⟩)
  · rw [if_neg]
    · rfl
    · intro q
      obtain ⟨b, hb, e1⟩ := (anyN_iff _ _).mp e
      unfold lkB at e1
      rw [Bool.and_eq_true, decide_eq_true_eq] at e1
      refine z_iff.mp ((lg_0 _ _).mp q) b (bL_andN.mpr ⟨(hR.1 0 s b (by omega)).mpr ⟨hs, hb, e1.1⟩, fun q2 => e1.2 ((hS b).mp q2).2⟩)
theorem RI.mono {n B B2 : Nat} {I V : Nat → Int32} {F : Nat → Nat → Int32} (h : RI n B I V F) (hb : B ≤ B2) : RI n B2 I V F := by
  obtain ⟨⟨i0, T, hT, i22⟩, h2, ⟨i7, r, u, hu, hr, er⟩, c, hc, h5⟩ := h
  exact ⟨⟨i0, T, by omega, i22⟩, h2, ⟨i7, r, u, by omega, hr, er⟩, c, by omega, h5⟩
section
variable {n : Nat} {dl : Nat → Nat} {B B2 : Nat} {L : Nat → Int64} {I : Nat → Int32} {M : Nat → Nat → Int64} {si : Nat → Nat → Int32} {sa : Nat → Nat → Nat → Int32} {F : Nat → Nat → Int32} {V : Nat → Int32}
theorem R00.mono (h : R00 n dl B L I M si sa F V) (hb : B ≤ B2) (h2 : B2 < 536870912) : R00 n dl B2 L I M si sa F V := by
  obtain ⟨⟨hn, _⟩, a, b, c, d, e, f⟩ := h
  exact ⟨⟨hn, h2⟩, a, b, c, d, e.mono hb, f⟩
theorem R0.mono (h : R0 n dl B L I M si sa F V) (hb : B ≤ B2) (h2 : B2 < 536870912) : R0 n dl B2 L I M si sa F V := ⟨h.1.mono hb h2, h.2⟩
theorem Rf.mono (h : Rf n dl B L I M si sa F V) (hb : B ≤ B2) (h2 : B2 < 536870912) : Rf n dl B2 L I M si sa F V := ⟨h.1.mono hb h2, h.2⟩
theorem R00.up (h : R00 n dl B L I M si sa F V) {t : Nat} (ht : t ≤ 5) {v : Int32} (hv : v = nI t) : sB n (M 9 t) F v := by
  subst hv
  exact h.2.2.2.2.1.1 t ht
end
theorem RJ.begin {n : Nat} (dl : Nat → Nat) {L L1 : Nat → Int64} {F F2 : Nat → Nat → Int32} {s t : Nat} (h : RJ n L F) (hn : n ≤ 40) (hs : s < n) (ht : t ≤ 5) (he : ejb F s = false) (hnz : ¬ F 25 s = 0) (e5 : L1 5 = L 5) (e6 : L1 6 = L 6) (e7 : L1 7 = L 7 ||| oL s) (h25 : F2 25 = F 25) (h26 : F2 26 = upd (F 26) s 1) (h7 : F2 7 = upd (F 7) s (nI t)) : RJ n (f_y_noteState n dl s t L1) F2 := by
  obtain ⟨j5, j6, j7, j3⟩ := h
  have hs64 : s < 64 := by omega
  have hne : ∀ z, z ≠ s → ejb F2 z = ejb F z := fun z q => ejb_c (by rw [h25]) (by rw [h26, pk_un q]) (by rw [h7, pk_un q])
  have i1 : nI t = 1 ↔ t = 1 := nI_eq (a := t) (b := 1) (by omega) (by omega)
  have i0 : nI t = 0 ↔ t = 0 := nI_eq (a := t) (b := 0) (by omega) (by omega)
  have e2s : ejb F2 s = (if F 25 s = 1 then !decide (t = 1) else decide (t = 0)) := by
    unfold ejb
    rw [h25, h26, h7, pk_us, pk_us]
    simp [i1, i0, hnz]
  have b7 : bL (L1 7) s = true := by rw [e7, bL_set hs64]; exact Or.inr rfl
  obtain ⟨b5, b6, b7', bj⟩ := fy_jend n dl s L1
  have f26 : ∀ z, z ≠ s → F2 26 z = F 26 z := fun z q => by rw [h26, pk_un q]
  rw [fy_noteState n dl t L1 hs64]
  have h5s : bL (L1 5) s = true ↔ F 25 s = 1 := by
    rw [e5, j5 s]
    exact ⟨fun q => q.2.1, fun q => ⟨hs, q, he⟩⟩
  by_cases hend : bL (L1 7) s = true ∧ (if bL (L1 5) s = true then ¬ t = 1 else t = 0)
  · rw [if_pos hend]
    have et : ejb F2 s = true := by
      rw [e2s]
      have q2 := hend.2
      by_cases c1 : F 25 s = 1
      · rw [if_pos (h5s.mpr c1)] at q2
        simp [c1, q2]
      · rw [if_neg (fun q => c1 (h5s.mp q))] at q2
        simp [c1, q2]
    refine ⟨fun z => ?_, fun z => ?_, fun z => ?_, by rw [h25]; exact j3⟩
    · rw [b5, e5, bL_clr hs64, j5 z, h25]
      by_cases e : z = s
      · subst e; rw [et]; exact ⟨fun q => absurd rfl q.2, fun q => absurd q.2.2 (by decide)⟩
      · rw [hne z e]; exact ⟨fun q => q.1, fun q => ⟨q, e⟩⟩
    · rw [b6, e6, bL_clr hs64, j6 z, h25]
      by_cases e : z = s
      · subst e; rw [et]; exact ⟨fun q => absurd rfl q.2, fun q => absurd q.2.2 (by decide)⟩
      · rw [hne z e]; exact ⟨fun q => q.1, fun q => ⟨q, e⟩⟩
    · rw [b7', e7, bL_clr hs64, bL_set hs64, j7 z, h25]
      by_cases e : z = s
      · subst e; rw [et]; exact ⟨fun q => absurd rfl q.2, fun q => absurd q.2.2.2 (by decide)⟩
      · rw [hne z e, f26 z e]; exact ⟨fun q => q.1.resolve_right e, fun q => ⟨Or.inl q, e⟩⟩
  · rw [if_neg hend]
    have et : ejb F2 s = false := by
      rw [e2s]
      by_cases c1 : F 25 s = 1
      · have : t = 1 := Classical.byContradiction (fun q => hend ⟨b7, by rw [if_pos (h5s.mpr c1)]; exact q⟩)
        simp [c1, this]
      · have : ¬ t = 0 := fun q => hend ⟨b7, by rw [if_neg (fun q2 => c1 (h5s.mp q2))]; exact q⟩
        simp [c1, this]
    refine ⟨fun z => ?_, fun z => ?_, fun z => ?_, by rw [h25]; exact j3⟩
    · rw [e5, j5 z, h25]
      by_cases e : z = s
      · subst e; rw [et, he]
      · rw [hne z e]
    · rw [e6, j6 z, h25]
      by_cases e : z = s
      · subst e; rw [et, he]
      · rw [hne z e]
    · rw [e7, bL_set hs64, j7 z, h25]
      by_cases e : z = s
      · subst e
        rw [et, h26, pk_us]
        exact ⟨fun _ => ⟨hs, hnz, by decide, rfl⟩, fun _ => Or.inr rfl⟩
      · rw [hne z e, f26 z e]; exact ⟨fun q => q.resolve_right e, fun q => Or.inl q⟩
theorem RJ.mark {n : Nat} {L L1 : Nat → Int64} {F F2 : Nat → Nat → Int32} {s : Nat} (h : RJ n L F) (hn : n ≤ 40) (hs : s < n) (he : ejb F s = false) (he2 : ejb F2 s = false) (hnz : ¬ F 25 s = 0) (e5 : L1 5 = L 5) (e6 : L1 6 = L 6) (e7 : L1 7 = L 7 ||| oL s) (h25 : F2 25 = F 25) (h26 : F2 26 = upd (F 26) s 1) (h7 : F2 7 = F 7) : RJ n L1 F2 := by
  obtain ⟨j5, j6, j7, j3⟩ := h
  have hs64 : s < 64 := by omega
  have hall : ∀ z, ejb F2 z = ejb F z := by
    intro z
    by_cases e : z = s
    · subst e; rw [he, he2]
    · exact ejb_c (by rw [h25]) (by rw [h26, pk_un e]) (by rw [h7])
  refine ⟨fun z => ?_, fun z => ?_, fun z => ?_, by rw [h25]; exact j3⟩
  · rw [e5, j5 z, h25, hall z]
  · rw [e6, j6 z, h25, hall z]
  · rw [e7, bL_set hs64, j7 z, h25, hall z, h26]
    by_cases e : z = s
    · subst e
      rw [pk_us]
      exact ⟨fun _ => ⟨hs, hnz, by decide, he⟩, fun _ => Or.inr rfl⟩
    · rw [pk_un e]; exact ⟨fun q => q.resolve_right e, fun q => Or.inl q⟩
theorem RJ.drop {n : Nat} (dl : Nat → Nat) {L : Nat → Int64} {F F2 : Nat → Nat → Int32} {s : Nat} (h : RJ n L F) (hn : n ≤ 40) (hs : s < n) (h25 : F2 25 = upd (F 25) s 0) (h26 : ∀ z, z ≠ s → F2 26 z = F 26 z) (h7 : F2 7 = F 7) : RJ n (f_y_jend n dl s L) F2 := by
  obtain ⟨j5, j6, j7, j3⟩ := h
  have hs64 : s < 64 := by omega
  obtain ⟨b5, b6, b7, bj⟩ := fy_jend n dl s L
  have hne : ∀ z, z ≠ s → ejb F2 z = ejb F z := fun z q => ejb_c (by rw [h25, pk_un q]) (h26 z q) (by rw [h7])
  refine ⟨fun z => ?_, fun z => ?_, fun z => ?_, fun z hz => ?_⟩
  · rw [b5, bL_clr hs64, j5 z, h25]
    by_cases e : z = s
    · subst e; rw [pk_us]; exact ⟨fun q => absurd rfl q.2, fun q => absurd q.2.1 (by decide)⟩
    · rw [pk_un e, hne z e]; exact ⟨fun q => q.1, fun q => ⟨q, e⟩⟩
  · rw [b6, bL_clr hs64, j6 z, h25]
    by_cases e : z = s
    · subst e; rw [pk_us]; exact ⟨fun q => absurd rfl q.2, fun q => absurd q.2.1 (by decide)⟩
    · rw [pk_un e, hne z e]; exact ⟨fun q => q.1, fun q => ⟨q, e⟩⟩
  · rw [b7, bL_clr hs64, j7 z, h25]
    by_cases e : z = s
    · subst e; rw [pk_us]; exact ⟨fun q => absurd rfl q.2, fun q => absurd rfl q.2.1⟩
    · rw [pk_un e, hne z e, h26 z e]; exact ⟨fun q => q.1, fun q => ⟨q, e⟩⟩
  · rw [h25]
    by_cases e : z = s
    · subst e; rw [pk_us]; exact Or.inl rfl
    · rw [pk_un e]; exact j3 z hz
theorem RB.mark {M : Nat → Nat → Int64} {L L1 : Nat → Int64} {s : Nat} (h : RB M L) (hs : s < 64) (h0 : awL M s (L 5) (L 6) = 0) (e5 : L1 5 = L 5) (e6 : L1 6 = L 6) (e7 : L1 7 = L 7 ||| oL s) : RB M L1 := by
  intro z hz
  rw [e7, bL_set hs] at hz
  rw [e5, e6]
  rcases hz with q | q
  · exact h z q
  · rw [q]; exact h0
theorem RB.drop {M : Nat → Nat → Int64} (n : Nat) (dl : Nat → Nat) {L : Nat → Int64} {s : Nat} (h : RB M L) (hs : s < 64) : RB M (f_y_jend n dl s L) := by
  obtain ⟨b5, b6, b7, bj⟩ := fy_jend n dl s L
  intro z hz
  rw [b7, bL_clr hs] at hz
  rw [b5, b6]
  exact awL_less hs hz.2 (h z hz.1)
def BgX (L : Nat → Int64) (I : Nat → Int32) (M : Nat → Nat → Int64) (F : Nat → Nat → Int32) (V : Nat → Int32) (x : (Nat → Int64) × (Nat → Int32) × (Nat → Nat → Int64) × (Nat → Nat → Int32) × (Nat → Nat → Nat → Int32)) (m : (Nat → Nat → Int32) × (Nat → Int32)) : Prop := Ag [7, 8, 9, 11, 12, 25, 26, 42, 43, 44] F m.1 ∧ (∀ j, j ≠ 45 → m.2 j = V j) ∧ (∀ j, j ≠ 0 → j ≠ 5 → j ≠ 6 → j ≠ 7 → x.1 j = L j) ∧ (∀ j, j ≠ 12 → x.2.1 j = I j) ∧ (∀ j, j < 8 → x.2.2.1 j = M j)
theorem BgX.tr {L : Nat → Int64} {I : Nat → Int32} {M : Nat → Nat → Int64} {F : Nat → Nat → Int32} {V : Nat → Int32} {x y : (Nat → Int64) × (Nat → Int32) × (Nat → Nat → Int64) × (Nat → Nat → Int32) × (Nat → Nat → Nat → Int32)} {m q : (Nat → Nat → Int32) × (Nat → Int32)} (h : BgX L I M F V x m) (g : BgX x.1 x.2.1 x.2.2.1 m.1 m.2 y q) : BgX L I M F V y q := ⟨h.1.tr g.1, fun j a => (g.2.1 j a).trans (h.2.1 j a), fun j a b c d => (g.2.2.1 j a b c d).trans (h.2.2.1 j a b c d), fun j a => (g.2.2.2.1 j a).trans (h.2.2.2.1 j a), fun j a => (g.2.2.2.2 j a).trans (h.2.2.2.2 j a)⟩
theorem begin_enter (n : Nat) (dl : Nat → Nat) (B : Nat) {L : Nat → Int64} {I : Nat → Int32} {M : Nat → Nat → Int64} {si : Nat → Nat → Int32} {sa : Nat → Nat → Nat → Int32} {F : Nat → Nat → Int32} {V : Nat → Int32} (s t : Nat) (hs : s < n) (ht : t ≤ 3) (hB : B + 1 < 536870912) (h : Rf n dl B L I M si sa F V) (h0 : J0 n F) (hnz : ¬ F 25 s = 0) (haw : awL M s (L 5) (L 6) = 0) (h1 : t = 1 → ¬ F 1 s = 0) (h3 : t = 3 → ¬ F 2 s = 0) : Rf n dl (B + 1) (f_y_enter n dl s t (f_y_jbegin n dl s L) I M si sa).1 (f_y_enter n dl s t (f_y_jbegin n dl s L) I M si sa).2.1 (f_y_enter n dl s t (f_y_jbegin n dl s L) I M si sa).2.2.1 (f_y_enter n dl s t (f_y_jbegin n dl s L) I M si sa).2.2.2.1 (f_y_enter n dl s t (f_y_jbegin n dl s L) I M si sa).2.2.2.2 (f_w_to n s (nI t) (va_up F 26 (upd (F 26) s 1)) V).1 (f_w_to n s (nI t) (va_up F 26 (upd (F 26) s 1)) V).2 ∧ BgX L I M F V (f_y_enter n dl s t (f_y_jbegin n dl s L) I M si sa) (f_w_to n s (nI t) (va_up F 26 (upd (F 26) s 1)) V) ∧ (f_w_to n s (nI t) (va_up F 26 (upd (F 26) s 1)) V).1 26 = upd (F 26) s 1 ∧ (f_w_to n s (nI t) (va_up F 26 (upd (F 26) s 1)) V).1 25 = F 25 := by
  obtain ⟨⟨h00, hJ, hRB⟩, hRF, hRT⟩ := h
  have hn : n ≤ 40 := h00.1.1
  have hb : f_y_jbegin n dl s L = va_up L 7 (L 7 ||| oL s) := rfl
  rw [hb]
  have hA26 : Ag [26] F (va_up F 26 (upd (F 26) s 1)) := Ag.up (by decide)
  have h00b : R00 n dl B (va_up L 7 (L 7 ||| oL s)) I M si sa (va_up F 26 (upd (F 26) s 1)) V := h00.c (hA26.sub (by decide)) (fun z _ _ => by rw [hA26 25 (by decide)]) (va_up_ne _ _ (by decide)) (va_up_ne _ _ (by decide))
  obtain ⟨g, gX, x0, ex⟩ := enter_R0 n dl B s t hs (by omega) hB h00b (by rw [hA26 1 (by decide)]; exact h1) (by rw [hA26 2 (by decide)]; exact h3)
  have gXX := gX
  obtain ⟨⟨g7, gA, g8, gV⟩, g9, go, gn5, g5, gL, gI, gM⟩ := gX
  have c26 : (f_w_to n s (nI t) (va_up F 26 (upd (F 26) s 1)) V).1 26 = upd (F 26) s 1 := by rw [gA 26 (by decide), va_up_self]
  have c25 : (f_w_to n s (nI t) (va_up F 26 (upd (F 26) s 1)) V).1 25 = F 25 := by rw [gA 25 (by decide), hA26 25 (by decide)]
  rw [hA26 7 (by decide)] at g7
  refine ⟨⟨⟨g, ?_, ?_⟩, enter_Rf n dl B hs ht ⟨hRF, hRT⟩ hA26 gXX⟩, ⟨(hA26.sub (by decide)).tr (gA.sub (by decide)), gV, fun j a b c d => (gL j a b c d).trans (va_up_ne _ _ d), gI, gM⟩, c26, c25⟩
  · rw [ex]
    exact hJ.begin dl hn hs (by omega) (h0 s hs) hnz (by rw [va_up_ne _ _ (by decide), va_up_ne _ _ (by decide)]) (by rw [va_up_ne _ _ (by decide), va_up_ne _ _ (by decide)]) (by rw [va_up_ne _ _ (by decide), va_up_self]) c25 c26 g7
  · rw [ex]
    intro z hz
    rw [awL_c gM]
    exact (hRB.mark (L1 := va_up (va_up L 7 (L 7 ||| oL s)) 0 x0) (by omega) haw (by rw [va_up_ne _ _ (by decide), va_up_ne _ _ (by decide)]) (by rw [va_up_ne _ _ (by decide), va_up_ne _ _ (by decide)]) (by rw [va_up_ne _ _ (by decide), va_up_self])).enter n dl (by omega) z hz
theorem fw_rests (n : Nat) {t : Nat} (ht : t ≤ 5) : f_w_rests n (nI t) = fl (decide (t = 0) || decide (t = 4)) := by
  have : t = 0 ∨ t = 1 ∨ t = 2 ∨ t = 3 ∨ t = 4 ∨ t = 5 := by omega
  rcases this with e | e | e | e | e | e <;> subst e <;> unfold f_w_rests <;> decide
theorem begin_step (n : Nat) (dl : Nat → Nat) (B : Nat) {L : Nat → Int64} {I : Nat → Int32} {M : Nat → Nat → Int64} {si : Nat → Nat → Int32} {sa : Nat → Nat → Nat → Int32} {F : Nat → Nat → Int32} {V : Nat → Int32} (s : Nat) (hs : s < n) (hB : B + 1 < 536870912) (h : Rf n dl B L I M si sa F V) (h0 : J0 n F) (hr : rdB n F s = true) (x : (Nat → Int64) × (Nat → Int32) × (Nat → Nat → Int64) × (Nat → Nat → Int32) × (Nat → Nat → Nat → Int32)) (hx : x = if f_y_holds n dl (L 5) s = 0 then f_y_beginStop n dl s L I M si sa else f_y_beginStart n dl s L I M si sa) :
    Rf n dl (B + 1) x.1 x.2.1 x.2.2.1 x.2.2.2.1 x.2.2.2.2 (f_w_beginOne n s F V).1 (f_w_beginOne n s F V).2 ∧ BgX L I M F V x (f_w_beginOne n s F V) ∧ (f_w_beginOne n s F V).1 26 = upd (F 26) s 1 ∧ (∀ z, z < n → (f_w_beginOne n s F V).1 25 z = F 25 z ∨ (f_w_beginOne n s F V).1 25 z = 0) := by
  obtain ⟨⟨h00, hJ, hRB⟩, hRF, hRT⟩ := id h
  have hn : n ≤ 40 := h00.1.1
  have hRR := h00.2.1
  have hRE := h00.2.2.2.1
  have hRA := h00.2.2.1
  obtain ⟨s6, ⟨t0, ht0, e7⟩, s7, s8, _, s10, _, s1, s3⟩ := hRE s hs
  have a1 : si s 1 = F 1 s := (hRA s hs).1.2.1
  have a2 : si s 2 = F 2 s := (hRA s hs).1.2.2.1
  unfold rdB at hr
  simp only [Bool.and_eq_true, Bool.not_eq_true', decide_eq_true_eq] at hr
  obtain ⟨⟨hnz, h26⟩, hw⟩ := hr
  have haw : awL M s (L 5) (L 6) = 0 := z_iff.mpr (fun b hb => by
    obtain ⟨c1, c2⟩ := (aw_wa hRR hJ h0 hs b).mp hb
    rw [anyN_f.mp hw b c1] at c2; cases c2)
  have hA26 : Ag [26] F (va_up F 26 (upd (F 26) s 1)) := Ag.up (by decide)
  have c25 : va_up F 26 (upd (F 26) s 1) 25 = F 25 := hA26 25 (by decide)
  have c26 : va_up F 26 (upd (F 26) s 1) 26 = upd (F 26) s 1 := va_up_self _ _ _
  have hlk : lkB (va_up F 26 (upd (F 26) s 1)) = lkB F := by
    funext a b
    unfold lkB
    rw [HS_c (hA26 19 (by decide)), hA26 7 (by decide)]
  have hend : Rf n dl (B + 1) (f_y_jend n dl s L) I M si sa (va_up (va_up F 26 (upd (F 26) s 1)) 25 (upd (F 25) s 0)) V ∧ BgX L I M F V (f_y_jend n dl s L, I, M, si, sa) (va_up (va_up F 26 (upd (F 26) s 1)) 25 (upd (F 25) s 0), V) ∧ (va_up (va_up F 26 (upd (F 26) s 1)) 25 (upd (F 25) s 0)) 26 = upd (F 26) s 1 ∧ (∀ z, z < n → (va_up (va_up F 26 (upd (F 26) s 1)) 25 (upd (F 25) s 0)) 25 z = F 25 z ∨ (va_up (va_up F 26 (upd (F 26) s 1)) 25 (upd (F 25) s 0)) 25 z = 0) := by
    obtain ⟨b5, b6, b7, bj⟩ := fy_jend n dl s L
    have hA : Ag [25, 26] F (va_up (va_up F 26 (upd (F 26) s 1)) 25 (upd (F 25) s 0)) := (Ag.up (by decide)).tr (Ag.up (by decide))
    refine ⟨⟨⟨(h00.c hA (fun z hz _ => ?_) (bj 0 (by decide) (by decide) (by decide)) (bj 1 (by decide) (by decide) (by decide))).mono (by omega) hB, hJ.drop dl hn hs (va_up_self _ _ _) (fun z hz => ?_) (hA 7 (by decide)), hRB.drop n dl (by omega)⟩, ?_, ?_⟩, ⟨hA.sub (by decide), fun _ _ => rfl, fun j a b c d => bj j b c d, fun _ _ => rfl, fun _ _ => rfl⟩, ?_, fun z hz => ?_⟩
    · rw [va_up_self, pk_un (by omega)]
    · rw [va_up_ne _ _ (by decide), va_up_self, pk_un hz]
    · unfold RF; rw [hA 10 (by decide)]; exact hRF
    · exact hRT.keep (fun z _ => ⟨rfl, rfl, rfl⟩) (hA 13 (by decide)) (hA 14 (by decide)) rfl
    · rw [va_up_ne _ _ (by decide), va_up_self]
    · rw [va_up_self]
      by_cases e : z = s
      · subst e; rw [pk_us]; exact Or.inr rfl
      · rw [pk_un e]; exact Or.inl rfl
  unfold f_w_beginOne
  simp only [bnd, bn2]
  rw [nI_clamp (show s < 2 ^ 31 by omega), nb1, c25, fw_hasNeeds n s _ (by omega) hn, hlk, hA26 1 (by decide), hA26 2 (by decide), hA26 7 (by decide), e7, fw_rests n ht0]
  rw [fy_holds n dl _ (show s < 64 by omega)] at hx
  have hj3 := hJ.2.2.2 s hs
  by_cases c1 : F 25 s = 1
  · -- to start
    rw [if_pos c1]
    rw [if_pos ((hJ.1 s).mpr ⟨hs, c1, h0 s hs⟩), if_neg (by decide)] at hx
    unfold f_y_beginStart f_y_fss at hx
    simp only [bnd, bn5] at hx
    rw [needs_eq n dl hn hRR (h00.up (t := 2) (by omega) rfl) hs, a1] at hx
    cases hnd : anyN (lkB F s) n
    · rw [hnd] at hx
      rw [if_neg (show ¬ fl (!false) = 0 by decide)] at hx ⊢
      by_cases cs : F 1 s = 0
      · rw [if_pos cs] at hx ⊢
        have hx2 : x = f_y_enter n dl s 2 (f_y_jbegin n dl s L) I M si sa := hx
        rw [hx2]
        obtain ⟨g1, g2, g3, g4⟩ := begin_enter n dl B s 2 hs (by omega) hB h h0 hnz haw (fun q => absurd q (by decide)) (fun q => absurd q (by decide))
        exact ⟨g1, g2, g3, fun z _ => Or.inl (congrFun g4 z)⟩
      · rw [if_neg cs] at hx ⊢
        have hx2 : x = f_y_enter n dl s 1 (f_y_jbegin n dl s L) I M si sa := hx
        rw [hx2]
        obtain ⟨g1, g2, g3, g4⟩ := begin_enter n dl B s 1 hs (by omega) hB h h0 hnz haw (fun _ => cs) (fun q => absurd q (by decide))
        exact ⟨g1, g2, g3, fun z _ => Or.inl (congrFun g4 z)⟩
    · rw [hnd] at hx
      rw [if_pos (show fl (!true) = 0 by decide)] at hx ⊢
      rw [hx]
      exact hend
  · -- to stop
    have c2 : F 25 s = 2 := by
      rcases hj3 with q | q | q
      · exact absurd q hnz
      · exact absurd q c1
      · exact q
    rw [if_neg c1]
    rw [if_neg (fun q => c1 ((hJ.1 s).mp q).2.1), if_pos rfl] at hx
    unfold f_y_beginStop f_y_fsp at hx
    simp only [bnd, bn5] at hx
    rw [s6, e7, nI_clamp (show t0 < 2 ^ 31 by omega), a2] at hx
    have go : ∀ t, t ≤ 3 → (t = 3 → ¬ F 2 s = 0) → ¬ t = 1 → x = f_y_enter n dl s t (f_y_jbegin n dl s L) I M si sa → Rf n dl (B + 1) x.1 x.2.1 x.2.2.1 x.2.2.2.1 x.2.2.2.2 (f_w_to n s (nI t) (va_up F 26 (upd (F 26) s 1)) V).1 (f_w_to n s (nI t) (va_up F 26 (upd (F 26) s 1)) V).2 ∧ BgX L I M F V x (f_w_to n s (nI t) (va_up F 26 (upd (F 26) s 1)) V) ∧ (f_w_to n s (nI t) (va_up F 26 (upd (F 26) s 1)) V).1 26 = upd (F 26) s 1 ∧ (∀ z, z < n → (f_w_to n s (nI t) (va_up F 26 (upd (F 26) s 1)) V).1 25 z = F 25 z ∨ (f_w_to n s (nI t) (va_up F 26 (upd (F 26) s 1)) V).1 25 z = 0) := by
      intro t ht h3 h1 ex
      rw [ex]
      obtain ⟨g1, g2, g3, g4⟩ := begin_enter n dl B s t hs ht hB h h0 hnz haw (fun q => absurd q h1) h3
      exact ⟨g1, g2, g3, fun z _ => Or.inl (congrFun g4 z)⟩
    have hcase : t0 = 0 ∨ t0 = 4 ∨ t0 = 3 ∨ t0 = 5 ∨ t0 = 1 ∨ t0 = 2 := by omega
    have back : ∀ t, t0 = t → t = 1 ∨ t = 2 → x = (if F 2 s = 0 then f_y_enter n dl s (0 : Int32).toNatClampNeg (f_y_jbegin n dl s L) I M si sa else f_y_enter n dl s (3 : Int32).toNatClampNeg (f_y_jbegin n dl s L) I M si sa) → Rf n dl (B + 1) x.1 x.2.1 x.2.2.1 x.2.2.2.1 x.2.2.2.2 (if F 2 s = 0 then f_w_to n s 0 (va_up F 26 (upd (F 26) s 1)) V else f_w_to n s 3 (va_up F 26 (upd (F 26) s 1)) V).1 (if F 2 s = 0 then f_w_to n s 0 (va_up F 26 (upd (F 26) s 1)) V else f_w_to n s 3 (va_up F 26 (upd (F 26) s 1)) V).2 ∧ BgX L I M F V x (if F 2 s = 0 then f_w_to n s 0 (va_up F 26 (upd (F 26) s 1)) V else f_w_to n s 3 (va_up F 26 (upd (F 26) s 1)) V) ∧ (if F 2 s = 0 then f_w_to n s 0 (va_up F 26 (upd (F 26) s 1)) V else f_w_to n s 3 (va_up F 26 (upd (F 26) s 1)) V).1 26 = upd (F 26) s 1 ∧ (∀ z, z < n → (if F 2 s = 0 then f_w_to n s 0 (va_up F 26 (upd (F 26) s 1)) V else f_w_to n s 3 (va_up F 26 (upd (F 26) s 1)) V).1 25 z = F 25 z ∨ (if F 2 s = 0 then f_w_to n s 0 (va_up F 26 (upd (F 26) s 1)) V else f_w_to n s 3 (va_up F 26 (upd (F 26) s 1)) V).1 25 z = 0) := by
      intro t et ht ex
      by_cases cs : F 2 s = 0
      · rw [if_pos cs] at ex ⊢
        exact go 0 (by omega) (fun q => absurd q (by decide)) (by decide) ex
      · rw [if_neg cs] at ex ⊢
        exact go 3 (by omega) (fun _ => cs) (by decide) ex
    rcases hcase with q | q | q | q | q | q
    · subst q
      rw [if_pos rfl] at hx
      rw [if_neg (show ¬ fl (decide ((0 : Nat) = 0) || decide ((0 : Nat) = 4)) = 0 by decide), hx]
      exact hend
    · subst q
      rw [if_neg (by decide), if_pos rfl] at hx
      rw [if_neg (show ¬ fl (decide ((4 : Nat) = 0) || decide ((4 : Nat) = 4)) = 0 by decide), hx]
      exact hend
    · subst q
      rw [if_neg (by decide), if_neg (by decide), if_pos rfl] at hx
      rw [if_pos (show fl (decide ((3 : Nat) = 0) || decide ((3 : Nat) = 4)) = 0 by decide), if_pos (show nI 3 = 3 from rfl), hx]
      have hb : f_y_jbegin n dl s L = va_up L 7 (L 7 ||| oL s) := rfl
      rw [hb]
      have l0 : va_up L 7 (L 7 ||| oL s) 0 = L 0 := va_up_ne _ _ (by decide)
      have l1 : va_up L 7 (L 7 ||| oL s) 1 = L 1 := va_up_ne _ _ (by decide)
      have l5 : va_up L 7 (L 7 ||| oL s) 5 = L 5 := va_up_ne _ _ (by decide)
      have l6 : va_up L 7 (L 7 ||| oL s) 6 = L 6 := va_up_ne _ _ (by decide)
      have l7 : va_up L 7 (L 7 ||| oL s) 7 = L 7 ||| oL s := va_up_self _ _ _
      refine ⟨⟨⟨(h00.c (hA26.sub (by decide)) (fun z _ _ => by rw [c25]) l0 l1).mono (by omega) hB, hJ.mark hn hs (h0 s hs) ?_ hnz l5 l6 l7 c25 c26 (hA26 7 (by decide)), hRB.mark (by omega) haw l5 l6 l7⟩, ?_, ?_⟩, ⟨hA26.sub (by decide), fun _ _ => rfl, fun j a b c d => va_up_ne _ _ d, fun _ _ => rfl, fun _ _ => rfl⟩, c26, fun z _ => Or.inl (congrFun c25 z)⟩
      · show ejb (va_up F 26 (upd (F 26) s 1)) s = false
        unfold ejb
        rw [c25, c26, hA26 7 (by decide), pk_us, c2, e7]
        decide
      · show RF n si (va_up F 26 (upd (F 26) s 1))
        unfold RF; rw [hA26 10 (by decide)]; exact hRF
      · exact hRT.keep (fun z _ => ⟨rfl, rfl, rfl⟩) (hA26 13 (by decide)) (hA26 14 (by decide)) rfl
    · subst q
      rw [if_neg (by decide), if_neg (by decide), if_neg (by decide), if_pos rfl] at hx
      rw [if_pos (show fl (decide ((5 : Nat) = 0) || decide ((5 : Nat) = 4)) = 0 by decide), if_neg (show ¬ nI 5 = 3 by decide)]
      have hx2 : x = f_y_enter n dl s 0 (f_y_jbegin n dl s L) I M si sa := hx
      by_cases cs : F 2 s = 0
      · rw [if_pos cs]
        exact go 0 (by omega) (fun q => absurd q (by decide)) (by decide) hx2
      · rw [if_neg cs, if_pos (show nI 5 = 5 from rfl)]
        exact go 0 (by omega) (fun q => absurd q (by decide)) (by decide) hx2
    · subst q
      rw [if_neg (by decide), if_neg (by decide), if_neg (by decide), if_neg (by decide)] at hx
      rw [if_pos (show fl (decide ((1 : Nat) = 0) || decide ((1 : Nat) = 4)) = 0 by decide), if_neg (show ¬ nI 1 = 3 by decide), if_neg (show ¬ nI 1 = 5 by decide)]
      refine back 1 rfl (Or.inl rfl) ?_
      by_cases cs : F 2 s = 0
      · rw [if_pos cs] at hx ⊢; exact hx
      · rw [if_neg cs] at hx ⊢; exact hx
    · subst q
      rw [if_neg (by decide), if_neg (by decide), if_neg (by decide), if_neg (by decide)] at hx
      rw [if_pos (show fl (decide ((2 : Nat) = 0) || decide ((2 : Nat) = 4)) = 0 by decide), if_neg (show ¬ nI 2 = 3 by decide), if_neg (show ¬ nI 2 = 5 by decide)]
      refine back 2 rfl (Or.inr rfl) ?_
      by_cases cs : F 2 s = 0
      · rw [if_pos cs] at hx ⊢; exact hx
      · rw [if_neg cs] at hx ⊢; exact hx

end
section
def ubN (n : Nat) (F : Nat → Nat → Int32) : Nat := cN (fun s => decide (¬ F 25 s = 0) && decide (F 26 s = 0)) n
theorem fw_begin_0 (n fu i : Nat) (F : Nat → Nat → Int32) (V : Nat → Int32) (K : Nat → Int32 → (Nat → Nat → Int32) → (Nat → Int32) → (Nat → Nat → Int32) × (Nat → Int32)) : f_w_begin_2 n fu i 0 F V K = K i 0 F V := by
  cases fu with
  | zero => rw [f_w_begin_2]
  | succ fu => rw [f_w_begin_2, if_pos rfl]
theorem BgX.rf {L : Nat → Int64} {I : Nat → Int32} {M : Nat → Nat → Int64} {si : Nat → Nat → Int32} {sa : Nat → Nat → Nat → Int32} {F F2 : Nat → Nat → Int32} {V : Nat → Int32} (h : Ag [7, 8, 9, 11, 12, 25, 26, 42, 43, 44] F F2) : BgX L I M F V (L, I, M, si, sa) (F2, V) := ⟨h, fun _ _ => rfl, fun _ _ _ _ _ => rfl, fun _ _ => rfl, fun _ _ => rfl⟩
theorem begin_sim (n : Nat) (dl : Nat → Nat) : ∀ fuC fuM i iM B (L : Nat → Int64) (I : Nat → Int32) (M : Nat → Nat → Int64) (si : Nat → Nat → Int32) (sa : Nat → Nat → Nat → Int32) (F : Nat → Nat → Int32) (V : Nat → Int32), i ≤ 40 → 40 < i + fuC → ubN n F + i ≤ 40 → ubN n F + 2 ≤ fuM → B + ubN n F < 536870912 → Rf n dl B L I M si sa F V →
    ∀ x m, x = f_y_beginJobs_15 n dl fuC i L I M si sa (fun (i4 : Nat) (L8 : Nat → Int64) (I9 : Nat → Int32) (M10 : Nat → Nat → Int64) (si11 : Nat → Nat → Int32) (sa12 : Nat → Nat → Nat → Int32) => (L8, I9, M10, si11, sa12)) → m = f_w_begin_2 n fuM iM 1 F V (fun (i1 : Nat) (y7 : Int32) (F5 : Nat → Nat → Int32) (V6 : Nat → Int32) => (F5, V6)) →
    Rf n dl (B + ubN n F) x.1 x.2.1 x.2.2.1 x.2.2.2.1 x.2.2.2.2 m.1 m.2 ∧ J0 n m.1 ∧ BgX L I M F V x m
  | 0, fuM, i, iM, B, L, I, M, si, sa, F, V, h1, h2, _, _, _, _, x, m, _, _ => by omega
  | fuC + 1, fuM, i, iM, B, L, I, M, si, sa, F, V, h1, h2, h3, h4, hB, h, x, m, ex, em => by
    obtain ⟨q, rfl⟩ : ∃ q, fuM = q + 1 := ⟨fuM - 1, by omega⟩
    rw [f_w_begin_2, if_neg (by decide)] at em
    simp only [bn2] at em
    have hn : n ≤ 40 := h.1.1.1.1
    obtain ⟨F1, e1, hA1, hR1, hJ1, hv1⟩ := endJobs_R n dl B h
    rw [e1] at em
    simp only at em
    have hub1 : ubN n F1 ≤ ubN n F := by
      refine cN_mono (fun s hs q1 => ?_)
      rw [Bool.and_eq_true, decide_eq_true_eq, decide_eq_true_eq] at q1 ⊢
      rw [hA1 26 (by decide)] at q1
      refine ⟨?_, q1.2⟩
      rcases hv1 s hs with c | c
      · exact absurd c q1.1
      · rw [← c]; exact q1.1
    obtain ⟨i2, e2, hlow, hi2⟩ := fw_begin_12 n F1 (fun (i12 : Nat) => if n ≤ i12 then (f_w_begin_2 n q (iM + 1) (0 : Int32) F1 V (fun (i1 : Nat) (y7 : Int32) (F5 : Nat → Nat → Int32) (V6 : Nat → Int32) => (F5, V6))) else (f_w_begin_2 n q (iM + 1) (1 : Int32) (f_w_beginOne n i12 F1 V).1 (f_w_beginOne n i12 F1 V).2 (fun (i1 : Nat) (y7 : Int32) (F5 : Nat → Nat → Int32) (V6 : Nat → Int32) => (F5, V6)))) hR1.1.1.2.1.2.2.2.2 hn (n + 1) 0 (by omega) (by omega) (fun s hs => absurd hs (by omega))
    rw [e2] at em
    clear e2
    have stay : i2 = n → x = (L, I, M, si, sa) → Rf n dl (B + ubN n F) x.1 x.2.1 x.2.2.1 x.2.2.2.1 x.2.2.2.2 m.1 m.2 ∧ J0 n m.1 ∧ BgX L I M F V x m := by
      intro e9 ex9
      rw [e9] at em
      simp only [Nat.le_refl, if_true, fw_begin_0] at em
      rw [em, ex9]
      exact ⟨hR1.mono (by omega) hB, hJ1, BgX.rf (hA1.sub (by decide))⟩
    have hLY := ready_eq n dl hn hR1.1.1.2.1 hR1.1.2.1 hJ1
    rw [f_y_beginJobs_15] at ex
    by_cases hi : 40 ≤ i
    · rw [if_pos hi] at ex
      refine stay ?_ ex
      rcases hi2 with q1 | ⟨q1, q2⟩
      · exact q1
      · have hz : ubN n F1 = 0 := by omega
        have := cN_0.mp hz i2 q1
        unfold rdB at q2
        rw [Bool.and_eq_true] at q2
        rw [q2.1] at this; cases this
    · rw [if_neg hi] at ex
      simp only [bnd, bn5] at ex
      rcases hLY with ⟨er, hnone⟩ | ⟨s, _, hs, er, hrd, hmin⟩
      · rw [er, if_neg (fun q1 => absurd q1.1 (by decide))] at ex
        refine stay ?_ ex
        rcases hi2 with q1 | ⟨q1, q2⟩
        · exact q1
        · rw [hnone i2 (by omega) q1] at q2; cases q2
      · rw [er, if_pos ⟨nI_pos' (by omega), nI_lt hs (by omega)⟩, nI_clamp (show s < 2 ^ 31 by omega)] at ex
        have ei : i2 = s := by
          rcases Nat.lt_trichotomy i2 s with c | c | c
          · rcases hi2 with q1 | ⟨q1, q2⟩
            · omega
            · rw [hmin i2 (by omega) c] at q2; cases q2
          · exact c
          · rw [hlow s c] at hrd; cases hrd
        subst ei
        simp only [if_neg (show ¬ n ≤ i2 by omega)] at em
        obtain ⟨y, ey⟩ : ∃ y9, y9 = if f_y_holds n dl (L 5) i2 = 0 then f_y_beginStop n dl i2 L I M si sa else f_y_beginStart n dl i2 L I M si sa := ⟨_, rfl⟩
        have hub0 : 0 < ubN n F1 := by
          have h9 := cN_lt (p := fun _ => false) (q := fun s => decide (¬ F1 25 s = 0) && decide (F1 26 s = 0)) (k := n) (j := i2) (fun _ _ q1 => by cases q1) hs rfl (by unfold rdB at hrd; rw [Bool.and_eq_true] at hrd; exact hrd.1)
          unfold ubN
          omega
        obtain ⟨g1, g2, g3, g4⟩ := begin_step n dl B i2 hs (by omega) hR1 hJ1 hrd y ey
        have hub2 : ubN n (f_w_beginOne n i2 F1 V).1 < ubN n F1 := by
          refine cN_lt (j := i2) (fun s hs2 q1 => ?_) hs (by rw [g3, pk_us]; simp) (by unfold rdB at hrd; rw [Bool.and_eq_true] at hrd; exact hrd.1)
          rw [Bool.and_eq_true, decide_eq_true_eq, decide_eq_true_eq] at q1 ⊢
          rw [g3] at q1
          by_cases e : s = i2
          · subst e; rw [pk_us] at q1; exact absurd q1.2 (by decide)
          · rw [pk_un e] at q1
            refine ⟨?_, q1.2⟩
            rcases g4 s hs2 with c | c
            · rw [← c]; exact q1.1
            · exact absurd c q1.1
        have ex2 : x = f_y_beginJobs_15 n dl fuC (i + 1) y.1 y.2.1 y.2.2.1 y.2.2.2.1 y.2.2.2.2 (fun (i4 : Nat) (L8 : Nat → Int64) (I9 : Nat → Int32) (M10 : Nat → Nat → Int64) (si11 : Nat → Nat → Int32) (sa12 : Nat → Nat → Nat → Int32) => (L8, I9, M10, si11, sa12)) := by
          rw [ex, ey]
          by_cases c : f_y_holds n dl (L 5) i2 = 0
          · rw [if_pos c, if_pos c]
          · rw [if_neg c, if_neg c]
        obtain ⟨r1, r2, r3⟩ := begin_sim n dl fuC q (i + 1) (iM + 1) (B + 1) y.1 y.2.1 y.2.2.1 y.2.2.2.1 y.2.2.2.2 (f_w_beginOne n i2 F1 V).1 (f_w_beginOne n i2 F1 V).2 (by omega) (by omega) (by omega) (by omega) (by omega) g1 x m ex2 em
        refine ⟨r1.mono (by omega) hB, r2, ?_⟩
        have g0 : BgX L I M F V y (f_w_beginOne n i2 F1 V) := ⟨(hA1.sub (by decide)).tr g2.1, g2.2⟩
        exact g0.tr r3
theorem beginJobs_R (n : Nat) (dl : Nat → Nat) (B : Nat) {L : Nat → Int64} {I : Nat → Int32} {M : Nat → Nat → Int64} {si : Nat → Nat → Int32} {sa : Nat → Nat → Nat → Int32} {F : Nat → Nat → Int32} {V : Nat → Int32} (hB : B + 40 < 536870912) (h : Rf n dl B L I M si sa F V) : Rf n dl (B + 40) (f_y_beginJobs n dl L I M si sa).1 (f_y_beginJobs n dl L I M si sa).2.1 (f_y_beginJobs n dl L I M si sa).2.2.1 (f_y_beginJobs n dl L I M si sa).2.2.2.1 (f_y_beginJobs n dl L I M si sa).2.2.2.2 (f_w_begin n F V).1 (f_w_begin n F V).2 ∧ J0 n (f_w_begin n F V).1 ∧ BgX L I M F V (f_y_beginJobs n dl L I M si sa) (f_w_begin n F V) := by
  have hn : n ≤ 40 := h.1.1.1.1
  have hub : ubN n F ≤ n := cN_le _ n
  have e0 : f_y_beginJobs n dl L I M si sa = if lg_cmp (L 5 ||| L 6) 0 = 0 then (L, I, M, si, sa) else f_y_beginJobs_15 n dl (40 + 1) 0 L I M si sa (fun (i4 : Nat) (L8 : Nat → Int64) (I9 : Nat → Int32) (M10 : Nat → Nat → Int64) (si11 : Nat → Nat → Int32) (sa12 : Nat → Nat → Nat → Int32) => (L8, I9, M10, si11, sa12)) := rfl
  by_cases c : lg_cmp (L 5 ||| L 6) 0 = 0
  · rw [e0, if_pos c]
    have hz := z_iff.mp ((lg_0 _ _).mp c)
    obtain ⟨F1, e1, hA1, hR1, hJ1, hv1⟩ := endJobs_R n dl B h
    have hall : ∀ s, s < n → F1 25 s = 0 := by
      intro s hs
      obtain ⟨j5, j6, j7, j3⟩ := hR1.1.2.1
      rcases j3 s hs with q | q | q
      · exact q
      · exact absurd (bL_orT.mpr (Or.inl ((j5 s).mpr ⟨hs, q, hJ1 s hs⟩))) (hz s)
      · exact absurd (bL_orT.mpr (Or.inr ((j6 s).mpr ⟨hs, q, hJ1 s hs⟩))) (hz s)
    have em : f_w_begin n F V = (F1, V) := by
      unfold f_w_begin
      rw [f_w_begin_2, if_neg (by decide)]
      simp only [bn2]
      rw [e1]
      simp only
      obtain ⟨i2, e2, hlow, hi2⟩ := fw_begin_12 n F1 (fun (i12 : Nat) => if n ≤ i12 then (f_w_begin_2 n 41 (0 + 1) (0 : Int32) F1 V (fun (i1 : Nat) (y7 : Int32) (F5 : Nat → Nat → Int32) (V6 : Nat → Int32) => (F5, V6))) else (f_w_begin_2 n 41 (0 + 1) (1 : Int32) (f_w_beginOne n i12 F1 V).1 (f_w_beginOne n i12 F1 V).2 (fun (i1 : Nat) (y7 : Int32) (F5 : Nat → Nat → Int32) (V6 : Nat → Int32) => (F5, V6)))) hR1.1.1.2.1.2.2.2.2 hn (n + 1) 0 (by omega) (by omega) (fun s hs => absurd hs (by omega))
      rw [e2]
      have e9 : i2 = n := by
        rcases hi2 with q | ⟨q1, q2⟩
        · exact q
        · unfold rdB at q2
          rw [hall i2 q1] at q2
          simp at q2
      subst e9
      simp only [Nat.le_refl, if_true, fw_begin_0]
    rw [em]
    exact ⟨hR1.mono (by omega) hB, hJ1, BgX.rf (hA1.sub (by decide))⟩
  · rw [e0, if_neg c]
    obtain ⟨r1, r2, r3⟩ := begin_sim n dl 41 42 0 0 B L I M si sa F V (by omega) (by omega) (by omega) (by omega) (by omega) h _ (f_w_begin n F V) rfl rfl
    exact ⟨r1.mono (by omega) hB, r2, r3⟩
def LKp (n : Nat) (F : Nat → Nat → Int32) (s : Nat) : Bool := (decide (F 7 s = 1) || decide (F 7 s = 2)) && anyN (lkB F s) n
theorem fy_lacking_lp (n : Nat) (dl : Nat → Nat) {M : Nat → Nat → Int64} {F : Nat → Nat → Int32} (hn : n ≤ 40) (hR : RR n M F) (hS : sB n (M 9 2) F 2) (x : Int64) (hx : ∀ s, s < n → (bL x s = true ↔ F 7 s = 1 ∨ F 7 s = 2)) : ∀ fu i, i ≤ n → n < i + fu → (∀ s, s < i → LKp n F s = false) → LY (LKp n F) n 0 (f_y_leastLacking_16 n dl M x fu i (fun _ => -1))
  | 0, i, h1, h2, _ => by omega
  | fu + 1, i, h1, h2, hf => by
    rw [f_y_leastLacking_16]
    by_cases hi : n ≤ i
    · rw [if_pos hi]
      exact Or.inl ⟨rfl, fun q _ hq => hf q (by omega)⟩
    · rw [if_neg hi]
      have ih := fun (h : LKp n F i = false) => fy_lacking_lp n dl hn hR hS x hx fu (i + 1) (by omega) (by omega) (fun s hs => by
        by_cases e : s = i
        · subst e; exact h
        · exact hf s (by omega))
      simp only [bnd]
      rw [fy_holds n dl x (show i < 64 by omega), needs_eq n dl hn hR hS (show i < n by omega)]
      by_cases hb : bL x i = true
      · rw [if_pos hb, if_neg (by decide)]
        have h12 := (hx i (by omega)).mp hb
        cases e : anyN (lkB F i) n
        · rw [if_neg (show ¬ fl (!false) = 0 by decide)]
          exact ih (by simp [LKp, e])
        · rw [if_pos (show fl (!true) = 0 by decide)]
          exact Or.inr ⟨i, by omega, by omega, rfl, by rcases h12 with q | q <;> simp [LKp, e, q], fun q _ hq => hf q hq⟩
      · rw [if_neg hb, if_pos rfl]
        refine ih ?_
        have h12 : ¬ (F 7 i = 1 ∨ F 7 i = 2) := fun q => hb ((hx i (by omega)).mpr q)
        simp only [not_or] at h12
        simp [LKp, h12.1, h12.2]
theorem lacking_eq (n : Nat) (dl : Nat → Nat) {M : Nat → Nat → Int64} {F : Nat → Nat → Int32} (hn : n ≤ 40) (hR : RR n M F) (hS : sB n (M 9 2) F 2) (hS1 : sB n (M 9 1) F 1) : LY (LKp n F) n 0 (f_y_leastLacking n dl M) := by
  have e : f_y_leastLacking n dl M = f_y_leastLacking_16 n dl M (M 9 (nI 1).toNatClampNeg ||| M 9 (nI 2).toNatClampNeg) (n + 1) 0 (fun _ => -1) := rfl
  rw [e, nI_clamp (show 1 < 2 ^ 31 by omega), nI_clamp (show 2 < 2 ^ 31 by omega)]
  refine fy_lacking_lp n dl hn hR hS _ (fun s hs => ?_) (n + 1) 0 (by omega) (by omega) (fun s hs => absurd hs (by omega))
  rw [bL_orT, hS1 s, hS s]
  constructor
  · rintro (q | q)
    · exact Or.inl q.2
    · exact Or.inr q.2
  · rintro (q | q)
    · exact Or.inl ⟨hs, q⟩
    · exact Or.inr ⟨hs, q⟩
theorem fw_scan (n : Nat) (F : Nat → Nat → Int32) (V : Nat → Int32) (K : Nat → Nat → (Nat → Nat → Int32) → (Nat → Int32) → (Nat → Nat → Int32) × (Nat → Int32)) (hn : n ≤ 40) : ∀ d fu iM s, s + d ≤ n → (∀ z, s ≤ z → z < s + d → LKp n F z = false) → f_w_oneTick_33 n (fu + d) iM s F V K = f_w_oneTick_33 n fu iM (s + d) F V K
  | 0, fu, iM, s, _, _ => rfl
  | d + 1, fu, iM, s, h1, h2 => by
    have ih := fw_scan n F V K hn d fu iM (s + 1) (by omega) (fun z a b => h2 z (by omega) (by omega))
    rw [show s + 1 + d = s + (d + 1) by omega] at ih
    have h3 := h2 s (by omega) (by omega)
    rw [← ih]
    show f_w_oneTick_33 n ((fu + d) + 1) iM s F V K = _
    rw [f_w_oneTick_33, if_neg (show ¬ n ≤ s by omega)]
    simp only [bnd]
    rw [nI_clamp (show s < 2 ^ 31 by omega), fw_hasNeeds n s F (by omega) hn]
    unfold LKp at h3
    by_cases c1 : F 7 s = 1
    · rw [if_pos c1]
      have e : anyN (lkB F s) n = false := by simpa [c1] using h3
      rw [e, if_neg (show ¬ fl (!false) = 0 by decide)]
    · rw [if_neg c1]
      by_cases c2 : F 7 s = 2
      · rw [if_pos c2]
        have e : anyN (lkB F s) n = false := by simpa [c2] using h3
        rw [e, if_neg (show ¬ fl (!false) = 0 by decide)]
      · rw [if_neg c2]
theorem fw_scan_end (n fu iM : Nat) (F : Nat → Nat → Int32) (V : Nat → Int32) (K : Nat → Nat → (Nat → Nat → Int32) → (Nat → Int32) → (Nat → Nat → Int32) × (Nat → Int32)) : f_w_oneTick_33 n fu iM n F V K = K iM n F V := by
  cases fu with
  | zero => rw [f_w_oneTick_33]
  | succ fu => rw [f_w_oneTick_33, if_pos (Nat.le_refl n)]
theorem fw_scan_hit (n fu iM s : Nat) (F : Nat → Nat → Int32) (V : Nat → Int32) (K : Nat → Nat → (Nat → Nat → Int32) → (Nat → Int32) → (Nat → Nat → Int32) × (Nat → Int32)) (hn : n ≤ 40) (hs : s < n) (h : LKp n F s = true) : f_w_oneTick_33 n (fu + 1) iM s F V K = f_w_oneTick_33 n fu (iM + 1) 0 (f_w_to n s (nI (if F 2 s = 0 then 0 else 3)) F V).1 (f_w_to n s (nI (if F 2 s = 0 then 0 else 3)) F V).2 K := by
  unfold LKp at h
  rw [Bool.and_eq_true, Bool.or_eq_true, decide_eq_true_eq, decide_eq_true_eq] at h
  rw [f_w_oneTick_33, if_neg (show ¬ n ≤ s by omega)]
  simp only [bnd, bn2]
  rw [nI_clamp (show s < 2 ^ 31 by omega), fw_hasNeeds n s F (by omega) hn, h.2, if_pos (show fl (!true) = 0 by decide)]
  have e0 : ∀ A : (Nat → Nat → Int32) × (Nat → Int32), (if F 2 s = 0 then f_w_oneTick_33 n fu (iM + 1) 0 (f_w_to n s 0 F V).1 (f_w_to n s 0 F V).2 K else f_w_oneTick_33 n fu (iM + 1) 0 (f_w_to n s 3 F V).1 (f_w_to n s 3 F V).2 K) = f_w_oneTick_33 n fu (iM + 1) 0 (f_w_to n s (nI (if F 2 s = 0 then 0 else 3)) F V).1 (f_w_to n s (nI (if F 2 s = 0 then 0 else 3)) F V).2 K := by
    intro _
    by_cases c : F 2 s = 0
    · rw [if_pos c, if_pos c]; rfl
    · rw [if_neg c, if_neg c]; rfl
  rcases h.1 with c | c
  · rw [if_pos c]; exact e0 (F, V)
  · by_cases c1 : F 7 s = 1
    · rw [if_pos c1]; exact e0 (F, V)
    · rw [if_neg c1, if_pos c]; exact e0 (F, V)
def awN (n : Nat) (F : Nat → Nat → Int32) : Nat := cN (fun s => decide (F 7 s = 1) || decide (F 7 s = 2)) n
theorem going_sim (n : Nat) (dl : Nat → Nat) (KC : Nat → (Nat → Int64) → (Nat → Int32) → (Nat → Nat → Int64) → (Nat → Nat → Int32) → (Nat → Nat → Nat → Int32) → (Nat → Int64) × (Nat → Int32) × (Nat → Nat → Int64) × (Nat → Nat → Int32) × (Nat → Nat → Nat → Int32)) (KM : Nat → Nat → (Nat → Nat → Int32) → (Nat → Int32) → (Nat → Nat → Int32) × (Nat → Int32)) : ∀ fuC fuM i iM B (L : Nat → Int64) (I : Nat → Int32) (M : Nat → Nat → Int64) (si : Nat → Nat → Int32) (sa : Nat → Nat → Nat → Int32) (F : Nat → Nat → Int32) (V : Nat → Int32), i ≤ 40 → 40 < i + fuC → awN n F + i ≤ 40 → (awN n F + 1) * (n + 1) ≤ fuM → B + awN n F < 536870912 → Rf n dl B L I M si sa F V →
    ∃ ic x im sm m, f_y_stopTheLacking_17 n dl fuC i L I M si sa KC = KC ic x.1 x.2.1 x.2.2.1 x.2.2.2.1 x.2.2.2.2 ∧ f_w_oneTick_33 n fuM iM 0 F V KM = KM im sm m.1 m.2 ∧ Rf n dl (B + awN n F) x.1 x.2.1 x.2.2.1 x.2.2.2.1 x.2.2.2.2 m.1 m.2 ∧ (∀ s, s < n → LKp n m.1 s = false) ∧ BgX L I M F V x m
  | 0, fuM, i, iM, B, L, I, M, si, sa, F, V, h1, h2, _, _, _, _ => by omega
  | fuC + 1, fuM, i, iM, B, L, I, M, si, sa, F, V, h1, h2, h3, h4, hB, h => by
    have hn : n ≤ 40 := h.1.1.1.1
    have h00 := h.1.1
    have hLY := lacking_eq n dl hn h00.2.1 (h00.up (t := 2) (by omega) rfl) (h00.up (t := 1) (by omega) rfl)
    have none : (∀ s, s < n → LKp n F s = false) → ∃ im sm m, f_w_oneTick_33 n fuM iM 0 F V KM = KM im sm m.1 m.2 ∧ m = (F, V) := by
      intro hno
      have hge : n ≤ fuM := by
        have : n + 1 ≤ (awN n F + 1) * (n + 1) := Nat.le_mul_of_pos_left _ (by omega)
        omega
      obtain ⟨d, rfl⟩ : ∃ d, fuM = d + n := ⟨fuM - n, by omega⟩
      have e := fw_scan n F V KM hn n d iM 0 (by omega) (fun z _ hz => hno z (by omega))
      rw [Nat.zero_add, fw_scan_end] at e
      exact ⟨iM, n, (F, V), e, rfl⟩
    rw [f_y_stopTheLacking_17]
    by_cases hi : 40 ≤ i
    · rw [if_pos hi]
      have hno : ∀ s, s < n → LKp n F s = false := by
        intro s hs
        have hz : awN n F = 0 := by omega
        have h9 := cN_0.mp hz s hs
        unfold LKp
        rw [h9, Bool.false_and]
      obtain ⟨im, sm, m, e1, e2⟩ := none hno
      subst e2
      exact ⟨i, (L, I, M, si, sa), im, sm, (F, V), rfl, e1, h.mono (by omega) hB, hno, BgX.rf Ag.rf⟩
    · rw [if_neg hi]
      simp only [bnd, bn5]
      rcases hLY with ⟨er, hno⟩ | ⟨s, _, hs, er, hlk, hmin⟩
      · rw [er, if_neg (fun q1 => absurd q1.1 (by decide))]
        obtain ⟨im, sm, m, e1, e2⟩ := none (fun s hs => hno s (by omega) hs)
        subst e2
        exact ⟨i, (L, I, M, si, sa), im, sm, (F, V), rfl, e1, h.mono (by omega) hB, fun s hs => hno s (by omega) hs, BgX.rf Ag.rf⟩
      · rw [er, if_pos ⟨nI_pos' (by omega), nI_lt hs (by omega)⟩, nI_clamp (show s < 2 ^ 31 by omega)]
        have a2 : si s 2 = F 2 s := (h00.2.2.1 s hs).1.2.2.1
        have et : (f_y_fsp n dl s si).toNatClampNeg = (if F 2 s = 0 then 0 else 3) := by
          have e5 : f_y_fsp n dl s si = if si s 2 = 0 then 0 else 3 := rfl
          rw [e5, a2]
          by_cases c : F 2 s = 0
          · rw [if_pos c, if_pos c]; decide
          · rw [if_neg c, if_neg c]; decide
        rw [et]
        obtain ⟨t, ett⟩ : ∃ t9 : Nat, t9 = (if F 2 s = 0 then 0 else 3) := ⟨_, rfl⟩
        have ht : t = 0 ∨ t = 3 ∧ ¬ F 2 s = 0 := by
          by_cases c : F 2 s = 0
          · rw [if_pos c] at ett; exact Or.inl ett
          · rw [if_neg c] at ett; exact Or.inr ⟨ett, c⟩
        have ht03 : t = 0 ∨ t = 3 := by
          rcases ht with c | c
          · exact Or.inl c
          · exact Or.inr c.1
        rw [← ett]
        have h12 : F 7 s = 1 ∨ F 7 s = 2 := by
          unfold LKp at hlk
          rw [Bool.and_eq_true, Bool.or_eq_true, decide_eq_true_eq, decide_eq_true_eq] at hlk
          exact hlk.1
        have haw : 0 < awN n F := by
          have h9 := cN_lt (p := fun _ => false) (q := fun s => decide (F 7 s = 1) || decide (F 7 s = 2)) (k := n) (j := s) (fun _ _ q1 => by cases q1) hs rfl (by rcases h12 with q | q <;> simp [q])
          unfold awN
          omega
        obtain ⟨g, gX⟩ := enter_R n dl B s t hs (by omega) (by omega) h.1 (fun q => by omega) (fun q => by
          rcases ht with c | c
          · omega
          · exact c.2) (fun q => by
          refine ⟨fun _ => by omega, fun q2 => ?_⟩
          unfold ejb at q
          rw [q2] at q
          rcases h12 with c | c <;> simp [c] at q)
        have gf := enter_Rf n dl B hs (by omega) h.2 Ag.rf gX
        have hd : awN n (f_w_to n s (nI t) F V).1 < awN n F := by
          refine cN_lt (j := s) (fun z hz q => ?_) hs ?_ (by rcases h12 with q | q <;> simp [q])
          · rw [gX.1.1] at q
            by_cases e : z = s
            · subst e
              rcases h12 with c | c <;> simp [c]
            · rw [pk_un e] at q; exact q
          · rw [gX.1.1, pk_us]
            rcases ht with c | ⟨c, _⟩ <;> subst c <;> decide
        have hfu : (awN n (f_w_to n s (nI t) F V).1 + 1) * (n + 1) + (n + 1) ≤ fuM := by
          have h9 : (awN n (f_w_to n s (nI t) F V).1 + 1 + 1) * (n + 1) ≤ (awN n F + 1) * (n + 1) := Nat.mul_le_mul_right _ (by omega)
          rw [Nat.add_mul _ 1 (n + 1), Nat.one_mul] at h9
          omega
        obtain ⟨d, rfl⟩ : ∃ d, fuM = d + 1 + s := ⟨fuM - s - 1, by omega⟩
        have e1 := fw_scan n F V KM hn s (d + 1) iM 0 (by omega) (fun z _ hz => hmin z (by omega) (by omega))
        rw [Nat.zero_add, fw_scan_hit n d iM s F V KM hn hs hlk, ← ett] at e1
        obtain ⟨ic, x, im, sm, m, r1, r2, r3, r4, r5⟩ := going_sim n dl KC KM fuC d (i + 1) (iM + 1) (B + 1) (f_y_enter n dl s t L I M si sa).1 (f_y_enter n dl s t L I M si sa).2.1 (f_y_enter n dl s t L I M si sa).2.2.1 (f_y_enter n dl s t L I M si sa).2.2.2.1 (f_y_enter n dl s t L I M si sa).2.2.2.2 (f_w_to n s (nI t) F V).1 (f_w_to n s (nI t) F V).2 (by omega) (by omega) (by omega) (by omega) (by omega) ⟨g, gf⟩
        refine ⟨ic, x, im, sm, m, r1, e1.trans r2, r3.mono (by omega) hB, r4, ?_⟩
        have g0 : BgX L I M F V (f_y_enter n dl s t L I M si sa) (f_w_to n s (nI t) F V) := ⟨gX.1.2.1.sub (by decide), gX.1.2.2.2, gX.2.2.2.2.2.1, gX.2.2.2.2.2.2.1, gX.2.2.2.2.2.2.2⟩
        exact g0.tr r5

end
section
theorem Rf.door {n : Nat} {dl : Nat → Nat} {B : Nat} {L L2 : Nat → Int64} {I I2 : Nat → Int32} {M : Nat → Nat → Int64} {si si2 : Nat → Nat → Int32} {sa sa2 : Nat → Nat → Nat → Int32} {F F2 : Nat → Nat → Int32} {V V2 : Nat → Int32} (h : Rf n dl B L I M si sa F V) (hA : Ag [15, 16, 17, 18] F F2) (hsi : ∀ s q, q ∉ ([31, 32, 33, 34] : List Nat) → si2 s q = si s q) (hsa : ∀ s q, q ≠ 5 → sa2 s q = sa s q) (hI : ∀ j, j ≠ 1 → j ≠ 2 → I2 j = I j) (hV : ∀ j, j ≠ 23 → j ≠ 24 → V2 j = V j) (h23 : I2 1 = V2 23) (h24 : I2 2 = V2 24) (hL : ∀ j, j ≠ 1 → L2 j = L j) (hD : RD n dl (L2 1) si2 sa2 F2) (hZ : ∀ s, n ≤ s → s < 40 → F2 15 s = F 15 s ∧ F2 18 s = F 18 s) : Rf n dl B L2 I2 M si2 sa2 F2 V2 := by
  obtain ⟨⟨⟨hn, hRR, hRA, hRE, hRS, hRI, hRH, hRG, hRD, hRZ⟩, hJ, hB⟩, hRF, hRT⟩ := h
  have hl : lkB F2 = lkB F := by
    funext a b
    unfold lkB
    rw [HS_c (hA 19 (by decide)), hA 7 (by decide)]
  refine ⟨⟨⟨hn, hRR.c (hA 19 (by decide)), ?_, ?_, ?_, ?_, ?_, ?_, hD, ?_⟩, ?_, ?_⟩, ?_, ?_⟩
  · intro s hs
    rw [hsi s 0 (by decide), hsi s 1 (by decide), hsi s 2 (by decide), hsi s 23 (by decide), hsi s 24 (by decide), hsi s 25 (by decide), hsa s 1 (by decide), hA 0 (by decide), hA 1 (by decide), hA 2 (by decide), hA 3 (by decide), hA 4 (by decide), hA 5 (by decide), hA 6 (by decide)]
    exact hRA s hs
  · intro s hs
    rw [hsi s 6 (by decide), hsi s 7 (by decide), hsi s 8 (by decide), hsi s 10 (by decide), hsi s 11 (by decide), hA 1 (by decide), hA 2 (by decide), hA 7 (by decide), hA 8 (by decide), hA 9 (by decide), hA 11 (by decide), hA 12 (by decide)]
    exact hRE s hs
  · refine ⟨by rw [hA 7 (by decide)]; exact hRS.1, fun s => ?_⟩
    rw [hL 0 (by decide), hsi s 10 (by decide)]
    exact hRS.2 s
  · unfold RI
    rw [h23, h24, hI 0 (by decide) (by decide), hI 3 (by decide) (by decide), hI 7 (by decide) (by decide), hI 12 (by decide) (by decide), hI 4 (by decide) (by decide), hV 22 (by decide) (by decide), hV 33 (by decide) (by decide), hV 20 (by decide) (by decide), hV 45 (by decide) (by decide), hA 9 (by decide)]
    exact ⟨hRI.1, ⟨rfl, rfl, hRI.2.1.2.2⟩, hRI.2.2⟩
  · unfold RH; rw [hA 42 (by decide), hA 43 (by decide), hA 44 (by decide)]; exact hRH
  · unfold RG; rw [hl, hA 7 (by decide), hI 4 (by decide) (by decide), hI 12 (by decide) (by decide)]; exact hRG
  · intro s a b
    rw [hA 5 (by decide), hA 7 (by decide), hA 9 (by decide), hA 10 (by decide), hA 11 (by decide), hA 14 (by decide), hA 25 (by decide), hA 3 (by decide), (hZ s a b).1, (hZ s a b).2]
    exact hRZ s a b
  · have he : ∀ s, ejb F2 s = ejb F s := fun s => ejb_c (by rw [hA 25 (by decide)]) (by rw [hA 26 (by decide)]) (by rw [hA 7 (by decide)])
    unfold RJ
    rw [hL 5 (by decide), hL 6 (by decide), hL 7 (by decide), hA 25 (by decide), hA 26 (by decide)]
    simp only [he]
    exact hJ
  · unfold RB
    rw [hL 5 (by decide), hL 6 (by decide), hL 7 (by decide)]
    exact hB
  · intro s hs
    rw [hsi s 9 (by decide), hA 10 (by decide)]
    exact hRF s hs
  · exact hRT.keep (fun s _ => ⟨hsi s 21 (by decide), hsi s 22 (by decide), hsa s 3 (by decide)⟩) (hA 13 (by decide)) (hA 14 (by decide)) (hV 22 (by decide) (by decide))
theorem fw_shift (n i m : Nat) (F : Nat → Nat → Int32) (V : Nat → Int32) (K : Nat → (Nat → Nat → Int32) → (Nat → Int32) → (Nat → Nat → Int32) × (Nat → Int32)) (hi : i < 40) (hm : m ≤ 20) : ∀ fu j g, j ≤ m - 1 → m - 1 < j + fu → (∀ k, k < j → g (20 * i + k) = F 17 (20 * i + k + 1)) → (∀ y, 20 * i + j ≤ y → g y = F 17 y) → (∀ y, y < 20 * i → g y = F 17 y) → ∃ j2 g2, f_w_oneTick_165 n i m fu j (va_up F 17 g) V K = K j2 (va_up F 17 g2) V ∧ (∀ k, k < m - 1 → g2 (20 * i + k) = F 17 (20 * i + k + 1)) ∧ (∀ y, 20 * i + 20 ≤ y → g2 y = F 17 y) ∧ (∀ y, y < 20 * i → g2 y = F 17 y)
  | 0, j, g, h1, h2, _, _, _ => by omega
  | fu + 1, j, g, h1, h2, ha, hb, hc => by
    rw [f_w_oneTick_165]
    simp only [bnd]
    by_cases hj : m - 1 ≤ j
    · rw [if_pos hj]
      exact ⟨j, g, rfl, fun k hk => ha k (by omega), fun y hy => hb y (by omega), hc⟩
    · rw [if_neg hj, va_up_self, va_uu, nI_clamp (show 20 * i + j + 1 < 2 ^ 31 by omega), nI_clamp (show 20 * i + j < 2 ^ 31 by omega)]
      refine fw_shift n i m F V K hi hm fu (j + 1) _ (by omega) (by omega) (fun k hk => ?_) (fun y hy => ?_) (fun y hy => ?_)
      · by_cases e : k = j
        · subst e; rw [pk_us]; exact hb _ (by omega)
        · rw [pk_un (by omega)]; exact ha k (by omega)
      · rw [pk_un (by omega)]; exact hb y (by omega)
      · rw [pk_un (by omega)]; exact hc y hy
def LtX (L : Nat → Int64) (I : Nat → Int32) (si : Nat → Nat → Int32) (F : Nat → Nat → Int32) (V : Nat → Int32) (L2 : Nat → Int64) (I2 : Nat → Int32) (si2 : Nat → Nat → Int32) (F2 : Nat → Nat → Int32) (V2 : Nat → Int32) : Prop := Ag [15, 16, 17, 18] F F2 ∧ (∀ j, j ≠ 24 → V2 j = V j) ∧ (∀ j, j ≠ 1 → L2 j = L j) ∧ (∀ j, j ≠ 2 → I2 j = I j) ∧ (∀ s q, q ∉ ([31, 32, 33, 34] : List Nat) → si2 s q = si s q)
theorem LtX.tr {L L2 L3 : Nat → Int64} {I I2 I3 : Nat → Int32} {si si2 si3 : Nat → Nat → Int32} {F F2 F3 : Nat → Nat → Int32} {V V2 V3 : Nat → Int32} (h : LtX L I si F V L2 I2 si2 F2 V2) (g : LtX L2 I2 si2 F2 V2 L3 I3 si3 F3 V3) : LtX L I si F V L3 I3 si3 F3 V3 := ⟨h.1.tr g.1, fun j a => (g.2.1 j a).trans (h.2.1 j a), fun j a => (g.2.2.1 j a).trans (h.2.2.1 j a), fun j a => (g.2.2.2.1 j a).trans (h.2.2.2.1 j a), fun s q a => (g.2.2.2.2 s q a).trans (h.2.2.2.2 s q a)⟩
theorem eq101g (n fu : Nat) : ∃ (R : Nat → (Nat → Nat → Int32) → (Nat → Int32) → (Nat → (Nat → Nat → Int32) → (Nat → Int32) → (Nat → Nat → Int32) × (Nat → Int32)) → (Nat → Nat → Int32) × (Nat → Int32)) (S : Nat → Nat → (Nat → Nat → Int32) → (Nat → Int32) → (Nat → (Nat → Nat → Int32) → (Nat → Int32) → (Nat → Nat → Int32) × (Nat → Int32)) → (Nat → Nat → Int32) × (Nat → Int32)), R = f_w_oneTick_101 n fu ∧ S = (fun i m F V K => f_w_oneTick_165 n i m (20 + 1) (0 : Nat) F V K) ∧ ∀ (i : Nat) (F : Nat → Nat → Int32) (V : Nat → Int32) (K : Nat → (Nat → Nat → Int32) → (Nat → Int32) → (Nat → Nat → Int32) × (Nat → Int32)), f_w_oneTick_101 n (fu + 1) i F V K = if n ≤ i then (K i F V) else (bnd (F 0 (nI i).toNatClampNeg) (fun (x29 : Int32) => if x29 = (2 : Int32) then (bnd (F 7 (nI i).toNatClampNeg) (fun (x31 : Int32) => if x31 = (2 : Int32) then (bnd (F 18 (nI i).toNatClampNeg) (fun (x33 : Int32) => bnd (x33.toNatClampNeg) (fun (m34 : Nat) => if m34 ≤ 0 then (R (i + 1) F V K) else (bnd (F 17 (nI (20 * i)).toNatClampNeg) (fun (x36 : Int32) => bnd (va_up F 16 (upd (F 16) (nI i).toNatClampNeg x36)) (fun (F37 : Nat → Nat → Int32) => bnd (va_up F37 18 (upd (F37 18) (nI i).toNatClampNeg (nI (m34 - 1)))) (fun (F39 : Nat → Nat → Int32) => S i m34 F39 V (fun (i40 : Nat) (F44 : Nat → Nat → Int32) (V45 : Nat → Int32) => bnd (F44 15 (nI i).toNatClampNeg) (fun (x48 : Int32) => bnd (x48 + (1 : Int32)) (fun (x49 : Int32) => bnd (va_up F44 15 (upd (F44 15) (nI i).toNatClampNeg x49)) (fun (F50 : Nat → Nat → Int32) => bnd (V45 24) (fun (x51 : Int32) => bnd (x51 + (1 : Int32)) (fun (x52 : Int32) => bnd (va_up V45 24 x52) (fun (V53 : Nat → Int32) => R (i + 1) F50 V53 K)))))))))))))) else (R (i + 1) F V K))) else (R (i + 1) F V K))) := ⟨f_w_oneTick_101 n fu, fun i m F V K => f_w_oneTick_165 n i m (20 + 1) (0 : Nat) F V K, rfl, rfl, fun _ _ _ _ => rfl⟩
theorem letters_sim (n : Nat) (dl : Nat → Nat) (B : Nat) (M : Nat → Nat → Int64) (sa : Nat → Nat → Nat → Int32) (x3 : Int64) (KC : Nat → (Nat → Int64) → (Nat → Int32) → (Nat → Nat → Int32) → (Nat → Int64) × (Nat → Int32) × (Nat → Nat → Int32)) (KM : Nat → (Nat → Nat → Int32) → (Nat → Int32) → (Nat → Nat → Int32) × (Nat → Int32)) : ∀ fuC fuM i (L : Nat → Int64) (I : Nat → Int32) (si : Nat → Nat → Int32) (F : Nat → Nat → Int32) (V : Nat → Int32), i ≤ n → n < i + fuC → n < i + fuM → Rf n dl B L I M si sa F V → (∀ z, i ≤ z → z < n → (bL x3 z = true ↔ ¬ F 18 z = 0 ∧ F 7 z = 2)) →
    ∃ L2 I2 si2 F2 V2, f_y_readLetters_21 n dl sa x3 fuC i L I si KC = KC n L2 I2 si2 ∧ f_w_oneTick_101 n fuM i F V KM = KM n F2 V2 ∧ Rf n dl B L2 I2 M si2 sa F2 V2 ∧ LtX L I si F V L2 I2 si2 F2 V2
  | 0, fuM, i, L, I, si, F, V, h1, h2, _, _, _ => by omega
  | fuC + 1, fuM0, i, L, I, si, F, V, h1, h2, h30, h, hx => by
    obtain ⟨fuM, rfl⟩ : ∃ q, fuM0 = q + 1 := ⟨fuM0 - 1, by omega⟩
    have h3 : n < i + (fuM + 1) := h30
    have hn : n ≤ 40 := h.1.1.1.1
    obtain ⟨R, S, eR0, eS0, eq0⟩ := eq101g n fuM
    rw [f_y_readLetters_21, eq0]
    by_cases hi : n ≤ i
    · have e : i = n := by omega
      subst e
      rw [if_pos hi, if_pos hi]
      exact ⟨L, I, si, F, V, rfl, rfl, h, Ag.rf, fun _ _ => rfl, fun _ _ => rfl, fun _ _ => rfl, fun _ _ _ => rfl⟩
    · rw [if_neg hi, if_neg hi]
      have hin : i < n := by omega
      have hRD := h.1.1.2.2.2.2.2.2.2.2.1
      have hRA := h.1.1.2.2.1
      obtain ⟨⟨d33, d34⟩, fi, sz, d31, d32, d18, hfi, hsz, hlet⟩ := hRD.1 i hin
      have hdl := (hRA i hin).2.2.2
      have hsz20 : sz ≤ 20 := by
        by_cases c : F 0 i = 2
        · rw [if_pos c] at hdl; omega
        · rw [if_neg c] at hdl; omega
      simp only [bnd]
      rw [fy_holds n dl x3 (show i < 64 by omega), nI_clamp (show i < 2 ^ 31 by omega), d18, nI_clamp (show sz < 2 ^ 31 by omega)]
      have hskip : ∃ L2 I2 si2 F2 V2, f_y_readLetters_21 n dl sa x3 fuC (i + 1) L I si KC = KC n L2 I2 si2 ∧ R (i + 1) F V KM = KM n F2 V2 ∧ Rf n dl B L2 I2 M si2 sa F2 V2 ∧ LtX L I si F V L2 I2 si2 F2 V2 := by rw [eR0]; exact letters_sim n dl B M sa x3 KC KM fuC fuM (i + 1) L I si F V (by omega) (by omega) (by omega) h (fun z a b => hx z (by omega) b)
      by_cases hb : bL x3 i = true
      · rw [if_pos hb, if_neg (by decide)]
        obtain ⟨q18, q7⟩ := (hx i (by omega) hin).mp hb
        have hsz0 : 0 < sz := by
          rcases Nat.eq_zero_or_pos sz with c | c
          · subst c; exact absurd d18 q18
          · exact c
        have hk : F 0 i = 2 := by
          refine Classical.byContradiction (fun c => ?_)
          rw [if_neg c] at hdl; omega
        rw [if_pos hk] at hdl
        rw [if_pos hk, if_pos q7, if_neg (show ¬ sz ≤ 0 by omega)]
        -- the class
        have eR : f_y_readFirst n dl i si sa = up2 (up2 (up2 (up2 si i 34 (sa i 5 fi)) i 31 (nI ((fi + 1) % 20))) i 32 (nI (sz - 1))) i 33 (F 15 i + 1) := by
          unfold f_y_readFirst
          simp only [bnd]
          rw [d32, d31, nI_clamp (show sz < 2 ^ 31 by omega), nI_clamp (show fi < 2 ^ 31 by omega), nI_clamp (show fi < 2 ^ 31 by omega), if_neg (show ¬ sz = 0 by omega), hdl, if_neg (show ¬ (20 : Nat) = 0 by decide)]
          have e33 : up2 (up2 (up2 si i 34 (sa i 5 fi)) i 31 (nI ((fi + 1) % 20))) i 32 (nI (sz - 1)) i 33 = F 15 i := by
            rw [up2_ne (by decide), up2_ne (by decide), up2_ne (by decide)]; exact d33
          rw [e33]
        rw [eR]
        obtain ⟨si3, esi⟩ : ∃ f9 : Nat → Nat → Int32, f9 = up2 (up2 (up2 (up2 si i 34 (sa i 5 fi)) i 31 (nI ((fi + 1) % 20))) i 32 (nI (sz - 1))) i 33 (F 15 i + 1) := ⟨_, rfl⟩
        rw [← esi]
        have s31 : si3 i 31 = nI ((fi + 1) % 20) := by rw [esi]; simp [up2]
        have s32 : si3 i 32 = nI (sz - 1) := by rw [esi]; simp [up2]
        have s33 : si3 i 33 = F 15 i + 1 := by rw [esi]; simp [up2]
        have s34 : si3 i 34 = sa i 5 fi := by rw [esi]; simp [up2]
        have sne : ∀ s q, s ≠ i → si3 s q = si s q := by intro s q c; rw [esi]; simp [up2, c]
        have snq : ∀ s q, q ∉ ([31, 32, 33, 34] : List Nat) → si3 s q = si s q := by
          intro s q hq
          simp only [List.mem_cons, List.not_mem_nil, or_false, not_or] at hq
          rw [esi, up2_ne hq.2.2.1, up2_ne hq.2.1, up2_ne hq.1, up2_ne hq.2.2.2]
        -- the model
        rw [nI_clamp (show 20 * i < 2 ^ 31 by omega)]
        have c18 : va_up F 16 (upd (F 16) i (F 17 (20 * i))) 18 = F 18 := va_up_ne _ _ (by decide)
        rw [c18]
        obtain ⟨G, eG⟩ : ∃ f9 : Nat → Nat → Int32, f9 = va_up (va_up F 16 (upd (F 16) i (F 17 (20 * i)))) 18 (upd (F 18) i (nI (sz - 1))) := ⟨_, rfl⟩
        rw [← eG]
        have g16 : G 16 = upd (F 16) i (F 17 (20 * i)) := by rw [eG, va_up_ne _ _ (by decide), va_up_self]
        have g18 : G 18 = upd (F 18) i (nI (sz - 1)) := by rw [eG, va_up_self]
        have hAG : Ag [15, 16, 17, 18] F G := by rw [eG]; exact (Ag.up (by decide)).tr (Ag.up (by decide))
        have g17 : G 17 = F 17 := by rw [eG, va_up_ne _ _ (by decide), va_up_ne _ _ (by decide)]
        have g15 : G 15 = F 15 := by rw [eG, va_up_ne _ _ (by decide), va_up_ne _ _ (by decide)]
        clear eG
        obtain ⟨j2, g2, e2, p1, p2, p3⟩ := fw_shift n i sz G V (fun (i40 : Nat) (F44 : Nat → Nat → Int32) (V45 : Nat → Int32) => R (i + 1) (va_up F44 15 (upd (F44 15) i (F44 15 i + 1))) (va_up V45 24 (V45 24 + 1)) KM) (by omega) hsz20 21 0 (G 17) (by omega) (by omega) (fun k hk => absurd hk (by omega)) (fun y _ => rfl) (fun y _ => rfl)
        rw [va_id] at e2
        have e3 : S i sz G V (fun (i40 : Nat) (F44 : Nat → Nat → Int32) (V45 : Nat → Int32) => R (i + 1) (va_up F44 15 (upd (F44 15) i (F44 15 i + 1))) (va_up V45 24 (V45 24 + 1)) KM) = R (i + 1) (va_up (va_up G 17 g2) 15 (upd (va_up G 17 g2 15) i (va_up G 17 g2 15 i + 1))) (va_up V 24 (V 24 + 1)) KM := by rw [eS0]; exact e2
        rw [e3]
        clear e3
        rw [g17] at p1 p2 p3
        have c15 : va_up G 17 g2 15 = F 15 := by rw [va_up_ne _ _ (by decide), g15]
        rw [c15]
        obtain ⟨F4, eF4⟩ : ∃ f9 : Nat → Nat → Int32, f9 = va_up (va_up G 17 g2) 15 (upd (F 15) i (F 15 i + 1)) := ⟨_, rfl⟩
        rw [← eF4]
        have k15 : F4 15 = upd (F 15) i (F 15 i + 1) := by rw [eF4, va_up_self]
        have k16 : F4 16 = upd (F 16) i (F 17 (20 * i)) := by rw [eF4, va_up_ne _ _ (by decide), va_up_ne _ _ (by decide), g16]
        have k17 : F4 17 = g2 := by rw [eF4, va_up_ne _ _ (by decide), va_up_self]
        have k18 : F4 18 = upd (F 18) i (nI (sz - 1)) := by rw [eF4, va_up_ne _ _ (by decide), va_up_ne _ _ (by decide), g18]
        have hA4 : Ag [15, 16, 17, 18] F F4 := by rw [eF4]; exact (hAG.tr (Ag.up (by decide))).tr (Ag.up (by decide))
        clear eF4 e2
        have fin : ∀ L2 : Nat → Int64, (∀ j, j ≠ 1 → L2 j = L j) → (∀ z, bL (L2 1) z = true ↔ z < n ∧ ¬ F4 18 z = 0) → Rf n dl B L2 (va_up I 2 (I 2 + 1)) M si3 sa F4 (va_up V 24 (V 24 + 1)) ∧ LtX L I si F V L2 (va_up I 2 (I 2 + 1)) si3 F4 (va_up V 24 (V 24 + 1)) := by
          intro L2 hL hb1
          refine ⟨h.door hA4 snq (fun _ _ _ => rfl) (fun j a b => va_up_ne _ _ b) (fun j a b => va_up_ne _ _ b) ?_ ?_ hL ⟨fun z hz => ?_, hb1⟩ (fun z a b => ?_), hA4, fun j a => va_up_ne _ _ a, hL, fun j a => va_up_ne _ _ a, snq⟩
          · rw [va_up_ne _ _ (by decide), va_up_ne _ _ (by decide)]; exact h.1.1.2.2.2.2.2.1.2.1.1
          · rw [va_up_self, va_up_self, h.1.1.2.2.2.2.2.1.2.1.2.1]
          · rw [k15, k16, k18, k17]
            by_cases e : z = i
            · subst e
              rw [pk_us, pk_us, pk_us]
              refine ⟨⟨s33, ?_⟩, (fi + 1) % 20, sz - 1, s31, s32, rfl, by omega, by omega, fun k hk => ?_⟩
              · rw [s34]
                have e0 := hlet 0 hsz0
                rw [Nat.add_zero, Nat.add_zero, Nat.mod_eq_of_lt hfi] at e0
                exact e0.symm
              · rw [p1 k hk, show 20 * z + k + 1 = 20 * z + (k + 1) by omega, hlet (k + 1) (by omega)]
                congr 1
                omega
            · rw [pk_un e, pk_un e, pk_un e, sne z 33 e, sne z 34 e]
              obtain ⟨q1, fi2, sz2, q2, q3, q4, q5, q6, q7⟩ := hRD.1 z hz
              have hdl2 : sz2 ≤ 20 := by
                have hd2 := (hRA z hz).2.2.2
                by_cases c : F 0 z = 2
                · rw [if_pos c] at hd2; omega
                · rw [if_neg c] at hd2; omega
              refine ⟨q1, fi2, sz2, by rw [sne z 31 e]; exact q2, by rw [sne z 32 e]; exact q3, q4, q5, q6, fun k hk => ?_⟩
              rcases Nat.lt_or_ge z i with c | c
              · rw [p3 _ (by omega)]; exact q7 k hk
              · rw [p2 _ (by omega)]; exact q7 k hk
          · rw [k15, k18, pk_un (by omega), pk_un (by omega)]; exact ⟨rfl, rfl⟩
        have hx2 : ∀ z, i + 1 ≤ z → z < n → (bL x3 z = true ↔ ¬ F4 18 z = 0 ∧ F4 7 z = 2) := by
          intro z a b
          rw [k18, pk_un (by omega), hA4 7 (by decide)]
          exact hx z (by omega) b
        rw [s32, nI_clamp (show sz - 1 < 2 ^ 31 by omega)]
        have hs64 : i < 64 := by omega
        by_cases c0 : sz - 1 = 0
        · rw [if_pos c0, fy_only]
          obtain ⟨r1, r2⟩ := fin (va_up L 1 (L 1 &&& (oL i ^^^ (-1)))) (fun j a => va_up_ne _ _ a) (fun z => by
            rw [va_up_self, bL_clr hs64, hRD.2 z, k18]
            by_cases e : z = i
            · subst e
              rw [pk_us, c0]
              exact ⟨fun q => absurd rfl q.2, fun q => absurd rfl q.2⟩
            · rw [pk_un e]; exact ⟨fun q => q.1, fun q => ⟨q, e⟩⟩)
          obtain ⟨L9, I9, si9, F9, V9, w1, w2, w3, w4⟩ := letters_sim n dl B M sa x3 KC KM fuC fuM (i + 1) _ _ si3 F4 _ (by omega) (by omega) (by omega) r1 hx2
          exact ⟨L9, I9, si9, F9, V9, w1, by rw [eR0]; exact w2, w3, r2.tr w4⟩
        · rw [if_neg c0]
          obtain ⟨r1, r2⟩ := fin L (fun j a => rfl) (fun z => by
            rw [hRD.2 z, k18]
            by_cases e : z = i
            · subst e
              rw [pk_us]
              exact ⟨fun q => ⟨q.1, nI_ne0 (by omega) (by omega)⟩, fun q => ⟨q.1, q18⟩⟩
            · rw [pk_un e])
          obtain ⟨L9, I9, si9, F9, V9, w1, w2, w3, w4⟩ := letters_sim n dl B M sa x3 KC KM fuC fuM (i + 1) _ _ si3 F4 _ (by omega) (by omega) (by omega) r1 hx2
          exact ⟨L9, I9, si9, F9, V9, w1, by rw [eR0]; exact w2, w3, r2.tr w4⟩
      · rw [if_neg hb, if_pos rfl]
        by_cases ck : F 0 i = 2
        · rw [if_pos ck]
          by_cases c7 : F 7 i = 2
          · rw [if_pos c7]
            have hz : sz = 0 := by
              rcases Nat.eq_zero_or_pos sz with c | c
              · exact c
              · exact absurd ((hx i (by omega) hin).mpr ⟨by rw [d18]; exact nI_ne0 c (by omega), c7⟩) hb
            rw [if_pos (show sz ≤ 0 by omega)]
            exact hskip
          · rw [if_neg c7]; exact hskip
        · rw [if_neg ck]; exact hskip

end
section
def stW (n : Nat) (sv : Nat) (F4 : Nat → Nat → Int32) (V5 : Nat → Int32) : (Nat → Nat → Int32) × (Nat → Int32) := bnd (F4 7 (nI sv).toNatClampNeg) (fun (x7 : Int32) => if x7 = (5 : Int32) then (bnd (V5 22) (fun (x9 : Int32) => bnd (F4 8 (nI sv).toNatClampNeg) (fun (x10 : Int32) => bnd (x9 - x10) (fun (x11 : Int32) => bnd (F4 4 (nI sv).toNatClampNeg) (fun (x12 : Int32) => if x11 < x12 then ((F4, V5)) else (bnd (F4 10 (nI sv).toNatClampNeg) (fun (x14 : Int32) => bnd (f_w_isFree n sv F4) (fun (r15 : Int32) => if r15 = (0 : Int32) then (bnd (x14 + (1 : Int32)) (fun (x19 : Int32) => bnd (va_up F4 10 (upd (F4 10) (nI sv).toNatClampNeg x19)) (fun (F20 : Nat → Nat → Int32) => bnd (f_w_isFree n sv F20) (fun (r21 : Int32) => if r21 = (0 : Int32) then (bn2 (f_w_to n sv 4 F20 V5) (fun (F34 : Nat → Nat → Int32) (V35 : Nat → Int32) => (F34, V35))) else (bnd (F20 1 (nI sv).toNatClampNeg) (fun (x25 : Int32) => if x25 = (0 : Int32) then (bn2 (f_w_to n sv 2 F20 V5) (fun (F31 : Nat → Nat → Int32) (V32 : Nat → Int32) => (F31, V32))) else (bn2 (f_w_to n sv 1 F20 V5) (fun (F28 : Nat → Nat → Int32) (V29 : Nat → Int32) => (F28, V29))))))))) else (bnd (x14 + (0 : Int32)) (fun (x36 : Int32) => bnd (va_up F4 10 (upd (F4 10) (nI sv).toNatClampNeg x36)) (fun (F37 : Nat → Nat → Int32) => bnd (f_w_isFree n sv F37) (fun (r38 : Int32) => if r38 = (0 : Int32) then (bn2 (f_w_to n sv 4 F37 V5) (fun (F51 : Nat → Nat → Int32) (V52 : Nat → Int32) => (F51, V52))) else (bnd (F37 1 (nI sv).toNatClampNeg) (fun (x42 : Int32) => if x42 = (0 : Int32) then (bn2 (f_w_to n sv 2 F37 V5) (fun (F48 : Nat → Nat → Int32) (V49 : Nat → Int32) => (F48, V49))) else (bn2 (f_w_to n sv 1 F37 V5) (fun (F45 : Nat → Nat → Int32) (V46 : Nat → Int32) => (F45, V46))))))))))))))))) else ((F4, V5)))
def stU (n : Nat) (sv : Nat) (F1 : Nat → Nat → Int32) (V2 : Nat → Int32) : (Nat → Nat → Int32) × (Nat → Int32) := bnd (F1 7 (nI sv).toNatClampNeg) (fun (x53 : Int32) => if x53 = (2 : Int32) then (bnd (F1 11 (nI sv).toNatClampNeg) (fun (x55 : Int32) => if x55 = (0 : Int32) then (bnd (F1 12 (nI sv).toNatClampNeg) (fun (x57 : Int32) => if x57 ≤ (0 : Int32) then (stW n sv F1 V2) else (bnd (V2 22) (fun (x59 : Int32) => bnd (F1 8 (nI sv).toNatClampNeg) (fun (x60 : Int32) => bnd (x59 - x60) (fun (x61 : Int32) => if x61 < x57 then (stW n sv F1 V2) else (bnd (F1 0 (nI sv).toNatClampNeg) (fun (x63 : Int32) => if x63 = (1 : Int32) then (bnd (va_up F1 11 (upd (F1 11) (nI sv).toNatClampNeg (vp_nar .boolean 1))) (fun (F68 : Nat → Nat → Int32) => stW n sv F68 V2)) else (bn2 (f_w_failsNow n sv F1 V2) (fun (F66 : Nat → Nat → Int32) (V67 : Nat → Int32) => stW n sv F66 V67)))))))))) else (stW n sv F1 V2))) else (stW n sv F1 V2))
def stT (n : Nat) (sv : Nat) (F : Nat → Nat → Int32) (V : Nat → Int32) : (Nat → Nat → Int32) × (Nat → Int32) := bnd (F 7 (nI sv).toNatClampNeg) (fun (x69 : Int32) => if x69 = (1 : Int32) then (bnd (V 22) (fun (x81 : Int32) => bnd (F 8 (nI sv).toNatClampNeg) (fun (x82 : Int32) => bnd (x81 - x82) (fun (x83 : Int32) => bnd (F 1 (nI sv).toNatClampNeg) (fun (x84 : Int32) => if x83 < x84 then (if x69 = (3 : Int32) then (bnd (V 22) (fun (x88 : Int32) => bnd (x88 - x82) (fun (x90 : Int32) => bnd (F 2 (nI sv).toNatClampNeg) (fun (x91 : Int32) => if x90 < x91 then (stU n sv F V) else (bn2 (f_w_to n sv 0 F V) (fun (F94 : Nat → Nat → Int32) (V95 : Nat → Int32) => stU n sv F94 V95)))))) else (stU n sv F V)) else (bn2 (f_w_to n sv 2 F V) (fun (F97 : Nat → Nat → Int32) (V98 : Nat → Int32) => stU n sv F97 V98))))))) else (if x69 = (3 : Int32) then (bnd (V 22) (fun (x73 : Int32) => bnd (F 8 (nI sv).toNatClampNeg) (fun (x74 : Int32) => bnd (x73 - x74) (fun (x75 : Int32) => bnd (F 2 (nI sv).toNatClampNeg) (fun (x76 : Int32) => if x75 < x76 then (stU n sv F V) else (bn2 (f_w_to n sv 0 F V) (fun (F79 : Nat → Nat → Int32) (V80 : Nat → Int32) => stU n sv F79 V80))))))) else (stU n sv F V)))
theorem fw_step_eq (n s : Nat) (F : Nat → Nat → Int32) (V : Nat → Int32) : f_w_step n s F V = stT n s F V := rfl
theorem fw_failsNow_eq (n sv : Nat) (F : Nat → Nat → Int32) (V : Nat → Int32) : ∃ (S : (Nat → Nat → Int32) → (Nat → Int32) → (Nat → Int32 → (Nat → Nat → Int32) → (Nat → Int32) → (Nat → Nat → Int32) × (Nat → Int32)) → (Nat → Nat → Int32) × (Nat → Int32)) (T : (Nat → Nat → Int32) → (Nat → Int32) → (Nat → (Nat → Nat → Int32) → (Nat → Int32) → (Nat → Nat → Int32) × (Nat → Int32)) → (Nat → Nat → Int32) × (Nat → Int32)), S = (fun F V K => f_w_failsNow_14 n sv (10 + 1) (0 : Nat) (0 : Int32) F V K) ∧ T = (fun F V K => f_w_failsNow_102 n sv (10 + 1) (1 : Nat) F V K) ∧ f_w_failsNow n sv F V = bnd (F 10 (nI sv).toNatClampNeg) (fun (x1 : Int32) => bnd (x1 + (1 : Int32)) (fun (x2 : Int32) => bnd (va_up F 10 (upd (F 10) (nI sv).toNatClampNeg x2)) (fun (F3 : Nat → Nat → Int32) => S F3 V (fun (i4 : Nat) (y10 : Int32) (F8 : Nat → Nat → Int32) (V9 : Nat → Int32) => bnd (F8 5 (nI sv).toNatClampNeg) (fun (x14 : Int32) => if x14 = (0 : Int32) then (bn2 (f_w_to n sv 4 F8 V9) (fun (F17 : Nat → Nat → Int32) (V18 : Nat → Int32) => (F17, V18))) else (if y10 < x14 then (bnd (F8 14 (nI sv).toNatClampNeg) (fun (x21 : Int32) => bnd (x21.toNatClampNeg) (fun (m22 : Nat) => if m22 = 10 then (T F8 V9 (fun (i32 : Nat) (F36 : Nat → Nat → Int32) (V37 : Nat → Int32) => bnd (va_up F36 14 (upd (F36 14) (nI sv).toNatClampNeg (nI (m22 - 1)))) (fun (F40 : Nat → Nat → Int32) => bnd (F40 14 (nI sv).toNatClampNeg) (fun (x41 : Int32) => bnd (V37 22) (fun (x42 : Int32) => bnd (va_up F40 13 (upd (F40 13) (nI ((10 * sv) + (m22 - 1))).toNatClampNeg x42)) (fun (F43 : Nat → Nat → Int32) => bnd (va_up F43 14 (upd (F43 14) (nI sv).toNatClampNeg (nI ((m22 - 1) + 1)))) (fun (F45 : Nat → Nat → Int32) => bn2 (f_w_to n sv 5 F45 V37) (fun (F47 : Nat → Nat → Int32) (V48 : Nat → Int32) => (F47, V48))))))))) else (bnd (V9 22) (fun (x25 : Int32) => bnd (va_up F8 13 (upd (F8 13) (nI ((10 * sv) + m22)).toNatClampNeg x25)) (fun (F26 : Nat → Nat → Int32) => bnd (va_up F26 14 (upd (F26 14) (nI sv).toNatClampNeg (nI (m22 + 1)))) (fun (F28 : Nat → Nat → Int32) => bn2 (f_w_to n sv 5 F28 V9) (fun (F30 : Nat → Nat → Int32) (V31 : Nat → Int32) => (F30, V31))))))))) else (bn2 (f_w_to n sv 4 F8 V9) (fun (F52 : Nat → Nat → Int32) (V53 : Nat → Int32) => (F52, V53))))))))) := ⟨fun F V K => f_w_failsNow_14 n sv (10 + 1) (0 : Nat) (0 : Int32) F V K, fun F V K => f_w_failsNow_102 n sv (10 + 1) (1 : Nat) F V K, rfl, rfl, rfl⟩
theorem R0.c2 {n : Nat} {dl : Nat → Nat} {B : Nat} {L : Nat → Int64} {I : Nat → Int32} {M : Nat → Nat → Int64} {si : Nat → Nat → Int32} {sa : Nat → Nat → Nat → Int32} {F F2 : Nat → Nat → Int32} {V : Nat → Int32} (h : R0 n dl B L I M si sa F V) (hA : Ag [10, 13, 14] F F2) (hz : ∀ s, n ≤ s → s < 40 → F2 10 s = F 10 s ∧ F2 14 s = F 14 s) : R0 n dl B L I M si sa F2 V := by
  obtain ⟨⟨hn, hRR, hRA, hRE, hRS, hRI, hRH, hRG, hRD, hRZ⟩, hJ, hB⟩ := h
  have hl : lkB F2 = lkB F := by
    funext a b
    unfold lkB
    rw [HS_c (hA 19 (by decide)), hA 7 (by decide)]
  refine ⟨⟨hn, hRR.c (hA 19 (by decide)), ?_, ?_, ?_, ?_, ?_, ?_, ?_, ?_⟩, ?_, hB⟩
  · unfold RA; rw [hA 0 (by decide), hA 1 (by decide), hA 2 (by decide), hA 3 (by decide), hA 4 (by decide), hA 5 (by decide), hA 6 (by decide)]; exact hRA
  · unfold RE; rw [hA 1 (by decide), hA 2 (by decide), hA 7 (by decide), hA 8 (by decide), hA 9 (by decide), hA 11 (by decide), hA 12 (by decide)]; exact hRE
  · unfold RS; rw [hA 7 (by decide)]; exact hRS
  · unfold RI; rw [hA 9 (by decide)]; exact hRI
  · unfold RH; rw [hA 42 (by decide), hA 43 (by decide), hA 44 (by decide)]; exact hRH
  · unfold RG; rw [hl, hA 7 (by decide)]; exact hRG
  · unfold RD; rw [hA 15 (by decide), hA 16 (by decide), hA 17 (by decide), hA 18 (by decide)]; exact hRD
  · intro s a b
    rw [hA 5 (by decide), hA 7 (by decide), hA 9 (by decide), hA 11 (by decide), hA 15 (by decide), hA 18 (by decide), hA 25 (by decide), hA 3 (by decide), (hz s a b).1, (hz s a b).2]
    exact hRZ s a b
  · have he : ∀ s, ejb F2 s = ejb F s := fun s => ejb_c (by rw [hA 25 (by decide)]) (by rw [hA 26 (by decide)]) (by rw [hA 7 (by decide)])
    unfold RJ
    rw [hA 25 (by decide), hA 26 (by decide)]
    simp only [he]
    exact hJ
theorem stW_not5 (n : Nat) {s : Nat} (F : Nat → Nat → Int32) (V : Nat → Int32) (hs : s < 40) (h : ¬ F 7 s = 5) : stW n s F V = (F, V) := by
  unfold stW
  simp only [bnd]
  rw [nI_clamp (show s < 2 ^ 31 by omega), if_neg h]
theorem stW_early (n : Nat) {s : Nat} (F : Nat → Nat → Int32) (V : Nat → Int32) (hs : s < 40) (h : V 22 - F 8 s < F 4 s) : stW n s F V = (F, V) := by
  unfold stW
  simp only [bnd]
  rw [nI_clamp (show s < 2 ^ 31 by omega), if_pos h]
  by_cases c : F 7 s = 5
  · rw [if_pos c]
  · rw [if_neg c]
theorem upd_id (f : Nat → Int32) (k : Nat) : upd f k (f k) = f := by
  funext j
  by_cases e : j = k
  · subst e; rw [pk_us]
  · rw [pk_un e]
theorem isFree_c (n : Nat) {s : Nat} {F G : Nat → Nat → Int32} (hs : s < 40) (hn : n ≤ 40) (h19 : G 19 = F 19) (h7 : G 7 = F 7) : f_w_isFree n s G = f_w_isFree n s F := by
  rw [fw_isFree n s G hs hn, fw_isFree n s F hs hn]
  have e1 : lkB G = lkB F := by funext a b; unfold lkB; rw [HS_c h19, h7]
  have e2 : agB G = agB F := by funext a b; unfold agB; rw [HS_c h19, h7]
  rw [e1, e2]
theorem stW_wake (n : Nat) {s : Nat} (F : Nat → Nat → Int32) (V : Nat → Int32) (hs : s < 40) (hn : n ≤ 40) (h5 : F 7 s = 5) (h : ¬ V 22 - F 8 s < F 4 s) : stW n s F V = if f_w_isFree n s F = 0 then f_w_to n s 4 (va_up F 10 (upd (F 10) s (F 10 s + 1))) V else f_w_to n s (nI (if F 1 s = 0 then 2 else 1)) F V := by
  unfold stW
  simp only [bnd, bn2]
  rw [nI_clamp (show s < 2 ^ 31 by omega), if_pos h5, if_neg h]
  have e20 : f_w_isFree n s (va_up F 10 (upd (F 10) s (F 10 s + 1))) = f_w_isFree n s F := isFree_c n hs hn (va_up_ne _ _ (by decide)) (va_up_ne _ _ (by decide))
  rw [Int32.add_zero, upd_id, va_id, e20]
  by_cases c : f_w_isFree n s F = 0
  · rw [if_pos c, if_pos c, if_pos c]
  · rw [if_neg c, if_neg c, if_neg c]
    by_cases c1 : F 1 s = 0
    · rw [if_pos c1, if_pos c1]; rfl
    · rw [if_neg c1, if_neg c1]; rfl
theorem wake_eq (n : Nat) (dl : Nat → Nat) {M : Nat → Nat → Int64} {F : Nat → Nat → Int32} {s : Nat} (hn : n ≤ 40) (hR : RR n M F) (h1 : sB n (M 9 1) F 1) (h2 : sB n (M 9 2) F 2) (h3 : sB n (M 9 3) F 3) (hs : s < n) : f_y_canWake n dl s M = f_w_isFree n s F := by
  rw [fw_isFree n s F (by omega) hn]
  have e0 : f_y_canWake n dl s M = if f_y_hasItsNeeds n dl s M = 0 then 0 else if lg_cmp (M 3 (nI s).toNatClampNeg &&& (M 9 (nI 1).toNatClampNeg ||| M 9 (nI 2).toNatClampNeg ||| M 9 (nI 3).toNatClampNeg)) 0 = 0 then 1 else 0 := rfl
  rw [e0, needs_eq n dl hn hR h2 hs, nI_clamp (show s < 2 ^ 31 by omega), nI_clamp (show 1 < 2 ^ 31 by omega), nI_clamp (show 2 < 2 ^ 31 by omega), nI_clamp (show 3 < 2 ^ 31 by omega)]
  cases e : anyN (lkB F s) n
  · rw [if_neg (show ¬ fl (!false) = 0 by decide)]
    cases e2 : anyN (agB F s) n
    · rw [if_pos]
      · rfl
      · refine (lg_0 _ _).mpr (z_iff.mpr (fun b hb => ?_))
        obtain ⟨q1, q2⟩ := bL_andT.mp hb
        obtain ⟨a1, a2, a3⟩ := (hR.1 3 s b (by omega)).mp q1
        have e3 := anyN_f.mp e2 b a2
        unfold agB at e3
        rw [a3, Bool.true_and] at e3
        rw [bL_orT, bL_orT, h1 b, h2 b, h3 b] at q2
        rcases q2 with (q | q) | q <;> simp [q.2] at e3
    · rw [if_neg]
      · rfl
      · intro q
        obtain ⟨b, hb, e3⟩ := (anyN_iff _ _).mp e2
        unfold agB at e3
        simp only [Bool.and_eq_true, Bool.or_eq_true, decide_eq_true_eq] at e3
        refine z_iff.mp ((lg_0 _ _).mp q) b (bL_andT.mpr ⟨(hR.1 3 s b (by omega)).mpr ⟨hs, hb, e3.1⟩, ?_⟩)
        rw [bL_orT, bL_orT, h1 b, h2 b, h3 b]
        rcases e3.2 with (q | q) | q
        · exact Or.inl (Or.inl ⟨hb, q⟩)
        · exact Or.inl (Or.inr ⟨hb, q⟩)
        · exact Or.inr ⟨hb, q⟩
  · rw [if_pos (show fl (!true) = 0 by decide)]
    rfl
def wiB (f : Nat → Int32) (s : Nat) (T w : Int32) (k : Nat) : Bool := decide (¬ w ≤ T - f (10 * s + k))
theorem fw_fails_14 (n s : Nat) (F : Nat → Nat → Int32) (V : Nat → Int32) (K : Nat → Int32 → (Nat → Nat → Int32) → (Nat → Int32) → (Nat → Nat → Int32) × (Nat → Int32)) {fi : Nat} (hs : s < 40) (hf : F 14 s = nI fi) (hfi : fi ≤ 10) : ∀ fu i, i ≤ fi → fi < i + fu → f_w_failsNow_14 n s fu i (nI (cN (wiB (F 13) s (V 22) (F 6 s)) i)) F V K = K fi (nI (cN (wiB (F 13) s (V 22) (F 6 s)) fi)) F V
  | 0, i, h1, h2 => by omega
  | fu + 1, i, h1, h2 => by
    rw [f_w_failsNow_14]
    simp only [bnd]
    rw [nI_clamp (show s < 2 ^ 31 by omega), hf, nI_clamp (show fi < 2 ^ 31 by omega)]
    by_cases hi : fi ≤ i
    · have e : i = fi := by omega
      subst e
      rw [if_pos hi]
    · rw [if_neg hi, nI_clamp (show 10 * s + i < 2 ^ 31 by omega)]
      have ih := fw_fails_14 n s F V K hs hf hfi fu (i + 1) (by omega) (by omega)
      by_cases c : F 6 s ≤ V 22 - F 13 (10 * s + i)
      · rw [if_pos c, Int32.add_zero]
        rw [cN_sf (by simp [wiB, c])] at ih
        exact ih
      · rw [if_neg c, nI_a1]
        rw [cN_st (by simp [wiB, c])] at ih
        exact ih
theorem fw_fails_102 (n s : Nat) (F : Nat → Nat → Int32) (V : Nat → Int32) (K : Nat → (Nat → Nat → Int32) → (Nat → Int32) → (Nat → Nat → Int32) × (Nat → Int32)) (hs : s < 40) : ∀ fu i g, 0 < i → i ≤ 10 → 10 < i + fu → (∀ k, k + 1 < i → g (10 * s + k) = F 13 (10 * s + k + 1)) → (∀ k, i ≤ k + 1 → k < 10 → g (10 * s + k) = F 13 (10 * s + k)) → (∀ y, y < 10 * s ∨ 10 * s + 10 ≤ y → g y = F 13 y) → ∃ g2, f_w_failsNow_102 n s fu i (va_up F 13 g) V K = K 10 (va_up F 13 g2) V ∧ (∀ k, k < 9 → g2 (10 * s + k) = F 13 (10 * s + k + 1)) ∧ (∀ y, y < 10 * s ∨ 10 * s + 10 ≤ y → g2 y = F 13 y)
  | 0, i, g, h0, h1, h2, _, _, _ => by omega
  | fu + 1, i, g, h0, h1, h2, ha, hb, hc => by
    rw [f_w_failsNow_102]
    by_cases hi : 10 ≤ i
    · have e : i = 10 := by omega
      subst e
      rw [if_pos hi]
      exact ⟨g, rfl, fun k hk => ha k (by omega), hc⟩
    · rw [if_neg hi]
      simp only [bnd]
      rw [va_up_self, va_uu, nI_clamp (show 10 * s + i < 2 ^ 31 by omega), nI_clamp (show 10 * s + i - 1 < 2 ^ 31 by omega)]
      refine fw_fails_102 n s F V K hs fu (i + 1) _ (by omega) (by omega) (by omega) (fun k hk => ?_) (fun k hk1 hk2 => ?_) (fun y hy => ?_)
      · by_cases e : k + 1 = i
        · rw [show 10 * s + k = 10 * s + i - 1 by omega, pk_us, show 10 * s + i - 1 + 1 = 10 * s + i by omega]
          exact hb i (by omega) (by omega)
        · rw [pk_un (by omega)]; exact ha k (by omega)
      · rw [pk_un (by omega)]; exact hb k (by omega) hk2
      · rw [pk_un (by omega)]; exact hc y hy
theorem cN_ge {p : Nat → Bool} {j : Nat} : ∀ {m : Nat}, (∀ k, j ≤ k → k < m → p k = true) → m - j ≤ cN p m
  | 0, _ => by omega
  | m + 1, h => by
    have ih := cN_ge (p := p) (j := j) (m := m) (fun k a b => h k a (by omega))
    by_cases c : j ≤ m
    · rw [cN_st (h m c (by omega))]; omega
    · have := cN_s p m; omega
theorem cN_le2 {p : Nat → Bool} {j : Nat} : ∀ {m : Nat}, (∀ k, k < j → p k = false) → cN p m ≤ m - j
  | 0, _ => by have := cN_le p 0; omega
  | m + 1, h => by
    have ih := cN_le2 (p := p) (j := j) (m := m) h
    have hl := cN_le p m
    by_cases c : m < j
    · rw [cN_sf (h m c)]; omega
    · rw [cN_s]; split <;> omega
theorem allowed_eq (n : Nat) (dl : Nat → Nat) {s b w nx fi T : Nat} {si : Nat → Nat → Int32} {sa : Nat → Nat → Nat → Int32} {f : Nat → Int32} {τ : Nat → Nat} (hb : b ≤ 10) (hw : w ≤ 200) (hnx : nx < 10) (hfi : fi ≤ 10) (hT : T < 536870912) (e24 : si s 24 = nI b) (e25 : si s 25 = nI w) (e21 : si s 21 = nI nx) (e22 : si s 22 = nI fi) (hτ : ∀ k, k < fi → f (10 * s + k) = nI (τ k) ∧ sa s 3 ((nx + 10 - fi + k) % 10) = nI (τ k) ∧ τ k ≤ T) (hm : ∀ j k, j ≤ k → k < fi → τ j ≤ τ k) : f_y_allowed n dl s (nI T) si sa = if b = 0 ∨ ¬ nI (cN (wiB f s (nI T) (nI w)) fi) < nI b then 0 else 1 := by
  have hcl := cN_le (wiB f s (nI T) (nI w)) fi
  have hwi : ∀ k, k < fi → (wiB f s (nI T) (nI w) k = true ↔ T - τ k < w) := by
    intro k hk
    obtain ⟨q1, _, q3⟩ := hτ k hk
    unfold wiB
    rw [q1, pk_sub q3, decide_eq_true_eq, nI_leI (by omega) (by omega)]
    omega
  unfold f_y_allowed
  simp only [bnd]
  rw [e24, e22, e21, e25, nI_clamp (show b < 2 ^ 31 by omega), nI_clamp (show nx < 2 ^ 31 by omega), nI_clamp (show (nx + 10 - b) % 10 < 2 ^ 31 by omega)]
  have hlt0 : nI (cN (wiB f s (nI T) (nI w)) fi) < nI b ↔ cN (wiB f s (nI T) (nI w)) fi < b := nI_ltI (by omega) (by omega)
  by_cases c0 : b = 0
  · rw [if_pos c0, if_pos (Or.inl c0)]
  · rw [if_neg c0]
    by_cases c1 : b ≤ fi
    · rw [if_pos ((nI_leI (by omega) (by omega)).mpr c1)]
      have hj : fi - b < fi := by omega
      obtain ⟨q1, q2, q3⟩ := hτ (fi - b) hj
      rw [show nx + 10 - fi + (fi - b) = nx + 10 - b by omega] at q2
      rw [q2]
      have hlt : nI T - nI w < nI (τ (fi - b)) ↔ wiB f s (nI T) (nI w) (fi - b) = true := by
        rw [hwi _ hj, Int32.lt_iff_toInt_lt, pk_sub_toInt (by omega) (by omega), nI_toInt (by omega)]
        omega
      by_cases c2 : wiB f s (nI T) (nI w) (fi - b) = true
      · rw [if_pos (hlt.mpr c2), if_pos]
        refine Or.inr (fun q9 => ?_)
        have q8 := hlt0.mp q9
        have h9 := cN_ge (p := wiB f s (nI T) (nI w)) (j := fi - b) (m := fi) (fun k a bb => (hwi k bb).mpr (by
          have h1 := (hwi _ hj).mp c2
          have h2 := hm (fi - b) k a bb
          have h3 := (hτ k bb).2.2
          omega))
        omega
      · rw [if_neg (fun q => c2 (hlt.mp q)), if_neg]
        rintro (q | q)
        · exact c0 q
        · have h9 := cN_le2 (p := wiB f s (nI T) (nI w)) (j := fi - b + 1) (m := fi) (fun k hk => by
            cases e : wiB f s (nI T) (nI w) k
            · rfl
            · exfalso
              have h1 := (hwi k (by omega)).mp e
              have h2 := hm k (fi - b) (by omega) hj
              exact c2 ((hwi _ hj).mpr (by omega)))
          exact q (hlt0.mpr (by omega))
    · rw [if_neg (fun q => c1 ((nI_leI (by omega) (by omega)).mp q)), if_neg]
      rintro (q | q)
      · exact c0 q
      · exact q (hlt0.mpr (by omega))
theorem fails_model (n s : Nat) (F : Nat → Nat → Int32) (V : Nat → Int32) {b w fi : Nat} (hs : s < 40) (hb : b ≤ 10) (eb : F 5 s = nI b) (e14 : F 14 s = nI fi) (hfi : fi ≤ 10) : ∃ G, f_w_failsNow n s F V = f_w_to n s (nI (if b = 0 ∨ ¬ nI (cN (wiB (F 13) s (V 22) (F 6 s)) fi) < nI b then 4 else 5)) G V ∧ Ag [10, 13, 14] F G ∧ G 10 = upd (F 10) s (F 10 s + 1) ∧ ((b = 0 ∨ ¬ nI (cN (wiB (F 13) s (V 22) (F 6 s)) fi) < nI b) → G 13 = F 13 ∧ G 14 = F 14) ∧ (¬ (b = 0 ∨ ¬ nI (cN (wiB (F 13) s (V 22) (F 6 s)) fi) < nI b) → G 14 = upd (F 14) s (nI (if fi = 10 then 10 else fi + 1)) ∧ (∀ k, k < (if fi = 10 then 9 else fi) → G 13 (10 * s + k) = F 13 (10 * s + k + (if fi = 10 then 1 else 0))) ∧ G 13 (10 * s + (if fi = 10 then 9 else fi)) = V 22 ∧ ∀ y, (y < 10 * s ∨ 10 * s + 10 ≤ y) → G 13 y = F 13 y) := by
  obtain ⟨S, T, eS, eT, e⟩ := fw_failsNow_eq n s F V
  obtain ⟨G0, eG0⟩ : ∃ f9 : Nat → Nat → Int32, f9 = va_up F 10 (upd (F 10) s (F 10 s + 1)) := ⟨_, rfl⟩
  have hA0 : Ag [10, 13, 14] F G0 := by rw [eG0]; exact Ag.up (by decide)
  have g10 : G0 10 = upd (F 10) s (F 10 s + 1) := by rw [eG0, va_up_self]
  have g13 : G0 13 = F 13 := by rw [eG0, va_up_ne _ _ (by decide)]
  have g14 : G0 14 = F 14 := by rw [eG0, va_up_ne _ _ (by decide)]
  have g6 : G0 6 = F 6 := hA0 6 (by decide)
  have g5 : G0 5 = F 5 := hA0 5 (by decide)
  have eS2 : ∀ K, S G0 V K = K fi (nI (cN (wiB (F 13) s (V 22) (F 6 s)) fi)) G0 V := by
    intro K
    rw [eS, ← g13, ← g6]
    exact fw_fails_14 n s G0 V K hs (by rw [g14]; exact e14) hfi 11 0 (by omega) (by omega)
  rw [e]
  simp only [bnd, bn2]
  rw [nI_clamp (show s < 2 ^ 31 by omega), ← eG0, eS2]
  rw [g5, eb, g14, e14, nI_clamp (show fi < 2 ^ 31 by omega)]
  by_cases c0 : b = 0
  · rw [if_pos (by rw [c0]; rfl), if_pos (Or.inl c0)]
    exact ⟨G0, rfl, hA0, g10, fun _ => ⟨g13, g14⟩, fun q => absurd (Or.inl c0) q⟩
  · rw [if_neg (nI_ne0 (by omega) (by omega))]
    by_cases c1 : nI (cN (wiB (F 13) s (V 22) (F 6 s)) fi) < nI b
    · have hno : ¬ (b = 0 ∨ ¬ nI (cN (wiB (F 13) s (V 22) (F 6 s)) fi) < nI b) := by
        rintro (q | q)
        · exact c0 q
        · exact q c1
      rw [if_pos c1, if_neg hno]
      by_cases c10 : fi = 10
      · subst c10
        rw [if_pos rfl]
        obtain ⟨g2, e2, p1, p2⟩ := fw_fails_102 n s G0 V (fun (i32 : Nat) (F36 : Nat → Nat → Int32) (V37 : Nat → Int32) => f_w_to n s 5 (va_up (va_up (va_up F36 14 (upd (F36 14) s (nI (10 - 1)))) 13 (upd (va_up F36 14 (upd (F36 14) s (nI (10 - 1))) 13) (nI (10 * s + (10 - 1))).toNatClampNeg (V37 22))) 14 (upd (va_up (va_up F36 14 (upd (F36 14) s (nI (10 - 1)))) 13 (upd (va_up F36 14 (upd (F36 14) s (nI (10 - 1))) 13) (nI (10 * s + (10 - 1))).toNatClampNeg (V37 22)) 14) s (nI (10 - 1 + 1)))) V37) hs 11 1 (G0 13) (by omega) (by omega) (by omega) (fun k hk => absurd hk (by omega)) (fun k _ _ => rfl) (fun y _ => rfl)
        rw [va_id] at e2
        rw [g13] at p1 p2
        refine ⟨va_up (va_up (va_up (va_up G0 13 g2) 14 (upd (F 14) s (nI 9))) 13 (upd g2 (10 * s + 9) (V 22))) 14 (upd (upd (F 14) s (nI 9)) s (nI 10)), ?_, ?_, ?_, fun q => absurd q hno, fun _ => ⟨?_, ?_, ?_, ?_⟩⟩
        · have e3 : ∀ K, T G0 V K = f_w_failsNow_102 n s (10 + 1) (1 : Nat) G0 V K := fun K => by rw [eT]
          rw [e3]
          refine Eq.trans e2 ?_
          rw [nI_clamp (show 10 * s + (10 - 1) < 2 ^ 31 by omega)]
          have h1 : va_up G0 13 g2 14 = F 14 := by rw [va_up_ne _ _ (by decide), g14]
          rw [h1, va_up_ne (va_up G0 13 g2) (upd (F 14) s (nI (10 - 1))) (show (13 : Nat) ≠ 14 by decide), va_up_self, va_up_ne (va_up (va_up G0 13 g2) 14 (upd (F 14) s (nI (10 - 1)))) (upd g2 (10 * s + (10 - 1)) (V 22)) (show (14 : Nat) ≠ 13 by decide), va_up_self]
          rfl
        · exact (((hA0.tr (Ag.up (by decide))).tr (Ag.up (by decide))).tr (Ag.up (by decide))).tr (Ag.up (by decide))
        · rw [va_up_ne _ _ (by decide), va_up_ne _ _ (by decide), va_up_ne _ _ (by decide), va_up_ne _ _ (by decide), g10]
        · rw [va_up_self, if_pos rfl]
          funext y
          by_cases ey : y = s
          · subst ey; rw [pk_us, pk_us]
          · rw [pk_un ey, pk_un ey, pk_un ey]
        · rw [if_pos rfl, if_pos rfl, va_up_ne _ _ (by decide), va_up_self]
          intro k hk
          rw [pk_un (by omega)]; exact p1 k hk
        · rw [if_pos rfl, va_up_ne _ _ (by decide), va_up_self, pk_us]
        · intro y hy
          rw [va_up_ne _ _ (by decide), va_up_self, pk_un (by omega)]; exact p2 y hy
      · rw [if_neg c10]
        refine ⟨va_up (va_up G0 13 (upd (F 13) (10 * s + fi) (V 22))) 14 (upd (F 14) s (nI (fi + 1))), ?_, ?_, ?_, fun q => absurd q hno, fun _ => ⟨?_, ?_, ?_, ?_⟩⟩
        · rw [nI_clamp (show 10 * s + fi < 2 ^ 31 by omega), g13, va_up_ne G0 (upd (F 13) (10 * s + fi) (V 22)) (show (14 : Nat) ≠ 13 by decide), g14]
          rfl
        · exact (hA0.tr (Ag.up (by decide))).tr (Ag.up (by decide))
        · rw [va_up_ne _ _ (by decide), va_up_ne _ _ (by decide), g10]
        · rw [va_up_self, if_neg c10]
        · rw [if_neg c10, if_neg c10, va_up_ne _ _ (by decide), va_up_self]
          intro k hk
          rw [pk_un (by omega), Nat.add_zero]
        · rw [if_neg c10, va_up_ne _ _ (by decide), va_up_self, pk_us]
        · intro y hy
          rw [va_up_ne _ _ (by decide), va_up_self, pk_un (by omega)]
    · rw [if_neg c1, if_pos (Or.inr c1)]
      exact ⟨G0, rfl, hA0, g10, fun _ => ⟨g13, g14⟩, fun q => absurd (Or.inr c1) q⟩
theorem fails_R (n : Nat) (dl : Nat → Nat) (B : Nat) {L : Nat → Int64} {I : Nat → Int32} {M : Nat → Nat → Int64} {si : Nat → Nat → Int32} {sa : Nat → Nat → Nat → Int32} {F : Nat → Nat → Int32} {V : Nat → Int32} {s : Nat} (hs : s < n) (hB : B + 1 < 536870912) (h : Rf n dl B L I M si sa F V) (h7 : F 7 s = 2) (t : Nat) (et : t = if f_y_allowed n dl s (I 0) si sa = 0 then 4 else 5) : Rf n dl (B + 1) (f_y_enter n dl s t L I M si sa).1 (f_y_enter n dl s t L I M si sa).2.1 (f_y_enter n dl s t L I M si sa).2.2.1 (f_y_enter n dl s t L I M si sa).2.2.2.1 (f_y_enter n dl s t L I M si sa).2.2.2.2 (f_w_failsNow n s F V).1 (f_w_failsNow n s F V).2 ∧ Ag [7, 8, 9, 10, 11, 12, 13, 14, 42, 43, 44] F (f_w_failsNow n s F V).1 ∧ (f_w_failsNow n s F V).1 7 = upd (F 7) s (nI t) ∧ (f_w_failsNow n s F V).1 8 = upd (F 8) s (V 22) ∧ (∀ j, j ≠ 45 → (f_w_failsNow n s F V).2 j = V j) ∧ (∀ j, j ≠ 12 → (f_y_enter n dl s t L I M si sa).2.1 j = I j) ∧ (∀ z, z ≠ s → (f_y_enter n dl s t L I M si sa).2.2.2.1 z 10 = si z 10) := by
  obtain ⟨hR, hRF, hRT⟩ := h
  have hn : n ≤ 40 := hR.1.1.1
  have i0 : I 0 = V 22 := hR.1.2.2.2.2.2.1.1.1
  obtain ⟨⟨a0, a1, a2, a3, a4, a5⟩, _, ⟨_, _, _, ⟨b, hb, eb⟩, ⟨w, hw0, hw, ew⟩⟩, _⟩ := hR.1.2.2.1 s hs
  obtain ⟨nx, fi, T, hnx, hfi, hT, e21, e22, e14, eT, τ, hτ, hm⟩ := hRT s hs
  obtain ⟨G, eG, hAG, g10, gno, gyes⟩ := fails_model n s F V (w := w) (by omega) hb eb e14 hfi
  rw [eT, ew] at eG gno gyes
  have hal := allowed_eq n dl (f := F 13) hb hw hnx hfi hT (a4.trans eb) (a5.trans ew) e21 e22 hτ hm
  rw [i0, eT, hal] at et
  have et2 : t = if b = 0 ∨ ¬ nI (cN (wiB (F 13) s (nI T) (nI w)) fi) < nI b then 4 else 5 := by
    rw [et]
    by_cases c : b = 0 ∨ ¬ nI (cN (wiB (F 13) s (nI T) (nI w)) fi) < nI b
    · rw [if_pos c, if_pos c, if_pos rfl]
    · rw [if_neg c, if_neg c, if_neg (by decide)]
  rw [← et2] at eG
  have ht : t = 4 ∨ t = 5 := by
    by_cases c : b = 0 ∨ ¬ nI (cN (wiB (F 13) s (nI T) (nI w)) fi) < nI b
    · rw [if_pos c] at et2; exact Or.inl et2
    · rw [if_neg c] at et2; exact Or.inr et2
  have hc4 : t = 4 → (b = 0 ∨ ¬ nI (cN (wiB (F 13) s (nI T) (nI w)) fi) < nI b) := by
    intro q
    refine Classical.byContradiction (fun c => ?_)
    rw [if_neg c] at et2; omega
  have hc5 : t = 5 → ¬ (b = 0 ∨ ¬ nI (cN (wiB (F 13) s (nI T) (nI w)) fi) < nI b) := by
    intro q c
    rw [if_pos c] at et2; omega
  have g14 : ∀ z, z ≠ s → G 14 z = F 14 z := by
    intro z hz
    rcases ht with q | q
    · rw [(gno (hc4 q)).2]
    · rw [(gyes (hc5 q)).1, pk_un hz]
  have hRG2 : R0 n dl B L I M si sa G V := hR.c2 hAG (fun z hz1 hz2 => ⟨by rw [g10, pk_un (by omega)], g14 z (by omega)⟩)
  obtain ⟨g, gX⟩ := enter_R n dl B s t hs (by omega) hB hRG2 (fun q => by omega) (fun q => by omega) (fun q => by
    unfold ejb at q
    rw [hAG 25 (by decide), hAG 26 (by decide), hAG 7 (by decide), h7] at q
    rw [hAG 25 (by decide)]
    refine ⟨fun _ => by omega, fun q2 => ?_⟩
    rw [q2] at q
    simp at q)
  rw [eG]
  obtain ⟨⟨x7, xA, x8, xV⟩, x9, xo, xn5, x5, xL, xI, xM⟩ := gX
  rw [hAG 7 (by decide)] at x7
  rw [hAG 8 (by decide)] at x8
  refine ⟨⟨g, ?_, ?_⟩, (hAG.sub (by decide)).tr (xA.sub (by decide)), x7, x8, xV, xI, fun z hz => (xo z 10 hz).1⟩
  · intro z hz
    rw [xA 10 (by decide), g10]
    by_cases e : z = s
    · subst e
      rw [x9, if_pos ht, pk_us, hRF z hz]
    · rw [(xo z 9 e).1, pk_un e]; exact hRF z hz
  · intro z hz
    rw [xA 13 (by decide), xA 14 (by decide), xV 22 (by decide)]
    by_cases e : z = s
    · subst e
      rcases ht with q | q
      · obtain ⟨q1, q2, q3⟩ := xn5 (by omega)
        rw [q1, q2, q3, (gno (hc4 q)).1, (gno (hc4 q)).2]
        exact hRT z hz
      · obtain ⟨q1, q2, q3⟩ := x5 q
        obtain ⟨y14, y13, yT, yo⟩ := gyes (hc5 q)
        rw [q1, q2, q3, y14, pk_us, e21, e22, nI_clamp (show nx < 2 ^ 31 by omega), nI_clamp (show nx < 2 ^ 31 by omega), i0, eT]
        have e3 : up2 sa z 3 (upd (sa z 3) nx (nI T)) z 3 = upd (sa z 3) nx (nI T) := by simp [up2]
        rw [e3]
        by_cases c10 : fi = 10
        · subst c10
          rw [if_pos rfl] at y13 yT ⊢
          rw [if_pos rfl] at y13
          rw [if_pos (show (10 : Int32) ≤ nI 10 by decide)]
          refine ⟨(nx + 1) % 10, 10, T, by omega, by omega, hT, rfl, rfl, rfl, rfl, fun k => if k = 9 then T else τ (k + 1), fun k hk => ?_, fun j k hjk hk => ?_⟩
          · dsimp only
            by_cases c9 : k = 9
            · subst c9
              rw [if_pos rfl, show ((nx + 1) % 10 + 10 - 10 + 9) % 10 = nx by omega, pk_us]
              exact ⟨yT, rfl, by omega⟩
            · rw [if_neg c9, y13 k (by omega)]
              obtain ⟨r1, r2, r3⟩ := hτ (k + 1) (by omega)
              rw [show 10 * z + k + 1 = 10 * z + (k + 1) by omega, pk_un (by omega), show ((nx + 1) % 10 + 10 - 10 + k) % 10 = (nx + 10 - 10 + (k + 1)) % 10 by omega]
              exact ⟨r1, r2, r3⟩
          · dsimp only
            by_cases c9 : k = 9
            · rw [if_pos c9]
              by_cases d9 : j = 9
              · rw [if_pos d9]; omega
              · rw [if_neg d9]; exact (hτ (j + 1) (by omega)).2.2
            · rw [if_neg c9, if_neg (by omega)]
              exact hm (j + 1) (k + 1) (by omega) (by omega)
        · rw [if_neg c10] at y13 yT ⊢
          rw [if_neg c10] at y13
          rw [if_neg (show ¬ (10 : Int32) ≤ nI fi from nI_ge (b := 10) (by omega) (by omega)), nI_a1]
          refine ⟨(nx + 1) % 10, fi + 1, T, by omega, by omega, hT, rfl, rfl, rfl, rfl, fun k => if k = fi then T else τ k, fun k hk => ?_, fun j k hjk hk => ?_⟩
          · dsimp only
            by_cases c9 : k = fi
            · subst c9
              rw [if_pos rfl, show ((nx + 1) % 10 + 10 - (k + 1) + k) % 10 = nx by omega, pk_us]
              exact ⟨yT, rfl, by omega⟩
            · rw [if_neg c9, y13 k (by omega), Nat.add_zero]
              obtain ⟨r1, r2, r3⟩ := hτ k (by omega)
              rw [pk_un (by omega), show ((nx + 1) % 10 + 10 - (fi + 1) + k) % 10 = (nx + 10 - fi + k) % 10 by omega]
              exact ⟨r1, r2, r3⟩
          · dsimp only
            by_cases c9 : k = fi
            · rw [if_pos c9]
              by_cases d9 : j = fi
              · rw [if_pos d9]; omega
              · rw [if_neg d9]; exact (hτ j (by omega)).2.2
            · rw [if_neg c9, if_neg (by omega)]
              exact hm j k hjk (by omega)
    · rw [(xo z 21 e).1, (xo z 22 e).1, (xo z 3 e).2, g14 z e]
      obtain ⟨nx2, fi2, T2, p1, p2, p3, p4, p5, p6, p7, τ2, p8, p9⟩ := hRT z hz
      refine ⟨nx2, fi2, T2, p1, p2, p3, p4, p5, p6, p7, τ2, fun k hk => ?_, p9⟩
      obtain ⟨r1, r2⟩ := p8 k hk
      refine ⟨?_, r2⟩
      rw [← r1]
      rcases ht with q | q
      · rw [(gno (hc4 q)).1]
      · refine (gyes (hc5 q)).2.2.2 _ ?_
        rcases Nat.lt_or_ge z s with c | c
        · left; omega
        · right; omega

end
section
theorem stU_not2 (n : Nat) {s : Nat} (F : Nat → Nat → Int32) (V : Nat → Int32) (hs : s < 40) (h : ¬ F 7 s = 2) : stU n s F V = stW n s F V := by
  unfold stU
  simp only [bnd]
  rw [nI_clamp (show s < 2 ^ 31 by omega), if_neg h]
theorem stU_2 (n : Nat) {s : Nat} (F : Nat → Nat → Int32) (V : Nat → Int32) (hs : s < 40) (h : F 7 s = 2) : stU n s F V = if F 11 s = 0 then (if F 12 s ≤ 0 then stW n s F V else if V 22 - F 8 s < F 12 s then stW n s F V else if F 0 s = 1 then stW n s (va_up F 11 (upd (F 11) s 1)) V else stW n s (f_w_failsNow n s F V).1 (f_w_failsNow n s F V).2) else stW n s F V := by
  unfold stU
  simp only [bnd, bn2]
  rw [nI_clamp (show s < 2 ^ 31 by omega), if_pos h, nb1]
theorem stT_1 (n : Nat) {s : Nat} (F : Nat → Nat → Int32) (V : Nat → Int32) (hs : s < 40) (h : F 7 s = 1) : stT n s F V = if V 22 - F 8 s < F 1 s then stU n s F V else stU n s (f_w_to n s 2 F V).1 (f_w_to n s 2 F V).2 := by
  unfold stT
  simp only [bnd, bn2]
  rw [nI_clamp (show s < 2 ^ 31 by omega), if_pos h, if_neg (show ¬ F 7 s = 3 by rw [h]; decide)]
theorem stT_3 (n : Nat) {s : Nat} (F : Nat → Nat → Int32) (V : Nat → Int32) (hs : s < 40) (h : F 7 s = 3) : stT n s F V = if V 22 - F 8 s < F 2 s then stU n s F V else stU n s (f_w_to n s 0 F V).1 (f_w_to n s 0 F V).2 := by
  unfold stT
  simp only [bnd, bn2]
  rw [nI_clamp (show s < 2 ^ 31 by omega), if_neg (show ¬ F 7 s = 1 by rw [h]; decide), if_pos h]
theorem stT_o (n : Nat) {s : Nat} (F : Nat → Nat → Int32) (V : Nat → Int32) (hs : s < 40) (h1 : ¬ F 7 s = 1) (h3 : ¬ F 7 s = 3) : stT n s F V = stU n s F V := by
  unfold stT
  simp only [bnd, bn2]
  rw [nI_clamp (show s < 2 ^ 31 by omega), if_neg h1, if_neg h3]
def StX (s : Nat) (I : Nat → Int32) (si : Nat → Nat → Int32) (F : Nat → Nat → Int32) (V : Nat → Int32) (x : (Nat → Int64) × (Nat → Int32) × (Nat → Nat → Int64) × (Nat → Nat → Int32) × (Nat → Nat → Nat → Int32)) (m : (Nat → Nat → Int32) × (Nat → Int32)) : Prop := Ag [7, 8, 9, 10, 11, 12, 13, 14, 42, 43, 44] F m.1 ∧ (∀ z, z ≠ s → m.1 7 z = F 7 z) ∧ (∀ z, z ≠ s → x.2.2.2.1 z 10 = si z 10) ∧ (∀ j, j ≠ 45 → m.2 j = V j) ∧ (∀ j, j ≠ 12 → x.2.1 j = I j)
theorem StX.rf {s : Nat} {L : Nat → Int64} {I : Nat → Int32} {M : Nat → Nat → Int64} {si : Nat → Nat → Int32} {sa : Nat → Nat → Nat → Int32} {F : Nat → Nat → Int32} {V : Nat → Int32} : StX s I si F V (L, I, M, si, sa) (F, V) := ⟨Ag.rf, fun _ _ => rfl, fun _ _ => rfl, fun _ _ => rfl, fun _ _ => rfl⟩
theorem step_enter (n : Nat) (dl : Nat → Nat) (B : Nat) {L : Nat → Int64} {I : Nat → Int32} {M : Nat → Nat → Int64} {si : Nat → Nat → Int32} {sa : Nat → Nat → Nat → Int32} {F : Nat → Nat → Int32} {V : Nat → Int32} {s t : Nat} (hs : s < n) (ht : t ≤ 3) (hB : B + 1 < 536870912) (h : Rf n dl B L I M si sa F V) (he : ejb F s = false) (h1 : t = 1 → ¬ F 1 s = 0) (h3 : t = 3 → ¬ F 2 s = 0) : Rf n dl (B + 1) (f_y_enter n dl s t L I M si sa).1 (f_y_enter n dl s t L I M si sa).2.1 (f_y_enter n dl s t L I M si sa).2.2.1 (f_y_enter n dl s t L I M si sa).2.2.2.1 (f_y_enter n dl s t L I M si sa).2.2.2.2 (f_w_to n s (nI t) F V).1 (f_w_to n s (nI t) F V).2 ∧ StX s I si F V (f_y_enter n dl s t L I M si sa) (f_w_to n s (nI t) F V) ∧ (f_w_to n s (nI t) F V).1 7 s = nI t ∧ (f_w_to n s (nI t) F V).1 8 s = V 22 := by
  obtain ⟨g, gX⟩ := enter_R n dl B s t hs (by omega) hB h.1 h1 h3 (fun q => by rw [he] at q; cases q)
  have gf := enter_Rf n dl B hs ht h.2 Ag.rf gX
  obtain ⟨⟨g7, gA, g8, gV⟩, g9, go, gn5, g5, gL, gI, gM⟩ := gX
  exact ⟨⟨g, gf⟩, ⟨gA.sub (by decide), fun z hz => by rw [g7, pk_un hz], fun z hz => (go z 10 hz).1, gV, gI⟩, by rw [g7, pk_us], by rw [g8, pk_us]⟩
theorem step_fail4 (n : Nat) (dl : Nat → Nat) (B : Nat) {L : Nat → Int64} {I : Nat → Int32} {M : Nat → Nat → Int64} {si : Nat → Nat → Int32} {sa : Nat → Nat → Nat → Int32} {F : Nat → Nat → Int32} {V : Nat → Int32} {s : Nat} (hs : s < n) (hB : B + 1 < 536870912) (h : Rf n dl B L I M si sa F V) (he : ejb F s = false) : Rf n dl (B + 1) (f_y_enter n dl s 4 L I M si sa).1 (f_y_enter n dl s 4 L I M si sa).2.1 (f_y_enter n dl s 4 L I M si sa).2.2.1 (f_y_enter n dl s 4 L I M si sa).2.2.2.1 (f_y_enter n dl s 4 L I M si sa).2.2.2.2 (f_w_to n s (nI 4) (va_up F 10 (upd (F 10) s (F 10 s + 1))) V).1 (f_w_to n s (nI 4) (va_up F 10 (upd (F 10) s (F 10 s + 1))) V).2 ∧ StX s I si F V (f_y_enter n dl s 4 L I M si sa) (f_w_to n s (nI 4) (va_up F 10 (upd (F 10) s (F 10 s + 1))) V) := by
  have hA : Ag [10, 13, 14] F (va_up F 10 (upd (F 10) s (F 10 s + 1))) := Ag.up (by decide)
  have hR2 := h.1.c2 hA (fun z a b => ⟨by rw [va_up_self, pk_un (by omega)], by rw [va_up_ne _ _ (by decide)]⟩)
  have he2 : ejb (va_up F 10 (upd (F 10) s (F 10 s + 1))) s = false := by
    rw [ejb_c (F := F) (by rw [hA 25 (by decide)]) (by rw [hA 26 (by decide)]) (by rw [hA 7 (by decide)])]; exact he
  obtain ⟨g, gX⟩ := enter_R n dl B s 4 hs (by omega) hB hR2 (fun q => by omega) (fun q => by omega) (fun q => by rw [he2] at q; cases q)
  obtain ⟨⟨g7, gA, g8, gV⟩, g9, go, gn5, g5, gL, gI, gM⟩ := gX
  rw [hA 7 (by decide)] at g7
  refine ⟨⟨g, ?_, ?_⟩, (hA.sub (by decide)).tr (gA.sub (by decide)), fun z hz => by rw [g7, pk_un hz], fun z hz => (go z 10 hz).1, gV, gI⟩
  · intro z hz
    rw [gA 10 (by decide), va_up_self]
    by_cases e : z = s
    · subst e
      rw [g9, if_pos (Or.inl rfl), pk_us, h.2.1 z hz]
    · rw [(go z 9 e).1, pk_un e]; exact h.2.1 z hz
  · refine h.2.2.keep (fun z hz => ?_) ((gA 13 (by decide)).trans (va_up_ne _ _ (by decide))) ((gA 14 (by decide)).trans (va_up_ne _ _ (by decide))) (gV 22 (by decide))
    obtain ⟨a, b, c⟩ := gn5 (by decide)
    rw [a]
    by_cases e : z = s
    · subst e; exact ⟨b, c, rfl⟩
    · exact ⟨(go z 21 e).1, (go z 22 e).1, rfl⟩
theorem step_ended (n : Nat) (dl : Nat → Nat) (B : Nat) {L : Nat → Int64} {I : Nat → Int32} {M : Nat → Nat → Int64} {si : Nat → Nat → Int32} {sa : Nat → Nat → Nat → Int32} {F : Nat → Nat → Int32} {V : Nat → Int32} {s : Nat} (hs : s < n) (h : Rf n dl B L I M si sa F V) (h7 : F 7 s = 2) : Rf n dl B (va_up L 0 (L 0 &&& (oL s ^^^ (-1)))) I M (up2 (up2 si s 11 1) s 10 0) sa (va_up F 11 (upd (F 11) s 1)) V ∧ StX s I si F V (va_up L 0 (L 0 &&& (oL s ^^^ (-1))), I, M, up2 (up2 si s 11 1) s 10 0, sa) (va_up F 11 (upd (F 11) s 1), V) := by
  obtain ⟨⟨⟨hn, hRR, hRA, hRE, hRS, hRI, hRH, hRG, hRD, hRZ⟩, hJ, hB⟩, hRF, hRT⟩ := h
  have hA : Ag [11] F (va_up F 11 (upd (F 11) s 1)) := Ag.up (by decide)
  have c11 : va_up F 11 (upd (F 11) s 1) 11 = upd (F 11) s 1 := va_up_self _ _ _
  have hq : ∀ z q, q ≠ 11 → q ≠ 10 → up2 (up2 si s 11 1) s 10 0 z q = si z q := fun z q a b => by rw [up2_ne b, up2_ne a]
  have hne : ∀ z q, z ≠ s → up2 (up2 si s 11 1) s 10 0 z q = si z q := fun z q c => by simp [up2, c]
  have hl : lkB (va_up F 11 (upd (F 11) s 1)) = lkB F := by
    funext a b
    unfold lkB
    rw [HS_c (hA 19 (by decide)), hA 7 (by decide)]
  refine ⟨⟨⟨⟨hn, hRR.c (hA 19 (by decide)), ?_, ?_, ?_, ?_, ?_, ?_, ?_, ?_⟩, ?_, ?_⟩, ?_, ?_⟩, hA.sub (by decide), fun z hz => by show va_up F 11 (upd (F 11) s 1) 7 z = F 7 z; rw [hA 7 (by decide)], fun z hz => hne z 10 hz, fun _ _ => rfl, fun _ _ => rfl⟩
  · intro z hz
    rw [hq z 0 (by decide) (by decide), hq z 1 (by decide) (by decide), hq z 2 (by decide) (by decide), hq z 23 (by decide) (by decide), hq z 24 (by decide) (by decide), hq z 25 (by decide) (by decide), hA 0 (by decide), hA 1 (by decide), hA 2 (by decide), hA 3 (by decide), hA 4 (by decide), hA 5 (by decide), hA 6 (by decide)]
    exact hRA z hz
  · intro z hz
    rw [hq z 6 (by decide) (by decide), hq z 7 (by decide) (by decide), hq z 8 (by decide) (by decide), hA 1 (by decide), hA 2 (by decide), hA 7 (by decide), hA 8 (by decide), hA 9 (by decide), hA 12 (by decide), c11]
    obtain ⟨e1, e2, e3, e4, e5, e6, e7, e8, e9⟩ := hRE z hz
    by_cases e : z = s
    · subst e
      have f11 : up2 (up2 si z 11 1) z 10 0 z 11 = 1 := by simp [up2]
      have f10 : up2 (up2 si z 11 1) z 10 0 z 10 = 0 := by simp [up2]
      rw [f11, f10, pk_us]
      exact ⟨e1, e2, e3, e4, ⟨rfl, Or.inr rfl⟩, (if_neg (fun q => absurd q.2 (by decide))).symm, ⟨0, by omega, rfl⟩, e8, e9⟩
    · rw [hne z 11 e, hne z 10 e, pk_un e]
      exact ⟨e1, e2, e3, e4, e5, e6, e7, e8, e9⟩
  · refine ⟨by rw [hA 7 (by decide)]; exact hRS.1, fun z => ?_⟩
    rw [va_up_self, bL_clr (by omega), hRS.2 z]
    by_cases e : z = s
    · subst e
      have f10 : up2 (up2 si z 11 1) z 10 0 z 10 = 0 := by simp [up2]
      rw [f10]
      exact ⟨fun q => absurd rfl q.2, fun q => absurd rfl q.2⟩
    · rw [hne z 10 e]; exact ⟨fun q => q.1, fun q => ⟨q, e⟩⟩
  · unfold RI; rw [hA 9 (by decide)]; exact hRI
  · unfold RH; rw [hA 42 (by decide), hA 43 (by decide), hA 44 (by decide)]; exact hRH
  · unfold RG; rw [hl, hA 7 (by decide)]; exact hRG
  · rw [va_up_ne _ _ (by decide)]
    refine ⟨fun z hz => ?_, by rw [hA 18 (by decide)]; exact hRD.2⟩
    rw [hq z 33 (by decide) (by decide), hq z 34 (by decide) (by decide), hq z 31 (by decide) (by decide), hq z 32 (by decide) (by decide), hA 15 (by decide), hA 16 (by decide), hA 17 (by decide), hA 18 (by decide)]
    exact hRD.1 z hz
  · intro z a b
    rw [hA 5 (by decide), hA 7 (by decide), hA 9 (by decide), hA 10 (by decide), c11, hA 14 (by decide), hA 15 (by decide), hA 18 (by decide), hA 25 (by decide), hA 3 (by decide), pk_un (by omega)]
    exact hRZ z a b
  · have hej : ∀ z, ejb (va_up F 11 (upd (F 11) s 1)) z = ejb F z := fun z => ejb_c (by rw [hA 25 (by decide)]) (by rw [hA 26 (by decide)]) (by rw [hA 7 (by decide)])
    unfold RJ
    rw [va_up_ne _ _ (show (5 : Nat) ≠ 0 by decide), va_up_ne _ _ (show (6 : Nat) ≠ 0 by decide), va_up_ne _ _ (show (7 : Nat) ≠ 0 by decide), hA 25 (by decide), hA 26 (by decide)]
    simp only [hej]
    exact hJ
  · unfold RB
    rw [va_up_ne _ _ (show (5 : Nat) ≠ 0 by decide), va_up_ne _ _ (show (6 : Nat) ≠ 0 by decide), va_up_ne _ _ (show (7 : Nat) ≠ 0 by decide)]
    exact hB
  · intro z hz
    rw [hq z 9 (by decide) (by decide), hA 10 (by decide)]
    exact hRF z hz
  · exact hRT.keep (fun z _ => ⟨hq z 21 (by decide) (by decide), hq z 22 (by decide) (by decide), rfl⟩) (hA 13 (by decide)) (hA 14 (by decide)) rfl
theorem span_eq (n : Nat) (dl : Nat → Nat) {s t : Nat} {si : Nat → Nat → Int32} (h : si s 6 = nI t) (ht : t ≤ 5) : f_y_span n dl s si = if t = 1 then si s 1 else if t = 2 then si s 10 else if t = 3 then si s 2 else if t = 5 then si s 23 else 0 := by
  unfold f_y_span
  simp only [bnd]
  rw [h, nI_clamp (show t < 2 ^ 31 by omega)]
  have : t = 0 ∨ t = 1 ∨ t = 2 ∨ t = 3 ∨ t = 4 ∨ t = 5 := by omega
  rcases this with e | e | e | e | e | e <;> subst e <;> rfl
theorem due_eq (n : Nat) (dl : Nat → Nat) {s v : Nat} {p : Int32} {si : Nat → Nat → Int32} (h : f_y_span n dl s si = nI v) (hv : v < 2147483648) (h0 : 0 < v) : f_y_isDue n dl s p si = if p - si s 7 < nI v then 0 else 1 := by
  unfold f_y_isDue
  simp only [bnd]
  rw [h, if_neg (nI_nle h0 hv)]
theorem due_eq2 (n : Nat) (dl : Nat → Nat) {s t : Nat} (L : Nat → Int64) (I : Nat → Int32) (M : Nat → Nat → Int64) {si : Nat → Nat → Int32} (sa : Nat → Nat → Nat → Int32) (h : si s 6 = nI t) (ht : t ≤ 5) : f_y_passDueTime n dl s L I M si sa = if t = 1 then f_y_enter n dl s 2 L I M si sa else if t = 2 then f_y_endLife n dl s L I M si sa else if t = 3 then f_y_enter n dl s 0 L I M si sa else if t = 5 then (if f_y_canWake n dl s M = 0 then f_y_enter n dl s 4 L I M si sa else f_y_enter n dl s (f_y_fss n dl s si).toNatClampNeg L I M si sa) else (L, I, M, si, sa) := by
  unfold f_y_passDueTime
  simp only [bnd, bn5]
  rw [h, nI_clamp (show t < 2 ^ 31 by omega)]
  have : t = 0 ∨ t = 1 ∨ t = 2 ∨ t = 3 ∨ t = 4 ∨ t = 5 := by omega
  rcases this with e | e | e | e | e | e <;> subst e <;> rfl

end
section
theorem step_R (n : Nat) (dl : Nat → Nat) (B : Nat) {L : Nat → Int64} {I : Nat → Int32} {M : Nat → Nat → Int64} {si : Nat → Nat → Int32} {sa : Nat → Nat → Nat → Int32} {F : Nat → Nat → Int32} {V : Nat → Int32} {s : Nat} (x10 : Int64) (hs : s < n) (hB : B + 1 < 536870912) (h : Rf n dl B L I M si sa F V) (he : ejb F s = false) (hx : bL x10 s = true ↔ F 7 s = 1 ∨ F 7 s = 3 ∨ F 7 s = 5 ∨ ¬ si s 10 = 0) (x : (Nat → Int64) × (Nat → Int32) × (Nat → Nat → Int64) × (Nat → Nat → Int32) × (Nat → Nat → Nat → Int32)) (ex : x = if f_y_holds n dl x10 s = 0 then (L, I, M, si, sa) else if f_y_isDue n dl s (I 0) si = 0 then (L, I, M, si, sa) else f_y_passDueTime n dl s L I M si sa) : Rf n dl (B + 1) x.1 x.2.1 x.2.2.1 x.2.2.2.1 x.2.2.2.2 (f_w_step n s F V).1 (f_w_step n s F V).2 ∧ StX s I si F V x (f_w_step n s F V) := by
  have hn : n ≤ 40 := h.1.1.1.1
  have h40 : s < 40 := by omega
  have h00 := h.1.1
  have i0 : I 0 = V 22 := h00.2.2.2.2.2.1.1.1
  obtain ⟨⟨a0, a1, a2, a3, a4, a5⟩, _, ⟨⟨p, hp, ep⟩, ⟨p2, hp2, ep2⟩, ⟨d, hd0, hd, ed⟩, _⟩, _⟩ := h00.2.2.1 s hs
  obtain ⟨s6, ⟨t0, ht0, e7⟩, s7, s8, ⟨s11, s11b⟩, s10, ⟨v, hv, ev⟩, s1, s3⟩ := h00.2.2.2.1 s hs
  rw [fw_step_eq]
  have same : stT n s F V = (F, V) → x = (L, I, M, si, sa) → Rf n dl (B + 1) x.1 x.2.1 x.2.2.1 x.2.2.2.1 x.2.2.2.2 (stT n s F V).1 (stT n s F V).2 ∧ StX s I si F V x (stT n s F V) := by
    intro q1 q2
    rw [q1, q2]
    exact ⟨h.mono (by omega) hB, StX.rf⟩
  rw [fy_holds n dl x10 (show s < 64 by omega)] at ex
  have hcase : t0 = 1 ∨ t0 = 3 ∨ t0 = 5 ∨ t0 = 2 ∨ (t0 = 0 ∨ t0 = 4) := by omega
  rcases hcase with c | c | c | c | c
  · -- STARTING
    subst c
    have e71 : F 7 s = 1 := e7
    rw [if_pos (hx.mpr (Or.inl e71)), if_neg (by decide)] at ex
    have hsp : f_y_span n dl s si = nI p := by rw [span_eq n dl (s6.trans e7) (by omega), if_pos rfl, a1, ep]
    have hp0 : 0 < p := by
      rcases Nat.eq_zero_or_pos p with c | c
      · subst c; exact absurd ep (s1 e71)
      · exact c
    rw [due_eq n dl hsp (by omega) hp0, i0, s7 (by rw [e71]; decide), ← ep] at ex
    rw [stT_1 n F V h40 e71] at same ⊢
    by_cases cd : V 22 - F 8 s < F 1 s
    · rw [if_pos cd] at same ⊢
      rw [if_pos cd, if_pos rfl] at ex
      refine same ?_ ex
      rw [stU_not2 n F V h40 (by rw [e71]; decide), stW_not5 n F V h40 (by rw [e71]; decide)]
    · rw [if_neg cd]
      rw [if_neg cd, if_neg (by decide), due_eq2 n dl L I M sa (s6.trans e7) (by omega), if_pos rfl] at ex
      rw [ex]
      obtain ⟨g1, g2, g3, g4⟩ := step_enter n dl B hs (t := 2) (by omega) hB h he (fun q => by omega) (fun q => by omega)
      have e9 : stU n s (f_w_to n s 2 F V).1 (f_w_to n s 2 F V).2 = f_w_to n s (nI 2) F V := by
        show stU n s (f_w_to n s (nI 2) F V).1 (f_w_to n s (nI 2) F V).2 = _
        rw [stU_2 n _ _ h40 g3]
        have w5 : stW n s (f_w_to n s (nI 2) F V).1 (f_w_to n s (nI 2) F V).2 = f_w_to n s (nI 2) F V := by rw [stW_not5 n _ _ h40 (by rw [g3]; decide)]
        have hre := (g1.1.1.2.2.2.1 s hs)
        have z11 : (f_w_to n s (nI 2) F V).1 11 s = 0 := by
          have h9 := hre.2.2.2.2.2.1
          by_cases c0 : (f_w_to n s (nI 2) F V).1 11 s = 0
          · exact c0
          · rcases hre.2.2.2.2.1.2 with q | q
            · exact q
            · exfalso
              have k := h.1.1.2.2.2.2.2.1.2.2.2
              obtain ⟨cc, hcc, _, c45, _, hst⟩ := k
              obtain ⟨kk, hkk, ek⟩ := hst s hs
              obtain ⟨F2, eF, _, _, _, g11, _⟩ := fw_to n s 2 F V h40 (by omega) c45 (by have := h.1.1.1.2; omega) ek (by have := h.1.1.1.2; omega)
              rw [eF] at c0
              exact c0 (by show F2 11 s = 0; rw [g11, pk_us])
        rw [if_pos z11]
        by_cases c12 : (f_w_to n s (nI 2) F V).1 12 s ≤ 0
        · rw [if_pos c12]; exact w5
        · rw [if_neg c12, g4, g2.2.2.2.1 22 (by decide), Int32.sub_self, if_pos]
          · exact w5
          · have h9 := hre.2.2.2.2.2.1
            rw [if_pos ⟨g3, z11⟩] at h9
            obtain ⟨vv, hvv, evv⟩ := hre.2.2.2.2.2.2.1
            rw [h9] at evv
            rw [evv] at c12 ⊢
            have : 0 < vv := by
              rcases Nat.eq_zero_or_pos vv with c | c
              · subst c; exact absurd (by decide) c12
              · exact c
            exact nI_lt (a := 0) this (by omega)
      rw [e9]
      exact ⟨g1, g2⟩
  · -- STOPPING
    subst c
    have e73 : F 7 s = 3 := e7
    rw [if_pos (hx.mpr (Or.inr (Or.inl e73))), if_neg (by decide)] at ex
    have hsp : f_y_span n dl s si = nI p2 := by rw [span_eq n dl (s6.trans e7) (by omega), if_neg (by decide), if_neg (by decide), if_pos rfl, a2, ep2]
    have hp0 : 0 < p2 := by
      rcases Nat.eq_zero_or_pos p2 with c | c
      · subst c; exact absurd ep2 (s3 e73)
      · exact c
    rw [due_eq n dl hsp (by omega) hp0, i0, s7 (by rw [e73]; decide), ← ep2] at ex
    rw [stT_3 n F V h40 e73] at same ⊢
    by_cases cd : V 22 - F 8 s < F 2 s
    · rw [if_pos cd] at same ⊢
      rw [if_pos cd, if_pos rfl] at ex
      refine same ?_ ex
      rw [stU_not2 n F V h40 (by rw [e73]; decide), stW_not5 n F V h40 (by rw [e73]; decide)]
    · rw [if_neg cd]
      rw [if_neg cd, if_neg (by decide), due_eq2 n dl L I M sa (s6.trans e7) (by omega), if_neg (by decide), if_neg (by decide), if_pos rfl] at ex
      rw [ex]
      obtain ⟨g1, g2, g3, g4⟩ := step_enter n dl B hs (t := 0) (by omega) hB h he (fun q => by omega) (fun q => by omega)
      have e9 : stU n s (f_w_to n s 0 F V).1 (f_w_to n s 0 F V).2 = f_w_to n s (nI 0) F V := by
        show stU n s (f_w_to n s (nI 0) F V).1 (f_w_to n s (nI 0) F V).2 = _
        rw [stU_not2 n _ _ h40 (by rw [g3]; decide), stW_not5 n _ _ h40 (by rw [g3]; decide)]
      rw [e9]
      exact ⟨g1, g2⟩
  · -- WAITING
    subst c
    have e75 : F 7 s = 5 := e7
    rw [if_pos (hx.mpr (Or.inr (Or.inr (Or.inl e75)))), if_neg (by decide)] at ex
    have hsp : f_y_span n dl s si = nI d := by rw [span_eq n dl (s6.trans e7) (by omega), if_neg (by decide), if_neg (by decide), if_neg (by decide), if_pos rfl, a3, ed]
    rw [due_eq n dl hsp (by omega) hd0, i0, s7 (by rw [e75]; decide), ← ed] at ex
    rw [stT_o n F V h40 (by rw [e75]; decide) (by rw [e75]; decide), stU_not2 n F V h40 (by rw [e75]; decide)] at same ⊢
    by_cases cd : V 22 - F 8 s < F 4 s
    · rw [if_pos cd, if_pos rfl] at ex
      exact same (stW_early n F V h40 cd) ex
    · rw [if_neg cd, if_neg (by decide), due_eq2 n dl L I M sa (s6.trans e7) (by omega), if_neg (by decide), if_neg (by decide), if_neg (by decide), if_pos rfl, wake_eq n dl hn h00.2.1 (h00.up (t := 1) (by omega) rfl) (h00.up (t := 2) (by omega) rfl) (h00.up (t := 3) (by omega) rfl) hs] at ex
      rw [stW_wake n F V h40 hn e75 cd]
      by_cases cf : f_w_isFree n s F = 0
      · rw [if_pos cf] at ex ⊢
        rw [ex]
        exact step_fail4 n dl B hs hB h he
      · rw [if_neg cf] at ex ⊢
        have ef : (f_y_fss n dl s si).toNatClampNeg = (if F 1 s = 0 then 2 else 1) := by
          have e5 : f_y_fss n dl s si = if si s 1 = 0 then 2 else 1 := rfl
          rw [e5, a1]
          by_cases c : F 1 s = 0
          · rw [if_pos c, if_pos c]; decide
          · rw [if_neg c, if_neg c]; decide
        rw [ef] at ex
        by_cases c1 : F 1 s = 0
        · rw [if_pos c1] at ex ⊢
          rw [ex]
          obtain ⟨g1, g2, _⟩ := step_enter n dl B hs (t := 2) (by omega) hB h he (fun q => by omega) (fun q => by omega)
          exact ⟨g1, g2⟩
        · rw [if_neg c1] at ex ⊢
          rw [ex]
          obtain ⟨g1, g2, _⟩ := step_enter n dl B hs (t := 1) (by omega) hB h he (fun _ => c1) (fun q => by omega)
          exact ⟨g1, g2⟩
  · -- UP
    subst c
    have e72 : F 7 s = 2 := e7
    rw [stT_o n F V h40 (by rw [e72]; decide) (by rw [e72]; decide), stU_2 n F V h40 e72] at same ⊢
    have w5 : stW n s F V = (F, V) := stW_not5 n F V h40 (by rw [e72]; decide)
    rw [w5] at same ⊢
    have hbit : bL x10 s = true ↔ ¬ si s 10 = 0 := by
      rw [hx, e72]
      exact ⟨fun q => by rcases q with q | q | q | q <;> first | exact absurd q (by decide) | exact q, fun q => Or.inr (Or.inr (Or.inr q))⟩
    by_cases c11 : F 11 s = 0
    · rw [if_pos ⟨e72, c11⟩] at s10
      rw [if_pos c11] at same ⊢
      by_cases c12 : F 12 s ≤ 0
      · rw [if_pos c12] at same ⊢
        refine same rfl ?_
        have hz : v = 0 := by
          rw [← s10, ev] at c12
          rcases Nat.eq_zero_or_pos v with c | c
          · exact c
          · exact absurd c12 (nI_nle c (by omega))
        rw [if_neg (fun q => (hbit.mp q) (by rw [ev, hz]; rfl)), if_pos rfl] at ex
        exact ex
      · rw [if_neg c12] at same ⊢
        have hv0 : 0 < v := by
          rw [← s10, ev] at c12
          rcases Nat.eq_zero_or_pos v with c | c
          · subst c; exact absurd (by decide) c12
          · exact c
        have hsp : f_y_span n dl s si = nI v := by rw [span_eq n dl (s6.trans e7) (by omega), if_neg (by decide), if_pos rfl, ev]
        rw [if_pos (hbit.mpr (by rw [ev]; exact nI_ne0 hv0 (by omega))), if_neg (by decide), due_eq n dl hsp (by omega) hv0, i0, s7 (by rw [e72]; decide), ← ev, s10] at ex
        by_cases cd : V 22 - F 8 s < F 12 s
        · rw [if_pos cd] at same ⊢
          rw [if_pos cd, if_pos rfl] at ex
          exact same rfl ex
        · rw [if_neg cd]
          rw [if_neg cd, if_neg (by decide), due_eq2 n dl L I M sa (s6.trans e7) (by omega), if_neg (by decide), if_pos rfl] at ex
          have eL : f_y_endLife n dl s L I M si sa = if si s 0 = 1 then (va_up L 0 (L 0 &&& (oL s ^^^ (-1))), I, M, up2 (up2 si s 11 1) s 10 0, sa) else if f_y_allowed n dl s (I 0) si sa = 0 then f_y_enter n dl s 4 L I M si sa else f_y_enter n dl s 5 L I M si sa := rfl
          rw [eL, a0] at ex
          by_cases ck : F 0 s = 1
          · rw [if_pos ck] at ex ⊢
            rw [ex]
            obtain ⟨g1, g2⟩ := step_ended n dl B hs h e72
            have g7 : va_up F 11 (upd (F 11) s 1) 7 = F 7 := va_up_ne _ _ (by decide)
            rw [stW_not5 n _ V h40 (by rw [g7, e72]; decide)]
            exact ⟨g1.mono (by omega) hB, g2⟩
          · rw [if_neg ck] at ex ⊢
            obtain ⟨t, et⟩ : ∃ t9 : Nat, t9 = if f_y_allowed n dl s (I 0) si sa = 0 then 4 else 5 := ⟨_, rfl⟩
            have ex2 : x = f_y_enter n dl s t L I M si sa := by
              rw [ex, et]
              by_cases c : f_y_allowed n dl s (I 0) si sa = 0
              · rw [if_pos c, if_pos c]
              · rw [if_neg c, if_neg c]
            obtain ⟨g1, g2, g3, g4, g5, g6, g8⟩ := fails_R n dl B hs hB h e72 t et
            have ew : stW n s (f_w_failsNow n s F V).1 (f_w_failsNow n s F V).2 = f_w_failsNow n s F V := by
              by_cases c : f_y_allowed n dl s (I 0) si sa = 0
              · rw [if_pos c] at et
                rw [stW_not5 n _ _ h40 (by rw [g3, pk_us, et]; decide)]
              · rw [if_neg c] at et
                rw [stW_early n _ _ h40]
                rw [g4, pk_us, g5 22 (by decide), g2 4 (by decide), Int32.sub_self, ed]
                exact nI_lt (a := 0) hd0 (by omega)
            rw [ew, ex2]
            exact ⟨g1, g2, fun z hz => by rw [g3, pk_un hz], g8, g5, g6⟩
    · rw [if_neg c11] at same ⊢
      rw [if_neg (fun q => c11 q.2)] at s10
      rw [if_neg (fun q => (hbit.mp q) s10), if_pos rfl] at ex
      exact same rfl ex
  · -- DOWN, FAILED
    have hn7 : ¬ F 7 s = 1 ∧ ¬ F 7 s = 3 ∧ ¬ F 7 s = 5 ∧ ¬ F 7 s = 2 := by
      rw [e7]
      rcases c with c | c <;> subst c <;> decide
    rw [stT_o n F V h40 hn7.1 hn7.2.1, stU_not2 n F V h40 hn7.2.2.2, stW_not5 n F V h40 hn7.2.2.1] at same ⊢
    rw [if_neg (fun q => hn7.2.2.2 q.1)] at s10
    have hnb : ¬ bL x10 s = true := by
      intro q
      rcases hx.mp q with q | q | q | q
      · exact hn7.1 q
      · exact hn7.2.1 q
      · exact hn7.2.2.1 q
      · exact q s10
    rw [if_neg hnb, if_pos rfl] at ex
    exact same rfl ex

end
section
theorem oneTick_eq (n : Nat) (F : Nat → Nat → Int32) (V : Nat → Int32) : ∃ S : (Nat → Nat → Int32) → (Nat → Int32) → (Nat → Nat → (Nat → Nat → Int32) → (Nat → Int32) → (Nat → Nat → Int32) × (Nat → Int32)) → (Nat → Nat → Int32) × (Nat → Int32), S = (fun F V K => f_w_oneTick_33 n 1682 (0 : Nat) (0 : Nat) F V K) ∧ f_w_oneTick n F V = bnd (V 22) (fun (x1 : Int32) => bnd (x1 + (1 : Int32)) (fun (x2 : Int32) => bnd (va_up V 22 x2) (fun (V3 : Nat → Int32) => f_w_oneTick_12 n  (n + 1) (0 : Nat) F V3 (fun (i4 : Nat) (F8 : Nat → Nat → Int32) (V9 : Nat → Int32) => S F8 V9 (fun (i11 : Nat) (s17 : Nat) (F15 : Nat → Nat → Int32) (V16 : Nat → Int32) => f_w_oneTick_101 n  (n + 1) (0 : Nat) F15 V16 (fun (i19 : Nat) (F23 : Nat → Nat → Int32) (V24 : Nat → Int32) => bn2 (f_w_begin n  F23 V24) (fun (F27 : Nat → Nat → Int32) (V28 : Nat → Int32) => (F27, V28)))))))) := ⟨fun F V K => f_w_oneTick_33 n 1682 (0 : Nat) (0 : Nat) F V K, rfl, rfl⟩
theorem steps_sim (n : Nat) (dl : Nat → Nat) (x10 : Int64) (KC : Nat → (Nat → Int64) → (Nat → Int32) → (Nat → Nat → Int64) → (Nat → Nat → Int32) → (Nat → Nat → Nat → Int32) → (Nat → Int64) × (Nat → Int32) × (Nat → Nat → Int64) × (Nat → Nat → Int32) × (Nat → Nat → Nat → Int32)) (KM : Nat → (Nat → Nat → Int32) → (Nat → Int32) → (Nat → Nat → Int32) × (Nat → Int32)) : ∀ fuC fuM i B (L : Nat → Int64) (I : Nat → Int32) (M : Nat → Nat → Int64) (si : Nat → Nat → Int32) (sa : Nat → Nat → Nat → Int32) (F : Nat → Nat → Int32) (V : Nat → Int32), i ≤ n → n < i + fuC → n < i + fuM → B + (n - i) < 536870912 → Rf n dl B L I M si sa F V → (∀ z, i ≤ z → z < n → ejb F z = false) → (∀ z, i ≤ z → z < n → (bL x10 z = true ↔ F 7 z = 1 ∨ F 7 z = 3 ∨ F 7 z = 5 ∨ ¬ si z 10 = 0)) →
    ∃ (x : (Nat → Int64) × (Nat → Int32) × (Nat → Nat → Int64) × (Nat → Nat → Int32) × (Nat → Nat → Nat → Int32)) (m : (Nat → Nat → Int32) × (Nat → Int32)), f_y_passTick_44 n dl x10 fuC i L I M si sa KC = KC n x.1 x.2.1 x.2.2.1 x.2.2.2.1 x.2.2.2.2 ∧ f_w_oneTick_12 n fuM i F V KM = KM n m.1 m.2 ∧ Rf n dl (B + (n - i)) x.1 x.2.1 x.2.2.1 x.2.2.2.1 x.2.2.2.2 m.1 m.2
  | 0, fuM, i, B, L, I, M, si, sa, F, V, h1, h2, _, _, _, _, _ => by omega
  | fuC + 1, fuM0, i, B, L, I, M, si, sa, F, V, h1, h2, h3, hB, h, hj, hx => by
    obtain ⟨fuM, rfl⟩ : ∃ q, fuM0 = q + 1 := ⟨fuM0 - 1, by omega⟩
    rw [f_y_passTick_44, f_w_oneTick_12]
    by_cases hi : n ≤ i
    · have e : i = n := by omega
      subst e
      rw [if_pos hi, if_pos hi]
      exact ⟨(L, I, M, si, sa), (F, V), rfl, rfl, h.mono (by omega) hB⟩
    · rw [if_neg hi, if_neg hi]
      simp only [bnd, bn2, bn5]
      obtain ⟨y, ey⟩ : ∃ y9, y9 = if f_y_holds n dl x10 i = 0 then (L, I, M, si, sa) else if f_y_isDue n dl i (I 0) si = 0 then (L, I, M, si, sa) else f_y_passDueTime n dl i L I M si sa := ⟨_, rfl⟩
      have ex2 : (if f_y_holds n dl x10 i = (0 : Int32) then f_y_passTick_44 n dl x10 fuC (i + 1) L I M si sa KC else if f_y_isDue n dl i (I 0) si = (0 : Int32) then f_y_passTick_44 n dl x10 fuC (i + 1) L I M si sa KC else f_y_passTick_44 n dl x10 fuC (i + 1) (f_y_passDueTime n dl i L I M si sa).1 (f_y_passDueTime n dl i L I M si sa).2.1 (f_y_passDueTime n dl i L I M si sa).2.2.1 (f_y_passDueTime n dl i L I M si sa).2.2.2.1 (f_y_passDueTime n dl i L I M si sa).2.2.2.2 KC) = f_y_passTick_44 n dl x10 fuC (i + 1) y.1 y.2.1 y.2.2.1 y.2.2.2.1 y.2.2.2.2 KC := by
        rw [ey]
        by_cases c1 : f_y_holds n dl x10 i = 0
        · rw [if_pos c1, if_pos c1]
        · rw [if_neg c1, if_neg c1]
          by_cases c2 : f_y_isDue n dl i (I 0) si = 0
          · rw [if_pos c2, if_pos c2]
          · rw [if_neg c2, if_neg c2]
      rw [ex2]
      obtain ⟨g1, g2⟩ := step_R n dl B x10 (show i < n by omega) (by omega) h (hj i (by omega) (by omega)) (hx i (by omega) (by omega)) y ey
      obtain ⟨gA, g7, g10, gV, gI⟩ := g2
      obtain ⟨x, m, r1, r2, r3⟩ := steps_sim n dl x10 KC KM fuC fuM (i + 1) (B + 1) y.1 y.2.1 y.2.2.1 y.2.2.2.1 y.2.2.2.2 (f_w_step n i F V).1 (f_w_step n i F V).2 (by omega) (by omega) (by omega) (by omega) g1 (fun z a b => by
        rw [ejb_c (F := F) (by rw [gA 25 (by decide)]) (by rw [gA 26 (by decide)]) (g7 z (by omega))]
        exact hj z (by omega) b) (fun z a b => by
        rw [g7 z (by omega), g10 z (by omega)]
        exact hx z (by omega) b)
      exact ⟨x, m, r1, r2, r3.mono (by omega) hB⟩
theorem p44_0 (n : Nat) (dl : Nat → Nat) (L : Nat → Int64) (I : Nat → Int32) (M : Nat → Nat → Int64) (si : Nat → Nat → Int32) (sa : Nat → Nat → Nat → Int32) (KC : Nat → (Nat → Int64) → (Nat → Int32) → (Nat → Nat → Int64) → (Nat → Nat → Int32) → (Nat → Nat → Nat → Int32) → (Nat → Int64) × (Nat → Int32) × (Nat → Nat → Int64) × (Nat → Nat → Int32) × (Nat → Nat → Nat → Int32)) (hn : n ≤ 40) : ∀ fu i, i ≤ n → n < i + fu → f_y_passTick_44 n dl 0 fu i L I M si sa KC = KC n L I M si sa
  | 0, i, h1, h2 => by omega
  | fu + 1, i, h1, h2 => by
    rw [f_y_passTick_44]
    by_cases hi : n ≤ i
    · have e : i = n := by omega
      subst e
      rw [if_pos hi]
    · rw [if_neg hi]
      simp only [bnd]
      rw [fy_holds n dl 0 (show i < 64 by omega), bL_0, if_neg (show ¬ false = true by decide), if_pos rfl]
      exact p44_0 n dl L I M si sa KC hn fu (i + 1) (by omega) (by omega)
theorem rl_0 (n : Nat) (dl : Nat → Nat) (sa : Nat → Nat → Nat → Int32) (L : Nat → Int64) (I : Nat → Int32) (si : Nat → Nat → Int32) (KC : Nat → (Nat → Int64) → (Nat → Int32) → (Nat → Nat → Int32) → (Nat → Int64) × (Nat → Int32) × (Nat → Nat → Int32)) (hn : n ≤ 40) : ∀ fu i, i ≤ n → n < i + fu → f_y_readLetters_21 n dl sa 0 fu i L I si KC = KC n L I si
  | 0, i, h1, h2 => by omega
  | fu + 1, i, h1, h2 => by
    rw [f_y_readLetters_21]
    by_cases hi : n ≤ i
    · have e : i = n := by omega
      subst e
      rw [if_pos hi]
    · rw [if_neg hi]
      simp only [bnd]
      rw [fy_holds n dl 0 (show i < 64 by omega), bL_0, if_neg (show ¬ false = true by decide), if_pos rfl]
      exact rl_0 n dl sa L I si KC hn fu (i + 1) (by omega) (by omega)
section
variable {n : Nat} {dl : Nat → Nat} {B : Nat} {L : Nat → Int64} {I : Nat → Int32} {M : Nat → Nat → Int64} {si : Nat → Nat → Int32} {sa : Nat → Nat → Nat → Int32} {F : Nat → Nat → Int32} {V : Nat → Int32}
theorem Rf.inc (h : Rf n dl B L I M si sa F V) (hB : B + 1 < 536870912) : Rf n dl (B + 1) L (va_up I 0 (I 0 + 1)) M si sa F (va_up V 22 (V 22 + 1)) := by
  obtain ⟨⟨⟨⟨hn, hb⟩, hRR, hRA, hRE, hRS, hRI, hRH, hRG, hRD, hRZ⟩, hJ, hBB⟩, hRF, hRT⟩ := h
  obtain ⟨⟨i0, T, hT, eT⟩, ⟨i1, i2, i3⟩, ⟨i7, r, u, hu, hr, er⟩, c, hc, c12, c45, ⟨d, hd, d4⟩, hst⟩ := hRI
  have k22 : va_up V 22 (V 22 + 1) 22 = nI (T + 1) := by rw [va_up_self, eT, nI_1]
  refine ⟨⟨⟨⟨hn, hB⟩, hRR, hRA, hRE, hRS, ?_, hRH, ?_, hRD, hRZ⟩, hJ, hBB⟩, hRF, ?_⟩
  · unfold RI
    rw [va_up_ne I _ (show (1 : Nat) ≠ 0 by decide), va_up_ne I _ (show (2 : Nat) ≠ 0 by decide), va_up_ne I _ (show (3 : Nat) ≠ 0 by decide), va_up_ne I _ (show (7 : Nat) ≠ 0 by decide), va_up_ne I _ (show (12 : Nat) ≠ 0 by decide), va_up_ne I _ (show (4 : Nat) ≠ 0 by decide), va_up_self, va_up_self, va_up_ne V _ (show (23 : Nat) ≠ 22 by decide), va_up_ne V _ (show (24 : Nat) ≠ 22 by decide), va_up_ne V _ (show (33 : Nat) ≠ 22 by decide), va_up_ne V _ (show (20 : Nat) ≠ 22 by decide), va_up_ne V _ (show (45 : Nat) ≠ 22 by decide)]
    exact ⟨⟨by rw [i0], T + 1, by omega, by rw [eT, nI_1]⟩, ⟨i1, i2, i3⟩, ⟨i7, r, u, by omega, hr, er⟩, c, by omega, c12, c45, ⟨d, hd, d4⟩, hst⟩
  · unfold RG
    rw [va_up_ne I _ (show (12 : Nat) ≠ 0 by decide), va_up_ne I _ (show (4 : Nat) ≠ 0 by decide)]
    exact hRG
  · intro s hs
    obtain ⟨nx, fi, T2, p1, p2, p3, p4, p5, p6, p7, τ, p8, p9⟩ := hRT s hs
    have e : T2 = T := (nI_eq (by omega) (by omega)).mp (p7.symm.trans eT)
    exact ⟨nx, fi, T + 1, p1, p2, by omega, p4, p5, p6, k22, τ, fun k hk => ⟨(p8 k hk).1, (p8 k hk).2.1, by have := (p8 k hk).2.2; omega⟩, p9⟩
theorem Rf.settle (h : Rf n dl B L I M si sa F V) (hno : ∀ s, s < n → LKp n F s = false) : Rf n dl B L (va_up I 4 (nI (I 12).toNatClampNeg)) M si sa F V := by
  obtain ⟨⟨⟨⟨hn, hb⟩, hRR, hRA, hRE, hRS, hRI, hRH, hRG, hRD, hRZ⟩, hJ, hBB⟩, hRF, hRT⟩ := h
  obtain ⟨h1, ⟨i1, i2, i3⟩, ⟨i7, hr⟩, c, hc, c12, c45, ⟨d, hd, d4⟩, hst⟩ := hRI
  refine ⟨⟨⟨⟨hn, hb⟩, hRR, hRA, hRE, hRS, ?_, hRH, ?_, hRD, hRZ⟩, hJ, hBB⟩, hRF, hRT⟩
  · unfold RI
    rw [va_up_ne I _ (show (0 : Nat) ≠ 4 by decide), va_up_ne I _ (show (1 : Nat) ≠ 4 by decide), va_up_ne I _ (show (2 : Nat) ≠ 4 by decide), va_up_ne I _ (show (3 : Nat) ≠ 4 by decide), va_up_ne I _ (show (7 : Nat) ≠ 4 by decide), va_up_ne I _ (show (12 : Nat) ≠ 4 by decide), va_up_self, c12, nI_clamp (show c < 2 ^ 31 by omega)]
    exact ⟨h1, ⟨i1, i2, i3⟩, ⟨i7, hr⟩, c, hc, rfl, c45, ⟨c, by omega, rfl⟩, hst⟩
  · intro _ s hs q
    have h9 := hno s hs
    unfold LKp at h9
    rcases q with q | q
    · simpa [q] using h9
    · simpa [q] using h9
end
theorem going_R (n : Nat) (dl : Nat → Nat) (B : Nat) {L : Nat → Int64} {I : Nat → Int32} {M : Nat → Nat → Int64} {si : Nat → Nat → Int32} {sa : Nat → Nat → Nat → Int32} {F : Nat → Nat → Int32} {V : Nat → Int32} (KM : Nat → Nat → (Nat → Nat → Int32) → (Nat → Int32) → (Nat → Nat → Int32) × (Nat → Int32)) (hB : B + 40 < 536870912) (h : Rf n dl B L I M si sa F V) (fuM : Nat) (hfu : 1681 ≤ fuM) : ∃ (im sm : Nat) (m : (Nat → Nat → Int32) × (Nat → Int32)), f_w_oneTick_33 n fuM 0 0 F V KM = KM im sm m.1 m.2 ∧ Rf n dl (B + 40) (f_y_stopTheLacking n dl L I M si sa).1 (f_y_stopTheLacking n dl L I M si sa).2.1 (f_y_stopTheLacking n dl L I M si sa).2.2.1 (f_y_stopTheLacking n dl L I M si sa).2.2.2.1 (f_y_stopTheLacking n dl L I M si sa).2.2.2.2 m.1 m.2 := by
  have hn : n ≤ 40 := h.1.1.1.1
  obtain ⟨c, hc, c12, c45, ⟨d, hd, d4⟩, hst⟩ := h.1.1.2.2.2.2.2.1.2.2.2
  have e0 : f_y_stopTheLacking n dl L I M si sa = if nI (I 12).toNatClampNeg = I 4 then (L, I, M, si, sa) else f_y_stopTheLacking_17 n dl (40 + 1) 0 L I M si sa (fun (i4 : Nat) (L8 : Nat → Int64) (I9 : Nat → Int32) (M10 : Nat → Nat → Int64) (si11 : Nat → Nat → Int32) (sa12 : Nat → Nat → Nat → Int32) => bnd ((I9 12).toNatClampNeg) (fun (z14 : Nat) => bnd (va_up I9 4 (nI z14)) (fun (I15 : Nat → Int32) => (L8, I15, M10, si11, sa12)))) := rfl
  have hle : awN n F ≤ n := cN_le _ n
  rw [e0]
  by_cases cc : nI (I 12).toNatClampNeg = I 4
  · rw [if_pos cc]
    have hg := h.1.1.2.2.2.2.2.2.2.1 (by rw [← cc, c12, nI_clamp (show c < 2 ^ 31 by omega)])
    have hno : ∀ s, s < n → LKp n F s = false := by
      intro s hs
      unfold LKp
      by_cases q : F 7 s = 1 ∨ F 7 s = 2
      · rw [hg s hs q, Bool.and_false]
      · simp only [not_or] at q
        simp [q.1, q.2]
    obtain ⟨d2, rfl⟩ : ∃ d2, fuM = d2 + n := ⟨fuM - n, by omega⟩
    have e := fw_scan n F V KM hn n d2 0 0 (by omega) (fun z _ hz => hno z (by omega))
    rw [Nat.zero_add, fw_scan_end] at e
    exact ⟨0, n, (F, V), e, h.mono (by omega) hB⟩
  · rw [if_neg cc]
    have hmul : (awN n F + 1) * (n + 1) ≤ 41 * 41 := Nat.mul_le_mul (by omega) (by omega)
    obtain ⟨ic, x, im, sm, m, r1, r2, r3, r4, r5⟩ := going_sim n dl (fun (i4 : Nat) (L8 : Nat → Int64) (I9 : Nat → Int32) (M10 : Nat → Nat → Int64) (si11 : Nat → Nat → Int32) (sa12 : Nat → Nat → Nat → Int32) => bnd ((I9 12).toNatClampNeg) (fun (z14 : Nat) => bnd (va_up I9 4 (nI z14)) (fun (I15 : Nat → Int32) => (L8, I15, M10, si11, sa12)))) KM 41 fuM 0 0 B L I M si sa F V (by omega) (by omega) (by omega) (by omega) (by omega) h
    rw [r1]
    refine ⟨im, sm, m, r2, ?_⟩
    exact (r3.mono (by omega) hB).settle r4
theorem letters_R (n : Nat) (dl : Nat → Nat) (B : Nat) {L : Nat → Int64} {I : Nat → Int32} {M : Nat → Nat → Int64} {si : Nat → Nat → Int32} {sa : Nat → Nat → Nat → Int32} {F : Nat → Nat → Int32} {V : Nat → Int32} (KM : Nat → (Nat → Nat → Int32) → (Nat → Int32) → (Nat → Nat → Int32) × (Nat → Int32)) (h : Rf n dl B L I M si sa F V) : ∃ F2 V2, f_w_oneTick_101 n (n + 1) 0 F V KM = KM n F2 V2 ∧ Rf n dl B (f_y_readLetters n dl L I M si sa).1 (f_y_readLetters n dl L I M si sa).2.1 M (f_y_readLetters n dl L I M si sa).2.2 sa F2 V2 := by
  have hn : n ≤ 40 := h.1.1.1.1
  have h00 := h.1.1
  have hU : sB n (M 9 2) F 2 := h00.up (t := 2) (by omega) rfl
  have hRD := h00.2.2.2.2.2.2.2.2.1
  have hx : ∀ z, 0 ≤ z → z < n → (bL (L 1 &&& M 9 2) z = true ↔ ¬ F 18 z = 0 ∧ F 7 z = 2) := by
    intro z _ hz
    rw [bL_andT, hRD.2 z, hU z]
    exact ⟨fun q => ⟨q.1.2, q.2.2⟩, fun q => ⟨⟨hz, q.1⟩, hz, q.2⟩⟩
  obtain ⟨L2, I2, si2, F2, V2, r1, r2, r3, r4⟩ := letters_sim n dl B M sa (L 1 &&& M 9 2) (fun (i6 : Nat) (L10 : Nat → Int64) (I11 : Nat → Int32) (si12 : Nat → Nat → Int32) => (L10, I11, si12)) KM (n + 1) (n + 1) 0 L I si F V (by omega) (by omega) (by omega) h hx
  have e0 : f_y_readLetters n dl L I M si sa = if lg_cmp (L 1 &&& M 9 (nI 2).toNatClampNeg) 0 = 0 then (L, I, si) else f_y_readLetters_21 n dl sa (L 1 &&& M 9 (nI 2).toNatClampNeg) (n + 1) 0 L I si (fun (i6 : Nat) (L10 : Nat → Int64) (I11 : Nat → Int32) (si12 : Nat → Nat → Int32) => (L10, I11, si12)) := rfl
  rw [nI_clamp (show 2 < 2 ^ 31 by omega)] at e0
  have e1 : f_y_readLetters n dl L I M si sa = (L2, I2, si2) := by
    rw [e0]
    by_cases c : lg_cmp (L 1 &&& M 9 2) 0 = 0
    · rw [if_pos c]
      have ez : L 1 &&& M 9 2 = 0 := (lg_0 _ _).mp c
      rw [ez, rl_0 n dl sa L I si _ hn (n + 1) 0 (by omega) (by omega)] at r1
      exact r1
    · rw [if_neg c]; exact r1
  rw [e1]
  exact ⟨F2, V2, r2, r3⟩
theorem passTick_R (n : Nat) (dl : Nat → Nat) (B : Nat) {L : Nat → Int64} {I : Nat → Int32} {M : Nat → Nat → Int64} {si : Nat → Nat → Int32} {sa : Nat → Nat → Nat → Int32} {F : Nat → Nat → Int32} {V : Nat → Int32} (hB : B + 121 < 536870912) (h : Rf n dl B L I M si sa F V) (hj : J0 n F) : Rf n dl (B + 121) (f_y_passTick n dl L I M si sa).1 (f_y_passTick n dl L I M si sa).2.1 (f_y_passTick n dl L I M si sa).2.2.1 (f_y_passTick n dl L I M si sa).2.2.2.1 (f_y_passTick n dl L I M si sa).2.2.2.2 (f_w_oneTick n F V).1 (f_w_oneTick n F V).2 ∧ J0 n (f_w_oneTick n F V).1 := by
  have hn : n ≤ 40 := h.1.1.1.1
  have h00 := h.1.1
  obtain ⟨S, eS, eq0⟩ := oneTick_eq n F V
  simp only [bnd, bn2] at eq0
  have h2 := h.inc (by omega)
  -- the class
  obtain ⟨x10, ex10⟩ : ∃ q9 : Int64, q9 = M 9 1 ||| M 9 3 ||| M 9 5 ||| L 0 := ⟨_, rfl⟩
  have hx : ∀ z, 0 ≤ z → z < n → (bL x10 z = true ↔ F 7 z = 1 ∨ F 7 z = 3 ∨ F 7 z = 5 ∨ ¬ si z 10 = 0) := by
    intro z _ hz
    rw [ex10, bL_orT, bL_orT, bL_orT, h00.up (t := 1) (by omega) rfl z, h00.up (t := 3) (by omega) rfl z, h00.up (t := 5) (by omega) rfl z, h00.2.2.2.2.1.2 z]
    constructor
    · rintro (((q | q) | q) | q)
      · exact Or.inl q.2
      · exact Or.inr (Or.inl q.2)
      · exact Or.inr (Or.inr (Or.inl q.2))
      · exact Or.inr (Or.inr (Or.inr q.2))
    · rintro (q | q | q | q)
      · exact Or.inl (Or.inl (Or.inl ⟨hz, q⟩))
      · exact Or.inl (Or.inl (Or.inr ⟨hz, q⟩))
      · exact Or.inl (Or.inr ⟨hz, q⟩)
      · exact Or.inr ⟨hz, q⟩
  obtain ⟨x, m, r1, r2, r3⟩ := steps_sim n dl x10 (fun _ L33 I34 M35 si36 sa37 => f_y_beginJobs n dl (f_y_readLetters n dl (f_y_stopTheLacking n dl L33 I34 M35 si36 sa37).1 (f_y_stopTheLacking n dl L33 I34 M35 si36 sa37).2.1 (f_y_stopTheLacking n dl L33 I34 M35 si36 sa37).2.2.1 (f_y_stopTheLacking n dl L33 I34 M35 si36 sa37).2.2.2.1 (f_y_stopTheLacking n dl L33 I34 M35 si36 sa37).2.2.2.2).1 (f_y_readLetters n dl (f_y_stopTheLacking n dl L33 I34 M35 si36 sa37).1 (f_y_stopTheLacking n dl L33 I34 M35 si36 sa37).2.1 (f_y_stopTheLacking n dl L33 I34 M35 si36 sa37).2.2.1 (f_y_stopTheLacking n dl L33 I34 M35 si36 sa37).2.2.2.1 (f_y_stopTheLacking n dl L33 I34 M35 si36 sa37).2.2.2.2).2.1 (f_y_stopTheLacking n dl L33 I34 M35 si36 sa37).2.2.1 (f_y_readLetters n dl (f_y_stopTheLacking n dl L33 I34 M35 si36 sa37).1 (f_y_stopTheLacking n dl L33 I34 M35 si36 sa37).2.1 (f_y_stopTheLacking n dl L33 I34 M35 si36 sa37).2.2.1 (f_y_stopTheLacking n dl L33 I34 M35 si36 sa37).2.2.2.1 (f_y_stopTheLacking n dl L33 I34 M35 si36 sa37).2.2.2.2).2.2 (f_y_stopTheLacking n dl L33 I34 M35 si36 sa37).2.2.2.2) (fun (i4 : Nat) (F8 : Nat → Nat → Int32) (V9 : Nat → Int32) => S F8 V9 (fun (i11 : Nat) (s17 : Nat) (F15 : Nat → Nat → Int32) (V16 : Nat → Int32) => f_w_oneTick_101 n (n + 1) (0 : Nat) F15 V16 (fun (i19 : Nat) (F23 : Nat → Nat → Int32) (V24 : Nat → Int32) => ((f_w_begin n F23 V24).1, (f_w_begin n F23 V24).2)))) (n + 1) (n + 1) 0 (B + 1) L (va_up I 0 (I 0 + 1)) M si sa F (va_up V 22 (V 22 + 1)) (by omega) (by omega) (by omega) (by omega) h2 (fun z _ hz => hj z hz) hx
  have eC : f_y_passTick n dl L I M si sa = f_y_passTick_44 n dl x10 (n + 1) 0 L (va_up I 0 (I 0 + 1)) M si sa (fun _ L33 I34 M35 si36 sa37 => f_y_beginJobs n dl (f_y_readLetters n dl (f_y_stopTheLacking n dl L33 I34 M35 si36 sa37).1 (f_y_stopTheLacking n dl L33 I34 M35 si36 sa37).2.1 (f_y_stopTheLacking n dl L33 I34 M35 si36 sa37).2.2.1 (f_y_stopTheLacking n dl L33 I34 M35 si36 sa37).2.2.2.1 (f_y_stopTheLacking n dl L33 I34 M35 si36 sa37).2.2.2.2).1 (f_y_readLetters n dl (f_y_stopTheLacking n dl L33 I34 M35 si36 sa37).1 (f_y_stopTheLacking n dl L33 I34 M35 si36 sa37).2.1 (f_y_stopTheLacking n dl L33 I34 M35 si36 sa37).2.2.1 (f_y_stopTheLacking n dl L33 I34 M35 si36 sa37).2.2.2.1 (f_y_stopTheLacking n dl L33 I34 M35 si36 sa37).2.2.2.2).2.1 (f_y_stopTheLacking n dl L33 I34 M35 si36 sa37).2.2.1 (f_y_readLetters n dl (f_y_stopTheLacking n dl L33 I34 M35 si36 sa37).1 (f_y_stopTheLacking n dl L33 I34 M35 si36 sa37).2.1 (f_y_stopTheLacking n dl L33 I34 M35 si36 sa37).2.2.1 (f_y_stopTheLacking n dl L33 I34 M35 si36 sa37).2.2.2.1 (f_y_stopTheLacking n dl L33 I34 M35 si36 sa37).2.2.2.2).2.2 (f_y_stopTheLacking n dl L33 I34 M35 si36 sa37).2.2.2.2) := by
    unfold f_y_passTick
    simp only [bnd, bn3, bn5]
    rw [nI_clamp (show 1 < 2 ^ 31 by omega), nI_clamp (show 3 < 2 ^ 31 by omega), nI_clamp (show 5 < 2 ^ 31 by omega), ← ex10]
    by_cases c : lg_cmp x10 0 = 0
    · rw [if_pos c]
      have ez : x10 = 0 := (lg_0 _ _).mp c
      rw [ez, p44_0 n dl L _ M si sa _ hn (n + 1) 0 (by omega) (by omega)]
    · rw [if_neg c]
  rw [eC, r1, eq0, r2]
  clear eC r1 eq0 r2
  have eS2 : ∀ K, S m.1 m.2 K = f_w_oneTick_33 n 1682 0 0 m.1 m.2 K := fun K => by rw [eS]
  rw [eS2]
  obtain ⟨im, sm, m2, g1, g2⟩ := going_R n dl (B + 1 + (n - 0)) (fun (i11 : Nat) (s17 : Nat) (F15 : Nat → Nat → Int32) (V16 : Nat → Int32) => f_w_oneTick_101 n (n + 1) (0 : Nat) F15 V16 (fun (i19 : Nat) (F23 : Nat → Nat → Int32) (V24 : Nat → Int32) => ((f_w_begin n F23 V24).1, (f_w_begin n F23 V24).2))) (by omega) r3 1682 (by omega)
  rw [g1]
  obtain ⟨F3, V3, g3, g4⟩ := letters_R n dl (B + 1 + (n - 0) + 40) (fun (i19 : Nat) (F23 : Nat → Nat → Int32) (V24 : Nat → Int32) => ((f_w_begin n F23 V24).1, (f_w_begin n F23 V24).2)) g2
  rw [g3]
  obtain ⟨w1, w2, w3⟩ := beginJobs_R n dl (B + 1 + (n - 0) + 40) (by omega) g4
  exact ⟨w1.mono (by omega) hB, w2⟩
theorem ticks_sim (n : Nat) (dl : Nat → Nat) (N : Nat) : ∀ fu i B (L : Nat → Int64) (I : Nat → Int32) (M : Nat → Nat → Int64) (si : Nat → Nat → Int32) (sa : Nat → Nat → Nat → Int32) (F : Nat → Nat → Int32) (V : Nat → Int32), i ≤ N → N < i + fu → B + 121 * (N - i) < 536870912 → Rf n dl B L I M si sa F V → J0 n F →
    ∀ (x : Int32 × (Nat → Int64) × (Nat → Int32) × (Nat → Nat → Int64) × (Nat → Nat → Int32) × (Nat → Nat → Nat → Int32)) (m : Int32 × (Nat → Nat → Int32) × (Nat → Int32)), x = f_y_tick_15 n dl N fu i L I M si sa (fun (i3 : Nat) (L7 : Nat → Int64) (I8 : Nat → Int32) (M9 : Nat → Nat → Int64) (si10 : Nat → Nat → Int32) (sa11 : Nat → Nat → Nat → Int32) => bnd (I8 0) (fun (x13 : Int32) => (x13, L7, I8, M9, si10, sa11))) → m = f_w_tick_16 n N fu i F V (fun (i3 : Nat) (F7 : Nat → Nat → Int32) (V8 : Nat → Int32) => bnd (V8 22) (fun (x10 : Int32) => (x10, F7, V8))) →
    Rf n dl (B + 121 * (N - i)) x.2.1 x.2.2.1 x.2.2.2.1 x.2.2.2.2.1 x.2.2.2.2.2 m.2.1 m.2.2 ∧ J0 n m.2.1
  | 0, i, B, L, I, M, si, sa, F, V, h1, h2, _, _, _, x, m, _, _ => by omega
  | fu + 1, i, B, L, I, M, si, sa, F, V, h1, h2, hB, h, hj, x, m, ex, em => by
    rw [f_y_tick_15] at ex
    rw [f_w_tick_16] at em
    by_cases hi : N ≤ i
    · rw [if_pos hi] at ex em
      rw [ex, em]
      exact ⟨h.mono (by omega) hB, hj⟩
    · rw [if_neg hi] at ex em
      simp only [bn2, bn5] at ex em
      obtain ⟨g1, g2⟩ := passTick_R n dl B (by omega) h hj
      obtain ⟨r1, r2⟩ := ticks_sim n dl N fu (i + 1) (B + 121) _ _ _ _ _ _ _ (by omega) (by omega) (by omega) g1 g2 x m ex em
      exact ⟨r1.mono (by omega) hB, r2⟩
theorem tick_R (n : Nat) (dl : Nat → Nat) (B : Nat) {L : Nat → Int64} {I : Nat → Int32} {M : Nat → Nat → Int64} {si : Nat → Nat → Int32} {sa : Nat → Nat → Nat → Int32} {F : Nat → Nat → Int32} {V : Nat → Int32} (p0 : Int32) (hB : B + 121000 < 536870912) (h : Rf n dl B L I M si sa F V) (hj : J0 n F) : Rf n dl (B + 121000) (f_y_tick n dl p0 L I M si sa).2.1 (f_y_tick n dl p0 L I M si sa).2.2.1 (f_y_tick n dl p0 L I M si sa).2.2.2.1 (f_y_tick n dl p0 L I M si sa).2.2.2.2.1 (f_y_tick n dl p0 L I M si sa).2.2.2.2.2 (f_w_tick n p0 F V).2.1 (f_w_tick n p0 F V).2.2 ∧ J0 n (f_w_tick n p0 F V).2.1 := by
  unfold f_y_tick f_w_tick
  by_cases c : (1 : Int32) ≤ p0 ∧ p0 ≤ 1000
  · have hN : p0.toNatClampNeg ≤ 1000 := by
      have h1 : ¬ p0 < 0 := by
        have := c.1
        rw [Int32.le_iff_toInt_le] at this
        rw [Int32.lt_iff_toInt_lt]
        have e1 : (1 : Int32).toInt = 1 := rfl
        have e0 : (0 : Int32).toInt = 0 := rfl
        omega
      obtain ⟨j, hj2, ej⟩ := nI_of2 (M := 1000) (n := 1000) rfl h1 c.2
      rw [ej, nI_clamp (show j < 2 ^ 31 by omega)]
      exact hj2
    have h1 : ¬ p0 < 1 := by
      have := c.1
      rw [Int32.le_iff_toInt_le] at this
      rw [Int32.lt_iff_toInt_lt]
      omega
    rw [if_pos c, if_neg h1, if_pos c.2, bnd_e, bnd_e]
    obtain ⟨r1, r2⟩ := ticks_sim n dl p0.toNatClampNeg (p0.toNatClampNeg + 1) 0 B L I M si sa F V (by omega) (by omega) (by omega) h hj _ _ rfl rfl
    exact ⟨r1.mono (by omega) hB, r2⟩
  · rw [if_neg c]
    by_cases c1 : p0 < 1
    · rw [if_pos c1]; exact ⟨h.mono (by omega) hB, hj⟩
    · rw [if_neg c1]
      have c2 : ¬ p0 ≤ 1000 := by
        intro q
        refine c ⟨?_, q⟩
        rw [Int32.le_iff_toInt_le]
        rw [Int32.lt_iff_toInt_lt] at c1
        omega
      rw [if_neg c2]; exact ⟨h.mono (by omega) hB, hj⟩

end
section
theorem Rf.draft {n : Nat} {dl : Nat → Nat} {B : Nat} {L L2 : Nat → Int64} {I I2 : Nat → Int32} {M : Nat → Nat → Int64} {si : Nat → Nat → Int32} {sa : Nat → Nat → Nat → Int32} {F F2 : Nat → Nat → Int32} {V V2 : Nat → Int32} (h : Rf n dl B L I M si sa F V) (hA : Ag [27, 28, 29, 30, 31, 32] F F2) (hL : ∀ j, j ≠ 2 → j ≠ 3 → j ≠ 4 → L2 j = L j) (hI : ∀ j, j ≠ 8 → j ≠ 3 → I2 j = I j) (hV : ∀ j, j ≠ 33 → V2 j = V j) (h3 : I2 3 = V2 33) : Rf n dl B L2 I2 M si sa F2 V2 := by
  obtain ⟨⟨⟨hn, hRR, hRA, hRE, hRS, hRI, hRH, hRG, hRD, hRZ⟩, hJ, hB⟩, hRF, hRT⟩ := h
  have hl : lkB F2 = lkB F := by
    funext a b
    unfold lkB
    rw [HS_c (hA 19 (by decide)), hA 7 (by decide)]
  refine ⟨⟨⟨hn, hRR.c (hA 19 (by decide)), ?_, ?_, ?_, ?_, ?_, ?_, ?_, ?_⟩, ?_, ?_⟩, ?_, ?_⟩
  · unfold RA; rw [hA 0 (by decide), hA 1 (by decide), hA 2 (by decide), hA 3 (by decide), hA 4 (by decide), hA 5 (by decide), hA 6 (by decide)]; exact hRA
  · unfold RE; rw [hA 1 (by decide), hA 2 (by decide), hA 7 (by decide), hA 8 (by decide), hA 9 (by decide), hA 11 (by decide), hA 12 (by decide)]; exact hRE
  · unfold RS; rw [hL 0 (by decide) (by decide) (by decide), hA 7 (by decide)]; exact hRS
  · unfold RI
    rw [h3, hI 0 (by decide) (by decide), hI 1 (by decide) (by decide), hI 2 (by decide) (by decide), hI 7 (by decide) (by decide), hI 12 (by decide) (by decide), hI 4 (by decide) (by decide), hV 22 (by decide), hV 23 (by decide), hV 24 (by decide), hV 20 (by decide), hV 45 (by decide), hA 9 (by decide)]
    exact ⟨hRI.1, ⟨hRI.2.1.1, hRI.2.1.2.1, rfl⟩, hRI.2.2⟩
  · unfold RH; rw [hA 42 (by decide), hA 43 (by decide), hA 44 (by decide)]; exact hRH
  · unfold RG; rw [hl, hA 7 (by decide), hI 4 (by decide) (by decide), hI 12 (by decide) (by decide)]; exact hRG
  · unfold RD; rw [hL 1 (by decide) (by decide) (by decide), hA 15 (by decide), hA 16 (by decide), hA 17 (by decide), hA 18 (by decide)]; exact hRD
  · intro s a b
    rw [hA 5 (by decide), hA 7 (by decide), hA 9 (by decide), hA 10 (by decide), hA 11 (by decide), hA 14 (by decide), hA 15 (by decide), hA 18 (by decide), hA 25 (by decide), hA 3 (by decide)]
    exact hRZ s a b
  · have he : ∀ s, ejb F2 s = ejb F s := fun s => ejb_c (by rw [hA 25 (by decide)]) (by rw [hA 26 (by decide)]) (by rw [hA 7 (by decide)])
    unfold RJ
    rw [hL 5 (by decide) (by decide) (by decide), hL 6 (by decide) (by decide) (by decide), hL 7 (by decide) (by decide) (by decide), hA 25 (by decide), hA 26 (by decide)]
    simp only [he]
    exact hJ
  · unfold RB
    rw [hL 5 (by decide) (by decide) (by decide), hL 6 (by decide) (by decide) (by decide), hL 7 (by decide) (by decide) (by decide)]
    exact hB
  · intro s hs
    rw [hA 10 (by decide)]
    exact hRF s hs
  · exact hRT.keep (fun s _ => ⟨rfl, rfl, rfl⟩) (hA 13 (by decide)) (hA 14 (by decide)) (hV 22 (by decide))
theorem J0.draft {n : Nat} {F F2 : Nat → Nat → Int32} (h : J0 n F) (hA : Ag [27, 28, 29, 30, 31, 32] F F2) : J0 n F2 := fun s hs => by
  rw [ejb_c (F := F) (by rw [hA 25 (by decide)]) (by rw [hA 26 (by decide)]) (by rw [hA 7 (by decide)])]
  exact h s hs
theorem left_eq {n : Nat} {L : Nat → Int64} {F : Nat → Nat → Int32} (hn : n ≤ 40) (hJ : RJ n L F) (h0 : J0 n F) : (L 5 ||| L 6 = 0 ↔ f_w_jobs n F = 0) ∧ (f_w_jobs n F = 0 ↔ ¬ (0 : Int32) < f_w_jobs n F) ∧ (L 5 ||| L 6 = 0 ↔ ∀ s, s < n → F 25 s = 0) ∧ cN (bL (L 5 ||| L 6)) 64 = cN (fun s => decide (¬ F 25 s = 0)) n := by
  obtain ⟨j5, j6, j7, j3⟩ := hJ
  have k5 : ∀ z, bL (L 5) z = true ↔ z < n ∧ F 25 z = 1 := fun z => by
    rw [j5 z]; exact ⟨fun q => ⟨q.1, q.2.1⟩, fun q => ⟨q.1, q.2, h0 z q.1⟩⟩
  have k6 : ∀ z, bL (L 6) z = true ↔ z < n ∧ F 25 z = 2 := fun z => by
    rw [j6 z]; exact ⟨fun q => ⟨q.1, q.2.1⟩, fun q => ⟨q.1, q.2, h0 z q.1⟩⟩
  have hc := bits_cN hn k5 k6 j3
  have hle := cN_le (fun s => decide (¬ F 25 s = 0)) n
  rw [fw_jobs n F hn]
  have e0 : nI (cN (fun s => decide (¬ F 25 s = 0)) n) = 0 ↔ cN (fun s => decide (¬ F 25 s = 0)) n = 0 := nI_eq (a := _) (b := 0) (by omega) (by omega)
  have hall : (L 5 ||| L 6 = 0 ↔ ∀ s, s < n → F 25 s = 0) := by
    rw [z_iff]
    constructor
    · intro q s hs
      rcases j3 s hs with c | c | c
      · exact c
      · exact absurd (bL_orT.mpr (Or.inl ((k5 s).mpr ⟨hs, c⟩))) (q s)
      · exact absurd (bL_orT.mpr (Or.inr ((k6 s).mpr ⟨hs, c⟩))) (q s)
    · intro q s hb
      rcases bL_orT.mp hb with c | c
      · obtain ⟨a, b⟩ := (k5 s).mp c
        rw [q s a] at b; exact absurd b (by decide)
      · obtain ⟨a, b⟩ := (k6 s).mp c
        rw [q s a] at b; exact absurd b (by decide)
  refine ⟨?_, ?_, hall, hc⟩
  · rw [e0, hall, cN_0]
    constructor
    · intro q s hs; simp [q s hs]
    · intro q s hs
      have := q s hs
      simpa using this
  · have e1 : (0 : Int32) < nI (cN (fun s => decide (¬ F 25 s = 0)) n) ↔ 0 < cN (fun s => decide (¬ F 25 s = 0)) n := nI_ltI (a := 0) (by omega) (by omega)
    rw [e0, e1]
    omega
theorem fw_in0 {n : Nat} {F : Nat → Nat → Int32} (hn : n ≤ 40) {t : Nat} (ht : t ≤ 5) {S : Int64} (hS : sB n S F (nI t)) : (f_w_in n (nI t) F = 0 ↔ S = 0) ∧ ∃ c, c ≤ 40 ∧ f_w_in n (nI t) F = nI c := by
  have hle := cN_le (fun s => decide (F 7 s = nI t)) n
  rw [fw_in n (nI t) F hn (nI_pos (by omega)) (nI_le (b := 5) (by omega) (by omega))]
  refine ⟨?_, _, by omega, rfl⟩
  rw [show (0 : Int32) = nI 0 from rfl, nI_eq (by omega) (by omega), cN_0, z_iff]
  constructor
  · intro q s hb
    obtain ⟨a, b⟩ := (hS s).mp hb
    have := q s a
    rw [decide_eq_true b] at this; cases this
  · intro q s hs
    exact decide_eq_false (fun c => q s ((hS s).mpr ⟨hs, c⟩))
theorem bn3_eta {α β γ : Type} (a : α × β × γ) : bn3 a (fun x y z => (x, y, z)) = a := rfl
def mDr (n : Nat) (p0 p1 : Int32) (F : Nat → Nat → Int32) (V : Nat → Int32) : Int32 × (Nat → Nat → Int32) × (Nat → Int32) := if p0 < (0 : Int32) then ((-1 : Int32), F, V) else if (2 : Int32) < p0 then ((-1 : Int32), F, V) else if (0 : Int32) ≤ p1 ∧ p1 < nI n then f_w_look n p0 p1.toNatClampNeg F V else ((-1 : Int32), F, V)
theorem draft_R (n : Nat) (dl : Nat → Nat) (B : Nat) {L : Nat → Int64} {I : Nat → Int32} {M : Nat → Nat → Int64} {si : Nat → Nat → Int32} {sa : Nat → Nat → Nat → Int32} {F : Nat → Nat → Int32} {V : Nat → Int32} (p0 p1 : Int32) (h : Rf n dl B L I M si sa F V) (hj : J0 n F) : (∃ r, (r = -1 ∨ r = -3) ∧ f_y_draftOrder n dl p0 p1 L I M = (r, L, I) ∧ mDr n p0 p1 F V = (r, F, V)) ∨ (LWp n F V L I (f_y_draftOrder n dl p0 p1 L I M) (mDr n p0 p1 F V) ∧ (∀ s, s < n → F 25 s = 0)) := by
  have hn : n ≤ 40 := h.1.1.1.1
  have h00 := h.1.1
  obtain ⟨l1, l2, l3, _⟩ := left_eq hn h.1.2.1 hj
  have e0 : f_y_draftOrder n dl p0 p1 L I M = if (0 : Int32) ≤ p0 ∧ p0 ≤ (2 : Int32) then (if (0 : Int32) ≤ p1 ∧ p1 < nI n then (if lg_cmp (L 5 ||| L 6) (0 : Int64) = (0 : Int32) then (if lg_cmp (M 9 (nI 1).toNatClampNeg ||| M 9 (nI 3).toNatClampNeg) (0 : Int64) = (0 : Int32) then bn3 (f_y_weigh n dl (nI p0.toNatClampNeg) p1.toNatClampNeg (M 9 (nI 2).toNatClampNeg) (M 9 (nI 5).toNatClampNeg) L I M) (fun (r15 : Int32) (L16 : Nat → Int64) (I17 : Nat → Int32) => (r15, L16, I17)) else ((-3 : Int32), L, I)) else ((-3 : Int32), L, I)) else ((-1 : Int32), L, I)) else ((-1 : Int32), L, I) := rfl
  rw [e0, bn3_eta, nI_clamp (show 1 < 2 ^ 31 by omega), nI_clamp (show 2 < 2 ^ 31 by omega), nI_clamp (show 3 < 2 ^ 31 by omega), nI_clamp (show 5 < 2 ^ 31 by omega)]
  unfold mDr
  by_cases c0 : (0 : Int32) ≤ p0 ∧ p0 ≤ 2
  · have a0 : ¬ p0 < 0 := by
      have := c0.1
      rw [Int32.le_iff_toInt_le] at this
      rw [Int32.lt_iff_toInt_lt]; omega
    have a2 : ¬ (2 : Int32) < p0 := by
      have := c0.2
      rw [Int32.le_iff_toInt_le] at this
      rw [Int32.lt_iff_toInt_lt]; omega
    obtain ⟨how, hh, ep⟩ := nI_of2 (M := 2) (n := 2) rfl a0 c0.2
    rw [if_pos c0, if_neg a0, if_neg a2]
    by_cases c1 : (0 : Int32) ≤ p1 ∧ p1 < nI n
    · rw [if_pos c1, if_pos c1]
      have hxx : ∃ x, x < n ∧ p1 = nI x := by
        rcases pk_ix p1 (n := n) (by omega) with q | q | q
        · exfalso
          have := c1.1
          rw [Int32.le_iff_toInt_le] at this
          rw [Int32.lt_iff_toInt_lt] at q; omega
        · exfalso
          have := c1.2
          rw [Int32.lt_iff_toInt_lt] at this
          rw [Int32.le_iff_toInt_le] at q; omega
        · exact q
      obtain ⟨x, hx, ex⟩ := hxx
      rw [ep, ex, nI_clamp (show how < 2 ^ 31 by omega), nI_clamp (show x < 2 ^ 31 by omega)]
      obtain ⟨k1, q1, hq1, eq1⟩ := fw_in0 hn (t := 1) (by omega) (h00.up (t := 1) (by omega) rfl)
      obtain ⟨k3, q3, hq3, eq3⟩ := fw_in0 hn (t := 3) (by omega) (h00.up (t := 3) (by omega) rfl)
      by_cases c5 : L 5 ||| L 6 = 0
      · rw [if_pos ((lg_0 _ _).mpr c5)]
        have j0 := l1.mp c5
        by_cases c13 : M 9 1 ||| M 9 3 = 0
        · rw [if_pos ((lg_0 _ _).mpr c13)]
          have m1 : M 9 1 = 0 := z_iff.mpr (fun s hs => z_iff.mp c13 s (bL_orT.mpr (Or.inl hs)))
          have m3 : M 9 3 = 0 := z_iff.mpr (fun s hs => z_iff.mp c13 s (bL_orT.mpr (Or.inr hs)))
          right
          exact ⟨look_weigh n dl how x (M 9 2) (M 9 5) L I V hn hx hh h00.2.1 (h00.up (t := 2) (by omega) rfl) (h00.up (t := 5) (by omega) rfl) j0 (k1.mpr m1) (k3.mpr m3), l3.mp c5⟩
        · rw [if_neg (fun q => c13 ((lg_0 _ _).mp q))]
          left
          refine ⟨-3, Or.inr rfl, rfl, ?_⟩
          have hne : ¬ f_w_in n 1 F + f_w_in n 3 F ≤ 0 := by
            have e1 : f_w_in n 1 F = nI q1 := eq1
            have e3 : f_w_in n 3 F = nI q3 := eq3
            rw [e1, e3, nI_add]
            refine nI_nle ?_ (by omega)
            refine Classical.byContradiction (fun hz => ?_)
            have z1 : q1 = 0 := by omega
            have z3 : q3 = 0 := by omega
            have m1 := k1.mp (by rw [eq1, z1]; rfl)
            have m3 := k3.mp (by rw [eq3, z3]; rfl)
            exact c13 (by rw [m1, m3]; rfl)
          rw [fw_look_eq, if_neg (l2.mp j0), if_neg hne]
      · rw [if_neg (fun q => c5 ((lg_0 _ _).mp q))]
        left
        refine ⟨-3, Or.inr rfl, rfl, ?_⟩
        have hjp : (0 : Int32) < f_w_jobs n F := Classical.byContradiction (fun q => c5 (l1.mpr (l2.mpr q)))
        rw [fw_look_eq, if_pos hjp]
    · rw [if_neg c1, if_neg c1]
      exact Or.inl ⟨-1, Or.inl rfl, rfl, rfl⟩
  · rw [if_neg c0]
    left
    refine ⟨-1, Or.inl rfl, rfl, ?_⟩
    by_cases a0 : p0 < 0
    · rw [if_pos a0]
    · rw [if_neg a0]
      have a2 : (2 : Int32) < p0 := by
        rw [Int32.lt_iff_toInt_lt]
        refine Classical.byContradiction (fun q => c0 ⟨?_, ?_⟩)
        · rw [Int32.le_iff_toInt_le]
          rw [Int32.lt_iff_toInt_lt] at a0
          omega
        · rw [Int32.le_iff_toInt_le]; omega
      rw [if_pos a2]
theorem carry_sim (n : Nat) (dl : Nat → Nat) (x3 : Int64) (KC : Nat → (Nat → Int64) → (Nat → Int32) → (Nat → Nat → Int64) → (Nat → Nat → Int32) → (Nat → Nat → Nat → Int32) → (Nat → Int64) × (Nat → Int32) × (Nat → Nat → Int64) × (Nat → Nat → Int32) × (Nat → Nat → Nat → Int32)) (KM : Nat → (Nat → Nat → Int32) → (Nat → Int32) → Int32 × (Nat → Nat → Int32) × (Nat → Int32)) (F0 : Nat → Nat → Int32) : ∀ fuC fuM i B (L : Nat → Int64) (I : Nat → Int32) (M : Nat → Nat → Int64) (si : Nat → Nat → Int32) (sa : Nat → Nat → Nat → Int32) (F : Nat → Nat → Int32) (V : Nat → Int32), i ≤ n → n < i + fuC → n < i + fuM → B + (n - i) < 536870912 → R00 n dl B L I M si sa F V → RF n si F ∧ RTm n si sa F V → L 7 = 0 → (∀ z, z < i → F 25 z = F 30 z ∧ F 26 z = 0) → (∀ z, i ≤ z → z < n → (bL x3 z = true ↔ ¬ F 27 z = 0 ∧ F 7 z = 5)) →
    ∃ (x : (Nat → Int64) × (Nat → Int32) × (Nat → Nat → Int64) × (Nat → Nat → Int32) × (Nat → Nat → Nat → Int32)) (m : (Nat → Nat → Int32) × (Nat → Int32)), f_y_carryOutDraft_17 n dl x3 fuC i L I M si sa KC = KC n x.1 x.2.1 x.2.2.1 x.2.2.2.1 x.2.2.2.2 ∧ f_w_order_35 n fuM i F V KM = KM n m.1 m.2 ∧ R00 n dl (B + (n - i)) x.1 x.2.1 x.2.2.1 x.2.2.2.1 x.2.2.2.2 m.1 m.2 ∧ (RF n x.2.2.2.1 m.1 ∧ RTm n x.2.2.2.1 x.2.2.2.2 m.1 m.2) ∧ (∀ z, z < n → m.1 25 z = m.1 30 z ∧ m.1 26 z = 0) ∧ BgX L I M F V x m ∧ (∀ j, j ≠ 0 → x.1 j = L j)
  | 0, fuM, i, B, L, I, M, si, sa, F, V, h1, h2, _, _, _, _, _, _, _ => by omega
  | fuC + 1, fuM0, i, B, L, I, M, si, sa, F, V, h1, h2, h3, hB, h, hf, h7, hz, hx => by
    obtain ⟨fuM, rfl⟩ : ∃ q, fuM0 = q + 1 := ⟨fuM0 - 1, by omega⟩
    have hn : n ≤ 40 := h.1.1
    rw [f_y_carryOutDraft_17, f_w_order_35]
    by_cases hi : n ≤ i
    · have e : i = n := by omega
      subst e
      rw [if_pos hi, if_pos hi]
      exact ⟨(L, I, M, si, sa), (F, V), rfl, rfl, h.mono (by omega) hB, hf, hz, BgX.rf Ag.rf, fun _ _ => rfl⟩
    · rw [if_neg hi, if_neg hi]
      simp only [bnd, bn2, bn5]
      rw [fy_holds n dl x3 (show i < 64 by omega), nI_clamp (show i < 2 ^ 31 by omega), nb0]
      -- the model marks the JOB
      have mark : ∀ G : Nat → Nat → Int32, ∃ G2, G2 = va_up (va_up G 25 (upd (G 25) i (G 30 i))) 26 (upd (va_up G 25 (upd (G 25) i (G 30 i)) 26) i 0) ∧ Ag [25, 26] G G2 ∧ G2 25 = upd (G 25) i (G 30 i) ∧ G2 26 = upd (G 26) i 0 := by
        intro G
        refine ⟨_, rfl, (Ag.up (by decide)).tr (Ag.up (by decide)), ?_, ?_⟩
        · rw [va_up_ne _ _ (by decide), va_up_self]
        · rw [va_up_self, va_up_ne _ _ (by decide)]
      have skip : ¬ (¬ F 27 i = 0 ∧ F 7 i = 5) → ∃ (x : (Nat → Int64) × (Nat → Int32) × (Nat → Nat → Int64) × (Nat → Nat → Int32) × (Nat → Nat → Nat → Int32)) (m : (Nat → Nat → Int32) × (Nat → Int32)), f_y_carryOutDraft_17 n dl x3 fuC (i + 1) L I M si sa KC = KC n x.1 x.2.1 x.2.2.1 x.2.2.2.1 x.2.2.2.2 ∧ f_w_order_35 n fuM (i + 1) (va_up (va_up F 25 (upd (F 25) i (F 30 i))) 26 (upd (va_up F 25 (upd (F 25) i (F 30 i)) 26) i 0)) V KM = KM n m.1 m.2 ∧ R00 n dl (B + (n - i)) x.1 x.2.1 x.2.2.1 x.2.2.2.1 x.2.2.2.2 m.1 m.2 ∧ (RF n x.2.2.2.1 m.1 ∧ RTm n x.2.2.2.1 x.2.2.2.2 m.1 m.2) ∧ (∀ z, z < n → m.1 25 z = m.1 30 z ∧ m.1 26 z = 0) ∧ BgX L I M F V x m ∧ (∀ j, j ≠ 0 → x.1 j = L j) := by
        intro _
        obtain ⟨G2, eG2, hA2, g25, g26⟩ := mark F
        rw [← eG2]
        obtain ⟨x, m, r1, r2, r3, r4, r5, r6, r7⟩ := carry_sim n dl x3 KC KM F0 fuC fuM (i + 1) B L I M si sa G2 V (by omega) (by omega) (by omega) (by omega) (h.c hA2 (fun s a b => by rw [g25, pk_un (by omega)]) rfl rfl) ⟨by unfold RF; rw [hA2 10 (by decide)]; exact hf.1, hf.2.keep (fun _ _ => ⟨rfl, rfl, rfl⟩) (hA2 13 (by decide)) (hA2 14 (by decide)) rfl⟩ h7 (fun z hzi => by
          rw [g25, g26, hA2 30 (by decide)]
          by_cases e : z = i
          · subst e; rw [pk_us, pk_us]; exact ⟨rfl, rfl⟩
          · rw [pk_un e, pk_un e]; exact hz z (by omega)) (fun z a b => by
          rw [hA2 27 (by decide), hA2 7 (by decide)]
          exact hx z (by omega) b)
        exact ⟨x, m, r1, r2, r3.mono (by omega) hB, r4, r5, ⟨(hA2.sub (by decide)).tr r6.1, r6.2⟩, r7⟩
      by_cases hb : bL x3 i = true
      · obtain ⟨q27, q7⟩ := (hx i (by omega) (by omega)).mp hb
        rw [if_pos hb, if_neg (show ¬ (1 : Int32) = 0 by decide), if_neg q27, if_pos q7]
        obtain ⟨g, gX, x0, ex0⟩ := enter_R0 n dl B i 0 (by omega) (by omega) (by omega) h (fun q => absurd q (by decide)) (fun q => absurd q (by decide))
        have gf := enter_Rf n dl B (show i < n by omega) (t := 0) (by omega) hf Ag.rf gX
        obtain ⟨⟨y7, yA, y8, yV⟩, y9, yo, yn5, y5, yL, yI, yM⟩ := gX
        have hL1 : ∀ j, j ≠ 0 → (f_y_enter n dl i 0 L I M si sa).1 j = L j := by
          intro j hj0
          rw [ex0, fy_noteState n dl 0 _ (by omega), if_neg (fun q => by
            have := q.1
            rw [va_up_ne _ _ (by decide), h7, bL_0] at this; cases this), va_up_ne _ _ hj0]
        obtain ⟨G2, eG2, hA2, g25, g26⟩ := mark (f_w_to n i (nI 0) F V).1
        have e30 : ∀ (A : Int32), f_w_to n i 0 F V = f_w_to n i (nI 0) F V := fun _ => rfl
        rw [e30 0, ← eG2]
        obtain ⟨x, m, r1, r2, r3, r4, r5, r6, r7⟩ := carry_sim n dl x3 KC KM F0 fuC fuM (i + 1) (B + 1) (f_y_enter n dl i 0 L I M si sa).1 (f_y_enter n dl i 0 L I M si sa).2.1 (f_y_enter n dl i 0 L I M si sa).2.2.1 (f_y_enter n dl i 0 L I M si sa).2.2.2.1 (f_y_enter n dl i 0 L I M si sa).2.2.2.2 G2 (f_w_to n i (nI 0) F V).2 (by omega) (by omega) (by omega) (by omega) (g.c hA2 (fun s a b => by rw [g25, pk_un (by omega)]) rfl rfl) ⟨by unfold RF; rw [hA2 10 (by decide)]; exact gf.1, gf.2.keep (fun _ _ => ⟨rfl, rfl, rfl⟩) (hA2 13 (by decide)) (hA2 14 (by decide)) rfl⟩ (by rw [hL1 7 (by decide)]; exact h7) (fun z hzi => by
          rw [g25, g26, hA2 30 (by decide)]
          by_cases e : z = i
          · subst e; rw [pk_us, pk_us]; exact ⟨rfl, rfl⟩
          · rw [pk_un e, pk_un e, yA 25 (by decide), yA 26 (by decide), yA 30 (by decide)]; exact hz z (by omega)) (fun z a b => by
          rw [hA2 27 (by decide), hA2 7 (by decide), y7, pk_un (by omega), yA 27 (by decide)]
          exact hx z (by omega) b)
        refine ⟨x, m, r1, r2, r3.mono (by omega) hB, r4, r5, ⟨((yA.sub (by decide)).tr (hA2.sub (by decide))).tr r6.1, fun j a => (r6.2.1 j a).trans (yV j a), fun j a b c d => (r6.2.2.1 j a b c d).trans (yL j a b c d), fun j a => (r6.2.2.2.1 j a).trans (yI j a), fun j a => (r6.2.2.2.2 j a).trans (yM j a)⟩, fun j a => (r7 j a).trans (hL1 j a)⟩
      · rw [if_neg hb, if_pos rfl]
        have hno : ¬ (¬ F 27 i = 0 ∧ F 7 i = 5) := fun q => hb ((hx i (by omega) (by omega)).mpr q)
        by_cases c27 : F 27 i = 0
        · rw [if_pos c27]; exact skip hno
        · rw [if_neg c27, if_neg (fun q => hno ⟨c27, q⟩)]; exact skip hno

end
section
theorem bn5_eta {α β γ δ ε : Type} (a : α × β × γ × δ × ε) : bn5 a (fun x y z u v => (x, y, z, u, v)) = a := rfl
theorem carry_R (n : Nat) (dl : Nat → Nat) (B : Nat) {L : Nat → Int64} {I : Nat → Int32} {M : Nat → Nat → Int64} {si : Nat → Nat → Int32} {sa : Nat → Nat → Nat → Int32} {F Fb : Nat → Nat → Int32} {V : Nat → Int32} (hB : B + 80 < 536870912) (h : Rf n dl B L I M si sa F V) (hk : LKd n Fb F L) (hb7 : Fb 7 = F 7) (hno : ∀ s, s < n → F 25 s = 0) (m : Int32 × (Nat → Nat → Int32) × (Nat → Int32)) (em : m = f_w_order_35 n (n + 1) (0 : Nat) F V (fun (i11 : Nat) (F15 : Nat → Nat → Int32) (V16 : Nat → Int32) => bn2 (f_w_begin n F15 V16) (fun (F19 : Nat → Nat → Int32) (V20 : Nat → Int32) => bnd (f_w_many n n F19) (fun (r21 : Int32) => (r21, F19, V20))))) : Rf n dl (B + 80) (f_y_carryOutDraft n dl L I M si sa).1 (f_y_carryOutDraft n dl L I M si sa).2.1 (f_y_carryOutDraft n dl L I M si sa).2.2.1 (f_y_carryOutDraft n dl L I M si sa).2.2.2.1 (f_y_carryOutDraft n dl L I M si sa).2.2.2.2 m.2.1 m.2.2 ∧ J0 n m.2.1 ∧ m.1 = nI (cN (fun s => decide (¬ F 30 s = 0)) n) ∧ (∀ j, j ≠ 12 → (f_y_carryOutDraft n dl L I M si sa).2.1 j = I j) ∧ (∀ j, j ≠ 45 → m.2.2 j = V j) := by
  obtain ⟨k1, k2, k3, k4⟩ := hk
  have hn : n ≤ 40 := h.1.1.1.1
  have h00 := h.1.1
  obtain ⟨j5, j6, j7, j3⟩ := h.1.2.1
  have l7 : L 7 = 0 := z_iff.mpr (fun s hs => by
    obtain ⟨a, b, _⟩ := (j7 s).mp hs
    exact b (hno s a))
  have hx : ∀ z, 0 ≤ z → z < n → (bL (L 3 &&& M 9 5) z = true ↔ ¬ F 27 z = 0 ∧ F 7 z = 5) := by
    intro z _ hz
    rw [bL_andT, k1 z, h00.up (t := 5) (by omega) rfl z]
    constructor
    · rintro ⟨⟨_, q2⟩, _, q3⟩; exact ⟨(k4 z hz (by rw [hb7]; exact q3)).mpr q2, q3⟩
    · rintro ⟨q1, q2⟩; exact ⟨⟨hz, (k4 z hz (by rw [hb7]; exact q2)).mp q1⟩, hz, q2⟩
  obtain ⟨x, m1, r1, r2, r3, r4, r5, r6, r7⟩ := carry_sim n dl (L 3 &&& M 9 5) (fun (i4 : Nat) (L8 : Nat → Int64) (I9 : Nat → Int32) (M10 : Nat → Nat → Int64) (si11 : Nat → Nat → Int32) (sa12 : Nat → Nat → Nat → Int32) => bnd (L8 3) (fun (x15 : Int64) => bnd (L8 4) (fun (x16 : Int64) => bnd (f_y_take n dl x15 x16 L8) (fun (L18 : Nat → Int64) => bn5 (f_y_beginJobs n dl L18 I9 M10 si11 sa12) (fun (L20 : Nat → Int64) (I21 : Nat → Int32) (M22 : Nat → Nat → Int64) (si23 : Nat → Nat → Int32) (sa24 : Nat → Nat → Nat → Int32) => (L20, I21, M22, si23, sa24)))))) (fun (i11 : Nat) (F15 : Nat → Nat → Int32) (V16 : Nat → Int32) => bn2 (f_w_begin n F15 V16) (fun (F19 : Nat → Nat → Int32) (V20 : Nat → Int32) => bnd (f_w_many n n F19) (fun (r21 : Int32) => (r21, F19, V20)))) F (n + 1) (n + 1) 0 B L I M si sa F V (by omega) (by omega) (by omega) (by omega) h00 h.2 l7 (fun z hz => absurd hz (by omega)) hx
  have e0 : f_y_carryOutDraft n dl L I M si sa = f_y_carryOutDraft_17 n dl (L 3 &&& M 9 (nI 5).toNatClampNeg) (n + 1) 0 L I M si sa (fun (i4 : Nat) (L8 : Nat → Int64) (I9 : Nat → Int32) (M10 : Nat → Nat → Int64) (si11 : Nat → Nat → Int32) (sa12 : Nat → Nat → Nat → Int32) => bnd (L8 3) (fun (x15 : Int64) => bnd (L8 4) (fun (x16 : Int64) => bnd (f_y_take n dl x15 x16 L8) (fun (L18 : Nat → Int64) => bn5 (f_y_beginJobs n dl L18 I9 M10 si11 sa12) (fun (L20 : Nat → Int64) (I21 : Nat → Int32) (M22 : Nat → Nat → Int64) (si23 : Nat → Nat → Int32) (sa24 : Nat → Nat → Nat → Int32) => (L20, I21, M22, si23, sa24)))))) := rfl
  rw [nI_clamp (show 5 < 2 ^ 31 by omega)] at e0
  have r1b : f_y_carryOutDraft n dl L I M si sa = f_y_beginJobs n dl (f_y_take n dl (x.1 3) (x.1 4) x.1) x.2.1 x.2.2.1 x.2.2.2.1 x.2.2.2.2 := by
    rw [e0, r1, bnd_e, bnd_e, bnd_e, bn5_eta]
  rw [r1b]
  rw [r2] at em
  clear e0 r1 r2 r1b
  have hA := r6.1
  have k5 : f_y_take n dl (x.1 3) (x.1 4) x.1 5 = L 3 := by
    show va_up (va_up (va_up x.1 5 (x.1 3)) 6 (x.1 4)) 7 0 5 = L 3
    rw [va_up_ne _ _ (by decide), va_up_ne _ _ (by decide), va_up_self]; exact r7 3 (by decide)
  have k6 : f_y_take n dl (x.1 3) (x.1 4) x.1 6 = L 4 := by
    show va_up (va_up (va_up x.1 5 (x.1 3)) 6 (x.1 4)) 7 0 6 = L 4
    rw [va_up_ne _ _ (by decide), va_up_self]; exact r7 4 (by decide)
  have k7 : f_y_take n dl (x.1 3) (x.1 4) x.1 7 = 0 := by
    show va_up (va_up (va_up x.1 5 (x.1 3)) 6 (x.1 4)) 7 0 7 = 0
    rw [va_up_self]
  have ko : ∀ j, j ≠ 5 → j ≠ 6 → j ≠ 7 → f_y_take n dl (x.1 3) (x.1 4) x.1 j = x.1 j := by
    intro j a b c
    show va_up (va_up (va_up x.1 5 (x.1 3)) 6 (x.1 4)) 7 0 j = x.1 j
    rw [va_up_ne _ _ c, va_up_ne _ _ b, va_up_ne _ _ a]
  have he : ∀ z, z < n → ejb m1.1 z = false := by
    intro z hz
    unfold ejb
    rw [(r5 z hz).2]; simp
  have h30 : m1.1 30 = F 30 := hA 30 (by decide)
  have hR2 : Rf n dl (B + 40) (f_y_take n dl (x.1 3) (x.1 4) x.1) x.2.1 x.2.2.1 x.2.2.2.1 x.2.2.2.2 m1.1 m1.2 := by
    refine ⟨⟨(r3.mono (by omega) (by omega)).c Ag.rf (fun _ _ _ => rfl) (ko 0 (by decide) (by decide) (by decide)) (ko 1 (by decide) (by decide) (by decide)), ⟨fun z => ?_, fun z => ?_, fun z => ?_, fun z hz => ?_⟩, fun z hz => ?_⟩, r4⟩
    · rw [k5, k1 z]
      constructor
      · rintro ⟨a, b⟩; exact ⟨a, by rw [(r5 z a).1, h30]; exact b, he z a⟩
      · rintro ⟨a, b, _⟩; exact ⟨a, by rw [(r5 z a).1, h30] at b; exact b⟩
    · rw [k6, k2 z]
      constructor
      · rintro ⟨a, b⟩; exact ⟨a, by rw [(r5 z a).1, h30]; exact b, he z a⟩
      · rintro ⟨a, b, _⟩; exact ⟨a, by rw [(r5 z a).1, h30] at b; exact b⟩
    · rw [k7, bL_0]
      exact ⟨fun q => (by cases q), fun q => absurd (r5 z q.1).2 q.2.2.1⟩
    · rw [(r5 z hz).1, h30]; exact k3 z hz
    · rw [k7, bL_0] at hz; cases hz
  obtain ⟨w1, w2, w3⟩ := beginJobs_R n dl (B + 40) (by omega) hR2
  generalize f_w_begin n m1.1 m1.2 = bg at w1 w2 w3 em
  generalize f_y_beginJobs n dl (f_y_take n dl (x.1 3) (x.1 4) x.1) x.2.1 x.2.2.1 x.2.2.2.1 x.2.2.2.2 = bj at w1 w2 w3 ⊢
  simp only [bn2, bnd] at em
  rw [em]
  refine ⟨w1.mono (by omega) hB, w2, ?_, fun j a => ?_, fun j a => ?_⟩
  · show f_w_many n n bg.1 = _
    rw [fw_many n n _ hn, w3.1 30 (by decide), h30]
  · exact (w3.2.2.2.1 j a).trans (r6.2.2.2.1 j a)
  · exact (w3.2.1 j a).trans (r6.2.1 j a)
theorem fw_order_eq (n : Nat) (p0 p1 : Int32) (F : Nat → Nat → Int32) (V : Nat → Int32) : f_w_order n p0 p1 F V = if (mDr n p0 p1 F V).1 = 0 then f_w_order_35 n (n + 1) (0 : Nat) (mDr n p0 p1 F V).2.1 (mDr n p0 p1 F V).2.2 (fun (i11 : Nat) (F15 : Nat → Nat → Int32) (V16 : Nat → Int32) => bn2 (f_w_begin n F15 V16) (fun (F19 : Nat → Nat → Int32) (V20 : Nat → Int32) => bnd (f_w_many n n F19) (fun (r21 : Int32) => (r21, F19, V20)))) else mDr n p0 p1 F V := by
  unfold f_w_order mDr
  by_cases a0 : p0 < 0
  · rw [if_pos a0, if_pos a0, if_neg (show ¬ (-1 : Int32) = 0 by decide)]
  · rw [if_neg a0, if_neg a0]
    by_cases a2 : (2 : Int32) < p0
    · rw [if_pos a2, if_pos a2, if_neg (show ¬ (-1 : Int32) = 0 by decide)]
    · rw [if_neg a2, if_neg a2]
      by_cases c1 : (0 : Int32) ≤ p1 ∧ p1 < nI n
      · rw [if_pos c1, if_pos c1, bnd_e]
        generalize f_w_look n p0 p1.toNatClampNeg F V = A
        simp only [bn3]
      · rw [if_neg c1, if_neg c1, if_neg (show ¬ (-1 : Int32) = 0 by decide)]
theorem order_R (n : Nat) (dl : Nat → Nat) (B : Nat) {L : Nat → Int64} {I : Nat → Int32} {M : Nat → Nat → Int64} {si : Nat → Nat → Int32} {sa : Nat → Nat → Nat → Int32} {F : Nat → Nat → Int32} {V : Nat → Int32} (p0 p1 : Int32) (hB : B + 80 < 536870912) (h : Rf n dl B L I M si sa F V) (hj : J0 n F) : (f_y_order n dl p0 p1 L I M si sa).1 = (f_w_order n p0 p1 F V).1 ∧ Rf n dl (B + 80) (f_y_order n dl p0 p1 L I M si sa).2.1 (f_y_order n dl p0 p1 L I M si sa).2.2.1 (f_y_order n dl p0 p1 L I M si sa).2.2.2.1 (f_y_order n dl p0 p1 L I M si sa).2.2.2.2.1 (f_y_order n dl p0 p1 L I M si sa).2.2.2.2.2 (f_w_order n p0 p1 F V).2.1 (f_w_order n p0 p1 F V).2.2 ∧ J0 n (f_w_order n p0 p1 F V).2.1 := by
  have eY : f_y_order n dl p0 p1 L I M si sa = if (f_y_draftOrder n dl p0 p1 L I M).1 < (0 : Int32) then ((f_y_draftOrder n dl p0 p1 L I M).1, (f_y_draftOrder n dl p0 p1 L I M).2.1, f_y_keepRing n dl (f_y_draftOrder n dl p0 p1 L I M).1 (f_y_draftOrder n dl p0 p1 L I M).2.2, M, si, sa) else ((f_y_draftOrder n dl p0 p1 L I M).1, f_y_carryOutDraft n dl (f_y_draftOrder n dl p0 p1 L I M).2.1 (f_y_keepRing n dl (f_y_draftOrder n dl p0 p1 L I M).1 (f_y_draftOrder n dl p0 p1 L I M).2.2) M si sa) := by
    unfold f_y_order
    simp only [bn3, bnd, bn5]
  have eK : ∀ (r : Int32) (J : Nat → Int32), f_y_keepRing n dl r J = if r = (-5 : Int32) then va_up J 3 (J 8) else J := fun _ _ => rfl
  rw [eY, fw_order_eq]
  have hn : n ≤ 40 := h.1.1.1.1
  have i3 : I 3 = V 33 := h.1.1.2.2.2.2.2.1.2.1.2.2
  rcases draft_R n dl B p0 p1 h hj with ⟨r, hr, e1, e2⟩ | ⟨⟨hc, hA, hL, hI⟩, hno⟩
  · rw [e1, e2]
    have hneg : r < 0 := by rcases hr with q | q <;> subst q <;> decide
    have hn0 : ¬ r = 0 := by rcases hr with q | q <;> subst q <;> decide
    have hn5 : ¬ r = -5 := by rcases hr with q | q <;> subst q <;> decide
    rw [if_pos hneg, if_neg hn0, eK, if_neg hn5]
    exact ⟨rfl, h.mono (by omega) hB, hj⟩
  · generalize f_y_draftOrder n dl p0 p1 L I M = A at hc hA hL hI ⊢
    generalize mDr n p0 p1 F V = D at hc hA hL hI ⊢
    rcases hc with ⟨c1, c2, c3⟩ | ⟨c1, c2, c3⟩ | ⟨c1, c2, c3, c4⟩
    · rw [if_pos (by rw [c1]; decide), if_neg (by rw [c2]; decide), eK, if_neg (by rw [c1]; decide)]
      refine ⟨by rw [c1, c2], (h.draft hA hL (fun j a _ => hI j a) (fun j _ => by rw [c3]) (by rw [hI 3 (by decide), c3]; exact i3)).mono (by omega) hB, hj.draft hA⟩
    · rw [if_pos (by rw [c1]; decide), if_neg (by rw [c2]; decide), eK, if_pos c1]
      have h2 : Rf n dl B A.2.1 (va_up A.2.2 3 (A.2.2 8)) M si sa D.2.1 D.2.2 := h.draft hA hL (fun j a b => by rw [va_up_ne _ _ b]; exact hI j a) (fun j a => by rw [c3, va_up_ne _ _ a]) (by rw [c3, va_up_self, va_up_self])
      exact ⟨by rw [c1, c2], h2.mono (by omega) hB, hj.draft hA⟩
    · have hle := cN_le (fun s => decide (¬ D.2.1 30 s = 0)) n
      have hnn : ¬ A.1 < 0 := by rw [c3]; exact nI_pos (by omega)
      have hn5 : ¬ A.1 = -5 := fun q => hnn (by rw [q]; decide)
      rw [if_neg hnn, if_pos c1, eK, if_neg hn5]
      have h2 : Rf n dl B A.2.1 A.2.2 M si sa D.2.1 D.2.2 := h.draft hA hL (fun j a _ => hI j a) (fun j _ => by rw [c2]) (by rw [hI 3 (by decide), c2]; exact i3)
      obtain ⟨w1, w2, w3, w4, w5⟩ := carry_R n dl B hB h2 c4 (hA 7 (by decide)).symm (fun s hs => by rw [hA 25 (by decide)]; exact hno s hs) _ rfl
      exact ⟨c3.trans w3.symm, w1, w2⟩

end
section
theorem ixn {n : Nat} (hn : n ≤ 40) {p : Int32} (c : (0 : Int32) ≤ p ∧ p < nI n) : ∃ x, x < n ∧ p = nI x := by
  rcases pk_ix p (n := n) (by omega) with q | q | q
  · exfalso
    have := c.1
    rw [Int32.le_iff_toInt_le] at this
    rw [Int32.lt_iff_toInt_lt] at q; omega
  · exfalso
    have := c.2
    rw [Int32.lt_iff_toInt_lt] at this
    rw [Int32.le_iff_toInt_le] at q; omega
  · exact q
theorem put_R (n : Nat) (dl : Nat → Nat) (B : Nat) {L : Nat → Int64} {I : Nat → Int32} {M : Nat → Nat → Int64} {si : Nat → Nat → Int32} {sa : Nat → Nat → Nat → Int32} {F : Nat → Nat → Int32} {V : Nat → Int32} {s sz : Nat} (hs : s < n) (h : Rf n dl B L I M si sa F V) (hk : F 0 s = 2) (e18 : F 18 s = nI sz) (hsz : sz < 20) : Rf n dl B (va_up L 1 (L 1 ||| oL s)) (va_up I 1 (I 1 + 1)) M (f_y_put n dl s (I 1) si sa).1 (f_y_put n dl s (I 1) si sa).2 (va_up (va_up F 17 (upd (F 17) (20 * s + sz) (V 23))) 18 (upd (F 18) s (nI (sz + 1)))) (va_up V 23 (V 23 + 1)) ∧ (f_y_put n dl s (I 1) si sa).1 s 6 = si s 6 := by
  have hn : n ≤ 40 := h.1.1.1.1
  have hRD := h.1.1.2.2.2.2.2.2.2.2.1
  have hRA := h.1.1.2.2.1
  obtain ⟨⟨d33, d34⟩, fi, sz2, d31, d32, d18, hfi, hsz2, hlet⟩ := hRD.1 s hs
  have hdl := (hRA s hs).2.2.2
  rw [if_pos hk] at hdl
  have e2 : sz2 = sz := (nI_eq (by omega) (by omega)).mp (d18.symm.trans e18)
  subst e2
  have i1 : I 1 = V 23 := h.1.1.2.2.2.2.2.1.2.1.1
  have i2 : I 2 = V 24 := h.1.1.2.2.2.2.2.1.2.1.2.1
  have eP : f_y_put n dl s (I 1) si sa = (up2 si s 32 (nI (sz2 + 1)), up2 sa s 5 (upd (sa s 5) ((fi + sz2) % 20) (I 1))) := by
    unfold f_y_put
    simp only [bnd]
    rw [d32, d31, nI_clamp (show sz2 < 2 ^ 31 by omega), hdl, if_pos hsz, nI_clamp (show fi < 2 ^ 31 by omega), nI_clamp (show (fi + sz2) % 20 < 2 ^ 31 by omega)]
  rw [eP]
  obtain ⟨F4, eF4⟩ : ∃ f9 : Nat → Nat → Int32, f9 = va_up (va_up F 17 (upd (F 17) (20 * s + sz2) (V 23))) 18 (upd (F 18) s (nI (sz2 + 1))) := ⟨_, rfl⟩
  rw [← eF4]
  have k17 : F4 17 = upd (F 17) (20 * s + sz2) (V 23) := by rw [eF4, va_up_ne _ _ (by decide), va_up_self]
  have k18 : F4 18 = upd (F 18) s (nI (sz2 + 1)) := by rw [eF4, va_up_self]
  have k15 : F4 15 = F 15 := by rw [eF4, va_up_ne _ _ (by decide), va_up_ne _ _ (by decide)]
  have k16 : F4 16 = F 16 := by rw [eF4, va_up_ne _ _ (by decide), va_up_ne _ _ (by decide)]
  have hA4 : Ag [15, 16, 17, 18] F F4 := by rw [eF4]; exact (Ag.up (by decide)).tr (Ag.up (by decide))
  clear eF4
  refine ⟨h.door hA4 (fun z q hq => ?_) (fun z q hq => up2_ne hq) (fun j a b => va_up_ne _ _ a) (fun j a b => va_up_ne _ _ a) ?_ ?_ (fun j a => va_up_ne _ _ a) ⟨fun z hz => ?_, fun z => ?_⟩ (fun z a b => ?_), up2_ne (by decide)⟩
  · simp only [List.mem_cons, List.not_mem_nil, or_false, not_or] at hq
    exact up2_ne hq.2.1
  · rw [va_up_self, va_up_self, i1]
  · rw [va_up_ne _ _ (by decide), va_up_ne _ _ (by decide)]; exact i2
  · rw [k15, k16, k17, k18]
    show (up2 si s 32 (nI (sz2 + 1)) z 33 = F 15 z ∧ up2 si s 32 (nI (sz2 + 1)) z 34 = F 16 z) ∧ ∃ fj sj, up2 si s 32 (nI (sz2 + 1)) z 31 = nI fj ∧ up2 si s 32 (nI (sz2 + 1)) z 32 = nI sj ∧ upd (F 18) s (nI (sz2 + 1)) z = nI sj ∧ fj < 20 ∧ sj ≤ dl z ∧ ∀ k, k < sj → upd (F 17) (20 * s + sz2) (V 23) (20 * z + k) = up2 sa s 5 (upd (sa s 5) ((fi + sz2) % 20) (I 1)) z 5 ((fj + k) % 20)
    rw [up2_ne (show (33 : Nat) ≠ 32 by decide), up2_ne (show (34 : Nat) ≠ 32 by decide), up2_ne (show (31 : Nat) ≠ 32 by decide)]
    by_cases e : z = s
    · subst e
      have u32 : up2 si z 32 (nI (sz2 + 1)) z 32 = nI (sz2 + 1) := by simp [up2]
      rw [u32, pk_us]
      refine ⟨⟨d33, d34⟩, fi, sz2 + 1, d31, rfl, rfl, hfi, by omega, fun k hk2 => ?_⟩
      have u5 : up2 sa z 5 (upd (sa z 5) ((fi + sz2) % 20) (I 1)) z 5 = upd (sa z 5) ((fi + sz2) % 20) (I 1) := by simp [up2]
      rw [u5]
      by_cases ek : k = sz2
      · subst ek; rw [pk_us, pk_us]; exact i1.symm
      · rw [pk_un (by omega), pk_un (by omega)]; exact hlet k (by omega)
    · have u32 : up2 si s 32 (nI (sz2 + 1)) z 32 = si z 32 := by simp [up2, e]
      rw [u32, pk_un e]
      obtain ⟨q1, fi2, sz3, q2, q3, q4, q5, q6, q7⟩ := hRD.1 z hz
      have hdl2 : sz3 ≤ 20 := by
        have hd2 := (hRA z hz).2.2.2
        by_cases c : F 0 z = 2
        · rw [if_pos c] at hd2; omega
        · rw [if_neg c] at hd2; omega
      refine ⟨q1, fi2, sz3, q2, q3, q4, q5, q6, fun k hk2 => ?_⟩
      rw [pk_un (by omega)]
      have u6 : ∀ g, up2 sa s 5 g z 5 = sa z 5 := fun g => by simp [up2, e]
      rw [u6]
      exact q7 k hk2
  · rw [va_up_self, bL_set (by omega), hRD.2 z, k18]
    by_cases e : z = s
    · subst e
      rw [pk_us]
      exact ⟨fun _ => ⟨hs, nI_ne0 (by omega) (by omega)⟩, fun _ => Or.inr rfl⟩
    · rw [pk_un e]; exact ⟨fun q => q.resolve_right e, fun q => Or.inl q⟩
  · rw [k15, k18, pk_un (by omega)]; exact ⟨rfl, rfl⟩
theorem lorder_R (n : Nat) (dl : Nat → Nat) (B : Nat) {L : Nat → Int64} {I : Nat → Int32} {M : Nat → Nat → Int64} {si : Nat → Nat → Int32} {sa : Nat → Nat → Nat → Int32} {F : Nat → Nat → Int32} {V : Nat → Int32} (p0 p1 : Int32) (hB : B + 80 < 536870912) (h : Rf n dl B L I M si sa F V) (hj : J0 n F) (x : (Nat → Int64) × (Nat → Int32) × (Nat → Nat → Int64) × (Nat → Nat → Int32) × (Nat → Nat → Nat → Int32)) (ex : x = if (f_y_draftOrder n dl p0 p1 L I M).1 < (0 : Int32) then ((f_y_draftOrder n dl p0 p1 L I M).2.1, (f_y_draftOrder n dl p0 p1 L I M).2.2, M, si, sa) else f_y_carryOutDraft n dl (f_y_draftOrder n dl p0 p1 L I M).2.1 (f_y_draftOrder n dl p0 p1 L I M).2.2 M si sa) : Rf n dl (B + 80) x.1 x.2.1 x.2.2.1 x.2.2.2.1 x.2.2.2.2 (f_w_order n p0 p1 F V).2.1 (va_up (f_w_order n p0 p1 F V).2.2 33 (V 33)) ∧ J0 n (f_w_order n p0 p1 F V).2.1 ∧ (f_w_order n p0 p1 F V).2.2 23 = V 23 := by
  rw [fw_order_eq]
  have hn : n ≤ 40 := h.1.1.1.1
  have i3 : I 3 = V 33 := h.1.1.2.2.2.2.2.1.2.1.2.2
  rcases draft_R n dl B p0 p1 h hj with ⟨r, hr, e1, e2⟩ | ⟨⟨hc, hA, hL, hI⟩, hno⟩
  · rw [e1] at ex
    rw [e2]
    have hneg : r < 0 := by rcases hr with q | q <;> subst q <;> decide
    have hn0 : ¬ r = 0 := by rcases hr with q | q <;> subst q <;> decide
    rw [if_pos hneg] at ex
    rw [if_neg hn0, ex]
    refine ⟨?_, hj, rfl⟩
    show Rf n dl (B + 80) L I M si sa F (va_up V 33 (V 33))
    rw [va_id]
    exact h.mono (by omega) hB
  · generalize f_y_draftOrder n dl p0 p1 L I M = A at hc hA hL hI ex
    generalize mDr n p0 p1 F V = D at hc hA hL hI ⊢
    rcases hc with ⟨c1, c2, c3⟩ | ⟨c1, c2, c3⟩ | ⟨c1, c2, c3, c4⟩
    · rw [if_pos (by rw [c1]; decide)] at ex
      rw [if_neg (by rw [c2]; decide), ex]
      have h2 : Rf n dl B A.2.1 A.2.2 M si sa D.2.1 (va_up D.2.2 33 (V 33)) := h.draft hA hL (fun j a _ => hI j a) (fun j a => by rw [c3, va_up_ne _ _ a]) (by rw [hI 3 (by decide), va_up_self]; exact i3)
      exact ⟨h2.mono (by omega) hB, hj.draft hA, by rw [c3]⟩
    · rw [if_pos (by rw [c1]; decide)] at ex
      rw [if_neg (by rw [c2]; decide), ex]
      have h2 : Rf n dl B A.2.1 A.2.2 M si sa D.2.1 (va_up D.2.2 33 (V 33)) := h.draft hA hL (fun j a _ => hI j a) (fun j a => by rw [c3, va_up_ne _ _ a, va_up_ne _ _ a]) (by rw [hI 3 (by decide), va_up_self]; exact i3)
      exact ⟨h2.mono (by omega) hB, hj.draft hA, by rw [c3, va_up_ne _ _ (by decide)]⟩
    · have hle := cN_le (fun s => decide (¬ D.2.1 30 s = 0)) n
      have hnn : ¬ A.1 < 0 := by rw [c3]; exact nI_pos (by omega)
      rw [if_neg hnn] at ex
      rw [if_pos c1, ex]
      have h2 : Rf n dl B A.2.1 A.2.2 M si sa D.2.1 D.2.2 := h.draft hA hL (fun j a _ => hI j a) (fun j _ => by rw [c2]) (by rw [hI 3 (by decide), c2]; exact i3)
      obtain ⟨w1, w2, w3, w4, w5⟩ := carry_R n dl B hB h2 c4 (hA 7 (by decide)).symm (fun s hs => by rw [hA 25 (by decide)]; exact hno s hs) _ rfl
      generalize f_w_order_35 n (n + 1) (0 : Nat) D.2.1 D.2.2 (fun (i11 : Nat) (F15 : Nat → Nat → Int32) (V16 : Nat → Int32) => bn2 (f_w_begin n F15 V16) (fun (F19 : Nat → Nat → Int32) (V20 : Nat → Int32) => bnd (f_w_many n n F19) (fun (r21 : Int32) => (r21, F19, V20)))) = E at w1 w2 w3 w5 ⊢
      have e33 : E.2.2 33 = V 33 := by rw [w5 33 (by decide), c2]
      rw [← e33, va_id]
      exact ⟨w1, w2, by rw [w5 23 (by decide), c2]⟩
theorem letter_R (n : Nat) (dl : Nat → Nat) (B : Nat) {L : Nat → Int64} {I : Nat → Int32} {M : Nat → Nat → Int64} {si : Nat → Nat → Int32} {sa : Nat → Nat → Nat → Int32} {F : Nat → Nat → Int32} {V : Nat → Int32} (p0 : Int32) (hB : B + 80 < 536870912) (h : Rf n dl B L I M si sa F V) (hj : J0 n F) : (f_y_letter n dl p0 L I M si sa).1 = (f_w_letter n p0 F V).1 ∧ Rf n dl (B + 80) (f_y_letter n dl p0 L I M si sa).2.1 (f_y_letter n dl p0 L I M si sa).2.2.1 (f_y_letter n dl p0 L I M si sa).2.2.2.1 (f_y_letter n dl p0 L I M si sa).2.2.2.2.1 (f_y_letter n dl p0 L I M si sa).2.2.2.2.2 (f_w_letter n p0 F V).2.1 (f_w_letter n p0 F V).2.2 ∧ J0 n (f_w_letter n p0 F V).2.1 := by
  have hn : n ≤ 40 := h.1.1.1.1
  unfold f_y_letter f_w_letter
  by_cases c : (0 : Int32) ≤ p0 ∧ p0 < nI n
  · rw [if_pos c, if_pos c]
    obtain ⟨s, hs, es⟩ := ixn hn c
    subst es
    simp only [bnd_e]
    rw [nI_clamp (show s < 2 ^ 31 by omega), nI_clamp (show s < 2 ^ 31 by omega)]
    have hRD := h.1.1.2.2.2.2.2.2.2.2.1
    have hRA := h.1.1.2.2.1
    obtain ⟨_, fi, sz, d31, d32, d18, hfi, hsz, hlet⟩ := hRD.1 s hs
    have hdl := (hRA s hs).2.2.2
    rw [(hRA s hs).1.1]
    by_cases ck : F 0 s = 2
    · rw [if_pos ck, if_pos ck]
      rw [if_pos ck] at hdl
      rw [d32, d18, nI_clamp (show sz < 2 ^ 31 by omega), hdl]
      by_cases c20 : sz = 20
      · rw [if_neg (show ¬ sz < 20 by omega), if_pos c20]
        exact ⟨rfl, h.mono (by omega) hB, hj⟩
      · rw [if_pos (show sz < 20 by omega), if_neg c20]
        obtain ⟨g1, g2⟩ := put_R n dl B hs h ck d18 (by omega)
        have i1 : I 1 = V 23 := h.1.1.2.2.2.2.2.1.2.1.1
        have s6 : si s 6 = F 7 s := (h.1.1.2.2.2.1 s hs).1
        obtain ⟨t0, ht0, e7⟩ := (h.1.1.2.2.2.1 s hs).2.1
        simp only [bn2]
        rw [g2, s6, e7, nI_clamp (show t0 < 2 ^ 31 by omega), nI_clamp (show 20 * s + sz < 2 ^ 31 by omega), fy_only]
        have c7 : va_up (va_up F 17 (upd (F 17) (20 * s + sz) (V 23))) 18 (upd (va_up F 17 (upd (F 17) (20 * s + sz) (V 23)) 18) s (nI (sz + 1))) 7 s = nI t0 := by
          rw [va_up_ne _ _ (by decide), va_up_ne _ _ (by decide)]; exact e7
        have c18 : va_up F 17 (upd (F 17) (20 * s + sz) (V 23)) 18 = F 18 := va_up_ne _ _ (by decide)
        rw [c7, c18]
        have hj2 : J0 n (va_up (va_up F 17 (upd (F 17) (20 * s + sz) (V 23))) 18 (upd (F 18) s (nI (sz + 1)))) := fun z hz => by
          rw [ejb_c (F := F) (by rw [va_up_ne _ _ (by decide), va_up_ne _ _ (by decide)]) (by rw [va_up_ne _ _ (by decide), va_up_ne _ _ (by decide)]) (by rw [va_up_ne _ _ (by decide), va_up_ne _ _ (by decide)])]
          exact hj z hz
        have hcan : ∀ v : Int32, v + 1 - 1 = v := fun v => by rw [Int32.add_sub_cancel]
        by_cases c0 : t0 = 0
        · subst c0
          rw [if_pos rfl, if_pos (show nI 0 = 0 from rfl)]
          simp only [bn3, bn5]
          obtain ⟨w1, w2, w3⟩ := lorder_R n dl B 0 (nI s) hB g1 hj2 _ rfl
          generalize f_w_order n 0 (nI s) (va_up (va_up F 17 (upd (F 17) (20 * s + sz) (V 23))) 18 (upd (F 18) s (nI (sz + 1)))) (va_up V 23 (V 23 + 1)) = E at w1 w2 w3 ⊢
          have ans : va_up E.2.2 33 (va_up V 23 (V 23 + 1) 33) 23 - 1 = I 1 := by
            rw [va_up_ne _ _ (by decide), w3, va_up_self, hcan, i1]
          generalize f_y_draftOrder n dl 0 (nI s) (va_up L 1 (L 1 ||| oL s)) (va_up I 1 (I 1 + 1)) M = A at w1 ⊢
          by_cases cA : A.1 < 0
          · rw [if_pos cA] at w1 ⊢
            exact ⟨ans.symm, w1, w2⟩
          · rw [if_neg cA] at w1 ⊢
            exact ⟨ans.symm, w1, w2⟩
        · rw [if_neg c0, if_neg (show ¬ nI t0 = (0 : Int32) from fun q => c0 ((nI_eq (a := t0) (b := 0) (by omega) (by omega)).mp q))]
          exact ⟨by show I 1 = V 23 + 1 - 1; rw [hcan, i1], g1.mono (by omega) hB, hj2⟩
    · rw [if_neg ck, if_neg ck]
      exact ⟨rfl, h.mono (by omega) hB, hj⟩
  · rw [if_neg c, if_neg c]
    exact ⟨rfl, h.mono (by omega) hB, hj⟩

end
section
theorem Rf.rel {n : Nat} {dl : Nat → Nat} {B B2 : Nat} {L : Nat → Int64} {I I2 : Nat → Int32} {M M2 : Nat → Nat → Int64} {si : Nat → Nat → Int32} {sa : Nat → Nat → Nat → Int32} {F F2 : Nat → Nat → Int32} {V V2 : Nat → Int32} (h : Rf n dl B L I M si sa F V) (hb : B ≤ B2) (hb2 : B2 < 536870912) (hno : ∀ s, s < n → F 25 s = 0) (hRR2 : RR n M2 F2) (h8 : M2 8 = M 8) (h9 : M2 9 = M 9) (hA : Ag [19] F F2) (hI : ∀ j, j ≠ 7 → I2 j = I j) (hV : ∀ j, j ≠ 20 → V2 j = V j) (h7 : I2 7 = V2 20 ∧ ∃ r u, u ≤ B2 ∧ r ≤ 400 + u ∧ V2 20 = nI r - nI u) (hG : ∀ s, s < n → (F 7 s = 1 ∨ F 7 s = 2) → anyN (lkB F s) n = false → anyN (lkB F2 s) n = false) : Rf n dl B2 L I2 M2 si sa F2 V2 := by
  obtain ⟨⟨⟨⟨hn, _⟩, hRR, hRA, hRE, hRS, hRI, hRH, hRG, hRD, hRZ⟩, hJ, hBB⟩, hRF, hRT⟩ := h
  refine ⟨⟨⟨⟨hn, hb2⟩, hRR2, ?_, ?_, ?_, ?_, ?_, ?_, ?_, ?_⟩, ?_, ?_⟩, ?_, ?_⟩
  · unfold RA; rw [hA 0 (by decide), hA 1 (by decide), hA 2 (by decide), hA 3 (by decide), hA 4 (by decide), hA 5 (by decide), hA 6 (by decide)]; exact hRA
  · unfold RE; rw [hA 1 (by decide), hA 2 (by decide), hA 7 (by decide), hA 8 (by decide), hA 9 (by decide), hA 11 (by decide), hA 12 (by decide)]; exact hRE
  · unfold RS; rw [h9, hA 7 (by decide)]; exact hRS
  · have hR2 := hRI.mono hb
    unfold RI at hR2 ⊢
    rw [hI 0 (by decide), hI 1 (by decide), hI 2 (by decide), hI 3 (by decide), hI 12 (by decide), hI 4 (by decide), hV 22 (by decide), hV 23 (by decide), hV 24 (by decide), hV 33 (by decide), hV 45 (by decide), hA 9 (by decide)]
    exact ⟨hR2.1, hR2.2.1, h7, hR2.2.2.2⟩
  · rw [h8]; unfold RH; rw [hA 42 (by decide), hA 43 (by decide), hA 44 (by decide)]; exact hRH
  · intro q s hs q2
    rw [hI 4 (by decide), hI 12 (by decide)] at q
    rw [hA 7 (by decide)] at q2
    exact hG s hs q2 (hRG q s hs q2)
  · unfold RD; rw [hA 15 (by decide), hA 16 (by decide), hA 17 (by decide), hA 18 (by decide)]; exact hRD
  · intro s a b
    rw [hA 5 (by decide), hA 7 (by decide), hA 9 (by decide), hA 10 (by decide), hA 11 (by decide), hA 14 (by decide), hA 15 (by decide), hA 18 (by decide), hA 25 (by decide), hA 3 (by decide)]
    exact hRZ s a b
  · have he : ∀ s, ejb F2 s = ejb F s := fun s => ejb_c (by rw [hA 25 (by decide)]) (by rw [hA 26 (by decide)]) (by rw [hA 7 (by decide)])
    unfold RJ
    rw [hA 25 (by decide), hA 26 (by decide)]
    simp only [he]
    exact hJ
  · intro z hz
    obtain ⟨a, b, _⟩ := (hJ.2.2.1 z).mp hz
    exact absurd (hno z a) b
  · unfold RF; rw [hA 10 (by decide)]; exact hRF
  · exact hRT.keep (fun s _ => ⟨rfl, rfl, rfl⟩) (hA 13 (by decide)) (hA 14 (by decide)) (hV 22 (by decide))
theorem wow1_b (n : Nat) (dl : Nat → Nat) {o a b : Nat} (M : Nat → Nat → Int64) (ho : o < 4) (ha : a < 40) (hb : b < 40) : (∀ h x y, bL (f_y_wow1 n dl o a b M h x) y = true ↔ bL (M h x) y = true ∨ (h = o ∧ x = a ∧ y = b) ∨ (h = 4 + o ∧ x = b ∧ y = a)) ∧ f_y_wow1 n dl o a b M 8 = M 8 ∧ f_y_wow1 n dl o a b M 9 = M 9 := by
  have e : f_y_wow1 n dl o a b M = va_up (va_up M o (vp_updL (M o) a (M o a ||| oL b))) (4 + o) (vp_updL (M (4 + o)) b (M (4 + o) b ||| oL a)) := by
    unfold f_y_wow1
    simp only [bnd]
    rw [nI_clamp (show a < 2 ^ 31 by omega), nI_clamp (show b < 2 ^ 31 by omega), fy_only, fy_only, va_up_ne _ _ (show 4 + o ≠ o by omega)]
  rw [e]
  refine ⟨fun h x y => ?_, ?_, ?_⟩
  · by_cases c1 : h = 4 + o
    · subst c1
      rw [va_up_self]
      by_cases c2 : x = b
      · subst c2
        rw [pk_uLs, bL_set (by omega)]
        exact ⟨fun q => by rcases q with q | q; exact Or.inl q; exact Or.inr (Or.inr ⟨rfl, rfl, q⟩), fun q => by rcases q with q | ⟨q, _⟩ | ⟨_, _, q⟩; exact Or.inl q; omega; exact Or.inr q⟩
      · rw [pk_uLn c2]
        exact ⟨fun q => Or.inl q, fun q => by rcases q with q | ⟨q, _⟩ | ⟨_, q, _⟩; exact q; omega; exact absurd q c2⟩
    · rw [va_up_ne _ _ c1]
      by_cases c3 : h = o
      · subst c3
        rw [va_up_self]
        by_cases c2 : x = a
        · subst c2
          rw [pk_uLs, bL_set (by omega)]
          exact ⟨fun q => by rcases q with q | q; exact Or.inl q; exact Or.inr (Or.inl ⟨rfl, rfl, q⟩), fun q => by rcases q with q | ⟨_, _, q⟩ | ⟨q, _⟩; exact Or.inl q; exact Or.inr q; omega⟩
        · rw [pk_uLn c2]
          exact ⟨fun q => Or.inl q, fun q => by rcases q with q | ⟨_, q, _⟩ | ⟨q, _⟩; exact q; exact absurd q c2; omega⟩
      · rw [va_up_ne _ _ c3]
        exact ⟨fun q => Or.inl q, fun q => by rcases q with q | ⟨q, _⟩ | ⟨q, _⟩; exact q; exact absurd q c3; exact absurd q c1⟩
  · rw [va_up_ne _ _ (by omega), va_up_ne _ _ (by omega)]
  · rw [va_up_ne _ _ (by omega), va_up_ne _ _ (by omega)]
theorem wow0_b (n : Nat) (dl : Nat → Nat) {o a b : Nat} (M : Nat → Nat → Int64) (ho : o < 4) (ha : a < 40) (hb : b < 40) : (∀ h x y, bL (f_y_wow0 n dl o a b M h x) y = true ↔ bL (M h x) y = true ∧ ¬ (h = o ∧ x = a ∧ y = b) ∧ ¬ (h = 4 + o ∧ x = b ∧ y = a)) ∧ f_y_wow0 n dl o a b M 8 = M 8 ∧ f_y_wow0 n dl o a b M 9 = M 9 := by
  have e : f_y_wow0 n dl o a b M = va_up (va_up M o (vp_updL (M o) a (M o a &&& (oL b ^^^ (-1))))) (4 + o) (vp_updL (M (4 + o)) b (M (4 + o) b &&& (oL a ^^^ (-1)))) := by
    unfold f_y_wow0
    simp only [bnd]
    rw [nI_clamp (show a < 2 ^ 31 by omega), nI_clamp (show b < 2 ^ 31 by omega), fy_only, fy_only, va_up_ne _ _ (show 4 + o ≠ o by omega)]
  rw [e]
  refine ⟨fun h x y => ?_, ?_, ?_⟩
  · by_cases c1 : h = 4 + o
    · subst c1
      rw [va_up_self]
      by_cases c2 : x = b
      · subst c2
        rw [pk_uLs, bL_clr (by omega)]
        exact ⟨fun q => ⟨q.1, fun p => by omega, fun p => q.2 p.2.2⟩, fun q => ⟨q.1, fun p => q.2.2 ⟨rfl, rfl, p⟩⟩⟩
      · rw [pk_uLn c2]
        exact ⟨fun q => ⟨q, fun p => by omega, fun p => c2 p.2.1⟩, fun q => q.1⟩
    · rw [va_up_ne _ _ c1]
      by_cases c3 : h = o
      · subst c3
        rw [va_up_self]
        by_cases c2 : x = a
        · subst c2
          rw [pk_uLs, bL_clr (by omega)]
          exact ⟨fun q => ⟨q.1, fun p => q.2 p.2.2, fun p => c1 p.1⟩, fun q => ⟨q.1, fun p => q.2.1 ⟨rfl, rfl, p⟩⟩⟩
        · rw [pk_uLn c2]
          exact ⟨fun q => ⟨q, fun p => c2 p.2.1, fun p => c1 p.1⟩, fun q => q.1⟩
      · rw [va_up_ne _ _ c3]
        exact ⟨fun q => ⟨q, fun p => c3 p.1, fun p => c1 p.1⟩, fun q => q.1⟩
  · rw [va_up_ne _ _ (by omega), va_up_ne _ _ (by omega)]
  · rw [va_up_ne _ _ (by omega), va_up_ne _ _ (by omega)]
def prP (o a b h x y : Nat) : Prop := (h = o ∧ x = a ∧ y = b) ∨ (o = 3 ∧ h = 3 ∧ x = b ∧ y = a)
theorem write1_b (n : Nat) (dl : Nat → Nat) {o a b : Nat} (M : Nat → Nat → Int64) (ho : o < 4) (ha : a < 40) (hb : b < 40) : (∀ h x y, h < 4 → (bL (f_y_write1 n dl o a b M h x) y = true ↔ bL (M h x) y = true ∨ prP o a b h x y)) ∧ (∀ h x y, h < 4 → (bL (f_y_write1 n dl o a b M (4 + h) y) x = true ↔ bL (M (4 + h) y) x = true ∨ prP o a b h x y)) ∧ f_y_write1 n dl o a b M 8 = M 8 ∧ f_y_write1 n dl o a b M 9 = M 9 := by
  obtain ⟨w1, w8, w9⟩ := wow1_b n dl M ho ha hb
  have e : f_y_write1 n dl o a b M = if o = 3 then f_y_wow1 n dl o b a (f_y_wow1 n dl o a b M) else f_y_wow1 n dl o a b M := rfl
  rw [e]
  unfold prP
  by_cases c : o = 3
  · rw [if_pos c]
    obtain ⟨v1, v8, v9⟩ := wow1_b n dl (f_y_wow1 n dl o a b M) ho hb ha
    refine ⟨fun h x y hh => ?_, fun h x y hh => ?_, v8.trans w8, v9.trans w9⟩
    · rw [v1, w1]; subst c
      constructor
      · rintro ((q | ⟨q1, q2, q3⟩ | ⟨q1, _⟩) | ⟨q1, q2, q3⟩ | ⟨q1, _⟩)
        · exact Or.inl q
        · exact Or.inr (Or.inl ⟨q1, q2, q3⟩)
        · omega
        · exact Or.inr (Or.inr ⟨rfl, q1, q2, q3⟩)
        · omega
      · rintro (q | ⟨q1, q2, q3⟩ | ⟨_, q1, q2, q3⟩)
        · exact Or.inl (Or.inl q)
        · exact Or.inl (Or.inr (Or.inl ⟨q1, q2, q3⟩))
        · exact Or.inr (Or.inl ⟨q1, q2, q3⟩)
    · rw [v1, w1]; subst c
      constructor
      · rintro ((q | ⟨q1, _⟩ | ⟨q1, q2, q3⟩) | ⟨q1, _⟩ | ⟨q1, q2, q3⟩)
        · exact Or.inl q
        · omega
        · exact Or.inr (Or.inl ⟨by omega, q3, q2⟩)
        · omega
        · exact Or.inr (Or.inr ⟨rfl, by omega, q3, q2⟩)
      · rintro (q | ⟨q1, q2, q3⟩ | ⟨_, q1, q2, q3⟩)
        · exact Or.inl (Or.inl q)
        · exact Or.inl (Or.inr (Or.inr ⟨by omega, q3, q2⟩))
        · exact Or.inr (Or.inr ⟨by omega, q3, q2⟩)
  · rw [if_neg c]
    refine ⟨fun h x y hh => ?_, fun h x y hh => ?_, w8, w9⟩
    · rw [w1]
      constructor
      · rintro (q | ⟨q1, q2, q3⟩ | ⟨q1, _⟩)
        · exact Or.inl q
        · exact Or.inr (Or.inl ⟨q1, q2, q3⟩)
        · omega
      · rintro (q | ⟨q1, q2, q3⟩ | ⟨q1, _⟩)
        · exact Or.inl q
        · exact Or.inr (Or.inl ⟨q1, q2, q3⟩)
        · exact absurd q1 c
    · rw [w1]
      constructor
      · rintro (q | ⟨q1, _⟩ | ⟨q1, q2, q3⟩)
        · exact Or.inl q
        · omega
        · exact Or.inr (Or.inl ⟨by omega, q3, q2⟩)
      · rintro (q | ⟨q1, q2, q3⟩ | ⟨q1, _⟩)
        · exact Or.inl q
        · exact Or.inr (Or.inr ⟨by omega, q3, q2⟩)
        · exact absurd q1 c

end
section
theorem write0_b (n : Nat) (dl : Nat → Nat) {o a b : Nat} (M : Nat → Nat → Int64) (ho : o < 4) (ha : a < 40) (hb : b < 40) : (∀ h x y, h < 4 → (bL (f_y_write0 n dl o a b M h x) y = true ↔ bL (M h x) y = true ∧ ¬ prP o a b h x y)) ∧ (∀ h x y, h < 4 → (bL (f_y_write0 n dl o a b M (4 + h) y) x = true ↔ bL (M (4 + h) y) x = true ∧ ¬ prP o a b h x y)) ∧ f_y_write0 n dl o a b M 8 = M 8 ∧ f_y_write0 n dl o a b M 9 = M 9 := by
  obtain ⟨w1, w8, w9⟩ := wow0_b n dl M ho ha hb
  have e : f_y_write0 n dl o a b M = if o = 3 then f_y_wow0 n dl o b a (f_y_wow0 n dl o a b M) else f_y_wow0 n dl o a b M := rfl
  rw [e]
  unfold prP
  by_cases c : o = 3
  · rw [if_pos c]
    obtain ⟨v1, v8, v9⟩ := wow0_b n dl (f_y_wow0 n dl o a b M) ho hb ha
    refine ⟨fun h x y hh => ?_, fun h x y hh => ?_, v8.trans w8, v9.trans w9⟩
    · rw [v1, w1]; subst c
      constructor
      · rintro ⟨⟨q, q1, q2⟩, q3, q4⟩
        refine ⟨q, ?_⟩
        rintro (p | ⟨_, p⟩)
        · exact q1 p
        · exact q3 p
      · rintro ⟨q, q1⟩
        exact ⟨⟨q, fun p => q1 (Or.inl p), fun p => by omega⟩, fun p => q1 (Or.inr ⟨rfl, p⟩), fun p => by omega⟩
    · rw [v1, w1]; subst c
      constructor
      · rintro ⟨⟨q, q1, q2⟩, q3, q4⟩
        refine ⟨q, ?_⟩
        rintro (⟨p1, p2, p3⟩ | ⟨_, p1, p2, p3⟩)
        · exact q2 ⟨by omega, p3, p2⟩
        · exact q4 ⟨by omega, p3, p2⟩
      · rintro ⟨q, q1⟩
        exact ⟨⟨q, fun p => by omega, fun p => q1 (Or.inl ⟨by omega, p.2.2, p.2.1⟩)⟩, fun p => by omega, fun p => q1 (Or.inr ⟨rfl, by omega, p.2.2, p.2.1⟩)⟩
  · rw [if_neg c]
    refine ⟨fun h x y hh => ?_, fun h x y hh => ?_, w8, w9⟩
    · rw [w1]
      constructor
      · rintro ⟨q, q1, q2⟩
        refine ⟨q, ?_⟩
        rintro (p | ⟨p, _⟩)
        · exact q1 p
        · exact c p
      · rintro ⟨q, q1⟩
        exact ⟨q, fun p => q1 (Or.inl p), fun p => by omega⟩
    · rw [w1]
      constructor
      · rintro ⟨q, q1, q2⟩
        refine ⟨q, ?_⟩
        rintro (⟨p1, p2, p3⟩ | ⟨p, _⟩)
        · exact q2 ⟨by omega, p3, p2⟩
        · exact c p
      · rintro ⟨q, q1⟩
        exact ⟨q, fun p => by omega, fun p => q1 (Or.inl ⟨by omega, p.2.2, p.2.1⟩)⟩
theorem set_b (n : Nat) (v : Int32) (hv : v = 0 ∨ v = 1) {o a b : Nat} (F : Nat → Nat → Int32) (ho : o < 4) (ha : a < 40) (hb : b < 40) (h01 : ∀ j, F 19 j = 0 ∨ F 19 j = 1) (F2 : Nat → Nat → Int32) (e : F2 = if o = 3 then va_up (va_up F 19 (upd (F 19) (ix o a b) v)) 19 (upd (va_up F 19 (upd (F 19) (ix o a b) v) 19) (ix o b a) v) else va_up F 19 (upd (F 19) (ix o a b) v)) : Ag [19] F F2 ∧ (∀ j, F2 19 j = 0 ∨ F2 19 j = 1) ∧ ∀ h x y, x < 40 → y < 40 → ((prP o a b h x y → F2 19 (ix h x y) = v) ∧ (¬ prP o a b h x y → F2 19 (ix h x y) = F 19 (ix h x y))) := by
  have hupd : ∀ (f : Nat → Int32) (k : Nat), (∀ j, f j = 0 ∨ f j = 1) → ∀ j, upd f k v j = 0 ∨ upd f k v j = 1 := by
    intro f k hf j
    by_cases c : j = k
    · subst c; rw [pk_us]; exact hv
    · rw [pk_un c]; exact hf j
  by_cases c : o = 3
  · rw [if_pos c, va_up_self, va_uu] at e
    subst e
    rw [va_up_self]
    refine ⟨Ag.up (by decide), hupd _ _ (hupd _ _ h01), fun h x y hx hy => ⟨fun q => ?_, fun q => ?_⟩⟩
    · rcases q with ⟨q1, q2, q3⟩ | ⟨_, q1, q2, q3⟩
      · rw [q1, q2, q3]
        by_cases d : ix o a b = ix o b a
        · rw [d, pk_us]
        · rw [pk_un d, pk_us]
      · rw [q1, q2, q3, ← c, pk_us]
    · rw [pk_un (fun d => q (by
        obtain ⟨d1, d2, d3⟩ := ix_inj hx hy hb ha d
        exact Or.inr ⟨c, by omega, d2, d3⟩)), pk_un (fun d => q (by
        obtain ⟨d1, d2, d3⟩ := ix_inj hx hy ha hb d
        exact Or.inl ⟨d1, d2, d3⟩))]
  · rw [if_neg c] at e
    subst e
    rw [va_up_self]
    refine ⟨Ag.up (by decide), hupd _ _ h01, fun h x y hx hy => ⟨fun q => ?_, fun q => ?_⟩⟩
    · rcases q with ⟨q1, q2, q3⟩ | ⟨q1, _⟩
      · rw [q1, q2, q3, pk_us]
      · exact absurd q1 c
    · rw [pk_un (fun d => q (by
        obtain ⟨d1, d2, d3⟩ := ix_inj hx hy ha hb d
        exact Or.inl ⟨d1, d2, d3⟩))]
theorem prP.sym3 {a b x y : Nat} (h : prP 3 a b 3 x y) : prP 3 a b 3 y x := by
  rcases h with ⟨_, q2, q3⟩ | ⟨_, _, q2, q3⟩
  · exact Or.inr ⟨rfl, rfl, q3, q2⟩
  · exact Or.inl ⟨rfl, q3, q2⟩
theorem RR.add (n : Nat) (dl : Nat → Nat) {o a b : Nat} {M : Nat → Nat → Int64} {F F2 : Nat → Nat → Int32} (h : RR n M F) (hn : n ≤ 40) (ho : o < 4) (ha : a < n) (hb : b < n) (hab : a ≠ b) (hA : ∀ j, F2 19 j = 0 ∨ F2 19 j = 1) (hF : ∀ h x y, x < 40 → y < 40 → ((prP o a b h x y → F2 19 (ix h x y) = 1) ∧ (¬ prP o a b h x y → F2 19 (ix h x y) = F 19 (ix h x y)))) : RR n (f_y_write1 n dl o a b M) F2 := by
  obtain ⟨r1, r2, r3, r4, r5⟩ := h
  obtain ⟨w1, w2, _, _⟩ := write1_b n dl M ho (show a < 40 by omega) (show b < 40 by omega)
  have hlt : ∀ h x y, prP o a b h x y → x < n ∧ y < n ∧ x ≠ y := by
    intro h x y q
    rcases q with ⟨_, q2, q3⟩ | ⟨_, _, q2, q3⟩
    · subst q2; subst q3; exact ⟨ha, hb, hab⟩
    · subst q2; subst q3; exact ⟨hb, ha, hab.symm⟩
  refine ⟨fun k x y hk => ?_, fun k x y hk => ?_, fun x y q => ?_, fun k x hk => ?_, hA⟩
  · rw [w1 k x y hk, r1 k x y hk]
    constructor
    · rintro (⟨q1, q2, q3⟩ | q)
      · refine ⟨q1, q2, ?_⟩
        by_cases c : prP o a b k x y
        · rw [HS_t, (hF k x y (by omega) (by omega)).1 c]; decide
        · rw [HS_t, (hF k x y (by omega) (by omega)).2 c]; exact HS_t.mp q3
      · obtain ⟨q1, q2, _⟩ := hlt k x y q
        exact ⟨q1, q2, by rw [HS_t, (hF k x y (by omega) (by omega)).1 q]; decide⟩
    · rintro ⟨q1, q2, q3⟩
      by_cases c : prP o a b k x y
      · exact Or.inr c
      · rw [HS_t, (hF k x y (by omega) (by omega)).2 c] at q3
        exact Or.inl ⟨q1, q2, HS_t.mpr q3⟩
  · rw [w2 k x y hk, w1 k x y hk, r2 k x y hk]
  · rw [w1 3 x y (by omega)] at q
    rw [w1 3 y x (by omega)]
    rcases q with q | q
    · exact Or.inl (r3 x y q)
    · right
      have ho3 : o = 3 := by rcases q with ⟨q1, _⟩ | ⟨q1, _⟩; exact q1.symm; exact q1
      subst ho3
      exact q.sym3
  · refine bL_f (fun q => ?_)
    rw [w1 k x x hk] at q
    rcases q with q | q
    · rw [r4 k x hk] at q; cases q
    · exact absurd rfl (hlt k x x q).2.2
theorem RR.sub (n : Nat) (dl : Nat → Nat) {o a b : Nat} {M : Nat → Nat → Int64} {F F2 : Nat → Nat → Int32} (h : RR n M F) (hn : n ≤ 40) (ho : o < 4) (ha : a < n) (hb : b < n) (hA : ∀ j, F2 19 j = 0 ∨ F2 19 j = 1) (hF : ∀ h x y, x < 40 → y < 40 → ((prP o a b h x y → F2 19 (ix h x y) = 0) ∧ (¬ prP o a b h x y → F2 19 (ix h x y) = F 19 (ix h x y)))) : RR n (f_y_write0 n dl o a b M) F2 := by
  obtain ⟨r1, r2, r3, r4, r5⟩ := h
  obtain ⟨w1, w2, _, _⟩ := write0_b n dl M ho (show a < 40 by omega) (show b < 40 by omega)
  refine ⟨fun k x y hk => ?_, fun k x y hk => ?_, fun x y q => ?_, fun k x hk => ?_, hA⟩
  · rw [w1 k x y hk, r1 k x y hk]
    constructor
    · rintro ⟨⟨q1, q2, q3⟩, c⟩
      exact ⟨q1, q2, by rw [HS_t, (hF k x y (by omega) (by omega)).2 c]; exact HS_t.mp q3⟩
    · rintro ⟨q1, q2, q3⟩
      by_cases c : prP o a b k x y
      · rw [HS_t, (hF k x y (by omega) (by omega)).1 c] at q3
        exact absurd rfl q3
      · rw [HS_t, (hF k x y (by omega) (by omega)).2 c] at q3
        exact ⟨⟨q1, q2, HS_t.mpr q3⟩, c⟩
  · rw [w2 k x y hk, w1 k x y hk, r2 k x y hk]
  · rw [w1 3 x y (by omega)] at q
    rw [w1 3 y x (by omega)]
    refine ⟨r3 x y q.1, fun p => q.2 ?_⟩
    have ho3 : o = 3 := by rcases p with ⟨q1, _⟩ | ⟨q1, _⟩; exact q1.symm; exact q1
    subst ho3
    exact p.sym3
  · refine bL_f (fun q => ?_)
    rw [w1 k x x hk, r4 k x hk] at q
    exact absurd q.1 (by decide)

end
section
def relT (n : Nat) (dl : Nat → Nat) (o a b : Nat) (I : Nat → Int32) (M : Nat → Nat → Int64) : Int32 × (Nat → Int32) × (Nat → Nat → Int64) := if f_y_told n dl o a b M = (0 : Int32) then (if I 7 < (400 : Int32) then ((1 : Int32), va_up I 7 (I 7 + 1), f_y_write1 n dl o a b M) else ((-6 : Int32), I, M)) else ((0 : Int32), I, M)
def relG (n : Nat) (dl : Nat → Nat) (o a b : Nat) (I : Nat → Int32) (M : Nat → Nat → Int64) : Int32 × (Nat → Int32) × (Nat → Nat → Int64) := if f_y_holds n dl (M 9 (nI 0).toNatClampNeg ||| M 9 (nI 4).toNatClampNeg) a = (0 : Int32) then ((-4 : Int32), I, M) else if f_y_holds n dl (M 9 (nI 0).toNatClampNeg ||| M 9 (nI 4).toNatClampNeg) b = (0 : Int32) then ((-4 : Int32), I, M) else relT n dl o a b I M
theorem fy_relation_eq (n : Nat) (dl : Nat → Nat) (p0 p1 p2 : Int32) (L : Nat → Int64) (I : Nat → Int32) (M : Nat → Nat → Int64) : f_y_relation n dl p0 p1 p2 L I M = if ((0 : Int32) ≤ p0 ∧ p0 ≤ (3 : Int32)) ∧ ((0 : Int32) ≤ p1 ∧ p1 < nI n) ∧ ((0 : Int32) ≤ p2 ∧ p2 < nI n) ∧ ¬ p1 = p2 then (if lg_cmp (L 5 ||| L 6) (0 : Int64) = (0 : Int32) then (if p0.toNatClampNeg = 0 then relG n dl p0.toNatClampNeg p1.toNatClampNeg p2.toNatClampNeg I M else if p0.toNatClampNeg = 3 then relG n dl p0.toNatClampNeg p1.toNatClampNeg p2.toNatClampNeg I M else relT n dl p0.toNatClampNeg p1.toNatClampNeg p2.toNatClampNeg I M) else ((-3 : Int32), I, M)) else ((-1 : Int32), I, M) := rfl
def mrT (n o a b : Nat) (F : Nat → Nat → Int32) (V : Nat → Int32) : Int32 × (Nat → Nat → Int32) × (Nat → Int32) := if f_w_has n o a b F = (0 : Int32) then (if V 20 = (400 : Int32) then ((-6 : Int32), F, V) else ((1 : Int32), (f_w_set1 n o a b F V).1, va_up (f_w_set1 n o a b F V).2 20 ((f_w_set1 n o a b F V).2 20 + 1))) else ((0 : Int32), F, V)
def mrG (n o a b : Nat) (F : Nat → Nat → Int32) (V : Nat → Int32) : Int32 × (Nat → Nat → Int32) × (Nat → Int32) := if f_w_rests n (F 7 (nI a).toNatClampNeg) = (0 : Int32) then ((-4 : Int32), F, V) else if f_w_rests n (F 7 (nI b).toNatClampNeg) = (0 : Int32) then ((-4 : Int32), F, V) else mrT n o a b F V
theorem fw_relation_eq (n : Nat) (p0 p1 p2 : Int32) (F : Nat → Nat → Int32) (V : Nat → Int32) : f_w_relation n p0 p1 p2 F V = if ((0 : Int32) ≤ p0 ∧ p0 ≤ (3 : Int32)) ∧ ((0 : Int32) ≤ p1 ∧ p1 < nI n) ∧ ((0 : Int32) ≤ p2 ∧ p2 < nI n) ∧ ¬ p1 = p2 then (if f_w_jobs n F ≤ (0 : Int32) then (if p0.toNatClampNeg = 0 then mrG n p0.toNatClampNeg p1.toNatClampNeg p2.toNatClampNeg F V else if p0.toNatClampNeg = 3 then mrG n p0.toNatClampNeg p1.toNatClampNeg p2.toNatClampNeg F V else mrT n p0.toNatClampNeg p1.toNatClampNeg p2.toNatClampNeg F V) else ((-3 : Int32), F, V)) else ((-1 : Int32), F, V) := by
  have tl : ∀ (A : (Nat → Nat → Int32) × (Nat → Int32)) (r : Int32), (bnd r (fun (r22 : Int32) => if r22 = (0 : Int32) then (bnd (V 20) (fun (x26 : Int32) => if x26 = (400 : Int32) then (((-6 : Int32), F, V)) else (bn2 A (fun (F29 : Nat → Nat → Int32) (V30 : Nat → Int32) => bnd (V30 20) (fun (x31 : Int32) => bnd (x31 + (1 : Int32)) (fun (x32 : Int32) => bnd (va_up V30 20 x32) (fun (V33 : Nat → Int32) => ((1 : Int32), F29, V33)))))))) else (((0 : Int32), F, V)))) = if r = 0 then (if V 20 = (400 : Int32) then ((-6 : Int32), F, V) else ((1 : Int32), A.1, va_up A.2 20 (A.2 20 + 1))) else ((0 : Int32), F, V) := fun A r => rfl
  unfold f_w_relation
  by_cases c : ((0 : Int32) ≤ p0 ∧ p0 ≤ (3 : Int32)) ∧ ((0 : Int32) ≤ p1 ∧ p1 < nI n) ∧ ((0 : Int32) ≤ p2 ∧ p2 < nI n) ∧ ¬ p1 = p2
  · rw [if_pos c, if_pos c, bnd_e, bnd_e, bnd_e, bnd_e]
    by_cases cj : f_w_jobs n F ≤ 0
    · rw [if_pos cj, if_pos cj]
      by_cases c0 : p0.toNatClampNeg = 0
      · rw [if_pos c0, if_pos c0, bnd_e, bnd_e]
        unfold mrG
        by_cases r1 : f_w_rests n (F 7 (nI p1.toNatClampNeg).toNatClampNeg) = 0
        · rw [if_pos r1, if_pos r1]
        · rw [if_neg r1, if_neg r1, bnd_e, bnd_e]
          by_cases r2 : f_w_rests n (F 7 (nI p2.toNatClampNeg).toNatClampNeg) = 0
          · rw [if_pos r2, if_pos r2]
          · rw [if_neg r2, if_neg r2]
            exact tl _ _
      · rw [if_neg c0, if_neg c0]
        by_cases c3 : p0.toNatClampNeg = 3
        · rw [if_pos c3, if_pos c3, bnd_e, bnd_e]
          unfold mrG
          by_cases r1 : f_w_rests n (F 7 (nI p1.toNatClampNeg).toNatClampNeg) = 0
          · rw [if_pos r1, if_pos r1]
          · rw [if_neg r1, if_neg r1, bnd_e, bnd_e]
            by_cases r2 : f_w_rests n (F 7 (nI p2.toNatClampNeg).toNatClampNeg) = 0
            · rw [if_pos r2, if_pos r2]
            · rw [if_neg r2, if_neg r2]
              exact tl _ _
        · rw [if_neg c3, if_neg c3]
          exact tl _ _
    · rw [if_neg cj, if_neg cj]
  · rw [if_neg c, if_neg c]
def ansR (n : Nat) (dl : Nat → Nat) (B : Nat) (L : Nat → Int64) (si : Nat → Nat → Int32) (sa : Nat → Nat → Nat → Int32) (A : Int32 × (Nat → Int32) × (Nat → Nat → Int64)) (D : Int32 × (Nat → Nat → Int32) × (Nat → Int32)) : Prop := A.1 = D.1 ∧ Rf n dl B L A.2.1 A.2.2 si sa D.2.1 D.2.2 ∧ J0 n D.2.1
theorem told_eq (n : Nat) (dl : Nat → Nat) {o a b : Nat} {M : Nat → Nat → Int64} {F : Nat → Nat → Int32} (hR : RR n M F) (hn : n ≤ 40) (ho : o < 4) (ha : a < n) (hb : b < n) : f_y_told n dl o a b M = 0 ↔ f_w_has n o a b F = 0 := by
  have e : f_y_told n dl o a b M = f_y_holds n dl (M o (nI a).toNatClampNeg) b := by
    unfold f_y_told
    rw [bnd_e, bnd_e]
  rw [e, nI_clamp (show a < 2 ^ 31 by omega), fy_holds n dl _ (show b < 64 by omega), fw_has n F ho (by omega) (by omega)]
  by_cases c : bL (M o a) b = true
  · rw [if_pos c]
    have := ((hR.1 o a b ho).mp c).2.2
    exact ⟨fun q => absurd q (by decide), fun q => absurd q (HS_t.mp this)⟩
  · rw [if_neg c]
    refine ⟨fun _ => ?_, fun _ => rfl⟩
    refine Classical.byContradiction (fun q => c ((hR.1 o a b ho).mpr ⟨ha, hb, HS_t.mpr q⟩))
theorem set1_eq (n : Nat) {o a b : Nat} (F : Nat → Nat → Int32) (V : Nat → Int32) (ho : o < 4) (ha : a < 40) (hb : b < 40) : f_w_set1 n o a b F V = (if o = 3 then va_up (va_up F 19 (upd (F 19) (ix o a b) 1)) 19 (upd (va_up F 19 (upd (F 19) (ix o a b) 1) 19) (ix o b a) 1) else va_up F 19 (upd (F 19) (ix o a b) 1), V) := by
  unfold f_w_set1
  simp only [bnd]
  rw [nI_clamp (show (o * 40 + a) * 40 + b < 2 ^ 31 by omega), nI_clamp (show (o * 40 + b) * 40 + a < 2 ^ 31 by omega), nb1]
  by_cases c : o = 3
  · rw [if_pos c, if_pos c]; rfl
  · rw [if_neg c, if_neg c]; rfl
theorem set0_eq (n : Nat) {o a b : Nat} (F : Nat → Nat → Int32) (V : Nat → Int32) (ho : o < 4) (ha : a < 40) (hb : b < 40) : f_w_set0 n o a b F V = (if o = 3 then va_up (va_up F 19 (upd (F 19) (ix o a b) 0)) 19 (upd (va_up F 19 (upd (F 19) (ix o a b) 0) 19) (ix o b a) 0) else va_up F 19 (upd (F 19) (ix o a b) 0), V) := by
  unfold f_w_set0
  simp only [bnd]
  rw [nI_clamp (show (o * 40 + a) * 40 + b < 2 ^ 31 by omega), nI_clamp (show (o * 40 + b) * 40 + a < 2 ^ 31 by omega), nb0]
  by_cases c : o = 3
  · rw [if_pos c, if_pos c]; rfl
  · rw [if_neg c, if_neg c]; rfl
theorem J0.rel {n : Nat} {F F2 : Nat → Nat → Int32} (h : J0 n F) (hA : Ag [19] F F2) : J0 n F2 := fun s hs => by
  rw [ejb_c (F := F) (by rw [hA 25 (by decide)]) (by rw [hA 26 (by decide)]) (by rw [hA 7 (by decide)])]
  exact h s hs
theorem tail_R (n : Nat) (dl : Nat → Nat) (B : Nat) {L : Nat → Int64} {I : Nat → Int32} {M : Nat → Nat → Int64} {si : Nat → Nat → Int32} {sa : Nat → Nat → Nat → Int32} {F : Nat → Nat → Int32} {V : Nat → Int32} {o a b : Nat} (hB : B + 1 < 536870912) (h : Rf n dl B L I M si sa F V) (hj : J0 n F) (hno : ∀ s, s < n → F 25 s = 0) (ho : o < 4) (ha : a < n) (hb : b < n) (hab : a ≠ b) (hr : o = 0 → ¬ (F 7 a = 1 ∨ F 7 a = 2)) : ansR n dl (B + 1) L si sa (relT n dl o a b I M) (mrT n o a b F V) := by
  have hn : n ≤ 40 := h.1.1.1.1
  have hRR := h.1.1.2.1
  obtain ⟨i7, r, u, hu, hru, er⟩ := h.1.1.2.2.2.2.2.1.2.2.1
  have hBB := h.1.1.1.2
  have et := told_eq n dl hRR hn ho ha hb
  unfold relT mrT
  by_cases c : f_y_told n dl o a b M = 0
  · rw [if_pos c, if_pos (et.mp c)]
    have e1 : I 7 < 400 ↔ r < 400 + u := by
      rw [i7, er, Int32.lt_iff_toInt_lt, pk_sub_toInt (by omega) (by omega)]
      have : (400 : Int32).toInt = 400 := rfl
      omega
    have e2 : V 20 = 400 ↔ r = 400 + u := by
      rw [er, ← Int32.toInt_inj, pk_sub_toInt (by omega) (by omega)]
      have : (400 : Int32).toInt = 400 := rfl
      omega
    by_cases c4 : r = 400 + u
    · rw [if_neg (fun q => by have := e1.mp q; omega), if_pos (e2.mpr c4)]
      exact ⟨rfl, h.mono (by omega) hB, hj⟩
    · rw [if_pos (e1.mpr (by omega)), if_neg (fun q => c4 (e2.mp q)), set1_eq n F V ho (by omega) (by omega)]
      obtain ⟨F2, eF2⟩ : ∃ f9 : Nat → Nat → Int32, f9 = (if o = 3 then va_up (va_up F 19 (upd (F 19) (ix o a b) 1)) 19 (upd (va_up F 19 (upd (F 19) (ix o a b) 1) 19) (ix o b a) 1) else va_up F 19 (upd (F 19) (ix o a b) 1)) := ⟨_, rfl⟩
      rw [← eF2]
      obtain ⟨s1, s2, s3⟩ := set_b n 1 (Or.inr rfl) F ho (show a < 40 by omega) (show b < 40 by omega) hRR.2.2.2.2 F2 eF2
      obtain ⟨_, _, w8, w9⟩ := write1_b n dl M ho (show a < 40 by omega) (show b < 40 by omega)
      have h2 : Rf n dl (B + 1) L (va_up I 7 (I 7 + 1)) (f_y_write1 n dl o a b M) si sa F2 (va_up V 20 (V 20 + 1)) := by
        refine h.rel (by omega) hB hno (hRR.add n dl hn ho ha hb hab s2 s3) w8 w9 s1 (fun j q => va_up_ne _ _ q) (fun j q => va_up_ne _ _ q) ⟨?_, r + 1, u, by omega, by omega, ?_⟩ (fun s hs q q2 => ?_)
        · rw [va_up_self, va_up_self, i7]
        · rw [va_up_self, er, ← nI_1, Int32.sub_eq_add_neg, Int32.sub_eq_add_neg, Int32.add_assoc, Int32.add_assoc, Int32.add_comm (-nI u) 1]
        · refine anyN_f.mpr (fun y hy => ?_)
          have q3 := anyN_f.mp q2 y hy
          unfold lkB HS at q3 ⊢
          rw [s1 7 (by decide), (s3 0 s y (by omega) (by omega)).2 (fun p => by
            rcases p with ⟨p1, p2, _⟩ | ⟨p1, p2, _⟩
            · subst p2; exact hr p1.symm q
            · omega)]
          exact q3
      exact ⟨rfl, h2, hj.rel s1⟩
  · rw [if_neg c, if_neg (fun q => c (et.mpr q))]
    exact ⟨rfl, h.mono (by omega) hB, hj⟩
theorem idle_eq (n : Nat) (dl : Nat → Nat) {L : Nat → Int64} {I : Nat → Int32} {M : Nat → Nat → Int64} {si : Nat → Nat → Int32} {sa : Nat → Nat → Nat → Int32} {F : Nat → Nat → Int32} {V : Nat → Int32} {B : Nat} (h : R00 n dl B L I M si sa F V) {s : Nat} (hs : s < n) : f_y_holds n dl (M 9 (nI 0).toNatClampNeg ||| M 9 (nI 4).toNatClampNeg) s = f_w_rests n (F 7 (nI s).toNatClampNeg) := by
  have hn := h.1.1
  obtain ⟨t, ht, e7⟩ := (h.2.2.2.1 s hs).2.1
  rw [nI_clamp (show 0 < 2 ^ 31 by omega), nI_clamp (show 4 < 2 ^ 31 by omega), nI_clamp (show s < 2 ^ 31 by omega), e7, fw_rests n ht, fy_holds n dl _ (show s < 64 by omega)]
  have hb : bL (M 9 0 ||| M 9 4) s = true ↔ t = 0 ∨ t = 4 := by
    rw [bL_orT, h.up (t := 0) (by omega) rfl s, h.up (t := 4) (by omega) rfl s, e7]
    constructor
    · rintro (q | q)
      · exact Or.inl ((nI_eq (by omega) (by omega)).mp q.2)
      · exact Or.inr ((nI_eq (by omega) (by omega)).mp q.2)
    · rintro (q | q)
      · exact Or.inl ⟨hs, by rw [q]⟩
      · exact Or.inr ⟨hs, by rw [q]⟩
  by_cases c : t = 0 ∨ t = 4
  · rw [if_pos (hb.mpr c)]
    rcases c with c | c <;> subst c <;> rfl
  · rw [if_neg (fun q => c (hb.mp q))]
    simp only [not_or] at c
    simp [c.1, c.2, fl]
theorem relation_R (n : Nat) (dl : Nat → Nat) (B : Nat) {L : Nat → Int64} {I : Nat → Int32} {M : Nat → Nat → Int64} {si : Nat → Nat → Int32} {sa : Nat → Nat → Nat → Int32} {F : Nat → Nat → Int32} {V : Nat → Int32} (p0 p1 p2 : Int32) (hB : B + 1 < 536870912) (h : Rf n dl B L I M si sa F V) (hj : J0 n F) : ansR n dl (B + 1) L si sa (f_y_relation n dl p0 p1 p2 L I M) (f_w_relation n p0 p1 p2 F V) := by
  have hn : n ≤ 40 := h.1.1.1.1
  have same : ∀ v : Int32, ansR n dl (B + 1) L si sa (v, I, M) (v, F, V) := fun v => ⟨rfl, h.mono (by omega) hB, hj⟩
  rw [fy_relation_eq, fw_relation_eq]
  by_cases c : ((0 : Int32) ≤ p0 ∧ p0 ≤ (3 : Int32)) ∧ ((0 : Int32) ≤ p1 ∧ p1 < nI n) ∧ ((0 : Int32) ≤ p2 ∧ p2 < nI n) ∧ ¬ p1 = p2
  · rw [if_pos c, if_pos c]
    obtain ⟨l1, l2, l3, _⟩ := left_eq hn h.1.2.1 hj
    obtain ⟨⟨q0, q3⟩, qa, qb, qne⟩ := c
    obtain ⟨o, ho, eo⟩ := nI_of2 (M := 3) (n := 3) rfl (by
      rw [Int32.le_iff_toInt_le] at q0
      rw [Int32.lt_iff_toInt_lt]; omega) q3
    obtain ⟨a, ha, ea⟩ := ixn hn qa
    obtain ⟨b, hb, eb⟩ := ixn hn qb
    subst eo; subst ea; subst eb
    have hab : a ≠ b := fun q => qne (by rw [q])
    rw [nI_clamp (show o < 2 ^ 31 by omega), nI_clamp (show a < 2 ^ 31 by omega), nI_clamp (show b < 2 ^ 31 by omega)]
    by_cases c5 : L 5 ||| L 6 = 0
    · rw [if_pos ((lg_0 _ _).mpr c5), if_pos (show f_w_jobs n F ≤ 0 by rw [l1.mp c5]; decide)]
      have hno := l3.mp c5
      have gate : ansR n dl (B + 1) L si sa (relG n dl o a b I M) (mrG n o a b F V) := by
        unfold relG mrG
        rw [idle_eq n dl h.1.1 ha, idle_eq n dl h.1.1 hb]
        by_cases ca : f_w_rests n (F 7 (nI a).toNatClampNeg) = 0
        · rw [if_pos ca, if_pos ca]; exact same _
        · rw [if_neg ca, if_neg ca]
          by_cases cb : f_w_rests n (F 7 (nI b).toNatClampNeg) = 0
          · rw [if_pos cb, if_pos cb]; exact same _
          · rw [if_neg cb, if_neg cb]
            refine tail_R n dl B hB h hj hno (by omega) ha hb hab (fun _ q => ca ?_)
            rw [nI_clamp (show a < 2 ^ 31 by omega)]
            rcases q with q | q <;> rw [q] <;> rfl
      by_cases c0 : o = 0
      · rw [if_pos c0, if_pos c0]; exact gate
      · rw [if_neg c0, if_neg c0]
        by_cases c3 : o = 3
        · rw [if_pos c3, if_pos c3]; exact gate
        · rw [if_neg c3, if_neg c3]
          exact tail_R n dl B hB h hj hno (by omega) ha hb hab (fun q => absurd q c0)
    · rw [if_neg (fun q => c5 ((lg_0 _ _).mp q))]
      have hjp : ¬ f_w_jobs n F ≤ 0 := by
        intro q
        refine c5 (l1.mpr (l2.mpr (fun q2 => ?_)))
        rw [Int32.le_iff_toInt_le] at q
        rw [Int32.lt_iff_toInt_lt] at q2
        omega
      rw [if_neg hjp]
      exact same _
  · rw [if_neg c, if_neg c]; exact same _

end
section
theorem fy_undo_eq (n : Nat) (dl : Nat → Nat) (p0 p1 p2 : Int32) (L : Nat → Int64) (I : Nat → Int32) (M : Nat → Nat → Int64) : f_y_undo n dl p0 p1 p2 L I M = if ((0 : Int32) ≤ p0 ∧ p0 ≤ (3 : Int32)) ∧ ((0 : Int32) ≤ p1 ∧ p1 < nI n) ∧ ((0 : Int32) ≤ p2 ∧ p2 < nI n) ∧ ¬ p1 = p2 then (if lg_cmp (L 5 ||| L 6) (0 : Int64) = (0 : Int32) then (if f_y_told n dl p0.toNatClampNeg p1.toNatClampNeg p2.toNatClampNeg M = (0 : Int32) then ((0 : Int32), I, M) else ((1 : Int32), va_up I 7 (I 7 - 1), f_y_write0 n dl p0.toNatClampNeg p1.toNatClampNeg p2.toNatClampNeg M)) else ((-3 : Int32), I, M)) else ((-1 : Int32), I, M) := by
  have tl : ∀ (N : Nat → Nat → Int64), (bn2 (bnd N (fun (M2 : Nat → Nat → Int64) => bnd (I 7) (fun (x3 : Int32) => bnd (x3 - (1 : Int32)) (fun (x4 : Int32) => bnd (va_up I 7 x4) (fun (I5 : Nat → Int32) => (I5, M2)))))) (fun (I11 : Nat → Int32) (M12 : Nat → Nat → Int64) => ((1 : Int32), I11, M12))) = ((1 : Int32), va_up I 7 (I 7 - 1), N) := fun N => rfl
  unfold f_y_undo
  by_cases c : ((0 : Int32) ≤ p0 ∧ p0 ≤ (3 : Int32)) ∧ ((0 : Int32) ≤ p1 ∧ p1 < nI n) ∧ ((0 : Int32) ≤ p2 ∧ p2 < nI n) ∧ ¬ p1 = p2
  · rw [if_pos c, if_pos c, bnd_e, bnd_e, bnd_e, bnd_e, bnd_e]
    have el : f_y_left n dl L = L 5 ||| L 6 := by
      unfold f_y_left
      rw [bnd_e, bnd_e, bnd_e]
    rw [el]
    by_cases cj : lg_cmp (L 5 ||| L 6) 0 = 0
    · rw [if_pos cj, if_pos cj, bnd_e]
      by_cases ct : f_y_told n dl p0.toNatClampNeg p1.toNatClampNeg p2.toNatClampNeg M = 0
      · rw [if_pos ct, if_pos ct]
      · rw [if_neg ct, if_neg ct]
        unfold f_y_rremove
        exact tl _
    · rw [if_neg cj, if_neg cj]
  · rw [if_neg c, if_neg c]
theorem fw_undo_eq (n : Nat) (p0 p1 p2 : Int32) (F : Nat → Nat → Int32) (V : Nat → Int32) : f_w_undo n p0 p1 p2 F V = if ((0 : Int32) ≤ p0 ∧ p0 ≤ (3 : Int32)) ∧ ((0 : Int32) ≤ p1 ∧ p1 < nI n) ∧ ((0 : Int32) ≤ p2 ∧ p2 < nI n) ∧ ¬ p1 = p2 then (if f_w_jobs n F ≤ (0 : Int32) then (if f_w_has n p0.toNatClampNeg p1.toNatClampNeg p2.toNatClampNeg F = (0 : Int32) then ((0 : Int32), F, V) else ((1 : Int32), (f_w_set0 n p0.toNatClampNeg p1.toNatClampNeg p2.toNatClampNeg F V).1, va_up (f_w_set0 n p0.toNatClampNeg p1.toNatClampNeg p2.toNatClampNeg F V).2 20 ((f_w_set0 n p0.toNatClampNeg p1.toNatClampNeg p2.toNatClampNeg F V).2 20 - 1))) else ((-3 : Int32), F, V)) else ((-1 : Int32), F, V) := by
  have tl : ∀ (A : (Nat → Nat → Int32) × (Nat → Int32)), (bn2 A (fun (F16 : Nat → Nat → Int32) (V17 : Nat → Int32) => bnd (V17 20) (fun (x18 : Int32) => bnd (x18 - (1 : Int32)) (fun (x19 : Int32) => bnd (va_up V17 20 x19) (fun (V20 : Nat → Int32) => ((1 : Int32), F16, V20)))))) = ((1 : Int32), A.1, va_up A.2 20 (A.2 20 - 1)) := fun A => rfl
  unfold f_w_undo
  by_cases c : ((0 : Int32) ≤ p0 ∧ p0 ≤ (3 : Int32)) ∧ ((0 : Int32) ≤ p1 ∧ p1 < nI n) ∧ ((0 : Int32) ≤ p2 ∧ p2 < nI n) ∧ ¬ p1 = p2
  · rw [if_pos c, if_pos c, bnd_e, bnd_e, bnd_e, bnd_e]
    by_cases cj : f_w_jobs n F ≤ 0
    · rw [if_pos cj, if_pos cj, bnd_e]
      by_cases ct : f_w_has n p0.toNatClampNeg p1.toNatClampNeg p2.toNatClampNeg F = 0
      · rw [if_pos ct, if_pos ct]
      · rw [if_neg ct, if_neg ct]
        exact tl _
    · rw [if_neg cj, if_neg cj]
  · rw [if_neg c, if_neg c]
theorem undo_R (n : Nat) (dl : Nat → Nat) (B : Nat) {L : Nat → Int64} {I : Nat → Int32} {M : Nat → Nat → Int64} {si : Nat → Nat → Int32} {sa : Nat → Nat → Nat → Int32} {F : Nat → Nat → Int32} {V : Nat → Int32} (p0 p1 p2 : Int32) (hB : B + 1 < 536870912) (h : Rf n dl B L I M si sa F V) (hj : J0 n F) : ansR n dl (B + 1) L si sa (f_y_undo n dl p0 p1 p2 L I M) (f_w_undo n p0 p1 p2 F V) := by
  have hn : n ≤ 40 := h.1.1.1.1
  have hRR := h.1.1.2.1
  obtain ⟨i7, r, u, hu, hru, er⟩ := h.1.1.2.2.2.2.2.1.2.2.1
  have same : ∀ v : Int32, ansR n dl (B + 1) L si sa (v, I, M) (v, F, V) := fun v => ⟨rfl, h.mono (by omega) hB, hj⟩
  rw [fy_undo_eq, fw_undo_eq]
  by_cases c : ((0 : Int32) ≤ p0 ∧ p0 ≤ (3 : Int32)) ∧ ((0 : Int32) ≤ p1 ∧ p1 < nI n) ∧ ((0 : Int32) ≤ p2 ∧ p2 < nI n) ∧ ¬ p1 = p2
  · rw [if_pos c, if_pos c]
    obtain ⟨l1, l2, l3, _⟩ := left_eq hn h.1.2.1 hj
    obtain ⟨⟨q0, q3⟩, qa, qb, qne⟩ := c
    obtain ⟨o, ho, eo⟩ := nI_of2 (M := 3) (n := 3) rfl (by
      rw [Int32.le_iff_toInt_le] at q0
      rw [Int32.lt_iff_toInt_lt]; omega) q3
    obtain ⟨a, ha, ea⟩ := ixn hn qa
    obtain ⟨b, hb, eb⟩ := ixn hn qb
    subst eo; subst ea; subst eb
    rw [nI_clamp (show o < 2 ^ 31 by omega), nI_clamp (show a < 2 ^ 31 by omega), nI_clamp (show b < 2 ^ 31 by omega)]
    by_cases c5 : L 5 ||| L 6 = 0
    · rw [if_pos ((lg_0 _ _).mpr c5), if_pos (show f_w_jobs n F ≤ 0 by rw [l1.mp c5]; decide)]
      have hno := l3.mp c5
      have et := told_eq n dl hRR hn (show o < 4 by omega) ha hb
      by_cases ct : f_y_told n dl o a b M = 0
      · rw [if_pos ct, if_pos (et.mp ct)]; exact same _
      · rw [if_neg ct, if_neg (fun q => ct (et.mpr q)), set0_eq n F V (show o < 4 by omega) (by omega) (by omega)]
        obtain ⟨F2, eF2⟩ : ∃ f9 : Nat → Nat → Int32, f9 = (if o = 3 then va_up (va_up F 19 (upd (F 19) (ix o a b) 0)) 19 (upd (va_up F 19 (upd (F 19) (ix o a b) 0) 19) (ix o b a) 0) else va_up F 19 (upd (F 19) (ix o a b) 0)) := ⟨_, rfl⟩
        rw [← eF2]
        obtain ⟨s1, s2, s3⟩ := set_b n 0 (Or.inl rfl) F (show o < 4 by omega) (show a < 40 by omega) (show b < 40 by omega) hRR.2.2.2.2 F2 eF2
        obtain ⟨_, _, w8, w9⟩ := write0_b n dl M (show o < 4 by omega) (show a < 40 by omega) (show b < 40 by omega)
        have h2 : Rf n dl (B + 1) L (va_up I 7 (I 7 - 1)) (f_y_write0 n dl o a b M) si sa F2 (va_up V 20 (V 20 - 1)) := by
          refine h.rel (by omega) hB hno (hRR.sub n dl hn (by omega) ha hb s2 s3) w8 w9 s1 (fun j q => va_up_ne _ _ q) (fun j q => va_up_ne _ _ q) ⟨?_, r, u + 1, by omega, by omega, ?_⟩ (fun s hs q q2 => ?_)
          · rw [va_up_self, va_up_self, i7]
          · rw [va_up_self, er, ← nI_1, Int32.sub_eq_add_neg, Int32.sub_eq_add_neg, Int32.sub_eq_add_neg, Int32.neg_add, Int32.sub_eq_add_neg, Int32.add_assoc]
          · refine anyN_f.mpr (fun y hy => ?_)
            have q3 := anyN_f.mp q2 y hy
            unfold lkB at q3 ⊢
            by_cases cp : prP o a b 0 s y
            · have e1 : HS F2 0 s y = false := HS_f.mpr ((s3 0 s y (by omega) (by omega)).1 cp)
              rw [e1, Bool.false_and]
            · have e1 : HS F2 0 s y = HS F 0 s y := by
                unfold HS
                rw [(s3 0 s y (by omega) (by omega)).2 cp]
              rw [e1, s1 7 (by decide)]; exact q3
        exact ⟨rfl, h2, hj.rel s1⟩
    · rw [if_neg (fun q => c5 ((lg_0 _ _).mp q))]
      have hjp : ¬ f_w_jobs n F ≤ 0 := by
        intro q
        refine c5 (l1.mpr (l2.mpr (fun q2 => ?_)))
        rw [Int32.le_iff_toInt_le] at q
        rw [Int32.lt_iff_toInt_lt] at q2
        omega
      rw [if_neg hjp]
      exact same _
  · rw [if_neg c, if_neg c]; exact same _

end
section
theorem Rf.attr {n : Nat} {dl : Nat → Nat} {B : Nat} {L : Nat → Int64} {I : Nat → Int32} {M : Nat → Nat → Int64} {si si2 : Nat → Nat → Int32} {sa sa2 : Nat → Nat → Nat → Int32} {F F2 : Nat → Nat → Int32} {V : Nat → Int32} (h : Rf n dl B L I M si sa F V) (hA : Ag [3, 4, 5, 6] F F2) (hsi : ∀ s q, q ∉ ([23, 24, 25] : List Nat) → si2 s q = si s q) (hsa : ∀ s q, q ≠ 1 → sa2 s q = sa s q) (hRA2 : RA n dl si2 sa2 F2) (hZ : ∀ s, n ≤ s → s < 40 → F2 5 s = F 5 s ∧ ∀ i, i < 8 → F2 3 (8 * s + i) = F 3 (8 * s + i)) : Rf n dl B L I M si2 sa2 F2 V := by
  obtain ⟨⟨⟨hn, hRR, hRA, hRE, hRS, hRI, hRH, hRG, hRD, hRZ⟩, hJ, hB⟩, hRF, hRT⟩ := h
  have hl : lkB F2 = lkB F := by
    funext a b
    unfold lkB
    rw [HS_c (hA 19 (by decide)), hA 7 (by decide)]
  refine ⟨⟨⟨hn, hRR.c (hA 19 (by decide)), hRA2, ?_, ?_, ?_, ?_, ?_, ?_, ?_⟩, ?_, hB⟩, ?_, ?_⟩
  · intro s hs
    rw [hsi s 6 (by decide), hsi s 7 (by decide), hsi s 8 (by decide), hsi s 10 (by decide), hsi s 11 (by decide), hA 1 (by decide), hA 2 (by decide), hA 7 (by decide), hA 8 (by decide), hA 9 (by decide), hA 11 (by decide), hA 12 (by decide)]
    exact hRE s hs
  · refine ⟨by rw [hA 7 (by decide)]; exact hRS.1, fun s => ?_⟩
    rw [hsi s 10 (by decide)]
    exact hRS.2 s
  · unfold RI
    rw [hA 9 (by decide)]
    exact hRI
  · unfold RH; rw [hA 42 (by decide), hA 43 (by decide), hA 44 (by decide)]; exact hRH
  · unfold RG; rw [hl, hA 7 (by decide)]; exact hRG
  · refine ⟨fun s hs => ?_, by rw [hA 18 (by decide)]; exact hRD.2⟩
    rw [hsi s 31 (by decide), hsi s 32 (by decide), hsi s 33 (by decide), hsi s 34 (by decide), hsa s 5 (by decide), hA 15 (by decide), hA 16 (by decide), hA 17 (by decide), hA 18 (by decide)]
    exact hRD.1 s hs
  · intro s a b
    obtain ⟨z1, z2⟩ := hZ s a b
    obtain ⟨y1, y2⟩ := hRZ s a b
    rw [hA 7 (by decide), hA 9 (by decide), hA 10 (by decide), hA 11 (by decide), hA 14 (by decide), hA 15 (by decide), hA 18 (by decide), hA 25 (by decide), z1]
    exact ⟨y1, fun i hi => (z2 i hi).trans (y2 i hi)⟩
  · have he : ∀ s, ejb F2 s = ejb F s := fun s => ejb_c (by rw [hA 25 (by decide)]) (by rw [hA 26 (by decide)]) (by rw [hA 7 (by decide)])
    unfold RJ
    rw [hA 25 (by decide), hA 26 (by decide)]
    simp only [he]
    exact hJ
  · intro s hs
    rw [hsi s 9 (by decide), hA 10 (by decide)]; exact hRF s hs
  · exact hRT.keep (fun s _ => ⟨hsi s 21 (by decide), hsi s 22 (by decide), hsa s 3 (by decide)⟩) (hA 13 (by decide)) (hA 14 (by decide)) rfl
theorem i32_out {a b p : Int32} (h : ¬ (a ≤ p ∧ p ≤ b)) : p < a ∨ (¬ p < a ∧ b < p) := by
  simp only [Int32.lt_iff_toInt_lt, Int32.le_iff_toInt_le] at h ⊢
  omega
theorem i32_in {a b p : Int32} (h : a ≤ p ∧ p ≤ b) : ¬ p < a ∧ ¬ b < p := by
  simp only [Int32.lt_iff_toInt_lt, Int32.le_iff_toInt_le] at h ⊢
  omega
theorem i32_nle {b p : Int32} (h : b < p) : ¬ p ≤ b := by
  simp only [Int32.lt_iff_toInt_lt, Int32.le_iff_toInt_le] at h ⊢
  omega
theorem i32_ix {p : Int32} {m : Nat} (hm : m < 10000) (h : (0 : Int32) ≤ p ∧ p ≤ nI m) : ∃ x, x ≤ m ∧ p = nI x := by
  have hl : nI m < nI (m + 1) := nI_lt (by omega) (by omega)
  rcases pk_ix p (n := m + 1) (by omega) with q | q | ⟨x, q1, q2⟩
  · exfalso
    have h1 := h.1
    simp only [Int32.lt_iff_toInt_lt, Int32.le_iff_toInt_le] at h1 q
    omega
  · exfalso
    have h2 := h.2
    simp only [Int32.lt_iff_toInt_lt, Int32.le_iff_toInt_le] at h2 q hl
    omega
  · exact ⟨x, by omega, q2⟩
theorem J0.attr {n : Nat} {F F2 : Nat → Nat → Int32} (h : J0 n F) (hA : Ag [3, 4, 5, 6] F F2) : J0 n F2 := fun s hs => by
  rw [ejb_c (F := F) (by rw [hA 25 (by decide)]) (by rw [hA 26 (by decide)]) (by rw [hA 7 (by decide)])]
  exact h s hs
theorem life_R (n : Nat) (dl : Nat → Nat) (B : Nat) (p0 p1 p2 : Int32) {L : Nat → Int64} {I : Nat → Int32} {M : Nat → Nat → Int64} {si : Nat → Nat → Int32} {sa : Nat → Nat → Nat → Int32} {F : Nat → Nat → Int32} {V : Nat → Int32} (h : Rf n dl B L I M si sa F V) (hj : J0 n F) : (f_y_life n dl p0 p1 p2 si sa).1 = (f_w_life n p0 p1 p2 F V).1 ∧ Rf n dl B L I M si (f_y_life n dl p0 p1 p2 si sa).2 (f_w_life n p0 p1 p2 F V).2.1 (f_w_life n p0 p1 p2 F V).2.2 ∧ J0 n (f_w_life n p0 p1 p2 F V).2.1 := by
  have hn : n ≤ 40 := h.1.1.1.1
  unfold f_y_life f_w_life
  simp only [bnd]
  by_cases c : (0 : Int32) ≤ p0 ∧ p0 < nI n
  · rw [if_pos c, if_pos c]
    obtain ⟨s, hs, rfl⟩ := ixn hn c
    rw [nI_clamp (show s < 2 ^ 31 by omega), nI_clamp (show s < 2 ^ 31 by omega)]
    by_cases c1 : (0 : Int32) ≤ p1 ∧ p1 ≤ (7 : Int32)
    · rw [if_pos c1, if_neg (i32_in c1).1, if_neg (i32_in c1).2]
      obtain ⟨i, hi, rfl⟩ := i32_ix (m := 7) (by omega) c1
      rw [nI_clamp (show i < 2 ^ 31 by omega), nI_clamp (show i < 2 ^ 31 by omega), nI_clamp (show 8 * s + i < 2 ^ 31 by omega)]
      by_cases c2 : (0 : Int32) ≤ p2 ∧ p2 ≤ (1000 : Int32)
      · rw [if_pos c2, if_neg (i32_in c2).1, if_pos c2.2]
        obtain ⟨v, hv, rfl⟩ := i32_ix (m := 1000) (by omega) c2
        rw [nI_clamp (show v < 2 ^ 31 by omega)]
        have hA := h.1.1.2.2.1
        rw [(hA s hs).1.1]
        by_cases c3 : F 0 s = 3
        · rw [if_pos c3, if_pos c3]; exact ⟨rfl, h, hj⟩
        · rw [if_neg c3, if_neg c3]
          have hAg : Ag [3, 4, 5, 6] F (va_up F 3 (upd (F 3) (8 * s + i) (nI v))) := Ag.up (by decide)
          refine ⟨((hA s hs).2.1 i (by omega)).1, ?_, hj.attr hAg⟩
          have h2 : Rf n dl B L I M si (up2 sa s 1 (upd (sa s 1) i (nI v))) (va_up F 3 (upd (F 3) (8 * s + i) (nI v))) V := by
            refine h.attr hAg (fun _ _ _ => rfl) (fun s2 q hq => up2_ne hq) ?_ ?_
            · intro s2 hs2
              obtain ⟨a1, a2, a3, a4⟩ := hA s2 hs2
              rw [va_up_ne F _ (show 0 ≠ 3 by decide), va_up_ne F _ (show 1 ≠ 3 by decide), va_up_ne F _ (show 2 ≠ 3 by decide), va_up_ne F _ (show 4 ≠ 3 by decide), va_up_ne F _ (show 5 ≠ 3 by decide), va_up_ne F _ (show 6 ≠ 3 by decide), va_up_self]
              refine ⟨a1, fun k hk => ?_, a3, a4⟩
              by_cases d : s2 = s
              · subst d
                by_cases d2 : k = i
                · subst d2
                  simp only [up2, upd, and_self, if_true]
                  exact ⟨trivial, v, hv, rfl⟩
                · have d3 : ¬ (8 * s2 + k = 8 * s2 + i) := by omega
                  simp only [up2, upd, and_self, if_true, if_neg d2, if_neg d3]
                  exact a2 k hk
              · have d3 : ¬ (8 * s2 + k = 8 * s + i) := by omega
                simp only [up2, upd, d, false_and, if_false, if_neg d3]
                exact a2 k hk
            · intro s2 h1 h2
              refine ⟨by rw [va_up_ne F _ (show 5 ≠ 3 by decide)], fun k hk => ?_⟩
              rw [va_up_self]
              have d3 : ¬ (8 * s2 + k = 8 * s + i) := by omega
              simp only [upd, if_neg d3]
          exact h2
      · rw [if_neg c2]
        rcases i32_out c2 with q | ⟨q, q2⟩
        · rw [if_pos q]; exact ⟨rfl, h, hj⟩
        · rw [if_neg q, if_neg (i32_nle q2)]; exact ⟨rfl, h, hj⟩
    · rw [if_neg c1]
      rcases i32_out c1 with q | ⟨q, q2⟩
      · rw [if_pos q]; exact ⟨rfl, h, hj⟩
      · rw [if_neg q, if_pos q2]; exact ⟨rfl, h, hj⟩
  · rw [if_neg c, if_neg c]; exact ⟨rfl, h, hj⟩

end
section
theorem i32_ix1 {p : Int32} {m : Nat} (hm : m < 10000) (h : (1 : Int32) ≤ p ∧ p ≤ nI m) : ∃ x, 0 < x ∧ x ≤ m ∧ p = nI x := by
  have e1 : (1 : Int32).toInt = 1 := rfl
  have e0 : (0 : Int32).toInt = 0 := rfl
  have h0 : (0 : Int32) ≤ p := by
    have h1 := h.1
    simp only [Int32.le_iff_toInt_le] at h1 ⊢
    omega
  obtain ⟨x, hx, e⟩ := i32_ix hm ⟨h0, h.2⟩
  refine ⟨x, ?_, hx, e⟩
  rcases Nat.eq_zero_or_pos x with q | q
  · exfalso
    subst q
    have h1 := h.1
    rw [e, show nI 0 = (0 : Int32) from rfl] at h1
    exact absurd h1 (by decide)
  · exact q
theorem again_R (n : Nat) (dl : Nat → Nat) (B : Nat) (p0 p1 p2 p3 : Int32) {L : Nat → Int64} {I : Nat → Int32} {M : Nat → Nat → Int64} {si : Nat → Nat → Int32} {sa : Nat → Nat → Nat → Int32} {F : Nat → Nat → Int32} {V : Nat → Int32} (h : Rf n dl B L I M si sa F V) (hj : J0 n F) : (f_y_again n dl p0 p1 p2 p3 si).1 = (f_w_again n p0 p1 p2 p3 F V).1 ∧ Rf n dl B L I M (f_y_again n dl p0 p1 p2 p3 si).2 sa (f_w_again n p0 p1 p2 p3 F V).2.1 (f_w_again n p0 p1 p2 p3 F V).2.2 ∧ J0 n (f_w_again n p0 p1 p2 p3 F V).2.1 := by
  have hn : n ≤ 40 := h.1.1.1.1
  unfold f_y_again f_w_again f_y_allow
  simp only [bnd]
  by_cases c : (0 : Int32) ≤ p0 ∧ p0 < nI n
  · rw [if_pos c, if_pos c]
    obtain ⟨s, hs, rfl⟩ := ixn hn c
    rw [nI_clamp (show s < 2 ^ 31 by omega), nI_clamp (show s < 2 ^ 31 by omega)]
    by_cases c1 : (1 : Int32) ≤ p1 ∧ p1 ≤ (50 : Int32)
    · rw [if_pos c1, if_neg (i32_in c1).1, if_neg (i32_in c1).2]
      obtain ⟨d, hd0, hd, rfl⟩ := i32_ix1 (m := 50) (by omega) c1
      rw [nI_clamp (show d < 2 ^ 31 by omega)]
      by_cases c2 : (0 : Int32) ≤ p2 ∧ p2 ≤ (10 : Int32)
      · rw [if_pos c2, if_neg (i32_in c2).1, if_neg (i32_in c2).2]
        obtain ⟨b, hb, rfl⟩ := i32_ix (m := 10) (by omega) c2
        rw [nI_clamp (show b < 2 ^ 31 by omega)]
        by_cases c3 : (1 : Int32) ≤ p3 ∧ p3 ≤ (200 : Int32)
        · rw [if_pos c3, if_neg (i32_in c3).1, if_pos c3.2]
          obtain ⟨w, hw0, hw, rfl⟩ := i32_ix1 (m := 200) (by omega) c3
          rw [nI_clamp (show w < 2 ^ 31 by omega), va_up_ne F _ (show 5 ≠ 4 by decide), va_up_ne _ _ (show 6 ≠ 5 by decide), va_up_ne F _ (show 6 ≠ 4 by decide)]
          have hA := h.1.1.2.2.1
          have h2 : ∀ F2 : Nat → Nat → Int32, F2 = va_up (va_up (va_up F 4 (upd (F 4) s (nI d))) 5 (upd (F 5) s (nI b))) 6 (upd (F 6) s (nI w)) → Rf n dl B L I M (up2 (up2 (up2 si s 23 (nI d)) s 24 (nI b)) s 25 (nI w)) sa F2 V ∧ J0 n F2 := by
            intro F2 e2
            have f4 : F2 4 = upd (F 4) s (nI d) := by rw [e2, va_up_ne _ _ (show 4 ≠ 6 by decide), va_up_ne _ _ (show 4 ≠ 5 by decide), va_up_self]
            have f5 : F2 5 = upd (F 5) s (nI b) := by rw [e2, va_up_ne _ _ (show 5 ≠ 6 by decide), va_up_self]
            have f6 : F2 6 = upd (F 6) s (nI w) := by rw [e2, va_up_self]
            have hAg : Ag [4, 5, 6] F F2 := by
              rw [e2]; exact ((Ag.up (by decide)).tr (Ag.up (by decide))).tr (Ag.up (by decide))
            have hAg2 : Ag [3, 4, 5, 6] F F2 := hAg.sub (by decide)
            refine ⟨h.attr hAg2 (fun s2 q hq => ?_) (fun _ _ _ => rfl) ?_ ?_, hj.attr hAg2⟩
            · simp only [List.mem_cons, List.not_mem_nil, or_false, not_or] at hq
              rw [up2_ne hq.2.2, up2_ne hq.2.1, up2_ne hq.1]
            · intro s2 hs2
              obtain ⟨⟨a1, a2, a3, a4, a5, a6⟩, b1, ⟨b2, b3, b4, b5, b6⟩, b7⟩ := hA s2 hs2
              rw [f4, f5, f6, hAg 0 (by decide), hAg 1 (by decide), hAg 2 (by decide), hAg 3 (by decide)]
              by_cases d : s2 = s
              · subst d
                simp only [up2, upd, and_self, if_true, reduceCtorEq]
                refine ⟨⟨a1, a2, a3, ?_, ?_, ?_⟩, b1, ⟨b2, b3, ⟨_, hd0, hd, rfl⟩, ⟨_, hb, rfl⟩, ⟨_, hw0, hw, rfl⟩⟩, b7⟩ <;> simp
              · simp only [up2, upd, d, false_and, if_false]
                exact ⟨⟨a1, a2, a3, a4, a5, a6⟩, b1, ⟨b2, b3, b4, b5, b6⟩, b7⟩
            · intro s2 h1 h2
              have d : ¬ s2 = s := by omega
              refine ⟨by rw [f5]; simp only [upd, if_neg d], fun k hk => by rw [hAg 3 (by decide)]⟩
          obtain ⟨x, y⟩ := h2 _ rfl
          exact ⟨rfl, x, y⟩
        · rw [if_neg c3]
          rcases i32_out c3 with q | ⟨q, q2⟩
          · rw [if_pos q]; exact ⟨rfl, h, hj⟩
          · rw [if_neg q, if_neg (i32_nle q2)]; exact ⟨rfl, h, hj⟩
      · rw [if_neg c2]
        rcases i32_out c2 with q | ⟨q, q2⟩
        · rw [if_pos q]; exact ⟨rfl, h, hj⟩
        · rw [if_neg q, if_pos q2]; exact ⟨rfl, h, hj⟩
    · rw [if_neg c1]
      rcases i32_out c1 with q | ⟨q, q2⟩
      · rw [if_pos q]; exact ⟨rfl, h, hj⟩
      · rw [if_neg q, if_pos q2]; exact ⟨rfl, h, hj⟩
  · rw [if_neg c, if_neg c]; exact ⟨rfl, h, hj⟩

end
section
def rnF (F : Nat → Nat → Int32) (a : Nat) : Int32 := fl (decide (¬ F 7 a < 1) && decide (¬ 3 < F 7 a))
def ckB (F : Nat → Nat → Int32) (a b : Nat) : Bool := decide (¬ rnF F a = 0) && decide (¬ rnF F b = 0) && HS F 3 a b
theorem ckB_t {F : Nat → Nat → Int32} {a b : Nat} (h1 : ¬ F 19 (ix 3 a b) = 0) (h2 : ¬ F 7 a < 1) (h3 : ¬ 3 < F 7 a) (h4 : ¬ F 7 b < 1) (h5 : ¬ 3 < F 7 b) : ckB F a b = true := by
  simp [ckB, rnF, HS, h1, h2, h3, h4, h5, fl]
theorem ckB_f1 {F : Nat → Nat → Int32} {a b : Nat} (h1 : F 19 (ix 3 a b) = 0) : ckB F a b = false := by
  simp [ckB, HS, h1]
theorem ckB_f2 {F : Nat → Nat → Int32} {a b : Nat} (h : rnF F a = 0) : ckB F a b = false := by
  simp [ckB, h]
theorem ckB_f3 {F : Nat → Nat → Int32} {a b : Nat} (h : rnF F b = 0) : ckB F a b = false := by
  simp [ckB, h]
theorem rnF_1 {F : Nat → Nat → Int32} {a : Nat} (h : F 7 a < 1) : rnF F a = 0 := by
  simp [rnF, h, fl]
theorem rnF_3 {F : Nat → Nat → Int32} {a : Nat} (h : 3 < F 7 a) : rnF F a = 0 := by
  simp [rnF, h, fl]
theorem fw_check_in (n : Nat) (F : Nat → Nat → Int32) (a : Nat) (c : Bool) (K : Nat → Int32 → Int32) (ha : a < 40) (hn : n ≤ 40) : ∀ fu i, i ≤ n → n < i + fu → f_w_check_55 n F a fu i (fl (c || anyN (ckB F a) i)) K = K n (fl (c || anyN (ckB F a) n))
  | 0, i, h1, h2 => by omega
  | fu + 1, i, h1, h2 => by
    rw [f_w_check_55]
    by_cases hi : n ≤ i
    · have e : i = n := by omega
      subst e
      rw [if_pos hi]
    · rw [if_neg hi]
      have ih := fw_check_in n F a c K ha hn fu (i + 1) (by omega) (by omega)
      rw [anyN_s] at ih
      simp only [bnd]
      rw [fw_has n F (by omega) ha (by omega), cl hn hi, nI_clamp (show a < 2 ^ 31 by omega)]
      cases hc : (c || anyN (ckB F a) i)
      · rw [← Bool.or_assoc, hc] at ih
        rw [if_pos (show fl false = 0 from rfl)]
        by_cases h3 : F 19 (ix 3 a i) = 0
        · rw [if_pos h3]
          rw [ckB_f1 h3] at ih
          exact ih
        · rw [if_neg h3]
          by_cases h4 : F 7 a < 1
          · rw [if_pos h4]
            rw [ckB_f2 (rnF_1 h4)] at ih
            exact ih
          · rw [if_neg h4]
            by_cases h5 : 3 < F 7 a
            · rw [if_pos h5]
              rw [ckB_f2 (rnF_3 h5)] at ih
              exact ih
            · rw [if_neg h5]
              by_cases h6 : F 7 i < 1
              · rw [if_pos h6]
                rw [ckB_f3 (rnF_1 h6)] at ih
                exact ih
              · rw [if_neg h6]
                by_cases h7 : 3 < F 7 i
                · rw [if_pos h7]
                  rw [ckB_f3 (rnF_3 h7)] at ih
                  exact ih
                · rw [if_neg h7]
                  rw [ckB_t h3 h4 h5 h6 h7] at ih
                  exact ih
      · rw [← Bool.or_assoc, hc, Bool.true_or] at ih
        rw [if_neg (show ¬ fl true = 0 by decide)]
        exact ih
theorem fw_check_inq1 (n : Nat) (F : Nat → Nat → Int32) (a : Nat) (c : Bool) (K : Nat → Int32 → Int32) (ha : a < 40) (hn : n ≤ 40) : ∀ fu i, i ≤ n → n < i + fu → f_w_check_55q1 n F a (F 7 a) fu i (fl (c || anyN (ckB F a) i)) K = K n (fl (c || anyN (ckB F a) n))
  | 0, i, h1, h2 => by omega
  | fu + 1, i, h1, h2 => by
    rw [f_w_check_55q1]
    by_cases hi : n ≤ i
    · have e : i = n := by omega
      subst e
      rw [if_pos hi]
    · rw [if_neg hi]
      have ih := fw_check_inq1 n F a c K ha hn fu (i + 1) (by omega) (by omega)
      rw [anyN_s] at ih
      simp only [bnd]
      rw [fw_has n F (by omega) ha (by omega), cl hn hi]
      cases hc : (c || anyN (ckB F a) i)
      · rw [← Bool.or_assoc, hc] at ih
        rw [if_pos (show fl false = 0 from rfl)]
        by_cases h3 : F 19 (ix 3 a i) = 0
        · rw [if_pos h3]
          rw [ckB_f1 h3] at ih
          exact ih
        · rw [if_neg h3]
          by_cases h4 : F 7 a < 1
          · rw [if_pos h4]
            rw [ckB_f2 (rnF_1 h4)] at ih
            exact ih
          · rw [if_neg h4]
            by_cases h5 : 3 < F 7 a
            · rw [if_pos h5]
              rw [ckB_f2 (rnF_3 h5)] at ih
              exact ih
            · rw [if_neg h5]
              by_cases h6 : F 7 i < 1
              · rw [if_pos h6]
                rw [ckB_f3 (rnF_1 h6)] at ih
                exact ih
              · rw [if_neg h6]
                by_cases h7 : 3 < F 7 i
                · rw [if_pos h7]
                  rw [ckB_f3 (rnF_3 h7)] at ih
                  exact ih
                · rw [if_neg h7]
                  rw [ckB_t h3 h4 h5 h6 h7] at ih
                  exact ih
      · rw [← Bool.or_assoc, hc, Bool.true_or] at ih
        rw [if_neg (show ¬ fl true = 0 by decide)]
        exact ih
theorem fw_check_inq2 (n : Nat) (F : Nat → Nat → Int32) (a : Nat) (c : Bool) (K : Nat → Int32 → Int32) (ha : a < 40) (hn : n ≤ 40) : ∀ fu i, i ≤ n → n < i + fu → f_w_check_55q2 n F a (F 7 a) fu i (fl (c || anyN (ckB F a) i)) K = K n (fl (c || anyN (ckB F a) n))
  | 0, i, h1, h2 => by omega
  | fu + 1, i, h1, h2 => by
    rw [f_w_check_55q2]
    by_cases hi : n ≤ i
    · have e : i = n := by omega
      subst e
      rw [if_pos hi]
    · rw [if_neg hi]
      have ih := fw_check_inq2 n F a c K ha hn fu (i + 1) (by omega) (by omega)
      rw [anyN_s] at ih
      simp only [bnd]
      rw [fw_has n F (by omega) ha (by omega), cl hn hi]
      cases hc : (c || anyN (ckB F a) i)
      · rw [← Bool.or_assoc, hc] at ih
        rw [if_pos (show fl false = 0 from rfl)]
        by_cases h3 : F 19 (ix 3 a i) = 0
        · rw [if_pos h3]
          rw [ckB_f1 h3] at ih
          exact ih
        · rw [if_neg h3]
          by_cases h4 : F 7 a < 1
          · rw [if_pos h4]
            rw [ckB_f2 (rnF_1 h4)] at ih
            exact ih
          · rw [if_neg h4]
            by_cases h5 : 3 < F 7 a
            · rw [if_pos h5]
              rw [ckB_f2 (rnF_3 h5)] at ih
              exact ih
            · rw [if_neg h5]
              by_cases h6 : F 7 i < 1
              · rw [if_pos h6]
                rw [ckB_f3 (rnF_1 h6)] at ih
                exact ih
              · rw [if_neg h6]
                by_cases h7 : 3 < F 7 i
                · rw [if_pos h7]
                  rw [ckB_f3 (rnF_3 h7)] at ih
                  exact ih
                · rw [if_neg h7]
                  rw [ckB_t h3 h4 h5 h6 h7] at ih
                  exact ih
      · rw [← Bool.or_assoc, hc, Bool.true_or] at ih
        rw [if_neg (show ¬ fl true = 0 by decide)]
        exact ih
theorem fw_check_inq3 (n : Nat) (F : Nat → Nat → Int32) (a : Nat) (c : Bool) (K : Nat → Int32 → Int32) (ha : a < 40) (hn : n ≤ 40) : ∀ fu i, i ≤ n → n < i + fu → f_w_check_55q3 n F a (F 7 a) fu i (fl (c || anyN (ckB F a) i)) K = K n (fl (c || anyN (ckB F a) n))
  | 0, i, h1, h2 => by omega
  | fu + 1, i, h1, h2 => by
    rw [f_w_check_55q3]
    by_cases hi : n ≤ i
    · have e : i = n := by omega
      subst e
      rw [if_pos hi]
    · rw [if_neg hi]
      have ih := fw_check_inq3 n F a c K ha hn fu (i + 1) (by omega) (by omega)
      rw [anyN_s] at ih
      simp only [bnd]
      rw [fw_has n F (by omega) ha (by omega), cl hn hi]
      cases hc : (c || anyN (ckB F a) i)
      · rw [← Bool.or_assoc, hc] at ih
        rw [if_pos (show fl false = 0 from rfl)]
        by_cases h3 : F 19 (ix 3 a i) = 0
        · rw [if_pos h3]
          rw [ckB_f1 h3] at ih
          exact ih
        · rw [if_neg h3]
          by_cases h4 : F 7 a < 1
          · rw [if_pos h4]
            rw [ckB_f2 (rnF_1 h4)] at ih
            exact ih
          · rw [if_neg h4]
            by_cases h5 : 3 < F 7 a
            · rw [if_pos h5]
              rw [ckB_f2 (rnF_3 h5)] at ih
              exact ih
            · rw [if_neg h5]
              by_cases h6 : F 7 i < 1
              · rw [if_pos h6]
                rw [ckB_f3 (rnF_1 h6)] at ih
                exact ih
              · rw [if_neg h6]
                by_cases h7 : 3 < F 7 i
                · rw [if_pos h7]
                  rw [ckB_f3 (rnF_3 h7)] at ih
                  exact ih
                · rw [if_neg h7]
                  rw [ckB_t h3 h4 h5 h6 h7] at ih
                  exact ih
      · rw [← Bool.or_assoc, hc, Bool.true_or] at ih
        rw [if_neg (show ¬ fl true = 0 by decide)]
        exact ih
theorem fw_check_inq4 (n : Nat) (F : Nat → Nat → Int32) (a : Nat) (c : Bool) (K : Nat → Int32 → Int32) (ha : a < 40) (hn : n ≤ 40) : ∀ fu i, i ≤ n → n < i + fu → f_w_check_55q4 n F a (F 7 a) fu i (fl (c || anyN (ckB F a) i)) K = K n (fl (c || anyN (ckB F a) n))
  | 0, i, h1, h2 => by omega
  | fu + 1, i, h1, h2 => by
    rw [f_w_check_55q4]
    by_cases hi : n ≤ i
    · have e : i = n := by omega
      subst e
      rw [if_pos hi]
    · rw [if_neg hi]
      have ih := fw_check_inq4 n F a c K ha hn fu (i + 1) (by omega) (by omega)
      rw [anyN_s] at ih
      simp only [bnd]
      rw [fw_has n F (by omega) ha (by omega), cl hn hi]
      cases hc : (c || anyN (ckB F a) i)
      · rw [← Bool.or_assoc, hc] at ih
        rw [if_pos (show fl false = 0 from rfl)]
        by_cases h3 : F 19 (ix 3 a i) = 0
        · rw [if_pos h3]
          rw [ckB_f1 h3] at ih
          exact ih
        · rw [if_neg h3]
          by_cases h4 : F 7 a < 1
          · rw [if_pos h4]
            rw [ckB_f2 (rnF_1 h4)] at ih
            exact ih
          · rw [if_neg h4]
            by_cases h5 : 3 < F 7 a
            · rw [if_pos h5]
              rw [ckB_f2 (rnF_3 h5)] at ih
              exact ih
            · rw [if_neg h5]
              by_cases h6 : F 7 i < 1
              · rw [if_pos h6]
                rw [ckB_f3 (rnF_1 h6)] at ih
                exact ih
              · rw [if_neg h6]
                by_cases h7 : 3 < F 7 i
                · rw [if_pos h7]
                  rw [ckB_f3 (rnF_3 h7)] at ih
                  exact ih
                · rw [if_neg h7]
                  rw [ckB_t h3 h4 h5 h6 h7] at ih
                  exact ih
      · rw [← Bool.or_assoc, hc, Bool.true_or] at ih
        rw [if_neg (show ¬ fl true = 0 by decide)]
        exact ih
theorem fw_check_inq5 (n : Nat) (F : Nat → Nat → Int32) (a : Nat) (c : Bool) (K : Nat → Int32 → Int32) (ha : a < 40) (hn : n ≤ 40) : ∀ fu i, i ≤ n → n < i + fu → f_w_check_55q5 n F a (F 7 a) fu i (fl (c || anyN (ckB F a) i)) K = K n (fl (c || anyN (ckB F a) n))
  | 0, i, h1, h2 => by omega
  | fu + 1, i, h1, h2 => by
    rw [f_w_check_55q5]
    by_cases hi : n ≤ i
    · have e : i = n := by omega
      subst e
      rw [if_pos hi]
    · rw [if_neg hi]
      have ih := fw_check_inq5 n F a c K ha hn fu (i + 1) (by omega) (by omega)
      rw [anyN_s] at ih
      simp only [bnd]
      rw [fw_has n F (by omega) ha (by omega), cl hn hi]
      cases hc : (c || anyN (ckB F a) i)
      · rw [← Bool.or_assoc, hc] at ih
        rw [if_pos (show fl false = 0 from rfl)]
        by_cases h3 : F 19 (ix 3 a i) = 0
        · rw [if_pos h3]
          rw [ckB_f1 h3] at ih
          exact ih
        · rw [if_neg h3]
          by_cases h4 : F 7 a < 1
          · rw [if_pos h4]
            rw [ckB_f2 (rnF_1 h4)] at ih
            exact ih
          · rw [if_neg h4]
            by_cases h5 : 3 < F 7 a
            · rw [if_pos h5]
              rw [ckB_f2 (rnF_3 h5)] at ih
              exact ih
            · rw [if_neg h5]
              by_cases h6 : F 7 i < 1
              · rw [if_pos h6]
                rw [ckB_f3 (rnF_1 h6)] at ih
                exact ih
              · rw [if_neg h6]
                by_cases h7 : 3 < F 7 i
                · rw [if_pos h7]
                  rw [ckB_f3 (rnF_3 h7)] at ih
                  exact ih
                · rw [if_neg h7]
                  rw [ckB_t h3 h4 h5 h6 h7] at ih
                  exact ih
      · rw [← Bool.or_assoc, hc, Bool.true_or] at ih
        rw [if_neg (show ¬ fl true = 0 by decide)]
        exact ih
theorem fw_check_lp (n : Nat) (F : Nat → Nat → Int32) (K : Nat → Int32 → Int32 → Int32) (hn : n ≤ 40) : ∀ fu i, i ≤ n → n < i + fu → f_w_check_6 n F fu i (fl (anyN (fun a => anyN (ckB F a) n) i)) (fl (anyN (LKp n F) i)) K = K n (fl (anyN (fun a => anyN (ckB F a) n) n)) (fl (anyN (LKp n F) n))
  | 0, i, h1, h2 => by omega
  | fu + 1, i, h1, h2 => by
    rw [f_w_check_6]
    by_cases hi : n ≤ i
    · have e : i = n := by omega
      subst e
      rw [if_pos hi]
    · rw [if_neg hi]
      have ih := fw_check_lp n F K hn fu (i + 1) (by omega) (by omega)
      rw [anyN_s, anyN_s] at ih
      have go : ∀ l : Int32, fl (anyN (LKp n F) i || LKp n F i) = l → f_w_check_6 n F fu (i + 1) (fl (anyN (fun a => anyN (ckB F a) n) i || anyN (ckB F i) n)) l K = K n (fl (anyN (fun a => anyN (ckB F a) n) n)) (fl (anyN (LKp n F) n)) := fun l hl => by rw [← hl]; exact ih
      have z : anyN (ckB F i) 0 = false := rfl
      have w : ∀ c : Bool, fl c = fl (c || anyN (ckB F i) 0) := fun c => by rw [z, Bool.or_false]
      cases h0 : anyN (LKp n F) i
      · rw [h0, Bool.false_or] at go
        rw [if_pos (show fl false = 0 from rfl)]
        simp only [bnd]
        rw [nI_clamp (show i < 2 ^ 31 by omega), fw_hasNeeds n i F (by omega) hn]
        by_cases c1 : F 7 i = 1
        · rw [if_pos c1]
          cases h9 : anyN (lkB F i) n
          · rw [if_neg (show ¬ fl (!false) = 0 by decide), w, fw_check_inq1 n F i _ _ (by omega) hn (n + 1) 0 (by omega) (by omega)]
            exact go 0 (by simp [LKp, h9, fl])
          · rw [if_pos (show fl (!true) = 0 by decide), w, fw_check_inq2 n F i _ _ (by omega) hn (n + 1) 0 (by omega) (by omega)]
            exact go 1 (by simp [LKp, h9, c1, fl])
        · rw [if_neg c1]
          by_cases c2 : F 7 i = 2
          · rw [if_pos c2]
            cases h9 : anyN (lkB F i) n
            · rw [if_neg (show ¬ fl (!false) = 0 by decide), w, fw_check_inq4 n F i _ _ (by omega) hn (n + 1) 0 (by omega) (by omega)]
              exact go 0 (by simp [LKp, h9, fl])
            · rw [if_pos (show fl (!true) = 0 by decide), w, fw_check_inq5 n F i _ _ (by omega) hn (n + 1) 0 (by omega) (by omega)]
              exact go 1 (by simp [LKp, h9, c2, fl])
          · rw [if_neg c2, w, fw_check_inq3 n F i _ _ (by omega) hn (n + 1) 0 (by omega) (by omega)]
            exact go 0 (by simp [LKp, c1, c2, fl])
      · rw [h0, Bool.true_or] at go
        rw [if_neg (show ¬ fl true = 0 by decide), w, fw_check_in n F i _ _ (by omega) hn (n + 1) 0 (by omega) (by omega)]
        exact go 1 rfl
theorem rnF_iff {F : Nat → Nat → Int32} {s t : Nat} (ht : t ≤ 5) (h : F 7 s = nI t) : ¬ rnF F s = 0 ↔ t = 1 ∨ t = 2 ∨ t = 3 := by
  unfold rnF
  rw [h, fl_n0]
  have : t = 0 ∨ t = 1 ∨ t = 2 ∨ t = 3 ∨ t = 4 ∨ t = 5 := by omega
  rcases this with e | e | e | e | e | e <;> subst e <;> decide
theorem check_R (n : Nat) (dl : Nat → Nat) {B : Nat} {L : Nat → Int64} {I : Nat → Int32} {M : Nat → Nat → Int64} {si : Nat → Nat → Int32} {sa : Nat → Nat → Nat → Int32} {F : Nat → Nat → Int32} {V : Nat → Int32} (h : Rf n dl B L I M si sa F V) : f_y_check n dl M = f_w_check n F := by
  have hn : n ≤ 40 := h.1.1.1.1
  have hRR : RR n M F := h.1.1.2.1
  have hRE : RE n si F := h.1.1.2.2.2.1
  have hRS : RS n (L 0) (M 9) si F := h.1.1.2.2.2.2.1
  have hS1 : sB n (M 9 1) F 1 := hRS.1 1 (by omega)
  have hS2 : sB n (M 9 2) F 2 := hRS.1 2 (by omega)
  have hS3 : sB n (M 9 3) F 3 := hRS.1 3 (by omega)
  have hl := lacking_eq n dl hn hRR hS2 hS1
  have esus : f_y_sus n dl M = M 9 1 ||| M 9 2 ||| M 9 3 := rfl
  have hm : mB n (M 9 1 ||| M 9 2 ||| M 9 3) (rnF F) := by
    intro s
    rw [bL_orT, bL_orT, hS1 s, hS2 s, hS3 s]
    constructor
    · rintro ((q | q) | q)
      · exact ⟨q.1, (rnF_iff (t := 1) (by omega) q.2).mpr (by omega)⟩
      · exact ⟨q.1, (rnF_iff (t := 2) (by omega) q.2).mpr (by omega)⟩
      · exact ⟨q.1, (rnF_iff (t := 3) (by omega) q.2).mpr (by omega)⟩
    · rintro ⟨q1, q2⟩
      obtain ⟨t, ht, et⟩ := (hRE s q1).2.1
      rcases (rnF_iff ht et).mp q2 with e | e | e
      · subst e; exact Or.inl (Or.inl ⟨q1, et⟩)
      · subst e; exact Or.inl (Or.inr ⟨q1, et⟩)
      · subst e; exact Or.inr ⟨q1, et⟩
  have hc := clash_gen hRR hn dl (S := M 9 1 ||| M 9 2 ||| M 9 3) (f := rnF F) hm (p := ckB F) (fun a b => rfl)
  have ew : f_w_check n F = (fun (i1 : Nat) (y5 : Int32) (y6 : Int32) => if y6 = (0 : Int32) then (if y5 = (0 : Int32) then (((0 : Int32))) else (((1 : Int32)))) else (if y5 = (0 : Int32) then (((1 : Int32))) else (((2 : Int32))))) n (fl (anyN (fun a => anyN (ckB F a) n) n)) (fl (anyN (LKp n F) n)) := by
    unfold f_w_check
    exact fw_check_lp n F _ hn (n + 1) 0 (by omega) (by omega)
  have ey : f_y_check n dl M = if f_y_leastLacking n dl M < 0 then (if f_y_clash n dl (f_y_sus n dl M) M = 0 then 0 else 1) else (if f_y_clash n dl (f_y_sus n dl M) M = 0 then 1 else 2) := by
    unfold f_y_check
    generalize f_y_leastLacking n dl M = a
    generalize f_y_sus n dl M = b
    generalize hg : f_y_clash n dl b M = c
    simp only [bnd, hg]
  rw [ew, ey, esus, hc]
  rcases hl with ⟨q, hq⟩ | ⟨s, q1, q2, q3, q4, q5⟩
  · rw [q, if_pos (show (-1 : Int32) < 0 by decide), show anyN (LKp n F) n = false from anyN_f.mpr (fun b hb => hq b (by omega) hb)]
    rfl
  · rw [q3, if_neg (show ¬ nI s < 0 from nI_nlt (a := s) (b := 0) (by omega) (by omega)), show anyN (LKp n F) n = true from (anyN_iff _ _).mpr ⟨s, q2, q4⟩]
    rfl

end
section
def HZ (n : Nat) (F : Nat → Nat → Int32) : Prop := ∀ h a b, h < 4 → a < 40 → b < 40 → (n ≤ a ∨ n ≤ b) → F 19 (ix h a b) = 0
theorem HZ.c {n : Nat} {F F2 : Nat → Nat → Int32} (h : HZ n F) (e : F2 19 = F 19) : HZ n F2 := fun o a b h1 h2 h3 h4 => by rw [e]; exact h o a b h1 h2 h3 h4
theorem HZ.hs {n : Nat} {F : Nat → Nat → Int32} (h : HZ n F) {o a b : Nat} (ho : o < 4) (ha : a < 40) (hb : b < 40) (q : n ≤ a ∨ n ≤ b) : HS F o a b = false := by
  unfold HS
  rw [h o a b ho ha hb q]
  rfl
def mkOk (p0 p1 p2 : Int32) : Prop := 0 ≤ p0 ∧ p0 ≤ 3 ∧ 0 ≤ p1 ∧ p1 ≤ 50 ∧ 0 ≤ p2 ∧ p2 ≤ 50 ∧ (p0 = 3 → p1 ≤ 0 ∧ p2 ≤ 0)
theorem fw_make (n : Nat) (p0 p1 p2 : Int32) (F : Nat → Nat → Int32) (V : Nat → Int32) (hn : n < 40) (hp : mkOk p0 p1 p2) : ∃ F2, f_w_make n p0 p1 p2 F V = (nI n, F2, va_up V 21 (nI (n + 1))) ∧ Ag [0, 1, 2, 4, 6, 16] F F2 ∧ F2 0 = upd (F 0) n p0 ∧ F2 1 = upd (F 1) n p1 ∧ F2 2 = upd (F 2) n p2 ∧ F2 4 = upd (F 4) n 1 ∧ F2 6 = upd (F 6) n 1 ∧ F2 16 = upd (F 16) n (-1) := by
  obtain ⟨a1, a2, a3, a4, a5, a6, a7⟩ := hp
  have b1 := i32_in ⟨a1, a2⟩
  have b2 := i32_in ⟨a3, a4⟩
  have b3 := i32_in ⟨a5, a6⟩
  have fin : ∃ F2, (nI n, va_up (va_up (va_up (va_up (va_up (va_up F 0 (upd (F 0) n p0)) 1 (upd (F 1) n p1)) 2 (upd (F 2) n p2)) 4 (upd (F 4) n 1)) 6 (upd (F 6) n 1)) 16 (upd (F 16) n (-1)), va_up V 21 (nI (n + 1))) = (nI n, F2, va_up V 21 (nI (n + 1))) ∧ Ag [0, 1, 2, 4, 6, 16] F F2 ∧ F2 0 = upd (F 0) n p0 ∧ F2 1 = upd (F 1) n p1 ∧ F2 2 = upd (F 2) n p2 ∧ F2 4 = upd (F 4) n 1 ∧ F2 6 = upd (F 6) n 1 ∧ F2 16 = upd (F 16) n (-1) := by
    refine ⟨_, rfl, ?_, ?_, ?_, ?_, ?_, ?_, ?_⟩
    · exact (((((Ag.up (by decide)).tr (Ag.up (by decide))).tr (Ag.up (by decide))).tr (Ag.up (by decide))).tr (Ag.up (by decide))).tr (Ag.up (by decide))
    · rw [va_up_ne _ _ (by decide), va_up_ne _ _ (by decide), va_up_ne _ _ (by decide), va_up_ne _ _ (by decide), va_up_ne _ _ (by decide), va_up_self]
    · rw [va_up_ne _ _ (by decide), va_up_ne _ _ (by decide), va_up_ne _ _ (by decide), va_up_ne _ _ (by decide), va_up_self]
    · rw [va_up_ne _ _ (by decide), va_up_ne _ _ (by decide), va_up_ne _ _ (by decide), va_up_self]
    · rw [va_up_ne _ _ (by decide), va_up_ne _ _ (by decide), va_up_self]
    · rw [va_up_ne _ _ (by decide), va_up_self]
    · rw [va_up_self]
  unfold f_w_make
  simp only [bnd]
  rw [if_neg b1.1, if_neg b1.2, if_neg b2.1, if_neg b2.2, if_neg b3.1, if_neg b3.2, nI_clamp (show n < 2 ^ 31 by omega)]
  rw [va_up_ne F _ (show 1 ≠ 0 by decide), va_up_ne _ _ (show 2 ≠ 1 by decide), va_up_ne F _ (show 2 ≠ 0 by decide), va_up_ne _ _ (show 4 ≠ 2 by decide), va_up_ne _ _ (show 4 ≠ 1 by decide), va_up_ne F _ (show 4 ≠ 0 by decide), va_up_ne _ _ (show 6 ≠ 4 by decide), va_up_ne _ _ (show 6 ≠ 2 by decide), va_up_ne _ _ (show 6 ≠ 1 by decide), va_up_ne F _ (show 6 ≠ 0 by decide), va_up_ne _ _ (show 16 ≠ 6 by decide), va_up_ne _ _ (show 16 ≠ 4 by decide), va_up_ne _ _ (show 16 ≠ 2 by decide), va_up_ne _ _ (show 16 ≠ 1 by decide), va_up_ne F _ (show 16 ≠ 0 by decide)]
  by_cases c3 : p0 = 3
  · obtain ⟨d1, d2⟩ := a7 c3
    rw [if_pos c3, if_neg (show ¬ 0 < p1 from (i32_in ⟨a3, d1⟩).2), if_pos d2, if_neg (show ¬ n = 40 by omega)]
    exact fin
  · rw [if_neg c3, if_neg (show ¬ n = 40 by omega)]
    exact fin
theorem xsi_ne {si : Nat → Nat → Int32} {n s j : Nat} {p0 p1 p2 w : Int32} (h : s < n) : xsi si n p0 p1 p2 w s j = si s j := by
  unfold xsi; rw [if_neg (by omega)]
theorem xsa_ne {sa : Nat → Nat → Nat → Int32} {n s j : Nat} (h : s < n) : xsa sa n s j = sa s j := by
  unfold xsa; rw [if_neg (by omega)]
theorem xdl_ne {dl : Nat → Nat} {n s dv : Nat} (h : s < n) : xdl dl n dv s = dl s := by
  unfold xdl; rw [if_neg (by omega)]
theorem upd_lt {f : Nat → Int32} {n s : Nat} {v : Int32} (h : s ≠ n) : upd f n v s = f s := by
  unfold upd; rw [if_neg h]
theorem upd_at {f : Nat → Int32} {n : Nat} {v : Int32} : upd f n v n = v := by
  unfold upd; rw [if_pos rfl]
theorem make_R (n : Nat) (dl : Nat → Nat) (B : Nat) (p0 p1 p2 : Int32) {L : Nat → Int64} {I I2 : Nat → Int32} {M M2 : Nat → Nat → Int64} {si : Nat → Nat → Int32} {sa : Nat → Nat → Nat → Int32} {F F2 : Nat → Nat → Int32} {V V2 : Nat → Int32} (h : Rf n dl B L I M si sa F V) (hj : J0 n F) (hz : HZ n F) (hn : n < 40) (hp : mkOk p0 p1 p2) (hI : ∀ j, j ≠ 5 → j ≠ 6 → I2 j = I j) (hM : ∀ j, j ≠ 9 → M2 j = M j) (hM9 : ∀ t, M2 9 t = if t = 0 then M 9 0 ||| oL n else M 9 t) (hV : ∀ j, j ≠ 21 → V2 j = V j) (hA : Ag [0, 1, 2, 4, 6, 16] F F2) (f0 : F2 0 = upd (F 0) n p0) (f1 : F2 1 = upd (F 1) n p1) (f2 : F2 2 = upd (F 2) n p2) (f4 : F2 4 = upd (F 4) n 1) (f6 : F2 6 = upd (F 6) n 1) (f16 : F2 16 = upd (F 16) n (-1)) : Rf (n + 1) (xdl dl n (if p0 = 2 then 20 else 0)) B L I2 M2 (xsi si n p0 p1 p2 (I 0)) (xsa sa n) F2 V2 ∧ J0 (n + 1) F2 ∧ HZ (n + 1) F2 := by
  obtain ⟨⟨⟨hnB, hRR, hRA, hRE, hRS, hRI, hRH, hRG, hRD, hRZ⟩, hJ, hB⟩, hRF, hRT⟩ := h
  obtain ⟨⟨z5, z7, z9, z10, z11, z14, z15, z18, z25⟩, z3⟩ := hRZ n (Nat.le_refl n) hn
  have lt1 : ∀ s, s < n + 1 → s ≠ n → s < n := fun s a b => by omega
  have g3 : F2 3 = F 3 := hA 3 (by decide)
  have g5 : F2 5 = F 5 := hA 5 (by decide)
  have g7 : F2 7 = F 7 := hA 7 (by decide)
  have g8 : F2 8 = F 8 := hA 8 (by decide)
  have g9 : F2 9 = F 9 := hA 9 (by decide)
  have g10 : F2 10 = F 10 := hA 10 (by decide)
  have g11 : F2 11 = F 11 := hA 11 (by decide)
  have g12 : F2 12 = F 12 := hA 12 (by decide)
  have g13 : F2 13 = F 13 := hA 13 (by decide)
  have g14 : F2 14 = F 14 := hA 14 (by decide)
  have g15 : F2 15 = F 15 := hA 15 (by decide)
  have g17 : F2 17 = F 17 := hA 17 (by decide)
  have g18 : F2 18 = F 18 := hA 18 (by decide)
  have g19 : F2 19 = F 19 := hA 19 (by decide)
  have g25 : F2 25 = F 25 := hA 25 (by decide)
  have g26 : F2 26 = F 26 := hA 26 (by decide)
  have hHS : ∀ o a b, HS F2 o a b = HS F o a b := fun o a b => by unfold HS; rw [g19]
  have hlk : lkB F2 = lkB F := by funext a b; unfold lkB; rw [hHS, g7]
  have he : ∀ s, ejb F2 s = ejb F s := fun s => ejb_c (by rw [g25]) (by rw [g26]) (by rw [g7])
  have ejn : ejb F n = false := by unfold ejb; rw [z25]; rfl
  have hJ0 : J0 (n + 1) F2 := fun s hs => by
    rw [he]
    by_cases e : s = n
    · rw [e]; exact ejn
    · exact hj s (lt1 s hs e)
  have hHZ : HZ (n + 1) F2 := fun o a b q1 q2 q3 q4 => by
    rw [g19]; exact hz o a b q1 q2 q3 (by omega)
  refine ⟨⟨⟨⟨⟨by omega, hnB.2⟩, ?_, ?_, ?_, ?_, ?_, ?_, ?_, ?_, ?_⟩, ?_, ?_⟩, ?_, ?_⟩, hJ0, hHZ⟩
  · obtain ⟨r1, r2, r3, r4, r5⟩ := hRR
    have m : ∀ o, o < 8 → M2 o = M o := fun o ho => hM o (by omega)
    refine ⟨fun o a b ho => ?_, fun o a b ho => ?_, fun a b => ?_, fun o a ho => ?_, by rw [g19]; exact r5⟩
    · rw [m o (by omega), hHS, r1 o a b ho]
      constructor
      · rintro ⟨q1, q2, q3⟩; exact ⟨by omega, by omega, q3⟩
      · rintro ⟨q1, q2, q3⟩
        by_cases c : a < n ∧ b < n
        · exact ⟨c.1, c.2, q3⟩
        · rw [hz.hs ho (show a < 40 by omega) (show b < 40 by omega) (by omega)] at q3; cases q3
    · rw [m (4 + o) (by omega), m o (by omega)]; exact r2 o a b ho
    · rw [m 3 (by omega)]; exact r3 a b
    · rw [m o (by omega)]; exact r4 o a ho
  · intro s hs
    by_cases e : s = n
    · subst e
      obtain ⟨a1, a2, a3, a4, a5, a6, a7⟩ := hp
      obtain ⟨x, hx, rfl⟩ := i32_ix (m := 50) (by omega) ⟨a3, a4⟩
      obtain ⟨y, hy, rfl⟩ := i32_ix (m := 50) (by omega) ⟨a5, a6⟩
      rw [f0, f1, f2, f4, g5, f6, g3, upd_at, upd_at, upd_at, upd_at, upd_at, z5]
      refine ⟨?_, fun i hi => ?_, ⟨⟨x, hx, rfl⟩, ⟨y, hy, rfl⟩, ⟨1, by omega, by omega, rfl⟩, ⟨0, by omega, rfl⟩, ⟨1, by omega, by omega, rfl⟩⟩, ?_⟩
      · simp [xsi]
      · rw [z3 i hi]
        refine ⟨?_, 0, by omega, rfl⟩
        simp [xsa]
      · simp [xdl]
    · have hl := lt1 s hs e
      rw [f0, f1, f2, f4, g5, f6, g3, upd_lt e, upd_lt e, upd_lt e, upd_lt e, upd_lt e, xsi_ne hl, xsi_ne hl, xsi_ne hl, xsi_ne hl, xsi_ne hl, xsi_ne hl, xsa_ne hl, xdl_ne hl]
      exact hRA s hl
  · intro s hs
    by_cases e : s = n
    · subst e
      rw [g7, g8, g9, g11, g12, f1, f2, z7, z9, z11]
      have x6 : ∀ j, j = 6 ∨ j = 8 ∨ j = 10 ∨ j = 11 → xsi si s p0 p1 p2 (I 0) s j = 0 := by
        intro j hj2
        rcases hj2 with q | q | q | q <;> subst q <;> simp [xsi]
      rw [x6 6 (by omega), x6 8 (by omega), x6 10 (by omega), x6 11 (by omega)]
      refine ⟨rfl, ⟨0, by omega, rfl⟩, fun q => absurd rfl q, rfl, ⟨rfl, Or.inl rfl⟩, ?_, ⟨0, by omega, rfl⟩, fun q => absurd q (by decide), fun q => absurd q (by decide)⟩
      rw [if_neg (fun q => absurd q.1 (by decide))]
    · have hl := lt1 s hs e
      rw [g7, g8, g9, g11, g12, f1, f2, upd_lt e, upd_lt e, xsi_ne hl, xsi_ne hl, xsi_ne hl, xsi_ne hl, xsi_ne hl]
      exact hRE s hl
  · refine ⟨fun t ht s => ?_, fun s => ?_⟩
    · rw [hM9, g7]
      by_cases c : t = 0
      · subst c
        rw [if_pos rfl, bL_orT, bL_oL (by omega), hRS.1 0 (by omega) s]
        constructor
        · rintro (q | q)
          · exact ⟨by omega, q.2⟩
          · subst q; exact ⟨by omega, z7⟩
        · rintro ⟨q1, q2⟩
          by_cases e : s = n
          · exact Or.inr e
          · exact Or.inl ⟨lt1 s q1 e, q2⟩
      · rw [if_neg c, hRS.1 t ht s]
        constructor
        · rintro ⟨q1, q2⟩; exact ⟨by omega, q2⟩
        · rintro ⟨q1, q2⟩
          by_cases e : s = n
          · subst e
            rw [z7] at q2
            exact absurd ((nI_eq (a := 0) (b := t) (by omega) (by omega)).mp q2).symm c
          · exact ⟨lt1 s q1 e, q2⟩
    · rw [hRS.2 s]
      constructor
      · rintro ⟨q1, q2⟩; rw [xsi_ne q1]; exact ⟨by omega, q2⟩
      · rintro ⟨q1, q2⟩
        by_cases e : s = n
        · subst e; exact absurd (by simp [xsi]) q2
        · rw [xsi_ne (lt1 s q1 e)] at q2; exact ⟨lt1 s q1 e, q2⟩
  · obtain ⟨k1, k2, k3, c, hc, k4, k5, k6, k7⟩ := hRI
    unfold RI
    rw [hI 0 (by decide) (by decide), hI 1 (by decide) (by decide), hI 2 (by decide) (by decide), hI 3 (by decide) (by decide), hI 4 (by decide) (by decide), hI 7 (by decide) (by decide), hI 12 (by decide) (by decide), hV 22 (by decide), hV 23 (by decide), hV 24 (by decide), hV 33 (by decide), hV 20 (by decide), hV 45 (by decide), g9]
    refine ⟨k1, k2, k3, c, hc, k4, k5, k6, fun s hs => ?_⟩
    by_cases e : s = n
    · subst e; exact ⟨0, by omega, z9⟩
    · exact k7 s (lt1 s hs e)
  · unfold RH
    rw [hM 8 (by decide), hA 42 (by decide), hA 43 (by decide), hA 44 (by decide)]
    exact hRH
  · unfold RG
    rw [hI 4 (by decide) (by decide), hI 12 (by decide) (by decide), g7, hlk]
    intro q s hs q2
    by_cases e : s = n
    · subst e
      rw [z7] at q2
      rcases q2 with q2 | q2 <;> exact absurd q2 (by decide)
    · have hl := lt1 s hs e
      rw [anyN_s, hRG q s hl q2]
      unfold lkB
      rw [hz.hs (show 0 < 4 by omega) (show s < 40 by omega) hn (Or.inr (Nat.le_refl n))]
      rfl
  · refine ⟨fun s hs => ?_, fun s => ?_⟩
    · by_cases e : s = n
      · subst e
        rw [g15, f16, g17, g18, z15, z18, upd_at]
        refine ⟨⟨by simp [xsi], by simp [xsi]⟩, 0, 0, by simp [xsi]; rfl, by simp [xsi]; rfl, rfl, by omega, by omega, fun k hk => absurd hk (by omega)⟩
      · have hl := lt1 s hs e
        rw [g15, f16, g17, g18, upd_lt e, xsi_ne hl, xsi_ne hl, xsi_ne hl, xsi_ne hl, xsa_ne hl, xdl_ne hl]
        exact hRD.1 s hl
    · rw [g18, hRD.2 s]
      constructor
      · rintro ⟨q1, q2⟩; exact ⟨by omega, q2⟩
      · rintro ⟨q1, q2⟩
        by_cases e : s = n
        · subst e; exact absurd z18 q2
        · exact ⟨lt1 s q1 e, q2⟩
  · intro s q1 q2
    rw [g3, g5, g7, g9, g10, g11, g14, g15, g18, g25]
    exact hRZ s (by omega) q2
  · obtain ⟨j1, j2, j3, j4⟩ := hJ
    unfold RJ
    rw [g25, g26]
    simp only [he]
    refine ⟨fun s => ?_, fun s => ?_, fun s => ?_, fun s hs => ?_⟩
    · rw [j1 s]
      constructor
      · rintro ⟨q1, q2⟩; exact ⟨by omega, q2⟩
      · rintro ⟨q1, q2⟩
        by_cases e : s = n
        · subst e; rw [z25] at q2; exact absurd q2.1 (by decide)
        · exact ⟨lt1 s q1 e, q2⟩
    · rw [j2 s]
      constructor
      · rintro ⟨q1, q2⟩; exact ⟨by omega, q2⟩
      · rintro ⟨q1, q2⟩
        by_cases e : s = n
        · subst e; rw [z25] at q2; exact absurd q2.1 (by decide)
        · exact ⟨lt1 s q1 e, q2⟩
    · rw [j3 s]
      constructor
      · rintro ⟨q1, q2⟩; exact ⟨by omega, q2⟩
      · rintro ⟨q1, q2⟩
        by_cases e : s = n
        · subst e; exact absurd z25 q2.1
        · exact ⟨lt1 s q1 e, q2⟩
    · by_cases e : s = n
      · subst e; exact Or.inl z25
      · exact j4 s (lt1 s hs e)
  · intro s hs
    have e := hB s hs
    unfold awL at e ⊢
    rw [hM 0 (by decide), hM 2 (by decide), hM 3 (by decide), hM 4 (by decide), hM 6 (by decide)]
    exact e
  · intro s hs
    rw [g10]
    by_cases e : s = n
    · subst e; rw [z10]; simp [xsi]
    · rw [xsi_ne (lt1 s hs e)]; exact hRF s (lt1 s hs e)
  · intro s hs
    rw [g13, g14, hV 22 (by decide)]
    by_cases e : s = n
    · subst e
      obtain ⟨T, hT, eT⟩ := hRI.1.2
      refine ⟨0, 0, T, by omega, by omega, by omega, by simp [xsi]; rfl, by simp [xsi]; rfl, z14, eT, fun _ => 0, fun k hk => absurd hk (by omega), fun j k _ hk => absurd hk (by omega)⟩
    · have hl := lt1 s hs e
      rw [xsi_ne hl, xsi_ne hl, xsa_ne hl]
      exact hRT s hl

end
section
def AgI (I I2 : Nat → Int32) : Prop := ∀ j, j ≠ 9 → j ≠ 10 → j ≠ 11 → I2 j = I j
theorem AgI.tr {I J K : Nat → Int32} (h : AgI I J) (g : AgI J K) : AgI I K := fun j a b c => (g j a b c).trans (h j a b c)
theorem padd_42_P (n : Nat) (dl : Nat → Nat) (av : Nat) (P : (Nat → Int32) × (Nat → Nat → Int32) → Prop) : ∀ (fu i : Nat) (J : Nat → Nat → Int32) (K : Nat → (Nat → Nat → Int32) → (Nat → Int32) × (Nat → Nat → Int32)), (∀ i J, P (K i J)) → P (f_y_padd_42 n dl av fu i J K)
  | 0, i, J, K, h => by rw [f_y_padd_42]; exact h _ _
  | fu + 1, i, J, K, h => by
    rw [f_y_padd_42]
    by_cases c : i ≤ 0
    · rw [if_pos c]; exact h _ _
    · rw [if_neg c]
      simp only [bnd]
      by_cases c2 : f_y_isBefore n dl av (J 0 (nI (i - 1)).toNatClampNeg).toNatClampNeg J = 0
      · rw [if_pos c2]; exact h _ _
      · rw [if_neg c2]; exact padd_42_P n dl av P fu _ _ K h
theorem padd_P (n : Nat) (dl : Nat → Nat) (av : Nat) (p1 p2 : Int32) (I : Nat → Int32) (J : Nat → Nat → Int32) : AgI I (f_y_padd n dl av p1 p2 I J).1 := by
  unfold f_y_padd
  rw [bnd_e]
  by_cases c : (I 9).toNatClampNeg < 40
  · rw [if_pos c, bnd_e, bnd_e, bnd_e, bnd_e, bnd_e]
    refine padd_42_P n dl av (fun x => AgI I x.1) _ _ _ _ (fun i J2 => ?_)
    show AgI I (va_up (va_up I 10 _) 9 _)
    intro j a b c
    rw [va_up_ne _ _ a, va_up_ne _ _ b]
  · rw [if_neg c]; exact fun _ _ _ _ => rfl
theorem lay_49_P (n : Nat) (dl : Nat → Nat) (M : Nat → Nat → Int64) (si : Nat → Nat → Int32) (x1 x2 : Int64) (I : Nat → Int32) (P : (Nat → Int64) × (Nat → Int32) × (Nat → Nat → Int32) → Prop) : ∀ (fu i : Nat) (y : Int64) (I1 : Nat → Int32) (J : Nat → Nat → Int32) (K : Nat → Int64 → (Nat → Int32) → (Nat → Nat → Int32) → (Nat → Int64) × (Nat → Int32) × (Nat → Nat → Int32)), AgI I I1 → (∀ i y I2 J, AgI I I2 → P (K i y I2 J)) → P (f_y_layOutDraft_49 n dl M si x1 x2 fu i y I1 J K)
  | 0, i, y, I1, J, K, hI, h => by rw [f_y_layOutDraft_49]; exact h _ _ _ _ hI
  | fu + 1, i, y, I1, J, K, hI, h => by
    have ih := fun (y2 : Int64) (I2 : Nat → Int32) (J2 : Nat → Nat → Int32) (h2 : AgI I I2) => lay_49_P n dl M si x1 x2 I P fu (i + 1) y2 I2 J2 K h2 h
    rw [f_y_layOutDraft_49]
    by_cases c : n ≤ i
    · rw [if_pos c]; exact h _ _ _ _ hI
    · rw [if_neg c, bnd_e]
      by_cases c2 : f_y_holds n dl y i = 0
      · rw [if_pos c2]; exact ih _ _ _ hI
      · rw [if_neg c2, bnd_e, bnd_e, bnd_e]
        by_cases c3 : lg_cmp (f_y_rawaited n dl i x1 x2 M &&& y) 0 = 0
        · rw [if_pos c3, bnd_e, bnd_e, bnd_e]
          by_cases c4 : f_y_holds n dl x1 i = 0
          · rw [if_pos c4, bnd_e, bnd_e]
            have hp := padd_P n dl i (f_y_endOf n dl (f_y_rawaited n dl i x1 x2 M) J) (f_y_endOf n dl (f_y_rawaited n dl i x1 x2 M) J + f_y_ticksToStop n dl i (f_y_endOf n dl (f_y_rawaited n dl i x1 x2 M) J) I1 si) I1 J
            generalize f_y_padd n dl i (f_y_endOf n dl (f_y_rawaited n dl i x1 x2 M) J) (f_y_endOf n dl (f_y_rawaited n dl i x1 x2 M) J + f_y_ticksToStop n dl i (f_y_endOf n dl (f_y_rawaited n dl i x1 x2 M) J) I1 si) I1 J = q at hp ⊢
            exact ih _ _ _ (hI.tr hp)
          · rw [if_neg c4, bnd_e, bnd_e]
            have hp := padd_P n dl i (f_y_endOf n dl (f_y_rawaited n dl i x1 x2 M) J) (f_y_endOf n dl (f_y_rawaited n dl i x1 x2 M) J + f_y_ticksToStart n dl i si) I1 J
            generalize f_y_padd n dl i (f_y_endOf n dl (f_y_rawaited n dl i x1 x2 M) J) (f_y_endOf n dl (f_y_rawaited n dl i x1 x2 M) J + f_y_ticksToStart n dl i si) I1 J = q at hp ⊢
            exact ih _ _ _ (hI.tr hp)
        · rw [if_neg c3]; exact ih _ _ _ hI
theorem lay_32_P (n : Nat) (dl : Nat → Nat) (M : Nat → Nat → Int64) (si : Nat → Nat → Int32) (x1 x2 : Int64) (I : Nat → Int32) (P : (Nat → Int64) × (Nat → Int32) × (Nat → Nat → Int32) → Prop) : ∀ (fu i : Nat) (y : Int64) (I1 : Nat → Int32) (J : Nat → Nat → Int32) (K : Nat → Int64 → (Nat → Int32) → (Nat → Nat → Int32) → (Nat → Int64) × (Nat → Int32) × (Nat → Nat → Int32)), AgI I I1 → (∀ i y I2 J, AgI I I2 → P (K i y I2 J)) → P (f_y_layOutDraft_32 n dl M si x1 x2 fu i y I1 J K)
  | 0, i, y, I1, J, K, hI, h => by rw [f_y_layOutDraft_32]; exact h _ _ _ _ hI
  | fu + 1, i, y, I1, J, K, hI, h => by
    rw [f_y_layOutDraft_32]
    by_cases c : 40 ≤ i
    · rw [if_pos c]; exact h _ _ _ _ hI
    · rw [if_neg c, bnd_e]
      by_cases c2 : lg_cmp y 0 = 0
      · rw [if_pos c2]; exact h _ _ _ _ hI
      · rw [if_neg c2]
        exact lay_49_P n dl M si x1 x2 I P _ _ _ _ _ _ hI (fun i2 y2 I2 J2 h2 => lay_32_P n dl M si x1 x2 I P fu (i + 1) y2 I2 J2 K h2 h)
theorem layOut_P (n : Nat) (dl : Nat → Nat) (L : Nat → Int64) (I : Nat → Int32) (M : Nat → Nat → Int64) (J : Nat → Nat → Int32) (si : Nat → Nat → Int32) : (f_y_layOutDraft n dl L I M J si).1 = va_up L 8 (L 3) ∧ AgI I (f_y_layOutDraft n dl L I M J si).2.1 := by
  have e : f_y_layOutDraft n dl L I M J si = f_y_layOutDraft_32 n dl M si (L 3) (L 4) (40 + 1) 0 (L 3 ||| L 4) (va_up (va_up (va_up I 9 0) 10 0) 11 1) J (fun (i7 : Nat) (y13 : Int64) (I11 : Nat → Int32) (J12 : Nat → Nat → Int32) => (va_up L 8 (L 3), I11, J12)) := by
    unfold f_y_layOutDraft
    rw [bnd_e, bnd_e, bnd_e]
    rfl
  rw [e]
  generalize 40 + 1 = fu
  refine lay_32_P n dl M si (L 3) (L 4) I (fun x => x.1 = va_up L 8 (L 3) ∧ AgI I x.2.1) fu 0 _ _ _ _ ?_ ?_
  · intro j a b c
    rw [va_up_ne _ _ c, va_up_ne _ _ b, va_up_ne _ _ a]
  · intro i y I2 J2 h2
    exact ⟨rfl, h2⟩
theorem reckon_7_P (n sv : Nat) (F : Nat → Nat → Int32) (P : (Nat → Nat → Int32) × (Nat → Int32) → Prop) : ∀ (fu i : Nat) (y5 y6 : Int32) (K : Nat → Int32 → Int32 → (Nat → Nat → Int32) × (Nat → Int32)), (∀ i a b, P (K i a b)) → P (f_w_reckon_7 n sv F fu i y5 y6 K)
  | 0, i, y5, y6, K, h => by rw [f_w_reckon_7]; exact h _ _ _
  | fu + 1, i, y5, y6, K, h => by
    have ih := fun (a b : Int32) => reckon_7_P n sv F P fu (i + 1) a b K h
    rw [f_w_reckon_7]
    by_cases c : n ≤ i
    · rw [if_pos c]; exact h _ _ _
    · rw [if_neg c, bnd_e]
      by_cases c1 : f_w_waitsAmong_newJob n sv i F = 0
      · rw [if_pos c1]; exact ih _ _
      · rw [if_neg c1]
        simp only [bnd_e]
        by_cases c2 : y5 = 0
        · rw [if_pos c2]
          by_cases c3 : F 40 (nI i).toNatClampNeg ≤ y6
          · rw [if_pos c3]; exact ih _ _
          · rw [if_neg c3]; exact ih _ _
        · rw [if_neg c2]
          by_cases c4 : F 40 (nI i).toNatClampNeg < 0
          · rw [if_pos c4]
            by_cases c3 : F 40 (nI i).toNatClampNeg ≤ y6
            · rw [if_pos c3]; exact ih _ _
            · rw [if_neg c3]; exact ih _ _
          · rw [if_neg c4]
            by_cases c3 : F 40 (nI i).toNatClampNeg ≤ y6
            · rw [if_pos c3]; exact ih _ _
            · rw [if_neg c3]; exact ih _ _
def lPl : List Nat := [34, 35, 36, 37, 40, 41]
theorem reckon_P (n sv : Nat) (F : Nat → Nat → Int32) (V : Nat → Int32) : Ag lPl F (f_w_reckon n sv F V).1 ∧ (f_w_reckon n sv F V).2 = V := by
  unfold f_w_reckon
  refine reckon_7_P n sv F (fun x => Ag lPl F x.1 ∧ x.2 = V) _ _ _ _ _ (fun i a b => ?_)
  by_cases c : a = 0
  · rw [if_pos c]; exact ⟨Ag.rf, rfl⟩
  · rw [if_neg c]
    simp only [bnd_e]
    by_cases c2 : va_up F 41 (upd (F 41) (nI sv).toNatClampNeg b) 30 (nI sv).toNatClampNeg = 1
    · rw [if_pos c2]; exact ⟨(Ag.up (by decide)).tr (Ag.up (by decide)), rfl⟩
    · rw [if_neg c2]
      by_cases c3 : va_up F 41 (upd (F 41) (nI sv).toNatClampNeg b) 7 (nI sv).toNatClampNeg = 5
      · rw [if_pos c3]; exact ⟨(Ag.up (by decide)).tr (Ag.up (by decide)), rfl⟩
      · rw [if_neg c3]; exact ⟨(Ag.up (by decide)).tr (Ag.up (by decide)), rfl⟩
theorem plan_73_P (n : Nat) (F : Nat → Nat → Int32) (V : Nat → Int32) (P : Int32 × (Nat → Nat → Int32) × (Nat → Int32) → Prop) : ∀ (fu i : Nat) (F1 : Nat → Nat → Int32) (K : Nat → (Nat → Nat → Int32) → (Nat → Int32) → Int32 × (Nat → Nat → Int32) × (Nat → Int32)), Ag lPl F F1 → (∀ i F2, Ag lPl F F2 → P (K i F2 V)) → P (f_w_plan_73 n fu i F1 V K)
  | 0, i, F1, K, hA, h => by rw [f_w_plan_73]; exact h _ _ hA
  | fu + 1, i, F1, K, hA, h => by
    have ih := fun (F2 : Nat → Nat → Int32) (h2 : Ag lPl F F2) => plan_73_P n F V P fu (i + 1) F2 K h2 h
    rw [f_w_plan_73]
    by_cases c : n ≤ i
    · rw [if_pos c]; exact h _ _ hA
    · rw [if_neg c, bnd_e]
      by_cases c1 : F1 30 (nI i).toNatClampNeg = 0
      · rw [if_pos c1]; exact ih _ hA
      · rw [if_neg c1, bnd_e]
        by_cases c2 : (0 : Int32) ≤ F1 40 (nI i).toNatClampNeg
        · rw [if_pos c2]; exact ih _ hA
        · rw [if_neg c2]
          obtain ⟨r1, r2⟩ := reckon_P n i F1 V
          generalize f_w_reckon n i F1 V = x at r1 r2 ⊢
          show P (f_w_plan_73 n fu (i + 1) x.1 x.2 K)
          rw [r2]
          exact ih _ (hA.tr r1)
theorem plan_61_P (n : Nat) (F : Nat → Nat → Int32) (V : Nat → Int32) (P : Int32 × (Nat → Nat → Int32) × (Nat → Int32) → Prop) : ∀ (fu i : Nat) (F1 : Nat → Nat → Int32) (K : Nat → (Nat → Nat → Int32) → (Nat → Int32) → Int32 × (Nat → Nat → Int32) × (Nat → Int32)), Ag lPl F F1 → (∀ i F2, Ag lPl F F2 → P (K i F2 V)) → P (f_w_plan_61 n fu i F1 V K)
  | 0, i, F1, K, hA, h => by rw [f_w_plan_61]; exact h _ _ hA
  | fu + 1, i, F1, K, hA, h => by
    rw [f_w_plan_61]
    by_cases c : n ≤ i
    · rw [if_pos c]; exact h _ _ hA
    · rw [if_neg c]
      exact plan_73_P n F V P _ _ _ _ hA (fun i2 F2 h2 => plan_61_P n F V P fu (i + 1) F2 K h2 h)
theorem plan_35_P (n : Nat) (F : Nat → Nat → Int32) (V : Nat → Int32) (P : Int32 × (Nat → Nat → Int32) × (Nat → Int32) → Prop) : ∀ (fu i : Nat) (F1 : Nat → Nat → Int32) (K : Nat → (Nat → Nat → Int32) → (Nat → Int32) → Int32 × (Nat → Nat → Int32) × (Nat → Int32)), Ag lPl F F1 → (∀ i F2, Ag lPl F F2 → P (K i F2 V)) → P (f_w_plan_35 n fu i F1 V K)
  | 0, i, F1, K, hA, h => by rw [f_w_plan_35]; exact h _ _ hA
  | fu + 1, i, F1, K, hA, h => by
    rw [f_w_plan_35]
    by_cases c : n ≤ i
    · rw [if_pos c]; exact h _ _ hA
    · rw [if_neg c, bnd_e]
      exact plan_35_P n F V P fu (i + 1) _ K (hA.tr (Ag.up (by decide))) h
theorem plan_158_P (n i27 : Nat) (F : Nat → Nat → Int32) (P : Int32 × (Nat → Nat → Int32) × (Nat → Int32) → Prop) : ∀ (fu i : Nat) (F1 : Nat → Nat → Int32) (K : Nat → (Nat → Nat → Int32) → Int32 × (Nat → Nat → Int32) × (Nat → Int32)), Ag lPl F F1 → (∀ i F2, Ag lPl F F2 → P (K i F2)) → P (f_w_plan_158 n i27 fu i F1 K)
  | 0, i, F1, K, hA, h => by rw [f_w_plan_158]; exact h _ _ hA
  | fu + 1, i, F1, K, hA, h => by
    rw [f_w_plan_158]
    by_cases c : i ≤ 0
    · rw [if_pos c]; exact h _ _ hA
    · rw [if_neg c, bnd_e, bnd_e]
      by_cases c2 : F1 36 (nI (i - 1)).toNatClampNeg ≤ F1 41 (nI i27).toNatClampNeg
      · rw [if_pos c2]; exact h _ _ hA
      · rw [if_neg c2]
        rw [bnd_e, bnd_e, bnd_e, bnd_e, bnd_e, bnd_e, bnd_e, bnd_e]
        exact plan_158_P n i27 F P fu (i - 1) _ K ((((hA.tr (Ag.up (by decide))).tr (Ag.up (by decide))).tr (Ag.up (by decide))).tr (Ag.up (by decide))) h
def AgV (V V2 : Nat → Int32) : Prop := ∀ j, j ≠ 38 → j ≠ 39 → V2 j = V j
theorem plan_133_P (n : Nat) (hn : n ≤ 40) (F : Nat → Nat → Int32) (V : Nat → Int32) (P : Int32 × (Nat → Nat → Int32) × (Nat → Int32) → Prop) : ∀ (fu i : Nat) (F1 : Nat → Nat → Int32) (V1 : Nat → Int32) (K : Nat → (Nat → Nat → Int32) → (Nat → Int32) → Int32 × (Nat → Nat → Int32) × (Nat → Int32)), i ≤ n → n < i + fu → Ag lPl F F1 → AgV V V1 → V1 38 = nI (cN (fun s => decide (¬ F 30 s = 0)) i) → (∀ F2 V2, Ag lPl F F2 → AgV V V2 → V2 38 = nI (cN (fun s => decide (¬ F 30 s = 0)) n) → P (K n F2 V2)) → P (f_w_plan_133 n fu i F1 V1 K)
  | 0, i, F1, V1, K, h1, h2, hA, hV, h38, h => by omega
  | fu + 1, i, F1, V1, K, h1, h2, hA, hV, h38, h => by
    have ih := fun (F2 : Nat → Nat → Int32) (V2 : Nat → Int32) (c : ¬ n ≤ i) => plan_133_P n hn F V P fu (i + 1) F2 V2 K (by omega) (by omega)
    rw [f_w_plan_133]
    by_cases c : n ≤ i
    · rw [if_pos c]
      have e : i = n := by omega
      subst e
      exact h _ _ hA hV h38
    · rw [if_neg c, bnd_e, nI_clamp (show i < 2 ^ 31 by omega)]
      have e30 : F1 30 = F 30 := hA 30 (by decide)
      by_cases c1 : F1 30 i = 0
      · rw [if_pos c1]
        refine ih _ _ c hA hV ?_ h
        rw [h38]
        rw [e30] at c1
        simp [cN, c1]
      · rw [if_neg c1, bnd_e]
        have hle := cN_le (fun s => decide (¬ F 30 s = 0)) i
        have e38 : (V1 38).toNatClampNeg = cN (fun s => decide (¬ F 30 s = 0)) i := by
          rw [h38, nI_clamp (by omega)]
        have ec : cN (fun s => decide (¬ F 30 s = 0)) (i + 1) = cN (fun s => decide (¬ F 30 s = 0)) i + 1 := by
          rw [e30] at c1
          simp [cN, c1]
        rw [e38]
        refine plan_158_P n i F P _ _ _ _ hA (fun i2 F2 hA2 => ?_)
        have hV2 : ∀ x : Int32, AgV V (va_up (va_up V1 38 (nI (cN (fun s => decide (¬ F 30 s = 0)) i + 1))) 39 x) := fun x j a b => by
          rw [va_up_ne _ _ b, va_up_ne _ _ a]; exact hV j a b
        have h382 : ∀ x : Int32, va_up (va_up V1 38 (nI (cN (fun s => decide (¬ F 30 s = 0)) i + 1))) 39 x 38 = nI (cN (fun s => decide (¬ F 30 s = 0)) (i + 1)) := fun x => by
          rw [va_up_ne _ _ (by decide), va_up_self, ec]
        rw [bnd_e]
        have hX1 : Ag lPl F (va_up F2 34 (upd (F2 34) (nI i2).toNatClampNeg (nI i))) := hA2.tr (Ag.up (by decide))
        generalize va_up F2 34 (upd (F2 34) (nI i2).toNatClampNeg (nI i)) = X1 at hX1 ⊢
        rw [bnd_e, bnd_e]
        have hX2 : Ag lPl F (va_up X1 35 (upd (X1 35) (nI i2).toNatClampNeg (X1 30 i))) := hX1.tr (Ag.up (by decide))
        generalize va_up X1 35 (upd (X1 35) (nI i2).toNatClampNeg (X1 30 i)) = X2 at hX2 ⊢
        rw [bnd_e, bnd_e]
        have hX3 : Ag lPl F (va_up X2 36 (upd (X2 36) (nI i2).toNatClampNeg (X2 41 i))) := hX2.tr (Ag.up (by decide))
        generalize va_up X2 36 (upd (X2 36) (nI i2).toNatClampNeg (X2 41 i)) = X3 at hX3 ⊢
        rw [bnd_e, bnd_e]
        have hAX : Ag lPl F (va_up X3 37 (upd (X3 37) (nI i2).toNatClampNeg (X3 40 i))) := hX3.tr (Ag.up (by decide))
        generalize va_up X3 37 (upd (X3 37) (nI i2).toNatClampNeg (X3 40 i)) = X at hAX ⊢
        rw [bnd_e, bnd_e, bnd_e, bnd_e]
        generalize X 40 i = v
        by_cases c3 : v ≤ va_up V1 38 (nI (cN (fun s => decide (¬ F 30 s = 0)) i + 1)) 39
        · rw [if_pos c3, bnd_e, bnd_e]
          exact ih _ _ c hAX (hV2 _) (h382 _) h
        · rw [if_neg c3, bnd_e]
          exact ih _ _ c hAX (hV2 _) (h382 _) h
theorem Rf.plan {n : Nat} {dl : Nat → Nat} {B : Nat} {L L2 : Nat → Int64} {I I2 : Nat → Int32} {M : Nat → Nat → Int64} {si : Nat → Nat → Int32} {sa : Nat → Nat → Nat → Int32} {F F2 : Nat → Nat → Int32} {V V2 : Nat → Int32} (h : Rf n dl B L I M si sa F V) (hA : Ag lPl F F2) (hL : ∀ j, j ≠ 8 → L2 j = L j) (hI : AgI I I2) (hV : AgV V V2) : Rf n dl B L2 I2 M si sa F2 V2 := by
  obtain ⟨⟨⟨hn, hRR, hRA, hRE, hRS, hRI, hRH, hRG, hRD, hRZ⟩, hJ, hB⟩, hRF, hRT⟩ := h
  have hl : lkB F2 = lkB F := by
    funext a b
    unfold lkB
    rw [HS_c (hA 19 (by decide)), hA 7 (by decide)]
  refine ⟨⟨⟨hn, hRR.c (hA 19 (by decide)), ?_, ?_, ?_, ?_, ?_, ?_, ?_, ?_⟩, ?_, ?_⟩, ?_, ?_⟩
  · unfold RA; rw [hA 0 (by decide), hA 1 (by decide), hA 2 (by decide), hA 3 (by decide), hA 4 (by decide), hA 5 (by decide), hA 6 (by decide)]; exact hRA
  · unfold RE; rw [hA 1 (by decide), hA 2 (by decide), hA 7 (by decide), hA 8 (by decide), hA 9 (by decide), hA 11 (by decide), hA 12 (by decide)]; exact hRE
  · unfold RS; rw [hL 0 (by decide), hA 7 (by decide)]; exact hRS
  · unfold RI
    rw [hI 3 (by decide) (by decide) (by decide), hI 0 (by decide) (by decide) (by decide), hI 1 (by decide) (by decide) (by decide), hI 2 (by decide) (by decide) (by decide), hI 7 (by decide) (by decide) (by decide), hI 12 (by decide) (by decide) (by decide), hI 4 (by decide) (by decide) (by decide), hV 22 (by decide) (by decide), hV 23 (by decide) (by decide), hV 24 (by decide) (by decide), hV 20 (by decide) (by decide), hV 33 (by decide) (by decide), hV 45 (by decide) (by decide), hA 9 (by decide)]
    exact hRI
  · unfold RH; rw [hA 42 (by decide), hA 43 (by decide), hA 44 (by decide)]; exact hRH
  · unfold RG; rw [hl, hA 7 (by decide), hI 4 (by decide) (by decide) (by decide), hI 12 (by decide) (by decide) (by decide)]; exact hRG
  · unfold RD; rw [hL 1 (by decide), hA 15 (by decide), hA 16 (by decide), hA 17 (by decide), hA 18 (by decide)]; exact hRD
  · intro s a b
    rw [hA 5 (by decide), hA 7 (by decide), hA 9 (by decide), hA 10 (by decide), hA 11 (by decide), hA 14 (by decide), hA 15 (by decide), hA 18 (by decide), hA 25 (by decide), hA 3 (by decide)]
    exact hRZ s a b
  · have he : ∀ s, ejb F2 s = ejb F s := fun s => ejb_c (by rw [hA 25 (by decide)]) (by rw [hA 26 (by decide)]) (by rw [hA 7 (by decide)])
    unfold RJ
    rw [hL 5 (by decide), hL 6 (by decide), hL 7 (by decide), hA 25 (by decide), hA 26 (by decide)]
    simp only [he]
    exact hJ
  · unfold RB
    rw [hL 5 (by decide), hL 6 (by decide), hL 7 (by decide)]
    exact hB
  · intro s hs
    rw [hA 10 (by decide)]
    exact hRF s hs
  · exact hRT.keep (fun s _ => ⟨rfl, rfl, rfl⟩) (hA 13 (by decide)) (hA 14 (by decide)) (hV 22 (by decide) (by decide))
theorem J0.plan {n : Nat} {F F2 : Nat → Nat → Int32} (h : J0 n F) (hA : Ag lPl F F2) : J0 n F2 := fun s hs => by
  rw [ejb_c (F := F) (by rw [hA 25 (by decide)]) (by rw [hA 26 (by decide)]) (by rw [hA 7 (by decide)])]
  exact h s hs
def mPl (n : Nat) (F8 : Nat → Nat → Int32) (V9 : Nat → Int32) : Int32 × (Nat → Nat → Int32) × (Nat → Int32) := f_w_plan_35 n (n + 1) (0 : Nat) F8 V9 (fun (i11 : Nat) (F15 : Nat → Nat → Int32) (V16 : Nat → Int32) => f_w_plan_61 n (n + 1) (0 : Nat) F15 V16 (fun (i18 : Nat) (F22 : Nat → Nat → Int32) (V23 : Nat → Int32) => bnd (va_up V23 38 (0 : Int32)) (fun (V25 : Nat → Int32) => bnd (va_up V25 39 (0 : Int32)) (fun (V26 : Nat → Int32) => f_w_plan_133 n (n + 1) (0 : Nat) F22 V26 (fun (i27 : Nat) (F31 : Nat → Nat → Int32) (V32 : Nat → Int32) => bnd ((V32 38).toNatClampNeg) (fun (pl34 : Nat) => ((nI pl34), F31, V32)))))))
theorem mPl_P (n : Nat) (hn : n ≤ 40) (F : Nat → Nat → Int32) (V : Nat → Int32) : (mPl n F V).1 = nI (cN (fun s => decide (¬ F 30 s = 0)) n) ∧ Ag lPl F (mPl n F V).2.1 ∧ AgV V (mPl n F V).2.2 := by
  unfold mPl
  refine plan_35_P n F V (fun x => x.1 = nI (cN (fun s => decide (¬ F 30 s = 0)) n) ∧ Ag lPl F x.2.1 ∧ AgV V x.2.2) _ _ _ _ Ag.rf (fun i F2 h2 => ?_)
  refine plan_61_P n F V (fun x => x.1 = nI (cN (fun s => decide (¬ F 30 s = 0)) n) ∧ Ag lPl F x.2.1 ∧ AgV V x.2.2) _ _ _ _ h2 (fun i F3 h3 => ?_)
  rw [bnd_e, bnd_e]
  refine plan_133_P n hn F V (fun x => x.1 = nI (cN (fun s => decide (¬ F 30 s = 0)) n) ∧ Ag lPl F x.2.1 ∧ AgV V x.2.2) _ _ _ _ _ (by omega) (by omega) h3 ?_ ?_ (fun F4 V4 h4 v4 e4 => ?_)
  · intro j a b
    rw [va_up_ne _ _ b, va_up_ne _ _ a]
  · rw [va_up_ne _ _ (by decide), va_up_self]; rfl
  · have hle := cN_le (fun s => decide (¬ F 30 s = 0)) n
    refine ⟨?_, h4, v4⟩
    show nI (V4 38).toNatClampNeg = _
    rw [e4, nI_clamp (by omega)]
theorem fw_plan_eq (n : Nat) (p0 p1 : Int32) (F : Nat → Nat → Int32) (V : Nat → Int32) : f_w_plan n p0 p1 F V = if (mDr n p0 p1 F V).1 = 0 then mPl n (mDr n p0 p1 F V).2.1 (mDr n p0 p1 F V).2.2 else mDr n p0 p1 F V := by
  unfold f_w_plan mDr
  by_cases a0 : p0 < 0
  · rw [if_pos a0, if_pos a0, if_neg (show ¬ (-1 : Int32) = 0 by decide)]
  · rw [if_neg a0, if_neg a0]
    by_cases a2 : (2 : Int32) < p0
    · rw [if_pos a2, if_pos a2, if_neg (show ¬ (-1 : Int32) = 0 by decide)]
    · rw [if_neg a2, if_neg a2]
      by_cases c1 : (0 : Int32) ≤ p1 ∧ p1 < nI n
      · rw [if_pos c1, if_pos c1, bnd_e]
        generalize f_w_look n p0 p1.toNatClampNeg F V = A
        unfold mPl
        simp only [bn3]
      · rw [if_neg c1, if_neg c1, if_neg (show ¬ (-1 : Int32) = 0 by decide)]
theorem plan_R (n : Nat) (dl : Nat → Nat) (B : Nat) {L : Nat → Int64} {I : Nat → Int32} {M : Nat → Nat → Int64} {J : Nat → Nat → Int32} {si : Nat → Nat → Int32} {sa : Nat → Nat → Nat → Int32} {F : Nat → Nat → Int32} {V : Nat → Int32} (p0 p1 : Int32) (h : Rf n dl B L I M si sa F V) (hj : J0 n F) : (f_y_plan n dl p0 p1 L I M J si).1 = (f_w_plan n p0 p1 F V).1 ∧ Rf n dl B (f_y_plan n dl p0 p1 L I M J si).2.1 (f_y_plan n dl p0 p1 L I M J si).2.2.1 M si sa (f_w_plan n p0 p1 F V).2.1 (f_w_plan n p0 p1 F V).2.2 ∧ J0 n (f_w_plan n p0 p1 F V).2.1 := by
  have eY : f_y_plan n dl p0 p1 L I M J si = if (f_y_draftOrder n dl p0 p1 L I M).1 < (0 : Int32) then ((f_y_draftOrder n dl p0 p1 L I M).1, (f_y_draftOrder n dl p0 p1 L I M).2.1, f_y_keepRing n dl (f_y_draftOrder n dl p0 p1 L I M).1 (f_y_draftOrder n dl p0 p1 L I M).2.2, J) else ((f_y_draftOrder n dl p0 p1 L I M).1, f_y_layOutDraft n dl (f_y_draftOrder n dl p0 p1 L I M).2.1 (f_y_keepRing n dl (f_y_draftOrder n dl p0 p1 L I M).1 (f_y_draftOrder n dl p0 p1 L I M).2.2) M J si) := by
    unfold f_y_plan
    generalize f_y_draftOrder n dl p0 p1 L I M = A
    have tl : ∀ E : (Nat → Int64) × (Nat → Int32) × (Nat → Nat → Int32), bn3 E (fun (L8 : Nat → Int64) (I9 : Nat → Int32) (J10 : Nat → Nat → Int32) => (A.1, L8, I9, J10)) = (A.1, E) := fun E => rfl
    simp only [bn3, bnd_e]
  have eK : ∀ (r : Int32) (J : Nat → Int32), f_y_keepRing n dl r J = if r = (-5 : Int32) then va_up J 3 (J 8) else J := fun _ _ => rfl
  rw [eY, fw_plan_eq]
  have hn : n ≤ 40 := h.1.1.1.1
  have i3 : I 3 = V 33 := h.1.1.2.2.2.2.2.1.2.1.2.2
  rcases draft_R n dl B p0 p1 h hj with ⟨r, hr, e1, e2⟩ | ⟨⟨hc, hA, hL, hI⟩, hno⟩
  · rw [e1, e2]
    have hneg : r < 0 := by rcases hr with q | q <;> subst q <;> decide
    have hn0 : ¬ r = 0 := by rcases hr with q | q <;> subst q <;> decide
    have hn5 : ¬ r = -5 := by rcases hr with q | q <;> subst q <;> decide
    rw [if_pos hneg, if_neg hn0, eK, if_neg hn5]
    exact ⟨rfl, h, hj⟩
  · generalize f_y_draftOrder n dl p0 p1 L I M = A at hc hA hL hI ⊢
    generalize mDr n p0 p1 F V = D at hc hA hL hI ⊢
    rcases hc with ⟨c1, c2, c3⟩ | ⟨c1, c2, c3⟩ | ⟨c1, c2, c3, c4⟩
    · rw [if_pos (by rw [c1]; decide), if_neg (by rw [c2]; decide), eK, if_neg (by rw [c1]; decide)]
      have h2 : Rf n dl B A.2.1 A.2.2 M si sa D.2.1 D.2.2 := h.draft hA hL (fun j a _ => hI j a) (fun j _ => by rw [c3]) (by rw [hI 3 (by decide), c3]; exact i3)
      exact ⟨by rw [c1, c2], h2, hj.draft hA⟩
    · rw [if_pos (by rw [c1]; decide), if_neg (by rw [c2]; decide), eK, if_pos c1]
      have h2 : Rf n dl B A.2.1 (va_up A.2.2 3 (A.2.2 8)) M si sa D.2.1 D.2.2 := h.draft hA hL (fun j a b => by rw [va_up_ne _ _ b]; exact hI j a) (fun j a => by rw [c3, va_up_ne _ _ a]) (by rw [c3, va_up_self, va_up_self])
      exact ⟨by rw [c1, c2], h2, hj.draft hA⟩
    · have hle := cN_le (fun s => decide (¬ D.2.1 30 s = 0)) n
      have hnn : ¬ A.1 < 0 := by rw [c3]; exact nI_pos (by omega)
      have hn5 : ¬ A.1 = -5 := fun q => hnn (by rw [q]; decide)
      rw [if_neg hnn, if_pos c1, eK, if_neg hn5]
      have h2 : Rf n dl B A.2.1 A.2.2 M si sa D.2.1 D.2.2 := h.draft hA hL (fun j a _ => hI j a) (fun j _ => by rw [c2]) (by rw [hI 3 (by decide), c2]; exact i3)
      obtain ⟨w1, w2, w3⟩ := mPl_P n hn D.2.1 D.2.2
      obtain ⟨l1, l2⟩ := layOut_P n dl A.2.1 A.2.2 M J si
      generalize mPl n D.2.1 D.2.2 = E at w1 w2 w3 ⊢
      generalize f_y_layOutDraft n dl A.2.1 A.2.2 M J si = G at l1 l2 ⊢
      refine ⟨by rw [c3, w1], h2.plan w2 (fun j a => ?_) l2 w3, (hj.draft hA).plan w2⟩
      show G.1 j = A.2.1 j
      rw [l1, va_up_ne _ _ a]

end
section
theorem HZ.set {n : Nat} {F : Nat → Nat → Int32} (h : HZ n F) {o a b : Nat} (v : Int32) (ho : o < 4) (ha : a < n) (hb : b < n) (hn : n ≤ 40) : HZ n (va_up F 19 (upd (F 19) (ix o a b) v)) := by
  intro o2 a2 b2 q1 q2 q3 q4
  rw [va_up_self]
  have e := h o2 a2 b2 q1 q2 q3 q4
  unfold upd
  rw [if_neg]
  · exact e
  · intro w
    unfold ix at w
    omega
theorem HZ.setf {n : Nat} {F : Nat → Nat → Int32} (h : HZ n F) {o a b : Nat} (v : Int32) (ho : o < 4) (ha : a < n) (hb : b < n) (hn : n ≤ 40) : HZ n (if o = 3 then va_up (va_up F 19 (upd (F 19) (ix o a b) v)) 19 (upd (va_up F 19 (upd (F 19) (ix o a b) v) 19) (ix o b a) v) else va_up F 19 (upd (F 19) (ix o a b) v)) := by
  by_cases c : o = 3
  · rw [if_pos c]; exact (h.set v ho ha hb hn).set v ho hb ha hn
  · rw [if_neg c]; exact h.set v ho ha hb hn
theorem relation_HZ (n : Nat) {F : Nat → Nat → Int32} {V : Nat → Int32} (p0 p1 p2 : Int32) (hn : n ≤ 40) (h : HZ n F) : HZ n (f_w_relation n p0 p1 p2 F V).2.1 := by
  rw [fw_relation_eq]
  by_cases c : ((0 : Int32) ≤ p0 ∧ p0 ≤ (3 : Int32)) ∧ ((0 : Int32) ≤ p1 ∧ p1 < nI n) ∧ ((0 : Int32) ≤ p2 ∧ p2 < nI n) ∧ ¬ p1 = p2
  · rw [if_pos c]
    obtain ⟨o, ho, eo⟩ := i32_ix (m := 3) (by omega) c.1
    obtain ⟨a, ha, ea⟩ := ixn hn c.2.1
    obtain ⟨b, hb, eb⟩ := ixn hn c.2.2.1
    subst eo; subst ea; subst eb
    rw [nI_clamp (show o < 2 ^ 31 by omega), nI_clamp (show a < 2 ^ 31 by omega), nI_clamp (show b < 2 ^ 31 by omega)]
    have hs := h.setf 1 (show o < 4 by omega) ha hb hn
    have hT : HZ n (mrT n o a b F V).2.1 := by
      unfold mrT
      rw [set1_eq n F V (show o < 4 by omega) (show a < 40 by omega) (show b < 40 by omega)]
      by_cases c1 : f_w_has n o a b F = 0
      · rw [if_pos c1]
        by_cases c2 : V 20 = 400
        · rw [if_pos c2]; exact h
        · rw [if_neg c2]; exact hs
      · rw [if_neg c1]; exact h
    have hG : HZ n (mrG n o a b F V).2.1 := by
      unfold mrG
      repeat' split
      all_goals first | exact h | exact hT
    by_cases c1 : f_w_jobs n F ≤ 0
    · rw [if_pos c1]
      by_cases c2 : o = 0
      · rw [if_pos c2]; exact hG
      · rw [if_neg c2]
        by_cases c3 : o = 3
        · rw [if_pos c3]; exact hG
        · rw [if_neg c3]; exact hT
    · rw [if_neg c1]; exact h
  · rw [if_neg c]; exact h
theorem undo_HZ (n : Nat) {F : Nat → Nat → Int32} {V : Nat → Int32} (p0 p1 p2 : Int32) (hn : n ≤ 40) (h : HZ n F) : HZ n (f_w_undo n p0 p1 p2 F V).2.1 := by
  rw [fw_undo_eq]
  by_cases c : ((0 : Int32) ≤ p0 ∧ p0 ≤ (3 : Int32)) ∧ ((0 : Int32) ≤ p1 ∧ p1 < nI n) ∧ ((0 : Int32) ≤ p2 ∧ p2 < nI n) ∧ ¬ p1 = p2
  · rw [if_pos c]
    obtain ⟨o, ho, eo⟩ := i32_ix (m := 3) (by omega) c.1
    obtain ⟨a, ha, ea⟩ := ixn hn c.2.1
    obtain ⟨b, hb, eb⟩ := ixn hn c.2.2.1
    subst eo; subst ea; subst eb
    rw [nI_clamp (show o < 2 ^ 31 by omega), nI_clamp (show a < 2 ^ 31 by omega), nI_clamp (show b < 2 ^ 31 by omega)]
    rw [set0_eq n F V (show o < 4 by omega) (by omega) (by omega)]
    have hs := h.setf 0 (show o < 4 by omega) ha hb hn
    by_cases c1 : f_w_jobs n F ≤ 0
    · rw [if_pos c1]
      by_cases c2 : f_w_has n o a b F = 0
      · rw [if_pos c2]; exact h
      · rw [if_neg c2]; exact hs
    · rw [if_neg c1]; exact h
  · rw [if_neg c]; exact h

end
section
def REx (n : Nat) (dl : Nat → Nat) (j : Nat) (L : Nat → Int64) (I : Nat → Int32) (M : Nat → Nat → Int64) (si : Nat → Nat → Int32) (sa : Nat → Nat → Nat → Int32) (F : Nat → Nat → Int32) (V : Nat → Int32) : Prop := Rf n dl (121000 * j) L I M si sa F V ∧ J0 n F ∧ HZ n F
theorem REx.step {n : Nat} {dl : Nat → Nat} {j : Nat} {L : Nat → Int64} {I : Nat → Int32} {M : Nat → Nat → Int64} {si : Nat → Nat → Int32} {sa : Nat → Nat → Nat → Int32} {F : Nat → Nat → Int32} {V : Nat → Int32} (h : REx n dl j L I M si sa F V) (hj : j ≤ 512) : REx n dl (j + 1) L I M si sa F V := ⟨h.1.mono (by omega) (by omega), h.2⟩
theorem st_life {n : Nat} {dl : Nat → Nat} {j : Nat} {L : Nat → Int64} {I : Nat → Int32} {M : Nat → Nat → Int64} {si : Nat → Nat → Int32} {sa : Nat → Nat → Nat → Int32} {F : Nat → Nat → Int32} {V : Nat → Int32} {sa1 : Nat → Nat → Nat → Int32} {F1 : Nat → Nat → Int32} {V1 : Nat → Int32} {r0 r1 p0 p1 p2 : Int32} (h : REx n dl j L I M si sa F V) (hj : j ≤ 512) (e0 : (r0, sa1) = f_y_life n dl p0 p1 p2 si sa) (e1 : (r1, F1, V1) = f_w_life n p0 p1 p2 F V) (hF : F1 19 = F 19) : r0 = r1 ∧ REx n dl (j + 1) L I M si sa1 F1 V1 := by
  have k := life_R n dl (121000 * j) p0 p1 p2 h.1 h.2.1
  have z : HZ n F1 := h.2.2.c hF
  rw [← e0, ← e1] at k
  exact ⟨k.1, k.2.1.mono (by omega) (by omega), k.2.2, z⟩
theorem st_again {n : Nat} {dl : Nat → Nat} {j : Nat} {L : Nat → Int64} {I : Nat → Int32} {M : Nat → Nat → Int64} {si : Nat → Nat → Int32} {sa : Nat → Nat → Nat → Int32} {F : Nat → Nat → Int32} {V : Nat → Int32} {si1 : Nat → Nat → Int32} {F1 : Nat → Nat → Int32} {V1 : Nat → Int32} {r0 r1 p0 p1 p2 p3 : Int32} (h : REx n dl j L I M si sa F V) (hj : j ≤ 512) (e0 : (r0, si1) = f_y_again n dl p0 p1 p2 p3 si) (e1 : (r1, F1, V1) = f_w_again n p0 p1 p2 p3 F V) (hF : F1 19 = F 19) : r0 = r1 ∧ REx n dl (j + 1) L I M si1 sa F1 V1 := by
  have k := again_R n dl (121000 * j) p0 p1 p2 p3 h.1 h.2.1
  have z : HZ n F1 := h.2.2.c hF
  rw [← e0, ← e1] at k
  exact ⟨k.1, k.2.1.mono (by omega) (by omega), k.2.2, z⟩
theorem st_relation {n : Nat} {dl : Nat → Nat} {j : Nat} {L : Nat → Int64} {I : Nat → Int32} {M : Nat → Nat → Int64} {si : Nat → Nat → Int32} {sa : Nat → Nat → Nat → Int32} {F : Nat → Nat → Int32} {V : Nat → Int32} {I1 : Nat → Int32} {M1 : Nat → Nat → Int64} {F1 : Nat → Nat → Int32} {V1 : Nat → Int32} {r0 r1 p0 p1 p2 : Int32} (h : REx n dl j L I M si sa F V) (hj : j ≤ 512) (e0 : (r0, I1, M1) = f_y_relation n dl p0 p1 p2 L I M) (e1 : (r1, F1, V1) = f_w_relation n p0 p1 p2 F V) : r0 = r1 ∧ REx n dl (j + 1) L I1 M1 si sa F1 V1 := by
  have k := relation_R n dl (121000 * j) p0 p1 p2 (by omega) h.1 h.2.1
  unfold ansR at k
  have z : HZ n F1 := by
    have z0 := relation_HZ n (V := V) p0 p1 p2 h.1.1.1.1.1 h.2.2
    rw [← e1] at z0
    exact z0
  rw [← e0, ← e1] at k
  exact ⟨k.1, k.2.1.mono (by omega) (by omega), k.2.2, z⟩
theorem st_undo {n : Nat} {dl : Nat → Nat} {j : Nat} {L : Nat → Int64} {I : Nat → Int32} {M : Nat → Nat → Int64} {si : Nat → Nat → Int32} {sa : Nat → Nat → Nat → Int32} {F : Nat → Nat → Int32} {V : Nat → Int32} {I1 : Nat → Int32} {M1 : Nat → Nat → Int64} {F1 : Nat → Nat → Int32} {V1 : Nat → Int32} {r0 r1 p0 p1 p2 : Int32} (h : REx n dl j L I M si sa F V) (hj : j ≤ 512) (e0 : (r0, I1, M1) = f_y_undo n dl p0 p1 p2 L I M) (e1 : (r1, F1, V1) = f_w_undo n p0 p1 p2 F V) : r0 = r1 ∧ REx n dl (j + 1) L I1 M1 si sa F1 V1 := by
  have k := undo_R n dl (121000 * j) p0 p1 p2 (by omega) h.1 h.2.1
  unfold ansR at k
  have z : HZ n F1 := by
    have z0 := undo_HZ n (V := V) p0 p1 p2 h.1.1.1.1.1 h.2.2
    rw [← e1] at z0
    exact z0
  rw [← e0, ← e1] at k
  exact ⟨k.1, k.2.1.mono (by omega) (by omega), k.2.2, z⟩
theorem st_order {n : Nat} {dl : Nat → Nat} {j : Nat} {L : Nat → Int64} {I : Nat → Int32} {M : Nat → Nat → Int64} {si : Nat → Nat → Int32} {sa : Nat → Nat → Nat → Int32} {F : Nat → Nat → Int32} {V : Nat → Int32} {L1 : Nat → Int64} {I1 : Nat → Int32} {M1 : Nat → Nat → Int64} {si1 : Nat → Nat → Int32} {sa1 : Nat → Nat → Nat → Int32} {F1 : Nat → Nat → Int32} {V1 : Nat → Int32} {r0 r1 p0 p1 : Int32} (h : REx n dl j L I M si sa F V) (hj : j ≤ 512) (e0 : (r0, L1, I1, M1, si1, sa1) = f_y_order n dl p0 p1 L I M si sa) (e1 : (r1, F1, V1) = f_w_order n p0 p1 F V) (hF : F1 19 = F 19) : r0 = r1 ∧ REx n dl (j + 1) L1 I1 M1 si1 sa1 F1 V1 := by
  have k := order_R n dl (121000 * j) p0 p1 (by omega) h.1 h.2.1
  have z : HZ n F1 := h.2.2.c hF
  rw [← e0, ← e1] at k
  exact ⟨k.1, k.2.1.mono (by omega) (by omega), k.2.2, z⟩
theorem st_tick {n : Nat} {dl : Nat → Nat} {j : Nat} {L : Nat → Int64} {I : Nat → Int32} {M : Nat → Nat → Int64} {si : Nat → Nat → Int32} {sa : Nat → Nat → Nat → Int32} {F : Nat → Nat → Int32} {V : Nat → Int32} {L1 : Nat → Int64} {I1 : Nat → Int32} {M1 : Nat → Nat → Int64} {si1 : Nat → Nat → Int32} {sa1 : Nat → Nat → Nat → Int32} {F1 : Nat → Nat → Int32} {V1 : Nat → Int32} {r0 r1 p0 : Int32} (h : REx n dl j L I M si sa F V) (hj : j ≤ 512) (e0 : (r0, L1, I1, M1, si1, sa1) = f_y_tick n dl p0 L I M si sa) (e1 : (r1, F1, V1) = f_w_tick n p0 F V) (hF : F1 19 = F 19) : REx n dl (j + 1) L1 I1 M1 si1 sa1 F1 V1 := by
  have k := tick_R n dl (121000 * j) p0 (by omega) h.1 h.2.1
  have z : HZ n F1 := h.2.2.c hF
  rw [← e0, ← e1] at k
  exact ⟨k.1.mono (by omega) (by omega), k.2, z⟩
theorem st_letter {n : Nat} {dl : Nat → Nat} {j : Nat} {L : Nat → Int64} {I : Nat → Int32} {M : Nat → Nat → Int64} {si : Nat → Nat → Int32} {sa : Nat → Nat → Nat → Int32} {F : Nat → Nat → Int32} {V : Nat → Int32} {L1 : Nat → Int64} {I1 : Nat → Int32} {M1 : Nat → Nat → Int64} {si1 : Nat → Nat → Int32} {sa1 : Nat → Nat → Nat → Int32} {F1 : Nat → Nat → Int32} {V1 : Nat → Int32} {r0 r1 p0 : Int32} (h : REx n dl j L I M si sa F V) (hj : j ≤ 512) (e0 : (r0, L1, I1, M1, si1, sa1) = f_y_letter n dl p0 L I M si sa) (e1 : (r1, F1, V1) = f_w_letter n p0 F V) (hF : F1 19 = F 19) : r0 = r1 ∧ REx n dl (j + 1) L1 I1 M1 si1 sa1 F1 V1 := by
  have k := letter_R n dl (121000 * j) p0 (by omega) h.1 h.2.1
  have z : HZ n F1 := h.2.2.c hF
  rw [← e0, ← e1] at k
  exact ⟨k.1, k.2.1.mono (by omega) (by omega), k.2.2, z⟩
theorem st_plan {n : Nat} {dl : Nat → Nat} {j : Nat} {L : Nat → Int64} {I : Nat → Int32} {M : Nat → Nat → Int64} {si : Nat → Nat → Int32} {sa : Nat → Nat → Nat → Int32} {F : Nat → Nat → Int32} {V : Nat → Int32} {J : Nat → Nat → Int32} {L1 : Nat → Int64} {I1 : Nat → Int32} {J1 : Nat → Nat → Int32} {F1 : Nat → Nat → Int32} {V1 : Nat → Int32} {r0 r1 p0 p1 : Int32} (h : REx n dl j L I M si sa F V) (hj : j ≤ 512) (e0 : (r0, L1, I1, J1) = f_y_plan n dl p0 p1 L I M J si) (e1 : (r1, F1, V1) = f_w_plan n p0 p1 F V) (hF : F1 19 = F 19) : r0 = r1 ∧ REx n dl (j + 1) L1 I1 M si sa F1 V1 := by
  have k := plan_R n dl (121000 * j) p0 p1 (J := J) h.1 h.2.1
  have z : HZ n F1 := h.2.2.c hF
  rw [← e0, ← e1] at k
  exact ⟨k.1, k.2.1.mono (by omega) (by omega), k.2.2, z⟩
theorem st_check {n : Nat} {dl : Nat → Nat} {j : Nat} {L : Nat → Int64} {I : Nat → Int32} {M : Nat → Nat → Int64} {si : Nat → Nat → Int32} {sa : Nat → Nat → Nat → Int32} {F : Nat → Nat → Int32} {V : Nat → Int32} {r0 r1  : Int32} (h : REx n dl j L I M si sa F V) (e0 : r0 = f_y_check n dl  M) (e1 : r1 = f_w_check n  F) : r0 = r1 := by
  rw [e0, e1]
  exact check_R n dl h.1
theorem st_make {n : Nat} {dl : Nat → Nat} {j : Nat} {L : Nat → Int64} {I : Nat → Int32} {M : Nat → Nat → Int64} {si : Nat → Nat → Int32} {sa : Nat → Nat → Nat → Int32} {F : Nat → Nat → Int32} {V : Nat → Int32} {dl1 : Nat → Nat} {I1 : Nat → Int32} {M1 : Nat → Nat → Int64} {si1 : Nat → Nat → Int32} {sa1 : Nat → Nat → Nat → Int32} {F1 : Nat → Nat → Int32} {V1 : Nat → Int32} {r1 p0 p1 p2 x y : Int32} (h : REx n dl j L I M si sa F V) (hj : j ≤ 512) (hn : n < 40) (hp : mkOk p0 p1 p2) (e1 : (r1, F1, V1) = f_w_make n p0 p1 p2 F V) (eI : I1 = va_up (va_up I 5 x) 6 y) (eM : M1 = va_up M 9 (vp_updL (M 9) 0 (M 9 0 ||| oL n))) (es : si1 = xsi si n p0 p1 p2 (I 0)) (ea : sa1 = xsa sa n) (ed : dl1 = xdl dl n (if p0 = 2 then 20 else 0)) : REx (n + 1) dl1 (j + 1) L I1 M1 si1 sa1 F1 V1 := by
  obtain ⟨F2, e2, hA, f0, f1, f2, f4, f6, f16⟩ := fw_make n p0 p1 p2 F V hn hp
  rw [e2] at e1
  simp only [Prod.mk.injEq] at e1
  obtain ⟨_, e3, e4⟩ := e1
  subst e3
  obtain ⟨k1, k2, k3⟩ := make_R n dl (121000 * j) p0 p1 p2 (I2 := I1) (M2 := M1) (V2 := V1) h.1 h.2.1 h.2.2 hn hp (fun q a b => by rw [eI, va_up_ne _ _ b, va_up_ne _ _ a]) (fun q a => by rw [eM, va_up_ne _ _ a]) (fun t => by rw [eM, va_up_self]; rfl) (fun q a => by rw [e4, va_up_ne _ _ a]) hA f0 f1 f2 f4 f6 f16
  rw [es, ea, ed]
  exact ⟨k1.mono (by omega) (by omega), k2, k3⟩
theorem REx_0 (V : Nat → Int32) (hV : ∀ q, q ≠ 39 → V q = 0) : REx 0 (fun _ => 0) 0 (fun _ => 0) (fun _ => 0) (fun _ _ => 0) (fun _ _ => 0) (fun _ _ _ => 0) (fun _ _ => 0) V := by
  have no : ∀ s : Nat, ¬ s < 0 := fun s => Nat.not_lt_zero s
  have b0 : ∀ s : Nat, ¬ bL 0 s = true := fun s q => by rw [bL_0] at q; cases q
  refine ⟨⟨⟨⟨⟨by omega, by omega⟩, ?_, fun s hs => absurd hs (no s), fun s hs => absurd hs (no s), ⟨fun t _ s => ⟨fun q => absurd q (b0 s), fun q => absurd q.1 (no s)⟩, fun s => ⟨fun q => absurd q (b0 s), fun q => absurd q.1 (no s)⟩⟩, ?_, ?_, fun _ s hs => absurd hs (no s), ⟨fun s hs => absurd hs (no s), fun s => ⟨fun q => absurd q (b0 s), fun q => absurd q.1 (no s)⟩⟩, fun s _ _ => ⟨⟨rfl, rfl, rfl, rfl, rfl, rfl, rfl, rfl, rfl⟩, fun _ _ => rfl⟩⟩, ⟨fun s => ⟨fun q => absurd q (b0 s), fun q => absurd q.1 (no s)⟩, fun s => ⟨fun q => absurd q (b0 s), fun q => absurd q.1 (no s)⟩, fun s => ⟨fun q => absurd q (b0 s), fun q => absurd q.1 (no s)⟩, fun s hs => absurd hs (no s)⟩, fun s hs => absurd hs (b0 s)⟩, fun s hs => absurd hs (no s), fun s hs => absurd hs (no s)⟩, fun s hs => absurd hs (no s), fun _ _ _ _ _ _ _ => rfl⟩
  · exact ⟨fun _ a b _ => ⟨fun q => absurd q (b0 b), fun q => absurd q.1 (no a)⟩, fun _ a b _ => ⟨fun q => absurd q (b0 a), fun q => absurd q (b0 b)⟩, fun a b q => absurd q (b0 b), fun _ a _ => bL_0 a, fun _ => Or.inl rfl⟩
  · refine ⟨⟨?_, 0, by omega, ?_⟩, ⟨?_, ?_, ?_⟩, ⟨?_, 0, 0, by omega, by omega, ?_⟩, 0, by omega, rfl, ?_, ⟨0, by omega, rfl⟩, fun s hs => absurd hs (no s)⟩
    all_goals first | exact (hV _ (by decide)).symm | exact hV _ (by decide)
  · intro q _
    exact ⟨0, 0, 0, by omega, by omega, by omega, rfl, rfl, rfl, rfl⟩

end
