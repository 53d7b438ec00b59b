theorem xd_iff {A : Nat → Prop} {ws : va_W} : va_D A ws ↔ (ws.map (fun q => q.1)).Nodup ∧ ∀ q ∈ ws, A q.1 := by
  constructor
  · intro h
    refine ⟨List.pairwise_iff_getElem.mpr (fun i j hi hj hij e => ?_), fun q hq => ?_⟩
    · rw [List.getElem_map, List.getElem_map] at e
      have hi1 : i < ws.length := by rw [List.length_map] at hi; exact hi
      have hj1 : j < ws.length := by rw [List.length_map] at hj; exact hj
      have := h.1 i j _ _ (List.getElem?_eq_getElem hi1) (List.getElem?_eq_getElem hj1) e
      omega
    · obtain ⟨k, hk⟩ := List.getElem?_of_mem hq
      exact h.2 k q hk
  · intro h
    refine ⟨fun i j p q hi hj e => ?_, fun k q hk => h.2 q (List.mem_of_getElem? hk)⟩
    obtain ⟨hi1, hi2⟩ := List.getElem?_eq_some_iff.mp hi
    obtain ⟨hj1, hj2⟩ := List.getElem?_eq_some_iff.mp hj
    have hp := List.pairwise_iff_getElem.mp h.1
    rcases Nat.lt_trichotomy i j with c | c | c
    · have h9 := hp i j (by rw [List.length_map]; exact hi1) (by rw [List.length_map]; exact hj1) c
      rw [List.getElem_map, List.getElem_map, hi2, hj2] at h9
      exact absurd e h9
    · exact c
    · have h9 := hp j i (by rw [List.length_map]; exact hj1) (by rw [List.length_map]; exact hi1) c
      rw [List.getElem_map, List.getElem_map, hi2, hj2] at h9
      exact absurd e.symm h9
theorem xq_perm {D : va_G} {cl : List vw_C} {ws ws2 : va_W} {H : Heap} (p : ws.Perm ws2) (h : va_P D cl ws H) : va_P D cl ws2 H := fun k q hk => by
  obtain ⟨j, hj⟩ := List.getElem?_of_mem (p.mem_iff.mpr (List.mem_of_getElem? hk))
  exact h j q hj
theorem xd_perm {A : Nat → Prop} {ws ws2 : va_W} (p : ws.Perm ws2) (h : va_D A ws) : va_D A ws2 := by
  rw [xd_iff] at h ⊢
  exact ⟨(p.map _).nodup_iff.mp h.1, fun q hq => h.2 q (p.mem_iff.mpr hq)⟩
theorem xq_at {X C : va_W} {k : Nat} {q : Nat × va_E} (hk : C[k]? = some q) : (X ++ C)[X.length + k]? = some q := by
  rw [List.getElem?_append_right (Nat.le_add_right _ _), Nat.add_sub_cancel_left]; exact hk
theorem xq_al {X C : va_W} {k : Nat} {q : Nat × va_E} (hk : X[k]? = some q) : (X ++ C)[k]? = some q := by
  rw [List.getElem?_append_left (List.getElem?_eq_some_iff.mp hk).1]; exact hk
theorem xq_right {D : va_G} {cl : List vw_C} {X C : va_W} {H : Heap} (h : va_P D cl (X ++ C) H) : va_P D cl C H := fun k q hk => h (X.length + k) q (xq_at hk)
theorem xd_right {A : Nat → Prop} {X C : va_W} (h : va_D A (X ++ C)) : va_D A C :=
  ⟨fun i j p q hi hj e => by have h9 := h.1 (X.length + i) (X.length + j) p q (xq_at hi) (xq_at hj) e; omega, fun k q hk => h.2 (X.length + k) q (xq_at hk)⟩
theorem xj_free {A0 : Nat → Prop} {X C : va_W} {H0 H : Heap} {locs : List Loc} (hD : va_D A0 (X ++ C)) (hS : va_S A0 H0 H locs) (hA : ∀ q, H0.size ≤ q → A0 q) : ∀ q, va_A C H.size q → A0 q := by
  intro q hq
  rcases hq with ⟨k, e, hk⟩ | hq
  · exact (xd_right hD).2 k _ hk
  · exact hA q (Nat.le_trans hS.1 hq)
theorem xj_out {A0 : Nat → Prop} {D : va_G} {cl : List vw_C} {X C : va_W} {H : Heap} (hP : va_P D cl (X ++ C) H) (hD : va_D A0 (X ++ C)) : ∀ (k : Nat) (x : Nat × va_E), X[k]? = some x → x.1 < H.size ∧ ¬ va_A C H.size x.1 := by
  intro k x hx
  have hx2 : (X ++ C)[k]? = some x := xq_al hx
  have hlt := (hP k x hx2).lt
  refine ⟨hlt, fun q => ?_⟩
  rcases q with ⟨j, e, hj⟩ | q
  · have h9 := hD.1 k (X.length + j) x _ hx2 (xq_at hj) rfl
    have h8 := (List.getElem?_eq_some_iff.mp hx).1
    omega
  · omega
theorem xj_join {A0 : Nat → Prop} {D : va_G} {cl : List vw_C} {X C C1 : va_W} {H H1 : Heap} (hP : va_P D cl (X ++ C) H) (hD : va_D A0 (X ++ C)) (hk : ∀ q : Nat, q < H.size → ¬ va_A C H.size q → H1[q]? = H[q]?) (hF : ∀ q, va_A C H.size q → A0 q) (hP1 : va_P D cl C1 H1) (hD1 : va_D (va_A C H.size) C1) : va_P D cl (X ++ C1) H1 ∧ va_D A0 (X ++ C1) := by
  have hX := xj_out hP hD
  refine ⟨va_P.app (fun k x hx => (hP k x (xq_al hx)).kept (hk _ (hX k x hx).1 (hX k x hx).2)) hP1, va_D.app ⟨?_, ?_⟩ (hD1.weaken (fun _ q _ h => hF q.1 h)) ?_⟩
  · exact fun i j p q hi hj e => hD.1 i j p q (xq_al hi) (xq_al hj) e
  · exact fun k q hk => hD.2 k q (xq_al hk)
  · exact fun i j p q hi hj e => (hX i p hi).2 (by rw [e]; exact hD1.2 j q hj)
theorem xK_int {D : va_G} {cl : List vw_C} {tys : List (ClassId × FieldType)} {U : State} {c1 c2 : ClassId} {k1 k2 : Nat} (h : va_K D cl tys U) (h1 : tys[k1]? = some (c1, .int)) (h2 : tys[k2]? = some (c2, .int)) : c1 = c2 := by
  have a : U.vm.findClass ("[" ++ FieldType.int.toString) = some c1 := (h.2 k1 _ h1).2
  have b : U.vm.findClass ("[" ++ FieldType.int.toString) = some c2 := (h.2 k2 _ h2).2
  exact Option.some.inj (a.symm.trans b)
theorem xK_long {D : va_G} {cl : List vw_C} {tys : List (ClassId × FieldType)} {U : State} {c1 c2 : ClassId} {k1 k2 : Nat} (h : va_K D cl tys U) (h1 : tys[k1]? = some (c1, .long)) (h2 : tys[k2]? = some (c2, .long)) : c1 = c2 := by
  have a : U.vm.findClass ("[" ++ FieldType.long.toString) = some c1 := (h.2 k1 _ h1).2
  have b : U.vm.findClass ("[" ++ FieldType.long.toString) = some c2 := (h.2 k2 _ h2).2
  exact Option.some.inj (a.symm.trans b)
theorem xK_arr {D : va_G} {cl : List vw_C} {tys : List (ClassId × FieldType)} {U : State} {c1 c2 : ClassId} {k1 k2 : Nat} {t9 : FieldType} (h : va_K D cl tys U) (h1 : tys[k1]? = some (c1, .array t9)) (h2 : tys[k2]? = some (c2, .array t9)) : c1 = c2 := by
  have a : U.vm.findClass ("[" ++ (FieldType.array t9).toString) = some c1 := (h.2 k1 _ h1).2
  have b : U.vm.findClass ("[" ++ (FieldType.array t9).toString) = some c2 := (h.2 k2 _ h2).2
  exact Option.some.inj (a.symm.trans b)
theorem xK_obj {D : va_G} {cl : List vw_C} {tys : List (ClassId × FieldType)} {U : State} {c1 c2 : ClassId} {k1 k2 : Nat} {C : String} (h : va_K D cl tys U) (h1 : tys[k1]? = some (c1, .object C)) (h2 : tys[k2]? = some (c2, .object C)) : c1 = c2 := by
  obtain ⟨-, -, -, -, -, a⟩ := (h.2 k1 _ h1).2
  obtain ⟨-, -, -, -, -, b⟩ := (h.2 k2 _ h2).2
  exact Option.some.inj (a.symm.trans b)
theorem xp_1 {α : Type} (x y c0 : α) (F M E C5 : List α) : List.Perm (((x :: y :: F) ++ (M ++ E)) ++ (c0 :: C5)) (((x :: (F ++ M)) ++ C5) ++ ([y] ++ (E ++ [c0]))) := by
  letI : DecidableEq α := fun a b => Classical.propDecidable (a = b)
  rw [List.perm_iff_count]
  intro a
  simp only [List.count_append, List.count_cons, List.count_nil]
  omega
theorem xp_2 {α : Type} (x y e c0 : α) (F M C5 : List α) : List.Perm (((x :: (F ++ M)) ++ C5) ++ [y, e, c0]) ((x :: y :: F) ++ ((M ++ (c0 :: C5)) ++ [e])) := by
  letI : DecidableEq α := fun a b => Classical.propDecidable (a = b)
  rw [List.perm_iff_count]
  intro a
  simp only [List.count_append, List.count_cons, List.count_nil]
  omega

def xF2 (a : Nat → Nat) (cI cJ cO : ClassId) (L : Nat → Int64) (I : Nat → Int32) (M : Nat → Nat → Int64) (J : Nat → Nat → Int32) : va_W := [(a 1, .inr (6, [.ref (a 10), .ref (a 11), .int (I 7)])), (a 10, .inl (cO, 4, .inr (.inr (.inr (.inr (fun i => if i < 4 then some (a (20 + i)) else none)))))), (a 11, .inl (cO, 4, .inr (.inr (.inr (.inr (fun i => if i < 4 then some (a (24 + i)) else none)))))), (a 20, .inl (cJ, 40, .inr (.inl (M 0)))), (a 21, .inl (cJ, 40, .inr (.inl (M 1)))), (a 22, .inl (cJ, 40, .inr (.inl (M 2)))), (a 23, .inl (cJ, 40, .inr (.inl (M 3)))), (a 24, .inl (cJ, 40, .inr (.inl (M 4)))), (a 25, .inl (cJ, 40, .inr (.inl (M 5)))), (a 26, .inl (cJ, 40, .inr (.inl (M 6)))), (a 27, .inl (cJ, 40, .inr (.inl (M 7)))), (a 2, .inr (2, [.ref (a 1), .long (L 2), .long (L 3), .long (L 4), .int (I 8)])), (a 3, .inr (4, [.ref (a 1), .long (L 5), .long (L 6), .long (L 7)])), (a 4, .inr (5, [.ref (a 12), .ref (a 13), .ref (a 14), .long (L 8), .int (I 9), .int (I 10), .int (I 11)])), (a 12, .inl (cI, 40, .inl (J 0))), (a 13, .inl (cI, 40, .inl (J 1))), (a 14, .inl (cI, 40, .inl (J 2))), (a 5, .inr (3, [.ref (a 15), .int (I 12)])), (a 15, .inl (cJ, 2000, .inr (.inl (M 8)))), (a 6, .inl (cJ, 6, .inr (.inl (M 9))))]
theorem xW_eq (h : Nat) (a : Nat → Nat) (e : Nat) (cI cJ cO cE : ClassId) (L : Nat → Int64) (I : Nat → Int32) (M : Nat → Nat → Int64) (J : Nat → Nat → Int32) (n cap : Nat) (fE : Nat → Option Nat) (sd : Nat → Nat → Nat) (si : Nat → Nat → Int32) (sa : Nat → Nat → Nat → Int32) (dl : Nat → Nat) : xW h a e cI cJ cO cE L I M J n cap fE sd si sa dl = ((h, .inr (9, [.ref (a 0), .ref (a 1), .ref (a 2), .ref (a 3), .ref (a 4), .ref (a 5), .ref (a 6), .long (L 0), .long (L 1), .int (I 0), .int (I 1), .int (I 2), .int (I 3), .int (I 4)])) :: (a 0, .inr (0, [.int (I 5), .ref e, .int (I 6)])) :: xF2 a cI cJ cO L I M J) ++ ((List.range (6 * n)).map (xP cI sd si sa dl) ++ xE n e cap cE fE) := rfl
def xsd (sd : Nat → Nat → Nat) (n q l0 l1 t1 l2 t2 : Nat) : Nat → Nat → Nat := fun s j => if s = n then (if j = 0 then q else if j = 1 then l0 else if j = 2 then l1 else if j = 3 then t1 else if j = 4 then l2 else t2) else sd s j
def xsi (si : Nat → Nat → Int32) (n : Nat) (p0 p1 p2 w : Int32) : Nat → Nat → Int32 := fun s j => if s = n then (if j = 0 then p0 else if j = 1 then p1 else if j = 2 then p2 else if j = 7 then w else if j = 23 then 1 else if j = 25 then 1 else if j = 34 then (-1) else 0) else si s j
def xsa (sa : Nat → Nat → Nat → Int32) (n : Nat) : Nat → Nat → Nat → Int32 := fun s j => if s = n then (fun _ => 0) else sa s j
def xdl (dl : Nat → Nat) (n dv : Nat) : Nat → Nat := fun s => if s = n then dv else dl s
theorem x_map6 {α : Type} (f : Nat → α) (n : Nat) : (List.range (6 * (n + 1))).map f = (List.range (6 * n)).map f ++ [f (6 * n + 0), f (6 * n + 1), f (6 * n + 2), f (6 * n + 3), f (6 * n + 4), f (6 * n + 5)] := by
  rw [show 6 * (n + 1) = ((((((6 * n + 0) + 1) + 1) + 1) + 1) + 1) + 1 by omega]
  simp only [List.range_succ, List.map_append, List.map_cons, List.map_nil, List.append_assoc, List.cons_append, List.nil_append, Nat.add_zero, Nat.add_assoc]
theorem xP_new (cI : ClassId) (sd : Nat → Nat → Nat) (si : Nat → Nat → Int32) (sa : Nat → Nat → Nat → Int32) (dl : Nat → Nat) (n q l0 l1 t1 l2 t2 dv : Nat) (p0 p1 p2 w : Int32) : (List.range (6 * (n + 1))).map (xP cI (xsd sd n q l0 l1 t1 l2 t2) (xsi si n p0 p1 p2 w) (xsa sa n) (xdl dl n dv)) = (List.range (6 * n)).map (xP cI sd si sa dl) ++ ((q, .inr (8, [.int p0, .int p1, .int p2, .ref l0, .ref l1, .ref l2, .int 0, .int w, .int 0, .int 0, .int 0, .int 0])) :: [(l0, .inl (cI, 8, .inl (fun _ => 0))), (l1, .inr (7, [.ref t1, .int 0, .int 0, .int 1, .int 0, .int 1])), (t1, .inl (cI, 10, .inl (fun _ => 0))), (l2, .inr (1, [.ref t2, .int 0, .int 0, .int 0, .int (-1)])), (t2, .inl (cI, dv, .inl (fun _ => 0)))]) := by
  rw [x_map6, xP_0, xP_1, xP_2, xP_3, xP_4, xP_5]
  congr 1
  · apply List.map_congr_left
    intro t ht
    have h9 : t < 6 * n := List.mem_range.mp ht
    have h8 : t / 6 ≠ n := by omega
    simp [xP, xsd, xsi, xsa, xdl, h8]
  · simp [xsd, xsi, xsa, xdl]
theorem xW_add (h : Nat) (a : Nat → Nat) (e : Nat) (cI cJ cO cE : ClassId) (L : Nat → Int64) (I : Nat → Int32) (M : Nat → Nat → Int64) (J : Nat → Nat → Int32) (n cap : Nat) (fE : Nat → Option Nat) (sd : Nat → Nat → Nat) (si : Nat → Nat → Int32) (sa : Nat → Nat → Nat → Int32) (dl : Nat → Nat) (q l0 l1 t1 l2 t2 dv e1 N : Nat) (g : Nat → Option Nat) (p0 p1 p2 w x5 : Int32) : ((h, .inr (9, [.ref (a 0), .ref (a 1), .ref (a 2), .ref (a 3), .ref (a 4), .ref (a 5), .ref (a 6), .long (L 0), .long (L 1), .int (I 0), .int (I 1), .int (I 2), .int (I 3), .int (I 4)])) :: (a 0, .inr (0, [.int x5, .ref e1, .int (nI (n + 1))])) :: xF2 a cI cJ cO L I M J) ++ (((List.range (6 * n)).map (xP cI sd si sa dl) ++ ((q, .inr (8, [.int p0, .int p1, .int p2, .ref l0, .ref l1, .ref l2, .int 0, .int w, .int 0, .int 0, .int 0, .int 0])) :: [(l0, .inl (cI, 8, .inl (fun _ => 0))), (l1, .inr (7, [.ref t1, .int 0, .int 0, .int 1, .int 0, .int 1])), (t1, .inl (cI, 10, .inl (fun _ => 0))), (l2, .inr (1, [.ref t2, .int 0, .int 0, .int 0, .int (-1)])), (t2, .inl (cI, dv, .inl (fun _ => 0)))])) ++ [(e1, .inl (cE, N, .inr (.inr (.inr (.inr g)))))]) = xW h a e1 cI cJ cO cE L (va_up (va_up I 5 x5) 6 (nI (n + 1))) M J (n + 1) N g (xsd sd n q l0 l1 t1 l2 t2) (xsi si n p0 p1 p2 w) (xsa sa n) (xdl dl n dv) := by
  rw [← xP_new]
  rw [xW_eq]
  rw [show xE (n + 1) e1 N cE g = [(e1, .inl (cE, N, .inr (.inr (.inr (.inr g)))))] from if_neg (by omega)]
  rfl
theorem xInv_add {n cap b : Nat} {fE : Nat → Option Nat} {sd : Nat → Nat → Nat} {dl : Nat → Nat} {I : Nat → Int32} {J : Nat → Nat → Int32} {si : Nat → Nat → Int32} {q l0 l1 t1 l2 t2 dv N : Nat} {g : Nat → Option Nat} {p0 p1 p2 w x5 : Int32} (h : InvX n cap fE sd dl b I J si) (hn : n < 40) (hN : n < N ∧ N < 100) (hg : (∀ i : Nat, i < n → g i = fE i) ∧ g n = some q) (hd : dv = 20 ∨ dv = 0) : InvX (n + 1) N g (xsd sd n q l0 l1 t1 l2 t2) (xdl dl n dv) b (va_up (va_up I 5 x5) 6 (nI (n + 1))) J (xsi si n p0 p1 p2 w) := by
  obtain ⟨⟨a1, a2, a3, a4, a5⟩, h2, h3, h4, h5, h6, h7, h8⟩ := h
  have e9 : (va_up (va_up I 5 x5) 6 (nI (n + 1))) 9 = I 9 := by rw [va_up_ne _ _ (by decide), va_up_ne _ _ (by decide)]
  have e12 : (va_up (va_up I 5 x5) 6 (nI (n + 1))) 12 = I 12 := by rw [va_up_ne _ _ (by decide), va_up_ne _ _ (by decide)]
  refine ⟨⟨by omega, by omega, hN.2, va_up_self _ _ _, fun s hs => ?_⟩, by rw [e9, e12]; exact h2, h3, fun s => ?_, fun s => ?_, fun s => ?_, fun s => ?_, fun s => ?_⟩
  · by_cases e : s = n
    · subst e; rw [hg.2]; simp [xsd]
    · rw [hg.1 s (by omega), a5 s (by omega)]; simp [xsd, e]
  · by_cases e : s = n
    · exact ⟨0, by omega, by simp [xsi, e]; rfl⟩
    · obtain ⟨x, hx, ex⟩ := h4 s; exact ⟨x, hx, by simp [xsi, e]; exact ex⟩
  · by_cases e : s = n
    · exact ⟨0, by omega, by simp [xsi, e]; rfl⟩
    · obtain ⟨x, hx, ex⟩ := h5 s; exact ⟨x, hx, by simp [xsi, e]; exact ex⟩
  · by_cases e : s = n
    · exact ⟨0, by omega, by simp [xsi, e]; rfl⟩
    · obtain ⟨x, hx, ex⟩ := h6 s; exact ⟨x, hx, by simp [xsi, e]; exact ex⟩
  · by_cases e : s = n
    · have ed : xdl dl n dv s = dv := by simp [xdl, e]
      rw [ed]
      exact ⟨hd, 0, by omega, by simp [xsi, e]; rfl⟩
    · have ed : xdl dl n dv s = dl s := by simp [xdl, e]
      rw [ed]
      obtain ⟨d1, x, hx, ex⟩ := h7 s; exact ⟨d1, x, hx, by simp [xsi, e]; exact ex⟩
  · by_cases e : s = n
    · exact ⟨0, Or.inr rfl, by simp [xsi, e]; rfl⟩
    · have ed : xdl dl n dv s = dl s := by simp [xdl, e]
      rw [ed]
      obtain ⟨x, hx, ex⟩ := h8 s; exact ⟨x, hx, by simp [xsi, e]; exact ex⟩
