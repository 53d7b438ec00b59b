def xFix (h : Nat) (a : Nat → Nat) (e : Nat) (cI cJ cO : ClassId) (L : Nat → Int64) (I : Nat → Int32) (M : Nat → Nat → Int64) (J : Nat → Nat → Int32) : va_W := [(h, .inr (9, [.ref (a 0), .ref (a 1), .ref (a 2), .ref (a 3), .ref (a 4), .ref (a 5), .ref (a 6), .long (L 0), .long (L 1), .int (I 0), .int (I 1), .int (I 2), .int (I 3), .int (I 4)])), (a 0, .inr (0, [.int (I 5), .ref e, .int (I 6)])), (a 1, .inr (6, [.ref (a 10), .ref (a 11), .int (I 7)])), (a 10, .inl (cO, 4, .inr (.inr (.inr (.inr (fun i => if i < 4 then some (a (20 + i)) else none)))))), (a 11, .inl (cO, 4, .inr (.inr (.inr (.inr (fun i => if i < 4 then some (a (24 + i)) else none)))))), (a 20, .inl (cJ, 40, .inr (.inl (M 0)))), (a 21, .inl (cJ, 40, .inr (.inl (M 1)))), (a 22, .inl (cJ, 40, .inr (.inl (M 2)))), (a 23, .inl (cJ, 40, .inr (.inl (M 3)))), (a 24, .inl (cJ, 40, .inr (.inl (M 4)))), (a 25, .inl (cJ, 40, .inr (.inl (M 5)))), (a 26, .inl (cJ, 40, .inr (.inl (M 6)))), (a 27, .inl (cJ, 40, .inr (.inl (M 7)))), (a 2, .inr (2, [.ref (a 1), .long (L 2), .long (L 3), .long (L 4), .int (I 8)])), (a 3, .inr (4, [.ref (a 1), .long (L 5), .long (L 6), .long (L 7)])), (a 4, .inr (5, [.ref (a 12), .ref (a 13), .ref (a 14), .long (L 8), .int (I 9), .int (I 10), .int (I 11)])), (a 12, .inl (cI, 40, .inl (J 0))), (a 13, .inl (cI, 40, .inl (J 1))), (a 14, .inl (cI, 40, .inl (J 2))), (a 5, .inr (3, [.ref (a 15), .int (I 12)])), (a 15, .inl (cJ, 2000, .inr (.inl (M 8)))), (a 6, .inl (cJ, 6, .inr (.inl (M 9))))]
def xP (cI : ClassId) (sd : Nat → Nat → Nat) (si : Nat → Nat → Int32) (sa : Nat → Nat → Nat → Int32) (dl : Nat → Nat) (t : Nat) : Nat × va_E := if t % 6 = 0 then (sd (t / 6) 0, .inr (8, [.int (si (t / 6) 0), .int (si (t / 6) 1), .int (si (t / 6) 2), .ref (sd (t / 6) 1), .ref (sd (t / 6) 2), .ref (sd (t / 6) 4), .int (si (t / 6) 6), .int (si (t / 6) 7), .int (si (t / 6) 8), .int (si (t / 6) 9), .int (si (t / 6) 10), .int (si (t / 6) 11)])) else if t % 6 = 1 then (sd (t / 6) 1, .inl (cI, 8, .inl (sa (t / 6) 1))) else if t % 6 = 2 then (sd (t / 6) 2, .inr (7, [.ref (sd (t / 6) 3), .int (si (t / 6) 21), .int (si (t / 6) 22), .int (si (t / 6) 23), .int (si (t / 6) 24), .int (si (t / 6) 25)])) else if t % 6 = 3 then (sd (t / 6) 3, .inl (cI, 10, .inl (sa (t / 6) 3))) else if t % 6 = 4 then (sd (t / 6) 4, .inr (1, [.ref (sd (t / 6) 5), .int (si (t / 6) 31), .int (si (t / 6) 32), .int (si (t / 6) 33), .int (si (t / 6) 34)])) else (sd (t / 6) 5, .inl (cI, dl (t / 6), .inl (sa (t / 6) 5)))
def xE (n e cap : Nat) (cE : ClassId) (fE : Nat → Option Nat) : va_W := if n = 0 then [] else [(e, .inl (cE, cap, .inr (.inr (.inr (.inr fE)))))]
def xW (h : Nat) (a : Nat → Nat) (e : Nat) (cI cJ cO cE : ClassId) (L : Nat → Int64) (I : Nat → Int32) (M : Nat → Nat → Int64) (J : Nat → Nat → Int32) (n cap : Nat) (fE : Nat → Option Nat) (sd : Nat → Nat → Nat) (si : Nat → Nat → Int32) (sa : Nat → Nat → Nat → Int32) (dl : Nat → Nat) : va_W := xFix h a e cI cJ cO L I M J ++ ((List.range (6 * n)).map (xP cI sd si sa dl) ++ xE n e cap cE fE)
def xT (cI cJ cO cE : ClassId) : List (ClassId × FieldType) := [(cI, .int), (cJ, .long), (cO, .array .long), (cE, .object "java/lang/Object")]
theorem xP_0 (cI : ClassId) (sd : Nat → Nat → Nat) (si : Nat → Nat → Int32) (sa : Nat → Nat → Nat → Int32) (dl : Nat → Nat) (s : Nat) : xP cI sd si sa dl (6 * s + 0) = (sd s 0, .inr (8, [.int (si s 0), .int (si s 1), .int (si s 2), .ref (sd s 1), .ref (sd s 2), .ref (sd s 4), .int (si s 6), .int (si s 7), .int (si s 8), .int (si s 9), .int (si s 10), .int (si s 11)])) := by
  have h1 : (6 * s + 0) / 6 = s := by omega
  have h2 : (6 * s + 0) % 6 = 0 := by omega
  simp [xP, h1, h2]
theorem xP_1 (cI : ClassId) (sd : Nat → Nat → Nat) (si : Nat → Nat → Int32) (sa : Nat → Nat → Nat → Int32) (dl : Nat → Nat) (s : Nat) : xP cI sd si sa dl (6 * s + 1) = (sd s 1, .inl (cI, 8, .inl (sa s 1))) := by
  have h1 : (6 * s + 1) / 6 = s := by omega
  have h2 : (6 * s + 1) % 6 = 1 := by omega
  simp [xP, h1, h2]
theorem xP_2 (cI : ClassId) (sd : Nat → Nat → Nat) (si : Nat → Nat → Int32) (sa : Nat → Nat → Nat → Int32) (dl : Nat → Nat) (s : Nat) : xP cI sd si sa dl (6 * s + 2) = (sd s 2, .inr (7, [.ref (sd s 3), .int (si s 21), .int (si s 22), .int (si s 23), .int (si s 24), .int (si s 25)])) := by
  have h1 : (6 * s + 2) / 6 = s := by omega
  have h2 : (6 * s + 2) % 6 = 2 := by omega
  simp [xP, h1, h2]
theorem xP_3 (cI : ClassId) (sd : Nat → Nat → Nat) (si : Nat → Nat → Int32) (sa : Nat → Nat → Nat → Int32) (dl : Nat → Nat) (s : Nat) : xP cI sd si sa dl (6 * s + 3) = (sd s 3, .inl (cI, 10, .inl (sa s 3))) := by
  have h1 : (6 * s + 3) / 6 = s := by omega
  have h2 : (6 * s + 3) % 6 = 3 := by omega
  simp [xP, h1, h2]
theorem xP_4 (cI : ClassId) (sd : Nat → Nat → Nat) (si : Nat → Nat → Int32) (sa : Nat → Nat → Nat → Int32) (dl : Nat → Nat) (s : Nat) : xP cI sd si sa dl (6 * s + 4) = (sd s 4, .inr (1, [.ref (sd s 5), .int (si s 31), .int (si s 32), .int (si s 33), .int (si s 34)])) := by
  have h1 : (6 * s + 4) / 6 = s := by omega
  have h2 : (6 * s + 4) % 6 = 4 := by omega
  simp [xP, h1, h2]
theorem xP_5 (cI : ClassId) (sd : Nat → Nat → Nat) (si : Nat → Nat → Int32) (sa : Nat → Nat → Nat → Int32) (dl : Nat → Nat) (s : Nat) : xP cI sd si sa dl (6 * s + 5) = (sd s 5, .inl (cI, dl s, .inl (sa s 5))) := by
  have h1 : (6 * s + 5) / 6 = s := by omega
  have h2 : (6 * s + 5) % 6 = 5 := by omega
  simp [xP, h1, h2]
theorem xAt (h : Nat) (a : Nat → Nat) (e : Nat) (cI cJ cO cE : ClassId) (L : Nat → Int64) (I : Nat → Int32) (M : Nat → Nat → Int64) (J : Nat → Nat → Int32) (n cap : Nat) (fE : Nat → Option Nat) (sd : Nat → Nat → Nat) (si : Nat → Nat → Int32) (sa : Nat → Nat → Nat → Int32) (dl : Nat → Nat) {t : Nat} (ht : t < 6 * n) : (xW h a e cI cJ cO cE L I M J n cap fE sd si sa dl)[22 + t]? = some (xP cI sd si sa dl t) := by
  unfold xW
  rw [List.getElem?_append_right (show (xFix h a e cI cJ cO L I M J).length ≤ 22 + t from Nat.le_add_right 22 t)]
  rw [show 22 + t - (xFix h a e cI cJ cO L I M J).length = t from Nat.add_sub_cancel_left 22 t]
  rw [List.getElem?_append_left (by rw [List.length_map, List.length_range]; exact ht)]
  rw [List.getElem?_map, List.getElem?_range ht]
  rfl
theorem xAt_0 (h : Nat) (a : Nat → Nat) (e : Nat) (cI cJ cO cE : ClassId) (L : Nat → Int64) (I : Nat → Int32) (M : Nat → Nat → Int64) (J : Nat → Nat → Int32) (n cap : Nat) (fE : Nat → Option Nat) (sd : Nat → Nat → Nat) (si : Nat → Nat → Int32) (sa : Nat → Nat → Nat → Int32) (dl : Nat → Nat) {s : Nat} (hs : s < n) : (xW h a e cI cJ cO cE L I M J n cap fE sd si sa dl)[22 + (6 * s + 0)]? = some (sd s 0, .inr (8, [.int (si s 0), .int (si s 1), .int (si s 2), .ref (sd s 1), .ref (sd s 2), .ref (sd s 4), .int (si s 6), .int (si s 7), .int (si s 8), .int (si s 9), .int (si s 10), .int (si s 11)])) := by
  rw [xAt h a e cI cJ cO cE L I M J n cap fE sd si sa dl (by omega), xP_0]
theorem xAt_1 (h : Nat) (a : Nat → Nat) (e : Nat) (cI cJ cO cE : ClassId) (L : Nat → Int64) (I : Nat → Int32) (M : Nat → Nat → Int64) (J : Nat → Nat → Int32) (n cap : Nat) (fE : Nat → Option Nat) (sd : Nat → Nat → Nat) (si : Nat → Nat → Int32) (sa : Nat → Nat → Nat → Int32) (dl : Nat → Nat) {s : Nat} (hs : s < n) : (xW h a e cI cJ cO cE L I M J n cap fE sd si sa dl)[22 + (6 * s + 1)]? = some (sd s 1, .inl (cI, 8, .inl (sa s 1))) := by
  rw [xAt h a e cI cJ cO cE L I M J n cap fE sd si sa dl (by omega), xP_1]
theorem xAt_2 (h : Nat) (a : Nat → Nat) (e : Nat) (cI cJ cO cE : ClassId) (L : Nat → Int64) (I : Nat → Int32) (M : Nat → Nat → Int64) (J : Nat → Nat → Int32) (n cap : Nat) (fE : Nat → Option Nat) (sd : Nat → Nat → Nat) (si : Nat → Nat → Int32) (sa : Nat → Nat → Nat → Int32) (dl : Nat → Nat) {s : Nat} (hs : s < n) : (xW h a e cI cJ cO cE L I M J n cap fE sd si sa dl)[22 + (6 * s + 2)]? = some (sd s 2, .inr (7, [.ref (sd s 3), .int (si s 21), .int (si s 22), .int (si s 23), .int (si s 24), .int (si s 25)])) := by
  rw [xAt h a e cI cJ cO cE L I M J n cap fE sd si sa dl (by omega), xP_2]
theorem xAt_3 (h : Nat) (a : Nat → Nat) (e : Nat) (cI cJ cO cE : ClassId) (L : Nat → Int64) (I : Nat → Int32) (M : Nat → Nat → Int64) (J : Nat → Nat → Int32) (n cap : Nat) (fE : Nat → Option Nat) (sd : Nat → Nat → Nat) (si : Nat → Nat → Int32) (sa : Nat → Nat → Nat → Int32) (dl : Nat → Nat) {s : Nat} (hs : s < n) : (xW h a e cI cJ cO cE L I M J n cap fE sd si sa dl)[22 + (6 * s + 3)]? = some (sd s 3, .inl (cI, 10, .inl (sa s 3))) := by
  rw [xAt h a e cI cJ cO cE L I M J n cap fE sd si sa dl (by omega), xP_3]
theorem xAt_4 (h : Nat) (a : Nat → Nat) (e : Nat) (cI cJ cO cE : ClassId) (L : Nat → Int64) (I : Nat → Int32) (M : Nat → Nat → Int64) (J : Nat → Nat → Int32) (n cap : Nat) (fE : Nat → Option Nat) (sd : Nat → Nat → Nat) (si : Nat → Nat → Int32) (sa : Nat → Nat → Nat → Int32) (dl : Nat → Nat) {s : Nat} (hs : s < n) : (xW h a e cI cJ cO cE L I M J n cap fE sd si sa dl)[22 + (6 * s + 4)]? = some (sd s 4, .inr (1, [.ref (sd s 5), .int (si s 31), .int (si s 32), .int (si s 33), .int (si s 34)])) := by
  rw [xAt h a e cI cJ cO cE L I M J n cap fE sd si sa dl (by omega), xP_4]
theorem xAt_5 (h : Nat) (a : Nat → Nat) (e : Nat) (cI cJ cO cE : ClassId) (L : Nat → Int64) (I : Nat → Int32) (M : Nat → Nat → Int64) (J : Nat → Nat → Int32) (n cap : Nat) (fE : Nat → Option Nat) (sd : Nat → Nat → Nat) (si : Nat → Nat → Int32) (sa : Nat → Nat → Nat → Int32) (dl : Nat → Nat) {s : Nat} (hs : s < n) : (xW h a e cI cJ cO cE L I M J n cap fE sd si sa dl)[22 + (6 * s + 5)]? = some (sd s 5, .inl (cI, dl s, .inl (sa s 5))) := by
  rw [xAt h a e cI cJ cO cE L I M J n cap fE sd si sa dl (by omega), xP_5]
theorem xAt_E (h : Nat) (a : Nat → Nat) (e : Nat) (cI cJ cO cE : ClassId) (L : Nat → Int64) (I : Nat → Int32) (M : Nat → Nat → Int64) (J : Nat → Nat → Int32) (n cap : Nat) (fE : Nat → Option Nat) (sd : Nat → Nat → Nat) (si : Nat → Nat → Int32) (sa : Nat → Nat → Nat → Int32) (dl : Nat → Nat) (hn : 0 < n) : (xW h a e cI cJ cO cE L I M J n cap fE sd si sa dl)[22 + 6 * n]? = some (e, .inl (cE, cap, .inr (.inr (.inr (.inr fE))))) := by
  unfold xW xE
  rw [List.getElem?_append_right (show (xFix h a e cI cJ cO L I M J).length ≤ 22 + 6 * n from Nat.le_add_right 22 _)]
  rw [show 22 + 6 * n - (xFix h a e cI cJ cO L I M J).length = 6 * n from Nat.add_sub_cancel_left 22 _]
  rw [List.getElem?_append_right (by rw [List.length_map, List.length_range]; exact Nat.le_refl _), List.length_map, List.length_range, Nat.sub_self, if_neg (by omega)]
  rfl
theorem x_mapset {α : Type} (f : Nat → α) (N t : Nat) (v : α) : ((List.range N).map f).set t v = (List.range N).map (va_up f t v) := by
  apply List.ext_getElem?
  intro i
  rw [List.getElem?_set, List.getElem?_map, List.getElem?_map]
  by_cases hi : i < N
  · rw [List.getElem?_range hi]
    by_cases e : t = i
    · subst e
      simp [va_up, hi]
    · simp [va_up, e, Ne.symm e]
  · rw [List.getElem?_eq_none (by rw [List.length_range]; omega)]
    by_cases e : t = i
    · subst e
      simp [hi]
    · simp [e]
theorem xSet (h : Nat) (a : Nat → Nat) (e : Nat) (cI cJ cO cE : ClassId) (L : Nat → Int64) (I : Nat → Int32) (M : Nat → Nat → Int64) (J : Nat → Nat → Int32) (n cap : Nat) (fE : Nat → Option Nat) (sd : Nat → Nat → Nat) (si : Nat → Nat → Int32) (sa : Nat → Nat → Nat → Int32) (dl : Nat → Nat) {t : Nat} (ht : t < 6 * n) (v : Nat × va_E) : (xW h a e cI cJ cO cE L I M J n cap fE sd si sa dl).set (22 + t) v = xFix h a e cI cJ cO L I M J ++ ((List.range (6 * n)).map (va_up (xP cI sd si sa dl) t v) ++ xE n e cap cE fE) := by
  unfold xW
  rw [List.set_append_right _ _ (show (xFix h a e cI cJ cO L I M J).length ≤ 22 + t from Nat.le_add_right 22 t)]
  rw [show 22 + t - (xFix h a e cI cJ cO L I M J).length = t from Nat.add_sub_cancel_left 22 t]
  rw [List.set_append_left _ _ (by rw [List.length_map, List.length_range]; exact ht), x_mapset]
def up2 {α : Type} (f : Nat → Nat → α) (s q : Nat) (x : α) : Nat → Nat → α := fun s2 q2 => if s2 = s ∧ q2 = q then x else f s2 q2
theorem xSv_0 (h : Nat) (a : Nat → Nat) (e : Nat) (cI cJ cO cE : ClassId) (L : Nat → Int64) (I : Nat → Int32) (M : Nat → Nat → Int64) (J : Nat → Nat → Int32) (n cap : Nat) (fE : Nat → Option Nat) (sd : Nat → Nat → Nat) (si : Nat → Nat → Int32) (sa : Nat → Nat → Nat → Int32) (dl : Nat → Nat) {s : Nat} (hs : s < n) (x : Int32) : (xW h a e cI cJ cO cE L I M J n cap fE sd si sa dl).set (22 + (6 * s + 0)) (sd s 0, .inr (8, [.int x, .int (si s 1), .int (si s 2), .ref (sd s 1), .ref (sd s 2), .ref (sd s 4), .int (si s 6), .int (si s 7), .int (si s 8), .int (si s 9), .int (si s 10), .int (si s 11)])) = xW h a e cI cJ cO cE L I M J n cap fE sd (up2 si s 0 x) sa dl := by
  rw [xSet h a e cI cJ cO cE L I M J n cap fE sd si sa dl (by omega)]
  unfold xW
  congr 2
  apply List.map_congr_left
  intro t _
  by_cases et : t = 6 * s + 0
  · subst et
    rw [va_up_self, xP_0]
    simp [up2]
  · rw [va_up_ne _ _ et]
    have hq : t / 6 ≠ s ∨ t % 6 ≠ 0 := by omega
    unfold xP
    rcases hq with hq | hq
    · simp [up2, hq]
    · simp [up2, hq]
theorem xSv_1 (h : Nat) (a : Nat → Nat) (e : Nat) (cI cJ cO cE : ClassId) (L : Nat → Int64) (I : Nat → Int32) (M : Nat → Nat → Int64) (J : Nat → Nat → Int32) (n cap : Nat) (fE : Nat → Option Nat) (sd : Nat → Nat → Nat) (si : Nat → Nat → Int32) (sa : Nat → Nat → Nat → Int32) (dl : Nat → Nat) {s : Nat} (hs : s < n) (x : Int32) : (xW h a e cI cJ cO cE L I M J n cap fE sd si sa dl).set (22 + (6 * s + 0)) (sd s 0, .inr (8, [.int (si s 0), .int x, .int (si s 2), .ref (sd s 1), .ref (sd s 2), .ref (sd s 4), .int (si s 6), .int (si s 7), .int (si s 8), .int (si s 9), .int (si s 10), .int (si s 11)])) = xW h a e cI cJ cO cE L I M J n cap fE sd (up2 si s 1 x) sa dl := by
  rw [xSet h a e cI cJ cO cE L I M J n cap fE sd si sa dl (by omega)]
  unfold xW
  congr 2
  apply List.map_congr_left
  intro t _
  by_cases et : t = 6 * s + 0
  · subst et
    rw [va_up_self, xP_0]
    simp [up2]
  · rw [va_up_ne _ _ et]
    have hq : t / 6 ≠ s ∨ t % 6 ≠ 0 := by omega
    unfold xP
    rcases hq with hq | hq
    · simp [up2, hq]
    · simp [up2, hq]
theorem xSv_2 (h : Nat) (a : Nat → Nat) (e : Nat) (cI cJ cO cE : ClassId) (L : Nat → Int64) (I : Nat → Int32) (M : Nat → Nat → Int64) (J : Nat → Nat → Int32) (n cap : Nat) (fE : Nat → Option Nat) (sd : Nat → Nat → Nat) (si : Nat → Nat → Int32) (sa : Nat → Nat → Nat → Int32) (dl : Nat → Nat) {s : Nat} (hs : s < n) (x : Int32) : (xW h a e cI cJ cO cE L I M J n cap fE sd si sa dl).set (22 + (6 * s + 0)) (sd s 0, .inr (8, [.int (si s 0), .int (si s 1), .int x, .ref (sd s 1), .ref (sd s 2), .ref (sd s 4), .int (si s 6), .int (si s 7), .int (si s 8), .int (si s 9), .int (si s 10), .int (si s 11)])) = xW h a e cI cJ cO cE L I M J n cap fE sd (up2 si s 2 x) sa dl := by
  rw [xSet h a e cI cJ cO cE L I M J n cap fE sd si sa dl (by omega)]
  unfold xW
  congr 2
  apply List.map_congr_left
  intro t _
  by_cases et : t = 6 * s + 0
  · subst et
    rw [va_up_self, xP_0]
    simp [up2]
  · rw [va_up_ne _ _ et]
    have hq : t / 6 ≠ s ∨ t % 6 ≠ 0 := by omega
    unfold xP
    rcases hq with hq | hq
    · simp [up2, hq]
    · simp [up2, hq]
theorem xSv_6 (h : Nat) (a : Nat → Nat) (e : Nat) (cI cJ cO cE : ClassId) (L : Nat → Int64) (I : Nat → Int32) (M : Nat → Nat → Int64) (J : Nat → Nat → Int32) (n cap : Nat) (fE : Nat → Option Nat) (sd : Nat → Nat → Nat) (si : Nat → Nat → Int32) (sa : Nat → Nat → Nat → Int32) (dl : Nat → Nat) {s : Nat} (hs : s < n) (x : Int32) : (xW h a e cI cJ cO cE L I M J n cap fE sd si sa dl).set (22 + (6 * s + 0)) (sd s 0, .inr (8, [.int (si s 0), .int (si s 1), .int (si s 2), .ref (sd s 1), .ref (sd s 2), .ref (sd s 4), .int x, .int (si s 7), .int (si s 8), .int (si s 9), .int (si s 10), .int (si s 11)])) = xW h a e cI cJ cO cE L I M J n cap fE sd (up2 si s 6 x) sa dl := by
  rw [xSet h a e cI cJ cO cE L I M J n cap fE sd si sa dl (by omega)]
  unfold xW
  congr 2
  apply List.map_congr_left
  intro t _
  by_cases et : t = 6 * s + 0
  · subst et
    rw [va_up_self, xP_0]
    simp [up2]
  · rw [va_up_ne _ _ et]
    have hq : t / 6 ≠ s ∨ t % 6 ≠ 0 := by omega
    unfold xP
    rcases hq with hq | hq
    · simp [up2, hq]
    · simp [up2, hq]
theorem xSv_7 (h : Nat) (a : Nat → Nat) (e : Nat) (cI cJ cO cE : ClassId) (L : Nat → Int64) (I : Nat → Int32) (M : Nat → Nat → Int64) (J : Nat → Nat → Int32) (n cap : Nat) (fE : Nat → Option Nat) (sd : Nat → Nat → Nat) (si : Nat → Nat → Int32) (sa : Nat → Nat → Nat → Int32) (dl : Nat → Nat) {s : Nat} (hs : s < n) (x : Int32) : (xW h a e cI cJ cO cE L I M J n cap fE sd si sa dl).set (22 + (6 * s + 0)) (sd s 0, .inr (8, [.int (si s 0), .int (si s 1), .int (si s 2), .ref (sd s 1), .ref (sd s 2), .ref (sd s 4), .int (si s 6), .int x, .int (si s 8), .int (si s 9), .int (si s 10), .int (si s 11)])) = xW h a e cI cJ cO cE L I M J n cap fE sd (up2 si s 7 x) sa dl := by
  rw [xSet h a e cI cJ cO cE L I M J n cap fE sd si sa dl (by omega)]
  unfold xW
  congr 2
  apply List.map_congr_left
  intro t _
  by_cases et : t = 6 * s + 0
  · subst et
    rw [va_up_self, xP_0]
    simp [up2]
  · rw [va_up_ne _ _ et]
    have hq : t / 6 ≠ s ∨ t % 6 ≠ 0 := by omega
    unfold xP
    rcases hq with hq | hq
    · simp [up2, hq]
    · simp [up2, hq]
theorem xSv_8 (h : Nat) (a : Nat → Nat) (e : Nat) (cI cJ cO cE : ClassId) (L : Nat → Int64) (I : Nat → Int32) (M : Nat → Nat → Int64) (J : Nat → Nat → Int32) (n cap : Nat) (fE : Nat → Option Nat) (sd : Nat → Nat → Nat) (si : Nat → Nat → Int32) (sa : Nat → Nat → Nat → Int32) (dl : Nat → Nat) {s : Nat} (hs : s < n) (x : Int32) : (xW h a e cI cJ cO cE L I M J n cap fE sd si sa dl).set (22 + (6 * s + 0)) (sd s 0, .inr (8, [.int (si s 0), .int (si s 1), .int (si s 2), .ref (sd s 1), .ref (sd s 2), .ref (sd s 4), .int (si s 6), .int (si s 7), .int x, .int (si s 9), .int (si s 10), .int (si s 11)])) = xW h a e cI cJ cO cE L I M J n cap fE sd (up2 si s 8 x) sa dl := by
  rw [xSet h a e cI cJ cO cE L I M J n cap fE sd si sa dl (by omega)]
  unfold xW
  congr 2
  apply List.map_congr_left
  intro t _
  by_cases et : t = 6 * s + 0
  · subst et
    rw [va_up_self, xP_0]
    simp [up2]
  · rw [va_up_ne _ _ et]
    have hq : t / 6 ≠ s ∨ t % 6 ≠ 0 := by omega
    unfold xP
    rcases hq with hq | hq
    · simp [up2, hq]
    · simp [up2, hq]
theorem xSv_9 (h : Nat) (a : Nat → Nat) (e : Nat) (cI cJ cO cE : ClassId) (L : Nat → Int64) (I : Nat → Int32) (M : Nat → Nat → Int64) (J : Nat → Nat → Int32) (n cap : Nat) (fE : Nat → Option Nat) (sd : Nat → Nat → Nat) (si : Nat → Nat → Int32) (sa : Nat → Nat → Nat → Int32) (dl : Nat → Nat) {s : Nat} (hs : s < n) (x : Int32) : (xW h a e cI cJ cO cE L I M J n cap fE sd si sa dl).set (22 + (6 * s + 0)) (sd s 0, .inr (8, [.int (si s 0), .int (si s 1), .int (si s 2), .ref (sd s 1), .ref (sd s 2), .ref (sd s 4), .int (si s 6), .int (si s 7), .int (si s 8), .int x, .int (si s 10), .int (si s 11)])) = xW h a e cI cJ cO cE L I M J n cap fE sd (up2 si s 9 x) sa dl := by
  rw [xSet h a e cI cJ cO cE L I M J n cap fE sd si sa dl (by omega)]
  unfold xW
  congr 2
  apply List.map_congr_left
  intro t _
  by_cases et : t = 6 * s + 0
  · subst et
    rw [va_up_self, xP_0]
    simp [up2]
  · rw [va_up_ne _ _ et]
    have hq : t / 6 ≠ s ∨ t % 6 ≠ 0 := by omega
    unfold xP
    rcases hq with hq | hq
    · simp [up2, hq]
    · simp [up2, hq]
theorem xSv_10 (h : Nat) (a : Nat → Nat) (e : Nat) (cI cJ cO cE : ClassId) (L : Nat → Int64) (I : Nat → Int32) (M : Nat → Nat → Int64) (J : Nat → Nat → Int32) (n cap : Nat) (fE : Nat → Option Nat) (sd : Nat → Nat → Nat) (si : Nat → Nat → Int32) (sa : Nat → Nat → Nat → Int32) (dl : Nat → Nat) {s : Nat} (hs : s < n) (x : Int32) : (xW h a e cI cJ cO cE L I M J n cap fE sd si sa dl).set (22 + (6 * s + 0)) (sd s 0, .inr (8, [.int (si s 0), .int (si s 1), .int (si s 2), .ref (sd s 1), .ref (sd s 2), .ref (sd s 4), .int (si s 6), .int (si s 7), .int (si s 8), .int (si s 9), .int x, .int (si s 11)])) = xW h a e cI cJ cO cE L I M J n cap fE sd (up2 si s 10 x) sa dl := by
  rw [xSet h a e cI cJ cO cE L I M J n cap fE sd si sa dl (by omega)]
  unfold xW
  congr 2
  apply List.map_congr_left
  intro t _
  by_cases et : t = 6 * s + 0
  · subst et
    rw [va_up_self, xP_0]
    simp [up2]
  · rw [va_up_ne _ _ et]
    have hq : t / 6 ≠ s ∨ t % 6 ≠ 0 := by omega
    unfold xP
    rcases hq with hq | hq
    · simp [up2, hq]
    · simp [up2, hq]
theorem xSv_11 (h : Nat) (a : Nat → Nat) (e : Nat) (cI cJ cO cE : ClassId) (L : Nat → Int64) (I : Nat → Int32) (M : Nat → Nat → Int64) (J : Nat → Nat → Int32) (n cap : Nat) (fE : Nat → Option Nat) (sd : Nat → Nat → Nat) (si : Nat → Nat → Int32) (sa : Nat → Nat → Nat → Int32) (dl : Nat → Nat) {s : Nat} (hs : s < n) (x : Int32) : (xW h a e cI cJ cO cE L I M J n cap fE sd si sa dl).set (22 + (6 * s + 0)) (sd s 0, .inr (8, [.int (si s 0), .int (si s 1), .int (si s 2), .ref (sd s 1), .ref (sd s 2), .ref (sd s 4), .int (si s 6), .int (si s 7), .int (si s 8), .int (si s 9), .int (si s 10), .int x])) = xW h a e cI cJ cO cE L I M J n cap fE sd (up2 si s 11 x) sa dl := by
  rw [xSet h a e cI cJ cO cE L I M J n cap fE sd si sa dl (by omega)]
  unfold xW
  congr 2
  apply List.map_congr_left
  intro t _
  by_cases et : t = 6 * s + 0
  · subst et
    rw [va_up_self, xP_0]
    simp [up2]
  · rw [va_up_ne _ _ et]
    have hq : t / 6 ≠ s ∨ t % 6 ≠ 0 := by omega
    unfold xP
    rcases hq with hq | hq
    · simp [up2, hq]
    · simp [up2, hq]
theorem xSv_21 (h : Nat) (a : Nat → Nat) (e : Nat) (cI cJ cO cE : ClassId) (L : Nat → Int64) (I : Nat → Int32) (M : Nat → Nat → Int64) (J : Nat → Nat → Int32) (n cap : Nat) (fE : Nat → Option Nat) (sd : Nat → Nat → Nat) (si : Nat → Nat → Int32) (sa : Nat → Nat → Nat → Int32) (dl : Nat → Nat) {s : Nat} (hs : s < n) (x : Int32) : (xW h a e cI cJ cO cE L I M J n cap fE sd si sa dl).set (22 + (6 * s + 2)) (sd s 2, .inr (7, [.ref (sd s 3), .int x, .int (si s 22), .int (si s 23), .int (si s 24), .int (si s 25)])) = xW h a e cI cJ cO cE L I M J n cap fE sd (up2 si s 21 x) sa dl := by
  rw [xSet h a e cI cJ cO cE L I M J n cap fE sd si sa dl (by omega)]
  unfold xW
  congr 2
  apply List.map_congr_left
  intro t _
  by_cases et : t = 6 * s + 2
  · subst et
    rw [va_up_self, xP_2]
    simp [up2]
  · rw [va_up_ne _ _ et]
    have hq : t / 6 ≠ s ∨ t % 6 ≠ 2 := by omega
    unfold xP
    rcases hq with hq | hq
    · simp [up2, hq]
    · simp [up2, hq]
theorem xSv_22 (h : Nat) (a : Nat → Nat) (e : Nat) (cI cJ cO cE : ClassId) (L : Nat → Int64) (I : Nat → Int32) (M : Nat → Nat → Int64) (J : Nat → Nat → Int32) (n cap : Nat) (fE : Nat → Option Nat) (sd : Nat → Nat → Nat) (si : Nat → Nat → Int32) (sa : Nat → Nat → Nat → Int32) (dl : Nat → Nat) {s : Nat} (hs : s < n) (x : Int32) : (xW h a e cI cJ cO cE L I M J n cap fE sd si sa dl).set (22 + (6 * s + 2)) (sd s 2, .inr (7, [.ref (sd s 3), .int (si s 21), .int x, .int (si s 23), .int (si s 24), .int (si s 25)])) = xW h a e cI cJ cO cE L I M J n cap fE sd (up2 si s 22 x) sa dl := by
  rw [xSet h a e cI cJ cO cE L I M J n cap fE sd si sa dl (by omega)]
  unfold xW
  congr 2
  apply List.map_congr_left
  intro t _
  by_cases et : t = 6 * s + 2
  · subst et
    rw [va_up_self, xP_2]
    simp [up2]
  · rw [va_up_ne _ _ et]
    have hq : t / 6 ≠ s ∨ t % 6 ≠ 2 := by omega
    unfold xP
    rcases hq with hq | hq
    · simp [up2, hq]
    · simp [up2, hq]
theorem xSv_23 (h : Nat) (a : Nat → Nat) (e : Nat) (cI cJ cO cE : ClassId) (L : Nat → Int64) (I : Nat → Int32) (M : Nat → Nat → Int64) (J : Nat → Nat → Int32) (n cap : Nat) (fE : Nat → Option Nat) (sd : Nat → Nat → Nat) (si : Nat → Nat → Int32) (sa : Nat → Nat → Nat → Int32) (dl : Nat → Nat) {s : Nat} (hs : s < n) (x : Int32) : (xW h a e cI cJ cO cE L I M J n cap fE sd si sa dl).set (22 + (6 * s + 2)) (sd s 2, .inr (7, [.ref (sd s 3), .int (si s 21), .int (si s 22), .int x, .int (si s 24), .int (si s 25)])) = xW h a e cI cJ cO cE L I M J n cap fE sd (up2 si s 23 x) sa dl := by
  rw [xSet h a e cI cJ cO cE L I M J n cap fE sd si sa dl (by omega)]
  unfold xW
  congr 2
  apply List.map_congr_left
  intro t _
  by_cases et : t = 6 * s + 2
  · subst et
    rw [va_up_self, xP_2]
    simp [up2]
  · rw [va_up_ne _ _ et]
    have hq : t / 6 ≠ s ∨ t % 6 ≠ 2 := by omega
    unfold xP
    rcases hq with hq | hq
    · simp [up2, hq]
    · simp [up2, hq]
theorem xSv_24 (h : Nat) (a : Nat → Nat) (e : Nat) (cI cJ cO cE : ClassId) (L : Nat → Int64) (I : Nat → Int32) (M : Nat → Nat → Int64) (J : Nat → Nat → Int32) (n cap : Nat) (fE : Nat → Option Nat) (sd : Nat → Nat → Nat) (si : Nat → Nat → Int32) (sa : Nat → Nat → Nat → Int32) (dl : Nat → Nat) {s : Nat} (hs : s < n) (x : Int32) : (xW h a e cI cJ cO cE L I M J n cap fE sd si sa dl).set (22 + (6 * s + 2)) (sd s 2, .inr (7, [.ref (sd s 3), .int (si s 21), .int (si s 22), .int (si s 23), .int x, .int (si s 25)])) = xW h a e cI cJ cO cE L I M J n cap fE sd (up2 si s 24 x) sa dl := by
  rw [xSet h a e cI cJ cO cE L I M J n cap fE sd si sa dl (by omega)]
  unfold xW
  congr 2
  apply List.map_congr_left
  intro t _
  by_cases et : t = 6 * s + 2
  · subst et
    rw [va_up_self, xP_2]
    simp [up2]
  · rw [va_up_ne _ _ et]
    have hq : t / 6 ≠ s ∨ t % 6 ≠ 2 := by omega
    unfold xP
    rcases hq with hq | hq
    · simp [up2, hq]
    · simp [up2, hq]
theorem xSv_25 (h : Nat) (a : Nat → Nat) (e : Nat) (cI cJ cO cE : ClassId) (L : Nat → Int64) (I : Nat → Int32) (M : Nat → Nat → Int64) (J : Nat → Nat → Int32) (n cap : Nat) (fE : Nat → Option Nat) (sd : Nat → Nat → Nat) (si : Nat → Nat → Int32) (sa : Nat → Nat → Nat → Int32) (dl : Nat → Nat) {s : Nat} (hs : s < n) (x : Int32) : (xW h a e cI cJ cO cE L I M J n cap fE sd si sa dl).set (22 + (6 * s + 2)) (sd s 2, .inr (7, [.ref (sd s 3), .int (si s 21), .int (si s 22), .int (si s 23), .int (si s 24), .int x])) = xW h a e cI cJ cO cE L I M J n cap fE sd (up2 si s 25 x) sa dl := by
  rw [xSet h a e cI cJ cO cE L I M J n cap fE sd si sa dl (by omega)]
  unfold xW
  congr 2
  apply List.map_congr_left
  intro t _
  by_cases et : t = 6 * s + 2
  · subst et
    rw [va_up_self, xP_2]
    simp [up2]
  · rw [va_up_ne _ _ et]
    have hq : t / 6 ≠ s ∨ t % 6 ≠ 2 := by omega
    unfold xP
    rcases hq with hq | hq
    · simp [up2, hq]
    · simp [up2, hq]
theorem xSv_31 (h : Nat) (a : Nat → Nat) (e : Nat) (cI cJ cO cE : ClassId) (L : Nat → Int64) (I : Nat → Int32) (M : Nat → Nat → Int64) (J : Nat → Nat → Int32) (n cap : Nat) (fE : Nat → Option Nat) (sd : Nat → Nat → Nat) (si : Nat → Nat → Int32) (sa : Nat → Nat → Nat → Int32) (dl : Nat → Nat) {s : Nat} (hs : s < n) (x : Int32) : (xW h a e cI cJ cO cE L I M J n cap fE sd si sa dl).set (22 + (6 * s + 4)) (sd s 4, .inr (1, [.ref (sd s 5), .int x, .int (si s 32), .int (si s 33), .int (si s 34)])) = xW h a e cI cJ cO cE L I M J n cap fE sd (up2 si s 31 x) sa dl := by
  rw [xSet h a e cI cJ cO cE L I M J n cap fE sd si sa dl (by omega)]
  unfold xW
  congr 2
  apply List.map_congr_left
  intro t _
  by_cases et : t = 6 * s + 4
  · subst et
    rw [va_up_self, xP_4]
    simp [up2]
  · rw [va_up_ne _ _ et]
    have hq : t / 6 ≠ s ∨ t % 6 ≠ 4 := by omega
    unfold xP
    rcases hq with hq | hq
    · simp [up2, hq]
    · simp [up2, hq]
theorem xSv_32 (h : Nat) (a : Nat → Nat) (e : Nat) (cI cJ cO cE : ClassId) (L : Nat → Int64) (I : Nat → Int32) (M : Nat → Nat → Int64) (J : Nat → Nat → Int32) (n cap : Nat) (fE : Nat → Option Nat) (sd : Nat → Nat → Nat) (si : Nat → Nat → Int32) (sa : Nat → Nat → Nat → Int32) (dl : Nat → Nat) {s : Nat} (hs : s < n) (x : Int32) : (xW h a e cI cJ cO cE L I M J n cap fE sd si sa dl).set (22 + (6 * s + 4)) (sd s 4, .inr (1, [.ref (sd s 5), .int (si s 31), .int x, .int (si s 33), .int (si s 34)])) = xW h a e cI cJ cO cE L I M J n cap fE sd (up2 si s 32 x) sa dl := by
  rw [xSet h a e cI cJ cO cE L I M J n cap fE sd si sa dl (by omega)]
  unfold xW
  congr 2
  apply List.map_congr_left
  intro t _
  by_cases et : t = 6 * s + 4
  · subst et
    rw [va_up_self, xP_4]
    simp [up2]
  · rw [va_up_ne _ _ et]
    have hq : t / 6 ≠ s ∨ t % 6 ≠ 4 := by omega
    unfold xP
    rcases hq with hq | hq
    · simp [up2, hq]
    · simp [up2, hq]
theorem xSv_33 (h : Nat) (a : Nat → Nat) (e : Nat) (cI cJ cO cE : ClassId) (L : Nat → Int64) (I : Nat → Int32) (M : Nat → Nat → Int64) (J : Nat → Nat → Int32) (n cap : Nat) (fE : Nat → Option Nat) (sd : Nat → Nat → Nat) (si : Nat → Nat → Int32) (sa : Nat → Nat → Nat → Int32) (dl : Nat → Nat) {s : Nat} (hs : s < n) (x : Int32) : (xW h a e cI cJ cO cE L I M J n cap fE sd si sa dl).set (22 + (6 * s + 4)) (sd s 4, .inr (1, [.ref (sd s 5), .int (si s 31), .int (si s 32), .int x, .int (si s 34)])) = xW h a e cI cJ cO cE L I M J n cap fE sd (up2 si s 33 x) sa dl := by
  rw [xSet h a e cI cJ cO cE L I M J n cap fE sd si sa dl (by omega)]
  unfold xW
  congr 2
  apply List.map_congr_left
  intro t _
  by_cases et : t = 6 * s + 4
  · subst et
    rw [va_up_self, xP_4]
    simp [up2]
  · rw [va_up_ne _ _ et]
    have hq : t / 6 ≠ s ∨ t % 6 ≠ 4 := by omega
    unfold xP
    rcases hq with hq | hq
    · simp [up2, hq]
    · simp [up2, hq]
theorem xSv_34 (h : Nat) (a : Nat → Nat) (e : Nat) (cI cJ cO cE : ClassId) (L : Nat → Int64) (I : Nat → Int32) (M : Nat → Nat → Int64) (J : Nat → Nat → Int32) (n cap : Nat) (fE : Nat → Option Nat) (sd : Nat → Nat → Nat) (si : Nat → Nat → Int32) (sa : Nat → Nat → Nat → Int32) (dl : Nat → Nat) {s : Nat} (hs : s < n) (x : Int32) : (xW h a e cI cJ cO cE L I M J n cap fE sd si sa dl).set (22 + (6 * s + 4)) (sd s 4, .inr (1, [.ref (sd s 5), .int (si s 31), .int (si s 32), .int (si s 33), .int x])) = xW h a e cI cJ cO cE L I M J n cap fE sd (up2 si s 34 x) sa dl := by
  rw [xSet h a e cI cJ cO cE L I M J n cap fE sd si sa dl (by omega)]
  unfold xW
  congr 2
  apply List.map_congr_left
  intro t _
  by_cases et : t = 6 * s + 4
  · subst et
    rw [va_up_self, xP_4]
    simp [up2]
  · rw [va_up_ne _ _ et]
    have hq : t / 6 ≠ s ∨ t % 6 ≠ 4 := by omega
    unfold xP
    rcases hq with hq | hq
    · simp [up2, hq]
    · simp [up2, hq]
theorem xSa_1 (h : Nat) (a : Nat → Nat) (e : Nat) (cI cJ cO cE : ClassId) (L : Nat → Int64) (I : Nat → Int32) (M : Nat → Nat → Int64) (J : Nat → Nat → Int32) (n cap : Nat) (fE : Nat → Option Nat) (sd : Nat → Nat → Nat) (si : Nat → Nat → Int32) (sa : Nat → Nat → Nat → Int32) (dl : Nat → Nat) {s : Nat} (hs : s < n) (g : Nat → Int32) : (xW h a e cI cJ cO cE L I M J n cap fE sd si sa dl).set (22 + (6 * s + 1)) (sd s 1, .inl (cI, 8, .inl g)) = xW h a e cI cJ cO cE L I M J n cap fE sd si (up2 sa s 1 g) dl := by
  rw [xSet h a e cI cJ cO cE L I M J n cap fE sd si sa dl (by omega)]
  unfold xW
  congr 2
  apply List.map_congr_left
  intro t _
  by_cases et : t = 6 * s + 1
  · subst et
    rw [va_up_self, xP_1]
    simp [up2]
  · rw [va_up_ne _ _ et]
    have hq : t / 6 ≠ s ∨ t % 6 ≠ 1 := by omega
    unfold xP
    rcases hq with hq | hq
    · simp [up2, hq]
    · simp [up2, hq]
theorem xSa_3 (h : Nat) (a : Nat → Nat) (e : Nat) (cI cJ cO cE : ClassId) (L : Nat → Int64) (I : Nat → Int32) (M : Nat → Nat → Int64) (J : Nat → Nat → Int32) (n cap : Nat) (fE : Nat → Option Nat) (sd : Nat → Nat → Nat) (si : Nat → Nat → Int32) (sa : Nat → Nat → Nat → Int32) (dl : Nat → Nat) {s : Nat} (hs : s < n) (g : Nat → Int32) : (xW h a e cI cJ cO cE L I M J n cap fE sd si sa dl).set (22 + (6 * s + 3)) (sd s 3, .inl (cI, 10, .inl g)) = xW h a e cI cJ cO cE L I M J n cap fE sd si (up2 sa s 3 g) dl := by
  rw [xSet h a e cI cJ cO cE L I M J n cap fE sd si sa dl (by omega)]
  unfold xW
  congr 2
  apply List.map_congr_left
  intro t _
  by_cases et : t = 6 * s + 3
  · subst et
    rw [va_up_self, xP_3]
    simp [up2]
  · rw [va_up_ne _ _ et]
    have hq : t / 6 ≠ s ∨ t % 6 ≠ 3 := by omega
    unfold xP
    rcases hq with hq | hq
    · simp [up2, hq]
    · simp [up2, hq]
theorem xSa_5 (h : Nat) (a : Nat → Nat) (e : Nat) (cI cJ cO cE : ClassId) (L : Nat → Int64) (I : Nat → Int32) (M : Nat → Nat → Int64) (J : Nat → Nat → Int32) (n cap : Nat) (fE : Nat → Option Nat) (sd : Nat → Nat → Nat) (si : Nat → Nat → Int32) (sa : Nat → Nat → Nat → Int32) (dl : Nat → Nat) {s : Nat} (hs : s < n) (g : Nat → Int32) : (xW h a e cI cJ cO cE L I M J n cap fE sd si sa dl).set (22 + (6 * s + 5)) (sd s 5, .inl (cI, dl s, .inl g)) = xW h a e cI cJ cO cE L I M J n cap fE sd si (up2 sa s 5 g) dl := by
  rw [xSet h a e cI cJ cO cE L I M J n cap fE sd si sa dl (by omega)]
  unfold xW
  congr 2
  apply List.map_congr_left
  intro t _
  by_cases et : t = 6 * s + 5
  · subst et
    rw [va_up_self, xP_5]
    simp [up2]
  · rw [va_up_ne _ _ et]
    have hq : t / 6 ≠ s ∨ t % 6 ≠ 5 := by omega
    unfold xP
    rcases hq with hq | hq
    · simp [up2, hq]
    · rcases (show t % 6 = 0 ∨ t % 6 = 1 ∨ t % 6 = 2 ∨ t % 6 = 3 ∨ t % 6 = 4 by omega) with h9 | h9 | h9 | h9 | h9 <;> simp [up2, h9]
theorem xF_L0 (h : Nat) (a : Nat → Nat) (e : Nat) (cI cJ cO cE : ClassId) (L : Nat → Int64) (I : Nat → Int32) (M : Nat → Nat → Int64) (J : Nat → Nat → Int32) (n cap : Nat) (fE : Nat → Option Nat) (sd : Nat → Nat → Nat) (si : Nat → Nat → Int32) (sa : Nat → Nat → Nat → Int32) (dl : Nat → Nat) (x : Int64) : (xW h a e cI cJ cO cE L I M J n cap fE sd si sa dl).set 0 (h, .inr (9, [.ref (a 0), .ref (a 1), .ref (a 2), .ref (a 3), .ref (a 4), .ref (a 5), .ref (a 6), .long x, .long (L 1), .int (I 0), .int (I 1), .int (I 2), .int (I 3), .int (I 4)])) = xW h a e cI cJ cO cE (va_up L 0 x) I M J n cap fE sd si sa dl := by simp [xW, xFix, va_up]
theorem xF_L1 (h : Nat) (a : Nat → Nat) (e : Nat) (cI cJ cO cE : ClassId) (L : Nat → Int64) (I : Nat → Int32) (M : Nat → Nat → Int64) (J : Nat → Nat → Int32) (n cap : Nat) (fE : Nat → Option Nat) (sd : Nat → Nat → Nat) (si : Nat → Nat → Int32) (sa : Nat → Nat → Nat → Int32) (dl : Nat → Nat) (x : Int64) : (xW h a e cI cJ cO cE L I M J n cap fE sd si sa dl).set 0 (h, .inr (9, [.ref (a 0), .ref (a 1), .ref (a 2), .ref (a 3), .ref (a 4), .ref (a 5), .ref (a 6), .long (L 0), .long x, .int (I 0), .int (I 1), .int (I 2), .int (I 3), .int (I 4)])) = xW h a e cI cJ cO cE (va_up L 1 x) I M J n cap fE sd si sa dl := by simp [xW, xFix, va_up]
theorem xF_I0 (h : Nat) (a : Nat → Nat) (e : Nat) (cI cJ cO cE : ClassId) (L : Nat → Int64) (I : Nat → Int32) (M : Nat → Nat → Int64) (J : Nat → Nat → Int32) (n cap : Nat) (fE : Nat → Option Nat) (sd : Nat → Nat → Nat) (si : Nat → Nat → Int32) (sa : Nat → Nat → Nat → Int32) (dl : Nat → Nat) (x : Int32) : (xW h a e cI cJ cO cE L I M J n cap fE sd si sa dl).set 0 (h, .inr (9, [.ref (a 0), .ref (a 1), .ref (a 2), .ref (a 3), .ref (a 4), .ref (a 5), .ref (a 6), .long (L 0), .long (L 1), .int x, .int (I 1), .int (I 2), .int (I 3), .int (I 4)])) = xW h a e cI cJ cO cE L (va_up I 0 x) M J n cap fE sd si sa dl := by simp [xW, xFix, va_up]
theorem xF_I1 (h : Nat) (a : Nat → Nat) (e : Nat) (cI cJ cO cE : ClassId) (L : Nat → Int64) (I : Nat → Int32) (M : Nat → Nat → Int64) (J : Nat → Nat → Int32) (n cap : Nat) (fE : Nat → Option Nat) (sd : Nat → Nat → Nat) (si : Nat → Nat → Int32) (sa : Nat → Nat → Nat → Int32) (dl : Nat → Nat) (x : Int32) : (xW h a e cI cJ cO cE L I M J n cap fE sd si sa dl).set 0 (h, .inr (9, [.ref (a 0), .ref (a 1), .ref (a 2), .ref (a 3), .ref (a 4), .ref (a 5), .ref (a 6), .long (L 0), .long (L 1), .int (I 0), .int x, .int (I 2), .int (I 3), .int (I 4)])) = xW h a e cI cJ cO cE L (va_up I 1 x) M J n cap fE sd si sa dl := by simp [xW, xFix, va_up]
theorem xF_I2 (h : Nat) (a : Nat → Nat) (e : Nat) (cI cJ cO cE : ClassId) (L : Nat → Int64) (I : Nat → Int32) (M : Nat → Nat → Int64) (J : Nat → Nat → Int32) (n cap : Nat) (fE : Nat → Option Nat) (sd : Nat → Nat → Nat) (si : Nat → Nat → Int32) (sa : Nat → Nat → Nat → Int32) (dl : Nat → Nat) (x : Int32) : (xW h a e cI cJ cO cE L I M J n cap fE sd si sa dl).set 0 (h, .inr (9, [.ref (a 0), .ref (a 1), .ref (a 2), .ref (a 3), .ref (a 4), .ref (a 5), .ref (a 6), .long (L 0), .long (L 1), .int (I 0), .int (I 1), .int x, .int (I 3), .int (I 4)])) = xW h a e cI cJ cO cE L (va_up I 2 x) M J n cap fE sd si sa dl := by simp [xW, xFix, va_up]
theorem xF_I3 (h : Nat) (a : Nat → Nat) (e : Nat) (cI cJ cO cE : ClassId) (L : Nat → Int64) (I : Nat → Int32) (M : Nat → Nat → Int64) (J : Nat → Nat → Int32) (n cap : Nat) (fE : Nat → Option Nat) (sd : Nat → Nat → Nat) (si : Nat → Nat → Int32) (sa : Nat → Nat → Nat → Int32) (dl : Nat → Nat) (x : Int32) : (xW h a e cI cJ cO cE L I M J n cap fE sd si sa dl).set 0 (h, .inr (9, [.ref (a 0), .ref (a 1), .ref (a 2), .ref (a 3), .ref (a 4), .ref (a 5), .ref (a 6), .long (L 0), .long (L 1), .int (I 0), .int (I 1), .int (I 2), .int x, .int (I 4)])) = xW h a e cI cJ cO cE L (va_up I 3 x) M J n cap fE sd si sa dl := by simp [xW, xFix, va_up]
theorem xF_I4 (h : Nat) (a : Nat → Nat) (e : Nat) (cI cJ cO cE : ClassId) (L : Nat → Int64) (I : Nat → Int32) (M : Nat → Nat → Int64) (J : Nat → Nat → Int32) (n cap : Nat) (fE : Nat → Option Nat) (sd : Nat → Nat → Nat) (si : Nat → Nat → Int32) (sa : Nat → Nat → Nat → Int32) (dl : Nat → Nat) (x : Int32) : (xW h a e cI cJ cO cE L I M J n cap fE sd si sa dl).set 0 (h, .inr (9, [.ref (a 0), .ref (a 1), .ref (a 2), .ref (a 3), .ref (a 4), .ref (a 5), .ref (a 6), .long (L 0), .long (L 1), .int (I 0), .int (I 1), .int (I 2), .int (I 3), .int x])) = xW h a e cI cJ cO cE L (va_up I 4 x) M J n cap fE sd si sa dl := by simp [xW, xFix, va_up]
theorem xF_I5 (h : Nat) (a : Nat → Nat) (e : Nat) (cI cJ cO cE : ClassId) (L : Nat → Int64) (I : Nat → Int32) (M : Nat → Nat → Int64) (J : Nat → Nat → Int32) (n cap : Nat) (fE : Nat → Option Nat) (sd : Nat → Nat → Nat) (si : Nat → Nat → Int32) (sa : Nat → Nat → Nat → Int32) (dl : Nat → Nat) (x : Int32) : (xW h a e cI cJ cO cE L I M J n cap fE sd si sa dl).set 1 (a 0, .inr (0, [.int x, .ref e, .int (I 6)])) = xW h a e cI cJ cO cE L (va_up I 5 x) M J n cap fE sd si sa dl := by simp [xW, xFix, va_up]
theorem xF_I6 (h : Nat) (a : Nat → Nat) (e : Nat) (cI cJ cO cE : ClassId) (L : Nat → Int64) (I : Nat → Int32) (M : Nat → Nat → Int64) (J : Nat → Nat → Int32) (n cap : Nat) (fE : Nat → Option Nat) (sd : Nat → Nat → Nat) (si : Nat → Nat → Int32) (sa : Nat → Nat → Nat → Int32) (dl : Nat → Nat) (x : Int32) : (xW h a e cI cJ cO cE L I M J n cap fE sd si sa dl).set 1 (a 0, .inr (0, [.int (I 5), .ref e, .int x])) = xW h a e cI cJ cO cE L (va_up I 6 x) M J n cap fE sd si sa dl := by simp [xW, xFix, va_up]
theorem xF_I7 (h : Nat) (a : Nat → Nat) (e : Nat) (cI cJ cO cE : ClassId) (L : Nat → Int64) (I : Nat → Int32) (M : Nat → Nat → Int64) (J : Nat → Nat → Int32) (n cap : Nat) (fE : Nat → Option Nat) (sd : Nat → Nat → Nat) (si : Nat → Nat → Int32) (sa : Nat → Nat → Nat → Int32) (dl : Nat → Nat) (x : Int32) : (xW h a e cI cJ cO cE L I M J n cap fE sd si sa dl).set 2 (a 1, .inr (6, [.ref (a 10), .ref (a 11), .int x])) = xW h a e cI cJ cO cE L (va_up I 7 x) M J n cap fE sd si sa dl := by simp [xW, xFix, va_up]
theorem xF_L2 (h : Nat) (a : Nat → Nat) (e : Nat) (cI cJ cO cE : ClassId) (L : Nat → Int64) (I : Nat → Int32) (M : Nat → Nat → Int64) (J : Nat → Nat → Int32) (n cap : Nat) (fE : Nat → Option Nat) (sd : Nat → Nat → Nat) (si : Nat → Nat → Int32) (sa : Nat → Nat → Nat → Int32) (dl : Nat → Nat) (x : Int64) : (xW h a e cI cJ cO cE L I M J n cap fE sd si sa dl).set 13 (a 2, .inr (2, [.ref (a 1), .long x, .long (L 3), .long (L 4), .int (I 8)])) = xW h a e cI cJ cO cE (va_up L 2 x) I M J n cap fE sd si sa dl := by simp [xW, xFix, va_up]
theorem xF_L3 (h : Nat) (a : Nat → Nat) (e : Nat) (cI cJ cO cE : ClassId) (L : Nat → Int64) (I : Nat → Int32) (M : Nat → Nat → Int64) (J : Nat → Nat → Int32) (n cap : Nat) (fE : Nat → Option Nat) (sd : Nat → Nat → Nat) (si : Nat → Nat → Int32) (sa : Nat → Nat → Nat → Int32) (dl : Nat → Nat) (x : Int64) : (xW h a e cI cJ cO cE L I M J n cap fE sd si sa dl).set 13 (a 2, .inr (2, [.ref (a 1), .long (L 2), .long x, .long (L 4), .int (I 8)])) = xW h a e cI cJ cO cE (va_up L 3 x) I M J n cap fE sd si sa dl := by simp [xW, xFix, va_up]
theorem xF_L4 (h : Nat) (a : Nat → Nat) (e : Nat) (cI cJ cO cE : ClassId) (L : Nat → Int64) (I : Nat → Int32) (M : Nat → Nat → Int64) (J : Nat → Nat → Int32) (n cap : Nat) (fE : Nat → Option Nat) (sd : Nat → Nat → Nat) (si : Nat → Nat → Int32) (sa : Nat → Nat → Nat → Int32) (dl : Nat → Nat) (x : Int64) : (xW h a e cI cJ cO cE L I M J n cap fE sd si sa dl).set 13 (a 2, .inr (2, [.ref (a 1), .long (L 2), .long (L 3), .long x, .int (I 8)])) = xW h a e cI cJ cO cE (va_up L 4 x) I M J n cap fE sd si sa dl := by simp [xW, xFix, va_up]
theorem xF_I8 (h : Nat) (a : Nat → Nat) (e : Nat) (cI cJ cO cE : ClassId) (L : Nat → Int64) (I : Nat → Int32) (M : Nat → Nat → Int64) (J : Nat → Nat → Int32) (n cap : Nat) (fE : Nat → Option Nat) (sd : Nat → Nat → Nat) (si : Nat → Nat → Int32) (sa : Nat → Nat → Nat → Int32) (dl : Nat → Nat) (x : Int32) : (xW h a e cI cJ cO cE L I M J n cap fE sd si sa dl).set 13 (a 2, .inr (2, [.ref (a 1), .long (L 2), .long (L 3), .long (L 4), .int x])) = xW h a e cI cJ cO cE L (va_up I 8 x) M J n cap fE sd si sa dl := by simp [xW, xFix, va_up]
theorem xF_L5 (h : Nat) (a : Nat → Nat) (e : Nat) (cI cJ cO cE : ClassId) (L : Nat → Int64) (I : Nat → Int32) (M : Nat → Nat → Int64) (J : Nat → Nat → Int32) (n cap : Nat) (fE : Nat → Option Nat) (sd : Nat → Nat → Nat) (si : Nat → Nat → Int32) (sa : Nat → Nat → Nat → Int32) (dl : Nat → Nat) (x : Int64) : (xW h a e cI cJ cO cE L I M J n cap fE sd si sa dl).set 14 (a 3, .inr (4, [.ref (a 1), .long x, .long (L 6), .long (L 7)])) = xW h a e cI cJ cO cE (va_up L 5 x) I M J n cap fE sd si sa dl := by simp [xW, xFix, va_up]
theorem xF_L6 (h : Nat) (a : Nat → Nat) (e : Nat) (cI cJ cO cE : ClassId) (L : Nat → Int64) (I : Nat → Int32) (M : Nat → Nat → Int64) (J : Nat → Nat → Int32) (n cap : Nat) (fE : Nat → Option Nat) (sd : Nat → Nat → Nat) (si : Nat → Nat → Int32) (sa : Nat → Nat → Nat → Int32) (dl : Nat → Nat) (x : Int64) : (xW h a e cI cJ cO cE L I M J n cap fE sd si sa dl).set 14 (a 3, .inr (4, [.ref (a 1), .long (L 5), .long x, .long (L 7)])) = xW h a e cI cJ cO cE (va_up L 6 x) I M J n cap fE sd si sa dl := by simp [xW, xFix, va_up]
theorem xF_L7 (h : Nat) (a : Nat → Nat) (e : Nat) (cI cJ cO cE : ClassId) (L : Nat → Int64) (I : Nat → Int32) (M : Nat → Nat → Int64) (J : Nat → Nat → Int32) (n cap : Nat) (fE : Nat → Option Nat) (sd : Nat → Nat → Nat) (si : Nat → Nat → Int32) (sa : Nat → Nat → Nat → Int32) (dl : Nat → Nat) (x : Int64) : (xW h a e cI cJ cO cE L I M J n cap fE sd si sa dl).set 14 (a 3, .inr (4, [.ref (a 1), .long (L 5), .long (L 6), .long x])) = xW h a e cI cJ cO cE (va_up L 7 x) I M J n cap fE sd si sa dl := by simp [xW, xFix, va_up]
theorem xF_L8 (h : Nat) (a : Nat → Nat) (e : Nat) (cI cJ cO cE : ClassId) (L : Nat → Int64) (I : Nat → Int32) (M : Nat → Nat → Int64) (J : Nat → Nat → Int32) (n cap : Nat) (fE : Nat → Option Nat) (sd : Nat → Nat → Nat) (si : Nat → Nat → Int32) (sa : Nat → Nat → Nat → Int32) (dl : Nat → Nat) (x : Int64) : (xW h a e cI cJ cO cE L I M J n cap fE sd si sa dl).set 15 (a 4, .inr (5, [.ref (a 12), .ref (a 13), .ref (a 14), .long x, .int (I 9), .int (I 10), .int (I 11)])) = xW h a e cI cJ cO cE (va_up L 8 x) I M J n cap fE sd si sa dl := by simp [xW, xFix, va_up]
theorem xF_I9 (h : Nat) (a : Nat → Nat) (e : Nat) (cI cJ cO cE : ClassId) (L : Nat → Int64) (I : Nat → Int32) (M : Nat → Nat → Int64) (J : Nat → Nat → Int32) (n cap : Nat) (fE : Nat → Option Nat) (sd : Nat → Nat → Nat) (si : Nat → Nat → Int32) (sa : Nat → Nat → Nat → Int32) (dl : Nat → Nat) (x : Int32) : (xW h a e cI cJ cO cE L I M J n cap fE sd si sa dl).set 15 (a 4, .inr (5, [.ref (a 12), .ref (a 13), .ref (a 14), .long (L 8), .int x, .int (I 10), .int (I 11)])) = xW h a e cI cJ cO cE L (va_up I 9 x) M J n cap fE sd si sa dl := by simp [xW, xFix, va_up]
theorem xF_I10 (h : Nat) (a : Nat → Nat) (e : Nat) (cI cJ cO cE : ClassId) (L : Nat → Int64) (I : Nat → Int32) (M : Nat → Nat → Int64) (J : Nat → Nat → Int32) (n cap : Nat) (fE : Nat → Option Nat) (sd : Nat → Nat → Nat) (si : Nat → Nat → Int32) (sa : Nat → Nat → Nat → Int32) (dl : Nat → Nat) (x : Int32) : (xW h a e cI cJ cO cE L I M J n cap fE sd si sa dl).set 15 (a 4, .inr (5, [.ref (a 12), .ref (a 13), .ref (a 14), .long (L 8), .int (I 9), .int x, .int (I 11)])) = xW h a e cI cJ cO cE L (va_up I 10 x) M J n cap fE sd si sa dl := by simp [xW, xFix, va_up]
theorem xF_I11 (h : Nat) (a : Nat → Nat) (e : Nat) (cI cJ cO cE : ClassId) (L : Nat → Int64) (I : Nat → Int32) (M : Nat → Nat → Int64) (J : Nat → Nat → Int32) (n cap : Nat) (fE : Nat → Option Nat) (sd : Nat → Nat → Nat) (si : Nat → Nat → Int32) (sa : Nat → Nat → Nat → Int32) (dl : Nat → Nat) (x : Int32) : (xW h a e cI cJ cO cE L I M J n cap fE sd si sa dl).set 15 (a 4, .inr (5, [.ref (a 12), .ref (a 13), .ref (a 14), .long (L 8), .int (I 9), .int (I 10), .int x])) = xW h a e cI cJ cO cE L (va_up I 11 x) M J n cap fE sd si sa dl := by simp [xW, xFix, va_up]
theorem xF_I12 (h : Nat) (a : Nat → Nat) (e : Nat) (cI cJ cO cE : ClassId) (L : Nat → Int64) (I : Nat → Int32) (M : Nat → Nat → Int64) (J : Nat → Nat → Int32) (n cap : Nat) (fE : Nat → Option Nat) (sd : Nat → Nat → Nat) (si : Nat → Nat → Int32) (sa : Nat → Nat → Nat → Int32) (dl : Nat → Nat) (x : Int32) : (xW h a e cI cJ cO cE L I M J n cap fE sd si sa dl).set 19 (a 5, .inr (3, [.ref (a 15), .int x])) = xW h a e cI cJ cO cE L (va_up I 12 x) M J n cap fE sd si sa dl := by simp [xW, xFix, va_up]
theorem xM_0 (h : Nat) (a : Nat → Nat) (e : Nat) (cI cJ cO cE : ClassId) (L : Nat → Int64) (I : Nat → Int32) (M : Nat → Nat → Int64) (J : Nat → Nat → Int32) (n cap : Nat) (fE : Nat → Option Nat) (sd : Nat → Nat → Nat) (si : Nat → Nat → Int32) (sa : Nat → Nat → Nat → Int32) (dl : Nat → Nat) (g : Nat → Int64) : (xW h a e cI cJ cO cE L I M J n cap fE sd si sa dl).set 5 (a 20, .inl (cJ, 40, .inr (.inl g))) = xW h a e cI cJ cO cE L I (va_up M 0 g) J n cap fE sd si sa dl := by simp [xW, xFix, va_up]
theorem xM_1 (h : Nat) (a : Nat → Nat) (e : Nat) (cI cJ cO cE : ClassId) (L : Nat → Int64) (I : Nat → Int32) (M : Nat → Nat → Int64) (J : Nat → Nat → Int32) (n cap : Nat) (fE : Nat → Option Nat) (sd : Nat → Nat → Nat) (si : Nat → Nat → Int32) (sa : Nat → Nat → Nat → Int32) (dl : Nat → Nat) (g : Nat → Int64) : (xW h a e cI cJ cO cE L I M J n cap fE sd si sa dl).set 6 (a 21, .inl (cJ, 40, .inr (.inl g))) = xW h a e cI cJ cO cE L I (va_up M 1 g) J n cap fE sd si sa dl := by simp [xW, xFix, va_up]
theorem xM_2 (h : Nat) (a : Nat → Nat) (e : Nat) (cI cJ cO cE : ClassId) (L : Nat → Int64) (I : Nat → Int32) (M : Nat → Nat → Int64) (J : Nat → Nat → Int32) (n cap : Nat) (fE : Nat → Option Nat) (sd : Nat → Nat → Nat) (si : Nat → Nat → Int32) (sa : Nat → Nat → Nat → Int32) (dl : Nat → Nat) (g : Nat → Int64) : (xW h a e cI cJ cO cE L I M J n cap fE sd si sa dl).set 7 (a 22, .inl (cJ, 40, .inr (.inl g))) = xW h a e cI cJ cO cE L I (va_up M 2 g) J n cap fE sd si sa dl := by simp [xW, xFix, va_up]
theorem xM_3 (h : Nat) (a : Nat → Nat) (e : Nat) (cI cJ cO cE : ClassId) (L : Nat → Int64) (I : Nat → Int32) (M : Nat → Nat → Int64) (J : Nat → Nat → Int32) (n cap : Nat) (fE : Nat → Option Nat) (sd : Nat → Nat → Nat) (si : Nat → Nat → Int32) (sa : Nat → Nat → Nat → Int32) (dl : Nat → Nat) (g : Nat → Int64) : (xW h a e cI cJ cO cE L I M J n cap fE sd si sa dl).set 8 (a 23, .inl (cJ, 40, .inr (.inl g))) = xW h a e cI cJ cO cE L I (va_up M 3 g) J n cap fE sd si sa dl := by simp [xW, xFix, va_up]
theorem xM_4 (h : Nat) (a : Nat → Nat) (e : Nat) (cI cJ cO cE : ClassId) (L : Nat → Int64) (I : Nat → Int32) (M : Nat → Nat → Int64) (J : Nat → Nat → Int32) (n cap : Nat) (fE : Nat → Option Nat) (sd : Nat → Nat → Nat) (si : Nat → Nat → Int32) (sa : Nat → Nat → Nat → Int32) (dl : Nat → Nat) (g : Nat → Int64) : (xW h a e cI cJ cO cE L I M J n cap fE sd si sa dl).set 9 (a 24, .inl (cJ, 40, .inr (.inl g))) = xW h a e cI cJ cO cE L I (va_up M 4 g) J n cap fE sd si sa dl := by simp [xW, xFix, va_up]
theorem xM_5 (h : Nat) (a : Nat → Nat) (e : Nat) (cI cJ cO cE : ClassId) (L : Nat → Int64) (I : Nat → Int32) (M : Nat → Nat → Int64) (J : Nat → Nat → Int32) (n cap : Nat) (fE : Nat → Option Nat) (sd : Nat → Nat → Nat) (si : Nat → Nat → Int32) (sa : Nat → Nat → Nat → Int32) (dl : Nat → Nat) (g : Nat → Int64) : (xW h a e cI cJ cO cE L I M J n cap fE sd si sa dl).set 10 (a 25, .inl (cJ, 40, .inr (.inl g))) = xW h a e cI cJ cO cE L I (va_up M 5 g) J n cap fE sd si sa dl := by simp [xW, xFix, va_up]
theorem xM_6 (h : Nat) (a : Nat → Nat) (e : Nat) (cI cJ cO cE : ClassId) (L : Nat → Int64) (I : Nat → Int32) (M : Nat → Nat → Int64) (J : Nat → Nat → Int32) (n cap : Nat) (fE : Nat → Option Nat) (sd : Nat → Nat → Nat) (si : Nat → Nat → Int32) (sa : Nat → Nat → Nat → Int32) (dl : Nat → Nat) (g : Nat → Int64) : (xW h a e cI cJ cO cE L I M J n cap fE sd si sa dl).set 11 (a 26, .inl (cJ, 40, .inr (.inl g))) = xW h a e cI cJ cO cE L I (va_up M 6 g) J n cap fE sd si sa dl := by simp [xW, xFix, va_up]
theorem xM_7 (h : Nat) (a : Nat → Nat) (e : Nat) (cI cJ cO cE : ClassId) (L : Nat → Int64) (I : Nat → Int32) (M : Nat → Nat → Int64) (J : Nat → Nat → Int32) (n cap : Nat) (fE : Nat → Option Nat) (sd : Nat → Nat → Nat) (si : Nat → Nat → Int32) (sa : Nat → Nat → Nat → Int32) (dl : Nat → Nat) (g : Nat → Int64) : (xW h a e cI cJ cO cE L I M J n cap fE sd si sa dl).set 12 (a 27, .inl (cJ, 40, .inr (.inl g))) = xW h a e cI cJ cO cE L I (va_up M 7 g) J n cap fE sd si sa dl := by simp [xW, xFix, va_up]
theorem xM_8 (h : Nat) (a : Nat → Nat) (e : Nat) (cI cJ cO cE : ClassId) (L : Nat → Int64) (I : Nat → Int32) (M : Nat → Nat → Int64) (J : Nat → Nat → Int32) (n cap : Nat) (fE : Nat → Option Nat) (sd : Nat → Nat → Nat) (si : Nat → Nat → Int32) (sa : Nat → Nat → Nat → Int32) (dl : Nat → Nat) (g : Nat → Int64) : (xW h a e cI cJ cO cE L I M J n cap fE sd si sa dl).set 20 (a 15, .inl (cJ, 2000, .inr (.inl g))) = xW h a e cI cJ cO cE L I (va_up M 8 g) J n cap fE sd si sa dl := by simp [xW, xFix, va_up]
theorem xM_9 (h : Nat) (a : Nat → Nat) (e : Nat) (cI cJ cO cE : ClassId) (L : Nat → Int64) (I : Nat → Int32) (M : Nat → Nat → Int64) (J : Nat → Nat → Int32) (n cap : Nat) (fE : Nat → Option Nat) (sd : Nat → Nat → Nat) (si : Nat → Nat → Int32) (sa : Nat → Nat → Nat → Int32) (dl : Nat → Nat) (g : Nat → Int64) : (xW h a e cI cJ cO cE L I M J n cap fE sd si sa dl).set 21 (a 6, .inl (cJ, 6, .inr (.inl g))) = xW h a e cI cJ cO cE L I (va_up M 9 g) J n cap fE sd si sa dl := by simp [xW, xFix, va_up]
theorem xJ_0 (h : Nat) (a : Nat → Nat) (e : Nat) (cI cJ cO cE : ClassId) (L : Nat → Int64) (I : Nat → Int32) (M : Nat → Nat → Int64) (J : Nat → Nat → Int32) (n cap : Nat) (fE : Nat → Option Nat) (sd : Nat → Nat → Nat) (si : Nat → Nat → Int32) (sa : Nat → Nat → Nat → Int32) (dl : Nat → Nat) (g : Nat → Int32) : (xW h a e cI cJ cO cE L I M J n cap fE sd si sa dl).set 16 (a 12, .inl (cI, 40, .inl g)) = xW h a e cI cJ cO cE L I M (va_up J 0 g) n cap fE sd si sa dl := by simp [xW, xFix, va_up]
theorem xJ_1 (h : Nat) (a : Nat → Nat) (e : Nat) (cI cJ cO cE : ClassId) (L : Nat → Int64) (I : Nat → Int32) (M : Nat → Nat → Int64) (J : Nat → Nat → Int32) (n cap : Nat) (fE : Nat → Option Nat) (sd : Nat → Nat → Nat) (si : Nat → Nat → Int32) (sa : Nat → Nat → Nat → Int32) (dl : Nat → Nat) (g : Nat → Int32) : (xW h a e cI cJ cO cE L I M J n cap fE sd si sa dl).set 17 (a 13, .inl (cI, 40, .inl g)) = xW h a e cI cJ cO cE L I M (va_up J 1 g) n cap fE sd si sa dl := by simp [xW, xFix, va_up]
theorem xJ_2 (h : Nat) (a : Nat → Nat) (e : Nat) (cI cJ cO cE : ClassId) (L : Nat → Int64) (I : Nat → Int32) (M : Nat → Nat → Int64) (J : Nat → Nat → Int32) (n cap : Nat) (fE : Nat → Option Nat) (sd : Nat → Nat → Nat) (si : Nat → Nat → Int32) (sa : Nat → Nat → Nat → Int32) (dl : Nat → Nat) (g : Nat → Int32) : (xW h a e cI cJ cO cE L I M J n cap fE sd si sa dl).set 18 (a 14, .inl (cI, 40, .inl g)) = xW h a e cI cJ cO cE L I M (va_up J 2 g) n cap fE sd si sa dl := by simp [xW, xFix, va_up]
