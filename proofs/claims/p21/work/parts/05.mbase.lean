section
theorem wix {ws : List Cond} (ps : List Nat) (h : ws = ps.filterMap (fun i => lw_tbl[i]?)) : ∀ w ∈ ws, w ∈ lw_tbl := by
  intro w hw
  rw [h] at hw
  obtain ⟨i, -, hi⟩ := List.mem_filterMap.mp hw
  exact List.mem_of_getElem? hi
def mF (a : Nat → Nat) (V : Nat → Int32) : List Value := [.ref (a 0), .ref (a 1), .ref (a 2), .ref (a 3), .ref (a 4), .ref (a 5), .ref (a 6), .ref (a 7), .ref (a 8), .ref (a 9), .ref (a 10), .ref (a 11), .ref (a 12), .ref (a 13), .ref (a 14), .ref (a 15), .ref (a 16), .ref (a 17), .ref (a 18), .ref (a 19), .int (V 20), .int (V 21), .int (V 22), .int (V 23), .int (V 24), .ref (a 25), .ref (a 26), .ref (a 27), .ref (a 28), .ref (a 29), .ref (a 30), .ref (a 31), .ref (a 32), .int (V 33), .ref (a 34), .ref (a 35), .ref (a 36), .ref (a 37), .int (V 38), .int (V 39), .ref (a 40), .ref (a 41), .ref (a 42), .ref (a 43), .ref (a 44), .int (V 45)]
def mW (h : Nat) (a : Nat → Nat) (k : Nat → ClassId) (F : Nat → Nat → Int32) (V : Nat → Int32) : va_W := [(h, .inr (10, mF a V)), (a 0, .inl (k 0, 40, .inl (F 0))), (a 1, .inl (k 1, 40, .inl (F 1))), (a 2, .inl (k 2, 40, .inl (F 2))), (a 3, .inl (k 3, 320, .inl (F 3))), (a 4, .inl (k 4, 40, .inl (F 4))), (a 5, .inl (k 5, 40, .inl (F 5))), (a 6, .inl (k 6, 40, .inl (F 6))), (a 7, .inl (k 7, 40, .inl (F 7))), (a 8, .inl (k 8, 40, .inl (F 8))), (a 9, .inl (k 9, 40, .inl (F 9))), (a 10, .inl (k 10, 40, .inl (F 10))), (a 11, .inl (k 11, 40, .inl (F 11))), (a 12, .inl (k 12, 40, .inl (F 12))), (a 13, .inl (k 13, 400, .inl (F 13))), (a 14, .inl (k 14, 40, .inl (F 14))), (a 15, .inl (k 15, 40, .inl (F 15))), (a 16, .inl (k 16, 40, .inl (F 16))), (a 17, .inl (k 17, 800, .inl (F 17))), (a 18, .inl (k 18, 40, .inl (F 18))), (a 19, .inl (k 19, 6400, .inl (F 19))), (a 25, .inl (k 25, 40, .inl (F 25))), (a 26, .inl (k 26, 40, .inl (F 26))), (a 27, .inl (k 27, 40, .inl (F 27))), (a 28, .inl (k 28, 40, .inl (F 28))), (a 29, .inl (k 29, 40, .inl (F 29))), (a 30, .inl (k 30, 40, .inl (F 30))), (a 31, .inl (k 31, 1600, .inl (F 31))), (a 32, .inl (k 32, 40, .inl (F 32))), (a 34, .inl (k 34, 40, .inl (F 34))), (a 35, .inl (k 35, 40, .inl (F 35))), (a 36, .inl (k 36, 40, .inl (F 36))), (a 37, .inl (k 37, 40, .inl (F 37))), (a 40, .inl (k 40, 40, .inl (F 40))), (a 41, .inl (k 41, 40, .inl (F 41))), (a 42, .inl (k 42, 2000, .inl (F 42))), (a 43, .inl (k 43, 2000, .inl (F 43))), (a 44, .inl (k 44, 2000, .inl (F 44)))]
set_option maxHeartbeats 1000000 in
theorem mW_set_0 (h : Nat) (a : Nat → Nat) (k : Nat → ClassId) (F : Nat → Nat → Int32) (V : Nat → Int32) (g : Nat → Int32) : (mW h a k F V).set 1 (a 0, .inl (k 0, 40, .inl g)) = mW h a k (va_up F 0 g) V := by simp [mW, va_up]
set_option maxHeartbeats 1000000 in
theorem mW_set_1 (h : Nat) (a : Nat → Nat) (k : Nat → ClassId) (F : Nat → Nat → Int32) (V : Nat → Int32) (g : Nat → Int32) : (mW h a k F V).set 2 (a 1, .inl (k 1, 40, .inl g)) = mW h a k (va_up F 1 g) V := by simp [mW, va_up]
set_option maxHeartbeats 1000000 in
theorem mW_set_2 (h : Nat) (a : Nat → Nat) (k : Nat → ClassId) (F : Nat → Nat → Int32) (V : Nat → Int32) (g : Nat → Int32) : (mW h a k F V).set 3 (a 2, .inl (k 2, 40, .inl g)) = mW h a k (va_up F 2 g) V := by simp [mW, va_up]
set_option maxHeartbeats 1000000 in
theorem mW_set_3 (h : Nat) (a : Nat → Nat) (k : Nat → ClassId) (F : Nat → Nat → Int32) (V : Nat → Int32) (g : Nat → Int32) : (mW h a k F V).set 4 (a 3, .inl (k 3, 320, .inl g)) = mW h a k (va_up F 3 g) V := by simp [mW, va_up]
set_option maxHeartbeats 1000000 in
theorem mW_set_4 (h : Nat) (a : Nat → Nat) (k : Nat → ClassId) (F : Nat → Nat → Int32) (V : Nat → Int32) (g : Nat → Int32) : (mW h a k F V).set 5 (a 4, .inl (k 4, 40, .inl g)) = mW h a k (va_up F 4 g) V := by simp [mW, va_up]
set_option maxHeartbeats 1000000 in
theorem mW_set_5 (h : Nat) (a : Nat → Nat) (k : Nat → ClassId) (F : Nat → Nat → Int32) (V : Nat → Int32) (g : Nat → Int32) : (mW h a k F V).set 6 (a 5, .inl (k 5, 40, .inl g)) = mW h a k (va_up F 5 g) V := by simp [mW, va_up]
set_option maxHeartbeats 1000000 in
theorem mW_set_6 (h : Nat) (a : Nat → Nat) (k : Nat → ClassId) (F : Nat → Nat → Int32) (V : Nat → Int32) (g : Nat → Int32) : (mW h a k F V).set 7 (a 6, .inl (k 6, 40, .inl g)) = mW h a k (va_up F 6 g) V := by simp [mW, va_up]
set_option maxHeartbeats 1000000 in
theorem mW_set_7 (h : Nat) (a : Nat → Nat) (k : Nat → ClassId) (F : Nat → Nat → Int32) (V : Nat → Int32) (g : Nat → Int32) : (mW h a k F V).set 8 (a 7, .inl (k 7, 40, .inl g)) = mW h a k (va_up F 7 g) V := by simp [mW, va_up]
set_option maxHeartbeats 1000000 in
theorem mW_set_8 (h : Nat) (a : Nat → Nat) (k : Nat → ClassId) (F : Nat → Nat → Int32) (V : Nat → Int32) (g : Nat → Int32) : (mW h a k F V).set 9 (a 8, .inl (k 8, 40, .inl g)) = mW h a k (va_up F 8 g) V := by simp [mW, va_up]
set_option maxHeartbeats 1000000 in
theorem mW_set_9 (h : Nat) (a : Nat → Nat) (k : Nat → ClassId) (F : Nat → Nat → Int32) (V : Nat → Int32) (g : Nat → Int32) : (mW h a k F V).set 10 (a 9, .inl (k 9, 40, .inl g)) = mW h a k (va_up F 9 g) V := by simp [mW, va_up]
set_option maxHeartbeats 1000000 in
theorem mW_set_10 (h : Nat) (a : Nat → Nat) (k : Nat → ClassId) (F : Nat → Nat → Int32) (V : Nat → Int32) (g : Nat → Int32) : (mW h a k F V).set 11 (a 10, .inl (k 10, 40, .inl g)) = mW h a k (va_up F 10 g) V := by simp [mW, va_up]
set_option maxHeartbeats 1000000 in
theorem mW_set_11 (h : Nat) (a : Nat → Nat) (k : Nat → ClassId) (F : Nat → Nat → Int32) (V : Nat → Int32) (g : Nat → Int32) : (mW h a k F V).set 12 (a 11, .inl (k 11, 40, .inl g)) = mW h a k (va_up F 11 g) V := by simp [mW, va_up]
set_option maxHeartbeats 1000000 in
theorem mW_set_12 (h : Nat) (a : Nat → Nat) (k : Nat → ClassId) (F : Nat → Nat → Int32) (V : Nat → Int32) (g : Nat → Int32) : (mW h a k F V).set 13 (a 12, .inl (k 12, 40, .inl g)) = mW h a k (va_up F 12 g) V := by simp [mW, va_up]
set_option maxHeartbeats 1000000 in
theorem mW_set_13 (h : Nat) (a : Nat → Nat) (k : Nat → ClassId) (F : Nat → Nat → Int32) (V : Nat → Int32) (g : Nat → Int32) : (mW h a k F V).set 14 (a 13, .inl (k 13, 400, .inl g)) = mW h a k (va_up F 13 g) V := by simp [mW, va_up]
set_option maxHeartbeats 1000000 in
theorem mW_set_14 (h : Nat) (a : Nat → Nat) (k : Nat → ClassId) (F : Nat → Nat → Int32) (V : Nat → Int32) (g : Nat → Int32) : (mW h a k F V).set 15 (a 14, .inl (k 14, 40, .inl g)) = mW h a k (va_up F 14 g) V := by simp [mW, va_up]
set_option maxHeartbeats 1000000 in
theorem mW_set_15 (h : Nat) (a : Nat → Nat) (k : Nat → ClassId) (F : Nat → Nat → Int32) (V : Nat → Int32) (g : Nat → Int32) : (mW h a k F V).set 16 (a 15, .inl (k 15, 40, .inl g)) = mW h a k (va_up F 15 g) V := by simp [mW, va_up]
set_option maxHeartbeats 1000000 in
theorem mW_set_16 (h : Nat) (a : Nat → Nat) (k : Nat → ClassId) (F : Nat → Nat → Int32) (V : Nat → Int32) (g : Nat → Int32) : (mW h a k F V).set 17 (a 16, .inl (k 16, 40, .inl g)) = mW h a k (va_up F 16 g) V := by simp [mW, va_up]
set_option maxHeartbeats 1000000 in
theorem mW_set_17 (h : Nat) (a : Nat → Nat) (k : Nat → ClassId) (F : Nat → Nat → Int32) (V : Nat → Int32) (g : Nat → Int32) : (mW h a k F V).set 18 (a 17, .inl (k 17, 800, .inl g)) = mW h a k (va_up F 17 g) V := by simp [mW, va_up]
set_option maxHeartbeats 1000000 in
theorem mW_set_18 (h : Nat) (a : Nat → Nat) (k : Nat → ClassId) (F : Nat → Nat → Int32) (V : Nat → Int32) (g : Nat → Int32) : (mW h a k F V).set 19 (a 18, .inl (k 18, 40, .inl g)) = mW h a k (va_up F 18 g) V := by simp [mW, va_up]
set_option maxHeartbeats 1000000 in
theorem mW_set_19 (h : Nat) (a : Nat → Nat) (k : Nat → ClassId) (F : Nat → Nat → Int32) (V : Nat → Int32) (g : Nat → Int32) : (mW h a k F V).set 20 (a 19, .inl (k 19, 6400, .inl g)) = mW h a k (va_up F 19 g) V := by simp [mW, va_up]
set_option maxHeartbeats 1000000 in
theorem mW_set_25 (h : Nat) (a : Nat → Nat) (k : Nat → ClassId) (F : Nat → Nat → Int32) (V : Nat → Int32) (g : Nat → Int32) : (mW h a k F V).set 21 (a 25, .inl (k 25, 40, .inl g)) = mW h a k (va_up F 25 g) V := by simp [mW, va_up]
set_option maxHeartbeats 1000000 in
theorem mW_set_26 (h : Nat) (a : Nat → Nat) (k : Nat → ClassId) (F : Nat → Nat → Int32) (V : Nat → Int32) (g : Nat → Int32) : (mW h a k F V).set 22 (a 26, .inl (k 26, 40, .inl g)) = mW h a k (va_up F 26 g) V := by simp [mW, va_up]
set_option maxHeartbeats 1000000 in
theorem mW_set_27 (h : Nat) (a : Nat → Nat) (k : Nat → ClassId) (F : Nat → Nat → Int32) (V : Nat → Int32) (g : Nat → Int32) : (mW h a k F V).set 23 (a 27, .inl (k 27, 40, .inl g)) = mW h a k (va_up F 27 g) V := by simp [mW, va_up]
set_option maxHeartbeats 1000000 in
theorem mW_set_28 (h : Nat) (a : Nat → Nat) (k : Nat → ClassId) (F : Nat → Nat → Int32) (V : Nat → Int32) (g : Nat → Int32) : (mW h a k F V).set 24 (a 28, .inl (k 28, 40, .inl g)) = mW h a k (va_up F 28 g) V := by simp [mW, va_up]
set_option maxHeartbeats 1000000 in
theorem mW_set_29 (h : Nat) (a : Nat → Nat) (k : Nat → ClassId) (F : Nat → Nat → Int32) (V : Nat → Int32) (g : Nat → Int32) : (mW h a k F V).set 25 (a 29, .inl (k 29, 40, .inl g)) = mW h a k (va_up F 29 g) V := by simp [mW, va_up]
set_option maxHeartbeats 1000000 in
theorem mW_set_30 (h : Nat) (a : Nat → Nat) (k : Nat → ClassId) (F : Nat → Nat → Int32) (V : Nat → Int32) (g : Nat → Int32) : (mW h a k F V).set 26 (a 30, .inl (k 30, 40, .inl g)) = mW h a k (va_up F 30 g) V := by simp [mW, va_up]
set_option maxHeartbeats 1000000 in
theorem mW_set_31 (h : Nat) (a : Nat → Nat) (k : Nat → ClassId) (F : Nat → Nat → Int32) (V : Nat → Int32) (g : Nat → Int32) : (mW h a k F V).set 27 (a 31, .inl (k 31, 1600, .inl g)) = mW h a k (va_up F 31 g) V := by simp [mW, va_up]
set_option maxHeartbeats 1000000 in
theorem mW_set_32 (h : Nat) (a : Nat → Nat) (k : Nat → ClassId) (F : Nat → Nat → Int32) (V : Nat → Int32) (g : Nat → Int32) : (mW h a k F V).set 28 (a 32, .inl (k 32, 40, .inl g)) = mW h a k (va_up F 32 g) V := by simp [mW, va_up]
set_option maxHeartbeats 1000000 in
theorem mW_set_34 (h : Nat) (a : Nat → Nat) (k : Nat → ClassId) (F : Nat → Nat → Int32) (V : Nat → Int32) (g : Nat → Int32) : (mW h a k F V).set 29 (a 34, .inl (k 34, 40, .inl g)) = mW h a k (va_up F 34 g) V := by simp [mW, va_up]
set_option maxHeartbeats 1000000 in
theorem mW_set_35 (h : Nat) (a : Nat → Nat) (k : Nat → ClassId) (F : Nat → Nat → Int32) (V : Nat → Int32) (g : Nat → Int32) : (mW h a k F V).set 30 (a 35, .inl (k 35, 40, .inl g)) = mW h a k (va_up F 35 g) V := by simp [mW, va_up]
set_option maxHeartbeats 1000000 in
theorem mW_set_36 (h : Nat) (a : Nat → Nat) (k : Nat → ClassId) (F : Nat → Nat → Int32) (V : Nat → Int32) (g : Nat → Int32) : (mW h a k F V).set 31 (a 36, .inl (k 36, 40, .inl g)) = mW h a k (va_up F 36 g) V := by simp [mW, va_up]
set_option maxHeartbeats 1000000 in
theorem mW_set_37 (h : Nat) (a : Nat → Nat) (k : Nat → ClassId) (F : Nat → Nat → Int32) (V : Nat → Int32) (g : Nat → Int32) : (mW h a k F V).set 32 (a 37, .inl (k 37, 40, .inl g)) = mW h a k (va_up F 37 g) V := by simp [mW, va_up]
set_option maxHeartbeats 1000000 in
theorem mW_set_40 (h : Nat) (a : Nat → Nat) (k : Nat → ClassId) (F : Nat → Nat → Int32) (V : Nat → Int32) (g : Nat → Int32) : (mW h a k F V).set 33 (a 40, .inl (k 40, 40, .inl g)) = mW h a k (va_up F 40 g) V := by simp [mW, va_up]
set_option maxHeartbeats 1000000 in
theorem mW_set_41 (h : Nat) (a : Nat → Nat) (k : Nat → ClassId) (F : Nat → Nat → Int32) (V : Nat → Int32) (g : Nat → Int32) : (mW h a k F V).set 34 (a 41, .inl (k 41, 40, .inl g)) = mW h a k (va_up F 41 g) V := by simp [mW, va_up]
set_option maxHeartbeats 1000000 in
theorem mW_set_42 (h : Nat) (a : Nat → Nat) (k : Nat → ClassId) (F : Nat → Nat → Int32) (V : Nat → Int32) (g : Nat → Int32) : (mW h a k F V).set 35 (a 42, .inl (k 42, 2000, .inl g)) = mW h a k (va_up F 42 g) V := by simp [mW, va_up]
set_option maxHeartbeats 1000000 in
theorem mW_set_43 (h : Nat) (a : Nat → Nat) (k : Nat → ClassId) (F : Nat → Nat → Int32) (V : Nat → Int32) (g : Nat → Int32) : (mW h a k F V).set 36 (a 43, .inl (k 43, 2000, .inl g)) = mW h a k (va_up F 43 g) V := by simp [mW, va_up]
set_option maxHeartbeats 1000000 in
theorem mW_set_44 (h : Nat) (a : Nat → Nat) (k : Nat → ClassId) (F : Nat → Nat → Int32) (V : Nat → Int32) (g : Nat → Int32) : (mW h a k F V).set 37 (a 44, .inl (k 44, 2000, .inl g)) = mW h a k (va_up F 44 g) V := by simp [mW, va_up]
set_option maxHeartbeats 1000000 in
theorem mW_put_20 (h : Nat) (a : Nat → Nat) (k : Nat → ClassId) (F : Nat → Nat → Int32) (V : Nat → Int32) (x : Int32) : (mW h a k F V).set 0 (h, .inr (10, (mF a V).set 20 (.int x))) = mW h a k F (va_up V 20 x) := by simp [mW, mF, va_up]
set_option maxHeartbeats 1000000 in
theorem mW_put_21 (h : Nat) (a : Nat → Nat) (k : Nat → ClassId) (F : Nat → Nat → Int32) (V : Nat → Int32) (x : Int32) : (mW h a k F V).set 0 (h, .inr (10, (mF a V).set 21 (.int x))) = mW h a k F (va_up V 21 x) := by simp [mW, mF, va_up]
set_option maxHeartbeats 1000000 in
theorem mW_put_22 (h : Nat) (a : Nat → Nat) (k : Nat → ClassId) (F : Nat → Nat → Int32) (V : Nat → Int32) (x : Int32) : (mW h a k F V).set 0 (h, .inr (10, (mF a V).set 22 (.int x))) = mW h a k F (va_up V 22 x) := by simp [mW, mF, va_up]
set_option maxHeartbeats 1000000 in
theorem mW_put_23 (h : Nat) (a : Nat → Nat) (k : Nat → ClassId) (F : Nat → Nat → Int32) (V : Nat → Int32) (x : Int32) : (mW h a k F V).set 0 (h, .inr (10, (mF a V).set 23 (.int x))) = mW h a k F (va_up V 23 x) := by simp [mW, mF, va_up]
set_option maxHeartbeats 1000000 in
theorem mW_put_24 (h : Nat) (a : Nat → Nat) (k : Nat → ClassId) (F : Nat → Nat → Int32) (V : Nat → Int32) (x : Int32) : (mW h a k F V).set 0 (h, .inr (10, (mF a V).set 24 (.int x))) = mW h a k F (va_up V 24 x) := by simp [mW, mF, va_up]
set_option maxHeartbeats 1000000 in
theorem mW_put_33 (h : Nat) (a : Nat → Nat) (k : Nat → ClassId) (F : Nat → Nat → Int32) (V : Nat → Int32) (x : Int32) : (mW h a k F V).set 0 (h, .inr (10, (mF a V).set 33 (.int x))) = mW h a k F (va_up V 33 x) := by simp [mW, mF, va_up]
set_option maxHeartbeats 1000000 in
theorem mW_put_38 (h : Nat) (a : Nat → Nat) (k : Nat → ClassId) (F : Nat → Nat → Int32) (V : Nat → Int32) (x : Int32) : (mW h a k F V).set 0 (h, .inr (10, (mF a V).set 38 (.int x))) = mW h a k F (va_up V 38 x) := by simp [mW, mF, va_up]
set_option maxHeartbeats 1000000 in
theorem mW_put_39 (h : Nat) (a : Nat → Nat) (k : Nat → ClassId) (F : Nat → Nat → Int32) (V : Nat → Int32) (x : Int32) : (mW h a k F V).set 0 (h, .inr (10, (mF a V).set 39 (.int x))) = mW h a k F (va_up V 39 x) := by simp [mW, mF, va_up]
set_option maxHeartbeats 1000000 in
theorem mW_put_45 (h : Nat) (a : Nat → Nat) (k : Nat → ClassId) (F : Nat → Nat → Int32) (V : Nat → Int32) (x : Int32) : (mW h a k F V).set 0 (h, .inr (10, (mF a V).set 45 (.int x))) = mW h a k F (va_up V 45 x) := by simp [mW, mF, va_up]
def mT (k : Nat → ClassId) : List (ClassId × FieldType) := [(k 0, .int), (k 1, .int), (k 2, .int), (k 3, .int), (k 4, .int), (k 5, .int), (k 6, .int), (k 7, .int), (k 8, .int), (k 9, .int), (k 10, .int), (k 11, .boolean), (k 12, .int), (k 13, .int), (k 14, .int), (k 15, .int), (k 16, .int), (k 17, .int), (k 18, .int), (k 19, .boolean), (k 25, .int), (k 26, .boolean), (k 27, .boolean), (k 28, .boolean), (k 29, .boolean), (k 30, .int), (k 31, .boolean), (k 32, .int), (k 34, .int), (k 35, .int), (k 36, .int), (k 37, .int), (k 40, .int), (k 41, .int), (k 42, .int), (k 43, .int), (k 44, .int)]
def InvM (n b : Nat) (F : Nat → Nat → Int32) (V : Nat → Int32) : Prop := n ≤ 40 ∧ V 21 = nI n ∧ (∃ p : Nat, p ≤ 40 ∧ V 38 = nI p) ∧ (∃ c : Nat, c ≤ b ∧ V 45 = nI c) ∧ (∀ j : Nat, ∃ x : Nat, x ≤ b ∧ F 9 j = nI x) ∧ (∀ j : Nat, ∃ x : Nat, x ≤ 10 ∧ F 14 j = nI x) ∧ (∀ j : Nat, ∃ x : Nat, x ≤ 20 ∧ F 18 j = nI x) ∧ (∀ j : Nat, F 19 j = 0 ∨ F 19 j = 1)
def FrM (F : Nat → Nat → Int32) (V : Nat → Int32) (F' : Nat → Nat → Int32) (V' : Nat → Int32) : Prop := True
def StM (n b : Nat) (F : Nat → Nat → Int32) (V : Nat → Int32) (F' : Nat → Nat → Int32) (V' : Nat → Int32) : Prop := InvM n b F' V' ∧ FrM F V F' V'
theorem InvM.mono {n b b' : Nat} {F : Nat → Nat → Int32} {V : Nat → Int32} (h : InvM n b F V) (hb : b ≤ b') : InvM n b' F V := by
  obtain ⟨h1, h2, h3, ⟨c, hc, ec⟩, h5, h6, h7, h8⟩ := h
  exact ⟨h1, h2, h3, ⟨c, by omega, ec⟩, fun j => by obtain ⟨x, hx, ex⟩ := h5 j; exact ⟨x, by omega, ex⟩, h6, h7, h8⟩
theorem StM.rf {n b : Nat} {F : Nat → Nat → Int32} {V : Nat → Int32} (h : InvM n b F V) : StM n b F V F V := ⟨h, trivial⟩
theorem StM.mono {n b b' : Nat} {F F' : Nat → Nat → Int32} {V V' : Nat → Int32} (h : StM n b F V F' V') (hb : b ≤ b') : StM n b' F V F' V' := ⟨h.1.mono hb, h.2⟩
theorem StM.trans {n b b' : Nat} {F F' F2 : Nat → Nat → Int32} {V V' V2 : Nat → Int32} (h : StM n b F V F' V') (g : StM n b' F' V' F2 V2) : StM n b' F V F2 V2 := ⟨g.1, trivial⟩
theorem StM.keep {n b : Nat} {F F' F2 : Nat → Nat → Int32} {V V' V2 : Nat → Int32} (h : StM n b F V F' V') (e0 : F2 0 = F' 0) (e3 : F2 3 = F' 3) (e9 : F2 9 = F' 9) (e14 : F2 14 = F' 14) (e18 : F2 18 = F' 18) (e19 : F2 19 = F' 19) (v21 : V2 21 = V' 21) (v22 : V2 22 = V' 22) (v38 : V2 38 = V' 38) (v45 : V2 45 = V' 45) : StM n b F V F2 V2 := by
  obtain ⟨⟨h1, h2, h3, h4, h5, h6, h7, h8⟩, -⟩ := h
  exact ⟨⟨h1, v21.trans h2, by rw [v38]; exact h3, by rw [v45]; exact h4, by rw [e9]; exact h5, by rw [e14]; exact h6, by rw [e18]; exact h7, by rw [e19]; exact h8⟩, trivial⟩
theorem mw_up {α : Type} {f g : Nat → α} {k : Nat} {v : α} {WR : List Nat} (hk : k ∈ WR) (h : ∀ j : Nat, j ∉ WR → f j = g j) : ∀ j : Nat, j ∉ WR → va_up f k v j = g j := by
  intro j hj
  have e : j ≠ k := fun e => hj (by rw [e]; exact hk)
  unfold va_up
  rw [if_neg e]
  exact h j hj
theorem mw_tr {α : Type} {f g f2 : Nat → α} {W1 WR : List Nat} (hs : ∀ j : Nat, j ∈ W1 → j ∈ WR) (h1 : ∀ j : Nat, j ∉ W1 → f2 j = f j) (h : ∀ j : Nat, j ∉ WR → f j = g j) : ∀ j : Nat, j ∉ WR → f2 j = g j := fun j hj => (h1 j (fun q => hj (hs j q))).trans (h j hj)
def zc (f : Nat → Int32) : Nat → Nat
  | 0 => 0
  | k + 1 => zc f k + (if f k = 0 then 1 else 0)
theorem zc_le (f : Nat → Int32) : ∀ k : Nat, zc f k ≤ k
  | 0 => Nat.le_refl 0
  | k + 1 => by
    have := zc_le f k
    show zc f k + (if f k = 0 then 1 else 0) ≤ k + 1
    split <;> omega
theorem zc_un {f : Nat → Int32} {i : Nat} {x : Int32} : ∀ k : Nat, k ≤ i → zc (upd f i x) k = zc f k
  | 0, _ => rfl
  | k + 1, h => by
    show zc (upd f i x) k + (if upd f i x k = 0 then 1 else 0) = zc f k + (if f k = 0 then 1 else 0)
    rw [zc_un k (by omega), pk_un (show k ≠ i by omega)]
theorem zc_lt {f : Nat → Int32} {i : Nat} {x : Int32} (h0 : f i = 0) (hx : ¬ x = 0) : ∀ k : Nat, i < k → zc (upd f i x) k < zc f k
  | 0, h => absurd h (by omega)
  | k + 1, h => by
    show zc (upd f i x) k + (if upd f i x k = 0 then 1 else 0) < zc f k + (if f k = 0 then 1 else 0)
    by_cases e : i = k
    · subst e
      rw [zc_un i (Nat.le_refl i), pk_us, if_neg hx, if_pos h0]
      omega
    · have := zc_lt h0 hx k (by omega)
      rw [pk_un (show k ≠ i by omega)]
      omega
def nz (v : Int32) (f : Nat → Int32) : Nat → Int32 := fun j => if f j = v then 1 else 0
theorem nz_upd {v : Int32} {f : Nat → Int32} {i : Nat} : nz v (upd f i v) = upd (nz v f) i 1 := by
  funext j
  by_cases e : j = i
  · subst e; simp [nz, upd]
  · simp [nz, upd, e]
theorem nz_lt {v : Int32} {f : Nat → Int32} {i k : Nat} (h : ¬ f i = v) (hi : i < k) : zc (nz v (upd f i v)) k < zc (nz v f) k := by
  rw [nz_upd]
  exact zc_lt (by simp [nz, h]) (by decide) k hi
def nu (f : Nat → Int32) : Nat → Int32 := fun j => if f j = 1 ∨ f j = 2 then 0 else 1
theorem nu_lt {f : Nat → Int32} {i k : Nat} {x : Int32} (h : f i = 1 ∨ f i = 2) (hx : ¬ (x = 1 ∨ x = 2)) (hi : i < k) : zc (nu (upd f i x)) k < zc (nu f) k := by
  have e : nu (upd f i x) = upd (nu f) i 1 := by
    funext j
    by_cases e : j = i
    · subst e; simp [nu, upd, hx]
    · simp [nu, upd, e]
  rw [e]
  exact zc_lt (by simp [nu, h]) (by decide) k hi
theorem rng_upd {B : Nat} {f : Nat → Int32} {i x : Nat} (h : ∀ j : Nat, ∃ y : Nat, y ≤ B ∧ f j = nI y) (hx : x ≤ B) : ∀ j : Nat, ∃ y : Nat, y ≤ B ∧ upd f i (nI x) j = nI y := by
  intro j
  by_cases e : j = i
  · subst e; exact ⟨x, hx, pk_us⟩
  · obtain ⟨y, hy, ey⟩ := h j; exact ⟨y, hy, (pk_un e).trans ey⟩
theorem InvM.setF {n b : Nat} {F : Nat → Nat → Int32} {V : Nat → Int32} {j : Nat} {g : Nat → Int32} (h : InvM n b F V) (hj : j ≠ 9 ∧ j ≠ 14 ∧ j ≠ 18 ∧ j ≠ 19) : InvM n b (va_up F j g) V := by
  obtain ⟨h1, h2, h3, h4, h5, h6, h7, h8⟩ := h
  have e9 : va_up F j g 9 = F 9 := va_up_ne F g hj.1.symm
  have e14 : va_up F j g 14 = F 14 := va_up_ne F g hj.2.1.symm
  have e18 : va_up F j g 18 = F 18 := va_up_ne F g hj.2.2.1.symm
  have e19 : va_up F j g 19 = F 19 := va_up_ne F g hj.2.2.2.symm
  exact ⟨h1, h2, h3, h4, by rw [e9]; exact h5, by rw [e14]; exact h6, by rw [e18]; exact h7, by rw [e19]; exact h8⟩
theorem InvM.setV {n b : Nat} {F : Nat → Nat → Int32} {V : Nat → Int32} {j : Nat} {x : Int32} (h : InvM n b F V) (hj : j ≠ 21 ∧ j ≠ 38 ∧ j ≠ 45) : InvM n b F (va_up V j x) := by
  obtain ⟨h1, h2, h3, h4, h5, h6, h7, h8⟩ := h
  have e21 : va_up V j x 21 = V 21 := va_up_ne V x hj.1.symm
  have e38 : va_up V j x 38 = V 38 := va_up_ne V x hj.2.1.symm
  have e45 : va_up V j x 45 = V 45 := va_up_ne V x hj.2.2.symm
  exact ⟨h1, e21.trans h2, by rw [e38]; exact h3, by rw [e45]; exact h4, h5, h6, h7, h8⟩
theorem InvM.set9 {n b : Nat} {F : Nat → Nat → Int32} {V : Nat → Int32} {i x : Nat} (h : InvM n b F V) (hx : x ≤ b) : InvM n b (va_up F 9 (upd (F 9) i (nI x))) V := by
  obtain ⟨h1, h2, h3, h4, h5, h6, h7, h8⟩ := h
  exact ⟨h1, h2, h3, h4, by rw [va_up_self]; exact rng_upd h5 hx, by rw [va_up_ne F _ (by decide)]; exact h6, by rw [va_up_ne F _ (by decide)]; exact h7, by rw [va_up_ne F _ (by decide)]; exact h8⟩
theorem InvM.set14 {n b : Nat} {F : Nat → Nat → Int32} {V : Nat → Int32} {i x : Nat} (h : InvM n b F V) (hx : x ≤ 10) : InvM n b (va_up F 14 (upd (F 14) i (nI x))) V := by
  obtain ⟨h1, h2, h3, h4, h5, h6, h7, h8⟩ := h
  exact ⟨h1, h2, h3, h4, by rw [va_up_ne F _ (by decide)]; exact h5, by rw [va_up_self]; exact rng_upd h6 hx, by rw [va_up_ne F _ (by decide)]; exact h7, by rw [va_up_ne F _ (by decide)]; exact h8⟩
theorem InvM.set18 {n b : Nat} {F : Nat → Nat → Int32} {V : Nat → Int32} {i x : Nat} (h : InvM n b F V) (hx : x ≤ 20) : InvM n b (va_up F 18 (upd (F 18) i (nI x))) V := by
  obtain ⟨h1, h2, h3, h4, h5, h6, h7, h8⟩ := h
  exact ⟨h1, h2, h3, h4, by rw [va_up_ne F _ (by decide)]; exact h5, by rw [va_up_ne F _ (by decide)]; exact h6, by rw [va_up_self]; exact rng_upd h7 hx, by rw [va_up_ne F _ (by decide)]; exact h8⟩
theorem InvM.set19 {n b : Nat} {F : Nat → Nat → Int32} {V : Nat → Int32} {i : Nat} {x : Int32} (h : InvM n b F V) (hx : x = 0 ∨ x = 1) : InvM n b (va_up F 19 (upd (F 19) i x)) V := by
  obtain ⟨h1, h2, h3, h4, h5, h6, h7, h8⟩ := h
  refine ⟨h1, h2, h3, h4, by rw [va_up_ne F _ (by decide)]; exact h5, by rw [va_up_ne F _ (by decide)]; exact h6, by rw [va_up_ne F _ (by decide)]; exact h7, ?_⟩
  rw [va_up_self]
  intro j
  by_cases e : j = i
  · subst e; rw [pk_us]; exact hx
  · rw [pk_un e]; exact h8 j
theorem InvM.put45 {n b : Nat} {F : Nat → Nat → Int32} {V : Nat → Int32} {x : Nat} (h : InvM n b F V) (hx : x ≤ b) : InvM n b F (va_up V 45 (nI x)) := by
  obtain ⟨h1, h2, h3, h4, h5, h6, h7, h8⟩ := h
  exact ⟨h1, (va_up_ne V _ (by decide)).trans h2, by rw [va_up_ne V _ (by decide)]; exact h3, ⟨x, hx, va_up_self V 45 _⟩, h5, h6, h7, h8⟩
theorem InvM.put38 {n b : Nat} {F : Nat → Nat → Int32} {V : Nat → Int32} {x : Nat} (h : InvM n b F V) (hx : x ≤ 40) : InvM n b F (va_up V 38 (nI x)) := by
  obtain ⟨h1, h2, h3, h4, h5, h6, h7, h8⟩ := h
  exact ⟨h1, (va_up_ne V _ (by decide)).trans h2, ⟨x, hx, va_up_self V 38 _⟩, by rw [va_up_ne V _ (by decide)]; exact h4, h5, h6, h7, h8⟩
theorem InvM.put21 {n b : Nat} {F : Nat → Nat → Int32} {V : Nat → Int32} (h : InvM n b F V) (hn : n < 40) : InvM (n + 1) b F (va_up V 21 (nI (n + 1))) := by
  obtain ⟨h1, h2, h3, h4, h5, h6, h7, h8⟩ := h
  exact ⟨hn, va_up_self V 21 _, by rw [va_up_ne V _ (by decide)]; exact h3, by rw [va_up_ne V _ (by decide)]; exact h4, h5, h6, h7, h8⟩
theorem mw_nb {x : Int32} (h : x = 0 ∨ x = 1) : narrow .boolean (.int x) = .int x := by rcases h with rfl | rfl <;> rfl
theorem mw_o {x : Int32} (h0 : ¬ x < 0) (h1 : ¬ 3 < x) : ∃ j : Nat, j < 4 ∧ x = nI j := by
  obtain ⟨j, hj, e⟩ := nI_of2 (x := x) (M := 3) (n := 3) (by decide) h0 (Int32.not_lt.mp h1)
  exact ⟨j, by omega, e⟩
section MWQ
variable {p : Program} {l : Launch} {e : Env} {R : Room} {s : State} {m : MethodId} {args : Array Value} {below : List Frame} {meth : Method} {c : Code} {H : Heap} {locs : List Loc} {cells slots : Nat} {Q : State → Prop}
theorem mw_Q {g : JFrame} (h : ∀ Q0 : State → Prop, Q0 = Q → W p l e R s m args below meth c H locs cells slots Q0 g) : W p l e R s m args below meth c H locs cells slots Q g := h _ rfl
end MWQ
theorem mw_free {A0 : Nat → Prop} {ws : va_W} {H0 H : Heap} {locs : List Loc} (hD : va_D A0 ws) (hS : va_S A0 H0 H locs) (hA : ∀ q, H0.size ≤ q → A0 q) : ∀ q, va_A ws H.size q → A0 q := by
  intro q h
  rcases h with ⟨k, e, h⟩ | h
  · exact hD.2 k (q, e) h
  · exact hA q (Nat.le_trans hS.1 h)
theorem mw_nI {x : Int32} {n : Nat} (hn : n < 2147483648) (h0 : ¬ x < 0) (h1 : ¬ nI n ≤ x) : ∃ j : Nat, j < n ∧ x = nI j := by
  rcases pk_ix x hn with h | h | h
  · exact absurd h h0
  · exact absurd h h1
  · exact h


end
section
def xFix (h : Nat) (a : Nat → Nat) (e : Nat) (cI cJ cO : ClassId) (L : Nat → Int64) (I : Nat → Int32) (M : Nat → Nat → Int64) (J : Nat → Nat → Int32) : va_W := [(h, .inr (9, [.ref (a 0), .ref (a 1), .ref (a 2), .ref (a 3), .ref (a 4), .ref (a 5), .ref (a 6), .long (L 0), .long (L 1), .int (I 0), .int (I 1), .int (I 2), .int (I 3), .int (I 4)])), (a 0, .inr (0, [.int (I 5), .ref e, .int (I 6)])), (a 1, .inr (6, [.ref (a 10), .ref (a 11), .int (I 7)])), (a 10, .inl (cO, 4, .inr (.inr (.inr (.inr (fun i => if i < 4 then some (a (20 + i)) else none)))))), (a 11, .inl (cO, 4, .inr (.inr (.inr (.inr (fun i => if i < 4 then some (a (24 + i)) else none)))))), (a 20, .inl (cJ, 40, .inr (.inl (M 0)))), (a 21, .inl (cJ, 40, .inr (.inl (M 1)))), (a 22, .inl (cJ, 40, .inr (.inl (M 2)))), (a 23, .inl (cJ, 40, .inr (.inl (M 3)))), (a 24, .inl (cJ, 40, .inr (.inl (M 4)))), (a 25, .inl (cJ, 40, .inr (.inl (M 5)))), (a 26, .inl (cJ, 40, .inr (.inl (M 6)))), (a 27, .inl (cJ, 40, .inr (.inl (M 7)))), (a 2, .inr (2, [.ref (a 1), .long (L 2), .long (L 3), .long (L 4), .int (I 8)])), (a 3, .inr (4, [.ref (a 1), .long (L 5), .long (L 6), .long (L 7)])), (a 4, .inr (5, [.ref (a 12), .ref (a 13), .ref (a 14), .long (L 8), .int (I 9), .int (I 10), .int (I 11)])), (a 12, .inl (cI, 40, .inl (J 0))), (a 13, .inl (cI, 40, .inl (J 1))), (a 14, .inl (cI, 40, .inl (J 2))), (a 5, .inr (3, [.ref (a 15), .int (I 12)])), (a 15, .inl (cJ, 2000, .inr (.inl (M 8)))), (a 6, .inl (cJ, 6, .inr (.inl (M 9))))]
def xP (cI : ClassId) (sd : Nat → Nat → Nat) (si : Nat → Nat → Int32) (sa : Nat → Nat → Nat → Int32) (dl : Nat → Nat) (t : Nat) : Nat × va_E := if t % 6 = 0 then (sd (t / 6) 0, .inr (8, [.int (si (t / 6) 0), .int (si (t / 6) 1), .int (si (t / 6) 2), .ref (sd (t / 6) 1), .ref (sd (t / 6) 2), .ref (sd (t / 6) 4), .int (si (t / 6) 6), .int (si (t / 6) 7), .int (si (t / 6) 8), .int (si (t / 6) 9), .int (si (t / 6) 10), .int (si (t / 6) 11)])) else if t % 6 = 1 then (sd (t / 6) 1, .inl (cI, 8, .inl (sa (t / 6) 1))) else if t % 6 = 2 then (sd (t / 6) 2, .inr (7, [.ref (sd (t / 6) 3), .int (si (t / 6) 21), .int (si (t / 6) 22), .int (si (t / 6) 23), .int (si (t / 6) 24), .int (si (t / 6) 25)])) else if t % 6 = 3 then (sd (t / 6) 3, .inl (cI, 10, .inl (sa (t / 6) 3))) else if t % 6 = 4 then (sd (t / 6) 4, .inr (1, [.ref (sd (t / 6) 5), .int (si (t / 6) 31), .int (si (t / 6) 32), .int (si (t / 6) 33), .int (si (t / 6) 34)])) else (sd (t / 6) 5, .inl (cI, dl (t / 6), .inl (sa (t / 6) 5)))
def xE (n e cap : Nat) (cE : ClassId) (fE : Nat → Option Nat) : va_W := if n = 0 then [] else [(e, .inl (cE, cap, .inr (.inr (.inr (.inr fE)))))]
def xW (h : Nat) (a : Nat → Nat) (e : Nat) (cI cJ cO cE : ClassId) (L : Nat → Int64) (I : Nat → Int32) (M : Nat → Nat → Int64) (J : Nat → Nat → Int32) (n cap : Nat) (fE : Nat → Option Nat) (sd : Nat → Nat → Nat) (si : Nat → Nat → Int32) (sa : Nat → Nat → Nat → Int32) (dl : Nat → Nat) : va_W := xFix h a e cI cJ cO L I M J ++ ((List.range (6 * n)).map (xP cI sd si sa dl) ++ xE n e cap cE fE)
def xT (cI cJ cO cE : ClassId) : List (ClassId × FieldType) := [(cI, .int), (cJ, .long), (cO, .array .long), (cE, .object "java/lang/Object")]
theorem xP_0 (cI : ClassId) (sd : Nat → Nat → Nat) (si : Nat → Nat → Int32) (sa : Nat → Nat → Nat → Int32) (dl : Nat → Nat) (s : Nat) : xP cI sd si sa dl (6 * s + 0) = (sd s 0, .inr (8, [.int (si s 0), .int (si s 1), .int (si s 2), .ref (sd s 1), .ref (sd s 2), .ref (sd s 4), .int (si s 6), .int (si s 7), .int (si s 8), .int (si s 9), .int (si s 10), .int (si s 11)])) := by
  have h1 : (6 * s + 0) / 6 = s := by omega
  have h2 : (6 * s + 0) % 6 = 0 := by omega
  simp [xP, h1, h2]
theorem xP_1 (cI : ClassId) (sd : Nat → Nat → Nat) (si : Nat → Nat → Int32) (sa : Nat → Nat → Nat → Int32) (dl : Nat → Nat) (s : Nat) : xP cI sd si sa dl (6 * s + 1) = (sd s 1, .inl (cI, 8, .inl (sa s 1))) := by
  have h1 : (6 * s + 1) / 6 = s := by omega
  have h2 : (6 * s + 1) % 6 = 1 := by omega
  simp [xP, h1, h2]
theorem xP_2 (cI : ClassId) (sd : Nat → Nat → Nat) (si : Nat → Nat → Int32) (sa : Nat → Nat → Nat → Int32) (dl : Nat → Nat) (s : Nat) : xP cI sd si sa dl (6 * s + 2) = (sd s 2, .inr (7, [.ref (sd s 3), .int (si s 21), .int (si s 22), .int (si s 23), .int (si s 24), .int (si s 25)])) := by
  have h1 : (6 * s + 2) / 6 = s := by omega
  have h2 : (6 * s + 2) % 6 = 2 := by omega
  simp [xP, h1, h2]
theorem xP_3 (cI : ClassId) (sd : Nat → Nat → Nat) (si : Nat → Nat → Int32) (sa : Nat → Nat → Nat → Int32) (dl : Nat → Nat) (s : Nat) : xP cI sd si sa dl (6 * s + 3) = (sd s 3, .inl (cI, 10, .inl (sa s 3))) := by
  have h1 : (6 * s + 3) / 6 = s := by omega
  have h2 : (6 * s + 3) % 6 = 3 := by omega
  simp [xP, h1, h2]
theorem xP_4 (cI : ClassId) (sd : Nat → Nat → Nat) (si : Nat → Nat → Int32) (sa : Nat → Nat → Nat → Int32) (dl : Nat → Nat) (s : Nat) : xP cI sd si sa dl (6 * s + 4) = (sd s 4, .inr (1, [.ref (sd s 5), .int (si s 31), .int (si s 32), .int (si s 33), .int (si s 34)])) := by
  have h1 : (6 * s + 4) / 6 = s := by omega
  have h2 : (6 * s + 4) % 6 = 4 := by omega
  simp [xP, h1, h2]
theorem xP_5 (cI : ClassId) (sd : Nat → Nat → Nat) (si : Nat → Nat → Int32) (sa : Nat → Nat → Nat → Int32) (dl : Nat → Nat) (s : Nat) : xP cI sd si sa dl (6 * s + 5) = (sd s 5, .inl (cI, dl s, .inl (sa s 5))) := by
  have h1 : (6 * s + 5) / 6 = s := by omega
  have h2 : (6 * s + 5) % 6 = 5 := by omega
  simp [xP, h1, h2]
theorem xAt (h : Nat) (a : Nat → Nat) (e : Nat) (cI cJ cO cE : ClassId) (L : Nat → Int64) (I : Nat → Int32) (M : Nat → Nat → Int64) (J : Nat → Nat → Int32) (n cap : Nat) (fE : Nat → Option Nat) (sd : Nat → Nat → Nat) (si : Nat → Nat → Int32) (sa : Nat → Nat → Nat → Int32) (dl : Nat → Nat) {t : Nat} (ht : t < 6 * n) : (xW h a e cI cJ cO cE L I M J n cap fE sd si sa dl)[22 + t]? = some (xP cI sd si sa dl t) := by
  unfold xW
  rw [List.getElem?_append_right (show (xFix h a e cI cJ cO L I M J).length ≤ 22 + t from Nat.le_add_right 22 t)]
  rw [show 22 + t - (xFix h a e cI cJ cO L I M J).length = t from Nat.add_sub_cancel_left 22 t]
  rw [List.getElem?_append_left (by rw [List.length_map, List.length_range]; exact ht)]
  rw [List.getElem?_map, List.getElem?_range ht]
  rfl
theorem xAt_0 (h : Nat) (a : Nat → Nat) (e : Nat) (cI cJ cO cE : ClassId) (L : Nat → Int64) (I : Nat → Int32) (M : Nat → Nat → Int64) (J : Nat → Nat → Int32) (n cap : Nat) (fE : Nat → Option Nat) (sd : Nat → Nat → Nat) (si : Nat → Nat → Int32) (sa : Nat → Nat → Nat → Int32) (dl : Nat → Nat) {s : Nat} (hs : s < n) : (xW h a e cI cJ cO cE L I M J n cap fE sd si sa dl)[22 + (6 * s + 0)]? = some (sd s 0, .inr (8, [.int (si s 0), .int (si s 1), .int (si s 2), .ref (sd s 1), .ref (sd s 2), .ref (sd s 4), .int (si s 6), .int (si s 7), .int (si s 8), .int (si s 9), .int (si s 10), .int (si s 11)])) := by
  rw [xAt h a e cI cJ cO cE L I M J n cap fE sd si sa dl (by omega), xP_0]
theorem xAt_1 (h : Nat) (a : Nat → Nat) (e : Nat) (cI cJ cO cE : ClassId) (L : Nat → Int64) (I : Nat → Int32) (M : Nat → Nat → Int64) (J : Nat → Nat → Int32) (n cap : Nat) (fE : Nat → Option Nat) (sd : Nat → Nat → Nat) (si : Nat → Nat → Int32) (sa : Nat → Nat → Nat → Int32) (dl : Nat → Nat) {s : Nat} (hs : s < n) : (xW h a e cI cJ cO cE L I M J n cap fE sd si sa dl)[22 + (6 * s + 1)]? = some (sd s 1, .inl (cI, 8, .inl (sa s 1))) := by
  rw [xAt h a e cI cJ cO cE L I M J n cap fE sd si sa dl (by omega), xP_1]
theorem xAt_2 (h : Nat) (a : Nat → Nat) (e : Nat) (cI cJ cO cE : ClassId) (L : Nat → Int64) (I : Nat → Int32) (M : Nat → Nat → Int64) (J : Nat → Nat → Int32) (n cap : Nat) (fE : Nat → Option Nat) (sd : Nat → Nat → Nat) (si : Nat → Nat → Int32) (sa : Nat → Nat → Nat → Int32) (dl : Nat → Nat) {s : Nat} (hs : s < n) : (xW h a e cI cJ cO cE L I M J n cap fE sd si sa dl)[22 + (6 * s + 2)]? = some (sd s 2, .inr (7, [.ref (sd s 3), .int (si s 21), .int (si s 22), .int (si s 23), .int (si s 24), .int (si s 25)])) := by
  rw [xAt h a e cI cJ cO cE L I M J n cap fE sd si sa dl (by omega), xP_2]
theorem xAt_3 (h : Nat) (a : Nat → Nat) (e : Nat) (cI cJ cO cE : ClassId) (L : Nat → Int64) (I : Nat → Int32) (M : Nat → Nat → Int64) (J : Nat → Nat → Int32) (n cap : Nat) (fE : Nat → Option Nat) (sd : Nat → Nat → Nat) (si : Nat → Nat → Int32) (sa : Nat → Nat → Nat → Int32) (dl : Nat → Nat) {s : Nat} (hs : s < n) : (xW h a e cI cJ cO cE L I M J n cap fE sd si sa dl)[22 + (6 * s + 3)]? = some (sd s 3, .inl (cI, 10, .inl (sa s 3))) := by
  rw [xAt h a e cI cJ cO cE L I M J n cap fE sd si sa dl (by omega), xP_3]
theorem xAt_4 (h : Nat) (a : Nat → Nat) (e : Nat) (cI cJ cO cE : ClassId) (L : Nat → Int64) (I : Nat → Int32) (M : Nat → Nat → Int64) (J : Nat → Nat → Int32) (n cap : Nat) (fE : Nat → Option Nat) (sd : Nat → Nat → Nat) (si : Nat → Nat → Int32) (sa : Nat → Nat → Nat → Int32) (dl : Nat → Nat) {s : Nat} (hs : s < n) : (xW h a e cI cJ cO cE L I M J n cap fE sd si sa dl)[22 + (6 * s + 4)]? = some (sd s 4, .inr (1, [.ref (sd s 5), .int (si s 31), .int (si s 32), .int (si s 33), .int (si s 34)])) := by
  rw [xAt h a e cI cJ cO cE L I M J n cap fE sd si sa dl (by omega), xP_4]
theorem xAt_5 (h : Nat) (a : Nat → Nat) (e : Nat) (cI cJ cO cE : ClassId) (L : Nat → Int64) (I : Nat → Int32) (M : Nat → Nat → Int64) (J : Nat → Nat → Int32) (n cap : Nat) (fE : Nat → Option Nat) (sd : Nat → Nat → Nat) (si : Nat → Nat → Int32) (sa : Nat → Nat → Nat → Int32) (dl : Nat → Nat) {s : Nat} (hs : s < n) : (xW h a e cI cJ cO cE L I M J n cap fE sd si sa dl)[22 + (6 * s + 5)]? = some (sd s 5, .inl (cI, dl s, .inl (sa s 5))) := by
  rw [xAt h a e cI cJ cO cE L I M J n cap fE sd si sa dl (by omega), xP_5]
theorem xAt_E (h : Nat) (a : Nat → Nat) (e : Nat) (cI cJ cO cE : ClassId) (L : Nat → Int64) (I : Nat → Int32) (M : Nat → Nat → Int64) (J : Nat → Nat → Int32) (n cap : Nat) (fE : Nat → Option Nat) (sd : Nat → Nat → Nat) (si : Nat → Nat → Int32) (sa : Nat → Nat → Nat → Int32) (dl : Nat → Nat) (hn : 0 < n) : (xW h a e cI cJ cO cE L I M J n cap fE sd si sa dl)[22 + 6 * n]? = some (e, .inl (cE, cap, .inr (.inr (.inr (.inr fE))))) := by
  unfold xW xE
  rw [List.getElem?_append_right (show (xFix h a e cI cJ cO L I M J).length ≤ 22 + 6 * n from Nat.le_add_right 22 _)]
  rw [show 22 + 6 * n - (xFix h a e cI cJ cO L I M J).length = 6 * n from Nat.add_sub_cancel_left 22 _]
  rw [List.getElem?_append_right (by rw [List.length_map, List.length_range]; exact Nat.le_refl _), List.length_map, List.length_range, Nat.sub_self, if_neg (by omega)]
  rfl
theorem x_mapset {α : Type} (f : Nat → α) (N t : Nat) (v : α) : ((List.range N).map f).set t v = (List.range N).map (va_up f t v) := by
  apply List.ext_getElem?
  intro i
  rw [List.getElem?_set, List.getElem?_map, List.getElem?_map]
  by_cases hi : i < N
  · rw [List.getElem?_range hi]
    by_cases e : t = i
    · subst e
      simp [va_up, hi]
    · simp [va_up, e, Ne.symm e]
  · rw [List.getElem?_eq_none (by rw [List.length_range]; omega)]
    by_cases e : t = i
    · subst e
      simp [hi]
    · simp [e]
theorem xSet (h : Nat) (a : Nat → Nat) (e : Nat) (cI cJ cO cE : ClassId) (L : Nat → Int64) (I : Nat → Int32) (M : Nat → Nat → Int64) (J : Nat → Nat → Int32) (n cap : Nat) (fE : Nat → Option Nat) (sd : Nat → Nat → Nat) (si : Nat → Nat → Int32) (sa : Nat → Nat → Nat → Int32) (dl : Nat → Nat) {t : Nat} (ht : t < 6 * n) (v : Nat × va_E) : (xW h a e cI cJ cO cE L I M J n cap fE sd si sa dl).set (22 + t) v = xFix h a e cI cJ cO L I M J ++ ((List.range (6 * n)).map (va_up (xP cI sd si sa dl) t v) ++ xE n e cap cE fE) := by
  unfold xW
  rw [List.set_append_right _ _ (show (xFix h a e cI cJ cO L I M J).length ≤ 22 + t from Nat.le_add_right 22 t)]
  rw [show 22 + t - (xFix h a e cI cJ cO L I M J).length = t from Nat.add_sub_cancel_left 22 t]
  rw [List.set_append_left _ _ (by rw [List.length_map, List.length_range]; exact ht), x_mapset]
def up2 {α : Type} (f : Nat → Nat → α) (s q : Nat) (x : α) : Nat → Nat → α := fun s2 q2 => if s2 = s ∧ q2 = q then x else f s2 q2
theorem xSv_6 (h : Nat) (a : Nat → Nat) (e : Nat) (cI cJ cO cE : ClassId) (L : Nat → Int64) (I : Nat → Int32) (M : Nat → Nat → Int64) (J : Nat → Nat → Int32) (n cap : Nat) (fE : Nat → Option Nat) (sd : Nat → Nat → Nat) (si : Nat → Nat → Int32) (sa : Nat → Nat → Nat → Int32) (dl : Nat → Nat) {s : Nat} (hs : s < n) (x : Int32) : (xW h a e cI cJ cO cE L I M J n cap fE sd si sa dl).set (22 + (6 * s + 0)) (sd s 0, .inr (8, [.int (si s 0), .int (si s 1), .int (si s 2), .ref (sd s 1), .ref (sd s 2), .ref (sd s 4), .int x, .int (si s 7), .int (si s 8), .int (si s 9), .int (si s 10), .int (si s 11)])) = xW h a e cI cJ cO cE L I M J n cap fE sd (up2 si s 6 x) sa dl := by
  rw [xSet h a e cI cJ cO cE L I M J n cap fE sd si sa dl (by omega)]
  unfold xW
  congr 2
  apply List.map_congr_left
  intro t _
  by_cases et : t = 6 * s + 0
  · subst et
    rw [va_up_self, xP_0]
    simp [up2]
  · rw [va_up_ne _ _ et]
    have hq : t / 6 ≠ s ∨ t % 6 ≠ 0 := by omega
    unfold xP
    rcases hq with hq | hq
    · simp [up2, hq]
    · simp [up2, hq]
theorem xSv_7 (h : Nat) (a : Nat → Nat) (e : Nat) (cI cJ cO cE : ClassId) (L : Nat → Int64) (I : Nat → Int32) (M : Nat → Nat → Int64) (J : Nat → Nat → Int32) (n cap : Nat) (fE : Nat → Option Nat) (sd : Nat → Nat → Nat) (si : Nat → Nat → Int32) (sa : Nat → Nat → Nat → Int32) (dl : Nat → Nat) {s : Nat} (hs : s < n) (x : Int32) : (xW h a e cI cJ cO cE L I M J n cap fE sd si sa dl).set (22 + (6 * s + 0)) (sd s 0, .inr (8, [.int (si s 0), .int (si s 1), .int (si s 2), .ref (sd s 1), .ref (sd s 2), .ref (sd s 4), .int (si s 6), .int x, .int (si s 8), .int (si s 9), .int (si s 10), .int (si s 11)])) = xW h a e cI cJ cO cE L I M J n cap fE sd (up2 si s 7 x) sa dl := by
  rw [xSet h a e cI cJ cO cE L I M J n cap fE sd si sa dl (by omega)]
  unfold xW
  congr 2
  apply List.map_congr_left
  intro t _
  by_cases et : t = 6 * s + 0
  · subst et
    rw [va_up_self, xP_0]
    simp [up2]
  · rw [va_up_ne _ _ et]
    have hq : t / 6 ≠ s ∨ t % 6 ≠ 0 := by omega
    unfold xP
    rcases hq with hq | hq
    · simp [up2, hq]
    · simp [up2, hq]
theorem xSv_8 (h : Nat) (a : Nat → Nat) (e : Nat) (cI cJ cO cE : ClassId) (L : Nat → Int64) (I : Nat → Int32) (M : Nat → Nat → Int64) (J : Nat → Nat → Int32) (n cap : Nat) (fE : Nat → Option Nat) (sd : Nat → Nat → Nat) (si : Nat → Nat → Int32) (sa : Nat → Nat → Nat → Int32) (dl : Nat → Nat) {s : Nat} (hs : s < n) (x : Int32) : (xW h a e cI cJ cO cE L I M J n cap fE sd si sa dl).set (22 + (6 * s + 0)) (sd s 0, .inr (8, [.int (si s 0), .int (si s 1), .int (si s 2), .ref (sd s 1), .ref (sd s 2), .ref (sd s 4), .int (si s 6), .int (si s 7), .int x, .int (si s 9), .int (si s 10), .int (si s 11)])) = xW h a e cI cJ cO cE L I M J n cap fE sd (up2 si s 8 x) sa dl := by
  rw [xSet h a e cI cJ cO cE L I M J n cap fE sd si sa dl (by omega)]
  unfold xW
  congr 2
  apply List.map_congr_left
  intro t _
  by_cases et : t = 6 * s + 0
  · subst et
    rw [va_up_self, xP_0]
    simp [up2]
  · rw [va_up_ne _ _ et]
    have hq : t / 6 ≠ s ∨ t % 6 ≠ 0 := by omega
    unfold xP
    rcases hq with hq | hq
    · simp [up2, hq]
    · simp [up2, hq]
theorem xSv_9 (h : Nat) (a : Nat → Nat) (e : Nat) (cI cJ cO cE : ClassId) (L : Nat → Int64) (I : Nat → Int32) (M : Nat → Nat → Int64) (J : Nat → Nat → Int32) (n cap : Nat) (fE : Nat → Option Nat) (sd : Nat → Nat → Nat) (si : Nat → Nat → Int32) (sa : Nat → Nat → Nat → Int32) (dl : Nat → Nat) {s : Nat} (hs : s < n) (x : Int32) : (xW h a e cI cJ cO cE L I M J n cap fE sd si sa dl).set (22 + (6 * s + 0)) (sd s 0, .inr (8, [.int (si s 0), .int (si s 1), .int (si s 2), .ref (sd s 1), .ref (sd s 2), .ref (sd s 4), .int (si s 6), .int (si s 7), .int (si s 8), .int x, .int (si s 10), .int (si s 11)])) = xW h a e cI cJ cO cE L I M J n cap fE sd (up2 si s 9 x) sa dl := by
  rw [xSet h a e cI cJ cO cE L I M J n cap fE sd si sa dl (by omega)]
  unfold xW
  congr 2
  apply List.map_congr_left
  intro t _
  by_cases et : t = 6 * s + 0
  · subst et
    rw [va_up_self, xP_0]
    simp [up2]
  · rw [va_up_ne _ _ et]
    have hq : t / 6 ≠ s ∨ t % 6 ≠ 0 := by omega
    unfold xP
    rcases hq with hq | hq
    · simp [up2, hq]
    · simp [up2, hq]
theorem xSv_10 (h : Nat) (a : Nat → Nat) (e : Nat) (cI cJ cO cE : ClassId) (L : Nat → Int64) (I : Nat → Int32) (M : Nat → Nat → Int64) (J : Nat → Nat → Int32) (n cap : Nat) (fE : Nat → Option Nat) (sd : Nat → Nat → Nat) (si : Nat → Nat → Int32) (sa : Nat → Nat → Nat → Int32) (dl : Nat → Nat) {s : Nat} (hs : s < n) (x : Int32) : (xW h a e cI cJ cO cE L I M J n cap fE sd si sa dl).set (22 + (6 * s + 0)) (sd s 0, .inr (8, [.int (si s 0), .int (si s 1), .int (si s 2), .ref (sd s 1), .ref (sd s 2), .ref (sd s 4), .int (si s 6), .int (si s 7), .int (si s 8), .int (si s 9), .int x, .int (si s 11)])) = xW h a e cI cJ cO cE L I M J n cap fE sd (up2 si s 10 x) sa dl := by
  rw [xSet h a e cI cJ cO cE L I M J n cap fE sd si sa dl (by omega)]
  unfold xW
  congr 2
  apply List.map_congr_left
  intro t _
  by_cases et : t = 6 * s + 0
  · subst et
    rw [va_up_self, xP_0]
    simp [up2]
  · rw [va_up_ne _ _ et]
    have hq : t / 6 ≠ s ∨ t % 6 ≠ 0 := by omega
    unfold xP
    rcases hq with hq | hq
    · simp [up2, hq]
    · simp [up2, hq]
theorem xSv_11 (h : Nat) (a : Nat → Nat) (e : Nat) (cI cJ cO cE : ClassId) (L : Nat → Int64) (I : Nat → Int32) (M : Nat → Nat → Int64) (J : Nat → Nat → Int32) (n cap : Nat) (fE : Nat → Option Nat) (sd : Nat → Nat → Nat) (si : Nat → Nat → Int32) (sa : Nat → Nat → Nat → Int32) (dl : Nat → Nat) {s : Nat} (hs : s < n) (x : Int32) : (xW h a e cI cJ cO cE L I M J n cap fE sd si sa dl).set (22 + (6 * s + 0)) (sd s 0, .inr (8, [.int (si s 0), .int (si s 1), .int (si s 2), .ref (sd s 1), .ref (sd s 2), .ref (sd s 4), .int (si s 6), .int (si s 7), .int (si s 8), .int (si s 9), .int (si s 10), .int x])) = xW h a e cI cJ cO cE L I M J n cap fE sd (up2 si s 11 x) sa dl := by
  rw [xSet h a e cI cJ cO cE L I M J n cap fE sd si sa dl (by omega)]
  unfold xW
  congr 2
  apply List.map_congr_left
  intro t _
  by_cases et : t = 6 * s + 0
  · subst et
    rw [va_up_self, xP_0]
    simp [up2]
  · rw [va_up_ne _ _ et]
    have hq : t / 6 ≠ s ∨ t % 6 ≠ 0 := by omega
    unfold xP
    rcases hq with hq | hq
    · simp [up2, hq]
    · simp [up2, hq]
theorem xSv_21 (h : Nat) (a : Nat → Nat) (e : Nat) (cI cJ cO cE : ClassId) (L : Nat → Int64) (I : Nat → Int32) (M : Nat → Nat → Int64) (J : Nat → Nat → Int32) (n cap : Nat) (fE : Nat → Option Nat) (sd : Nat → Nat → Nat) (si : Nat → Nat → Int32) (sa : Nat → Nat → Nat → Int32) (dl : Nat → Nat) {s : Nat} (hs : s < n) (x : Int32) : (xW h a e cI cJ cO cE L I M J n cap fE sd si sa dl).set (22 + (6 * s + 2)) (sd s 2, .inr (7, [.ref (sd s 3), .int x, .int (si s 22), .int (si s 23), .int (si s 24), .int (si s 25)])) = xW h a e cI cJ cO cE L I M J n cap fE sd (up2 si s 21 x) sa dl := by
  rw [xSet h a e cI cJ cO cE L I M J n cap fE sd si sa dl (by omega)]
  unfold xW
  congr 2
  apply List.map_congr_left
  intro t _
  by_cases et : t = 6 * s + 2
  · subst et
    rw [va_up_self, xP_2]
    simp [up2]
  · rw [va_up_ne _ _ et]
    have hq : t / 6 ≠ s ∨ t % 6 ≠ 2 := by omega
    unfold xP
    rcases hq with hq | hq
    · simp [up2, hq]
    · simp [up2, hq]
theorem xSv_22 (h : Nat) (a : Nat → Nat) (e : Nat) (cI cJ cO cE : ClassId) (L : Nat → Int64) (I : Nat → Int32) (M : Nat → Nat → Int64) (J : Nat → Nat → Int32) (n cap : Nat) (fE : Nat → Option Nat) (sd : Nat → Nat → Nat) (si : Nat → Nat → Int32) (sa : Nat → Nat → Nat → Int32) (dl : Nat → Nat) {s : Nat} (hs : s < n) (x : Int32) : (xW h a e cI cJ cO cE L I M J n cap fE sd si sa dl).set (22 + (6 * s + 2)) (sd s 2, .inr (7, [.ref (sd s 3), .int (si s 21), .int x, .int (si s 23), .int (si s 24), .int (si s 25)])) = xW h a e cI cJ cO cE L I M J n cap fE sd (up2 si s 22 x) sa dl := by
  rw [xSet h a e cI cJ cO cE L I M J n cap fE sd si sa dl (by omega)]
  unfold xW
  congr 2
  apply List.map_congr_left
  intro t _
  by_cases et : t = 6 * s + 2
  · subst et
    rw [va_up_self, xP_2]
    simp [up2]
  · rw [va_up_ne _ _ et]
    have hq : t / 6 ≠ s ∨ t % 6 ≠ 2 := by omega
    unfold xP
    rcases hq with hq | hq
    · simp [up2, hq]
    · simp [up2, hq]
theorem xSv_23 (h : Nat) (a : Nat → Nat) (e : Nat) (cI cJ cO cE : ClassId) (L : Nat → Int64) (I : Nat → Int32) (M : Nat → Nat → Int64) (J : Nat → Nat → Int32) (n cap : Nat) (fE : Nat → Option Nat) (sd : Nat → Nat → Nat) (si : Nat → Nat → Int32) (sa : Nat → Nat → Nat → Int32) (dl : Nat → Nat) {s : Nat} (hs : s < n) (x : Int32) : (xW h a e cI cJ cO cE L I M J n cap fE sd si sa dl).set (22 + (6 * s + 2)) (sd s 2, .inr (7, [.ref (sd s 3), .int (si s 21), .int (si s 22), .int x, .int (si s 24), .int (si s 25)])) = xW h a e cI cJ cO cE L I M J n cap fE sd (up2 si s 23 x) sa dl := by
  rw [xSet h a e cI cJ cO cE L I M J n cap fE sd si sa dl (by omega)]
  unfold xW
  congr 2
  apply List.map_congr_left
  intro t _
  by_cases et : t = 6 * s + 2
  · subst et
    rw [va_up_self, xP_2]
    simp [up2]
  · rw [va_up_ne _ _ et]
    have hq : t / 6 ≠ s ∨ t % 6 ≠ 2 := by omega
    unfold xP
    rcases hq with hq | hq
    · simp [up2, hq]
    · simp [up2, hq]
theorem xSv_24 (h : Nat) (a : Nat → Nat) (e : Nat) (cI cJ cO cE : ClassId) (L : Nat → Int64) (I : Nat → Int32) (M : Nat → Nat → Int64) (J : Nat → Nat → Int32) (n cap : Nat) (fE : Nat → Option Nat) (sd : Nat → Nat → Nat) (si : Nat → Nat → Int32) (sa : Nat → Nat → Nat → Int32) (dl : Nat → Nat) {s : Nat} (hs : s < n) (x : Int32) : (xW h a e cI cJ cO cE L I M J n cap fE sd si sa dl).set (22 + (6 * s + 2)) (sd s 2, .inr (7, [.ref (sd s 3), .int (si s 21), .int (si s 22), .int (si s 23), .int x, .int (si s 25)])) = xW h a e cI cJ cO cE L I M J n cap fE sd (up2 si s 24 x) sa dl := by
  rw [xSet h a e cI cJ cO cE L I M J n cap fE sd si sa dl (by omega)]
  unfold xW
  congr 2
  apply List.map_congr_left
  intro t _
  by_cases et : t = 6 * s + 2
  · subst et
    rw [va_up_self, xP_2]
    simp [up2]
  · rw [va_up_ne _ _ et]
    have hq : t / 6 ≠ s ∨ t % 6 ≠ 2 := by omega
    unfold xP
    rcases hq with hq | hq
    · simp [up2, hq]
    · simp [up2, hq]
theorem xSv_25 (h : Nat) (a : Nat → Nat) (e : Nat) (cI cJ cO cE : ClassId) (L : Nat → Int64) (I : Nat → Int32) (M : Nat → Nat → Int64) (J : Nat → Nat → Int32) (n cap : Nat) (fE : Nat → Option Nat) (sd : Nat → Nat → Nat) (si : Nat → Nat → Int32) (sa : Nat → Nat → Nat → Int32) (dl : Nat → Nat) {s : Nat} (hs : s < n) (x : Int32) : (xW h a e cI cJ cO cE L I M J n cap fE sd si sa dl).set (22 + (6 * s + 2)) (sd s 2, .inr (7, [.ref (sd s 3), .int (si s 21), .int (si s 22), .int (si s 23), .int (si s 24), .int x])) = xW h a e cI cJ cO cE L I M J n cap fE sd (up2 si s 25 x) sa dl := by
  rw [xSet h a e cI cJ cO cE L I M J n cap fE sd si sa dl (by omega)]
  unfold xW
  congr 2
  apply List.map_congr_left
  intro t _
  by_cases et : t = 6 * s + 2
  · subst et
    rw [va_up_self, xP_2]
    simp [up2]
  · rw [va_up_ne _ _ et]
    have hq : t / 6 ≠ s ∨ t % 6 ≠ 2 := by omega
    unfold xP
    rcases hq with hq | hq
    · simp [up2, hq]
    · simp [up2, hq]
theorem xSv_31 (h : Nat) (a : Nat → Nat) (e : Nat) (cI cJ cO cE : ClassId) (L : Nat → Int64) (I : Nat → Int32) (M : Nat → Nat → Int64) (J : Nat → Nat → Int32) (n cap : Nat) (fE : Nat → Option Nat) (sd : Nat → Nat → Nat) (si : Nat → Nat → Int32) (sa : Nat → Nat → Nat → Int32) (dl : Nat → Nat) {s : Nat} (hs : s < n) (x : Int32) : (xW h a e cI cJ cO cE L I M J n cap fE sd si sa dl).set (22 + (6 * s + 4)) (sd s 4, .inr (1, [.ref (sd s 5), .int x, .int (si s 32), .int (si s 33), .int (si s 34)])) = xW h a e cI cJ cO cE L I M J n cap fE sd (up2 si s 31 x) sa dl := by
  rw [xSet h a e cI cJ cO cE L I M J n cap fE sd si sa dl (by omega)]
  unfold xW
  congr 2
  apply List.map_congr_left
  intro t _
  by_cases et : t = 6 * s + 4
  · subst et
    rw [va_up_self, xP_4]
    simp [up2]
  · rw [va_up_ne _ _ et]
    have hq : t / 6 ≠ s ∨ t % 6 ≠ 4 := by omega
    unfold xP
    rcases hq with hq | hq
    · simp [up2, hq]
    · simp [up2, hq]
theorem xSv_32 (h : Nat) (a : Nat → Nat) (e : Nat) (cI cJ cO cE : ClassId) (L : Nat → Int64) (I : Nat → Int32) (M : Nat → Nat → Int64) (J : Nat → Nat → Int32) (n cap : Nat) (fE : Nat → Option Nat) (sd : Nat → Nat → Nat) (si : Nat → Nat → Int32) (sa : Nat → Nat → Nat → Int32) (dl : Nat → Nat) {s : Nat} (hs : s < n) (x : Int32) : (xW h a e cI cJ cO cE L I M J n cap fE sd si sa dl).set (22 + (6 * s + 4)) (sd s 4, .inr (1, [.ref (sd s 5), .int (si s 31), .int x, .int (si s 33), .int (si s 34)])) = xW h a e cI cJ cO cE L I M J n cap fE sd (up2 si s 32 x) sa dl := by
  rw [xSet h a e cI cJ cO cE L I M J n cap fE sd si sa dl (by omega)]
  unfold xW
  congr 2
  apply List.map_congr_left
  intro t _
  by_cases et : t = 6 * s + 4
  · subst et
    rw [va_up_self, xP_4]
    simp [up2]
  · rw [va_up_ne _ _ et]
    have hq : t / 6 ≠ s ∨ t % 6 ≠ 4 := by omega
    unfold xP
    rcases hq with hq | hq
    · simp [up2, hq]
    · simp [up2, hq]
theorem xSv_33 (h : Nat) (a : Nat → Nat) (e : Nat) (cI cJ cO cE : ClassId) (L : Nat → Int64) (I : Nat → Int32) (M : Nat → Nat → Int64) (J : Nat → Nat → Int32) (n cap : Nat) (fE : Nat → Option Nat) (sd : Nat → Nat → Nat) (si : Nat → Nat → Int32) (sa : Nat → Nat → Nat → Int32) (dl : Nat → Nat) {s : Nat} (hs : s < n) (x : Int32) : (xW h a e cI cJ cO cE L I M J n cap fE sd si sa dl).set (22 + (6 * s + 4)) (sd s 4, .inr (1, [.ref (sd s 5), .int (si s 31), .int (si s 32), .int x, .int (si s 34)])) = xW h a e cI cJ cO cE L I M J n cap fE sd (up2 si s 33 x) sa dl := by
  rw [xSet h a e cI cJ cO cE L I M J n cap fE sd si sa dl (by omega)]
  unfold xW
  congr 2
  apply List.map_congr_left
  intro t _
  by_cases et : t = 6 * s + 4
  · subst et
    rw [va_up_self, xP_4]
    simp [up2]
  · rw [va_up_ne _ _ et]
    have hq : t / 6 ≠ s ∨ t % 6 ≠ 4 := by omega
    unfold xP
    rcases hq with hq | hq
    · simp [up2, hq]
    · simp [up2, hq]
theorem xSv_34 (h : Nat) (a : Nat → Nat) (e : Nat) (cI cJ cO cE : ClassId) (L : Nat → Int64) (I : Nat → Int32) (M : Nat → Nat → Int64) (J : Nat → Nat → Int32) (n cap : Nat) (fE : Nat → Option Nat) (sd : Nat → Nat → Nat) (si : Nat → Nat → Int32) (sa : Nat → Nat → Nat → Int32) (dl : Nat → Nat) {s : Nat} (hs : s < n) (x : Int32) : (xW h a e cI cJ cO cE L I M J n cap fE sd si sa dl).set (22 + (6 * s + 4)) (sd s 4, .inr (1, [.ref (sd s 5), .int (si s 31), .int (si s 32), .int (si s 33), .int x])) = xW h a e cI cJ cO cE L I M J n cap fE sd (up2 si s 34 x) sa dl := by
  rw [xSet h a e cI cJ cO cE L I M J n cap fE sd si sa dl (by omega)]
  unfold xW
  congr 2
  apply List.map_congr_left
  intro t _
  by_cases et : t = 6 * s + 4
  · subst et
    rw [va_up_self, xP_4]
    simp [up2]
  · rw [va_up_ne _ _ et]
    have hq : t / 6 ≠ s ∨ t % 6 ≠ 4 := by omega
    unfold xP
    rcases hq with hq | hq
    · simp [up2, hq]
    · simp [up2, hq]
theorem xSa_1 (h : Nat) (a : Nat → Nat) (e : Nat) (cI cJ cO cE : ClassId) (L : Nat → Int64) (I : Nat → Int32) (M : Nat → Nat → Int64) (J : Nat → Nat → Int32) (n cap : Nat) (fE : Nat → Option Nat) (sd : Nat → Nat → Nat) (si : Nat → Nat → Int32) (sa : Nat → Nat → Nat → Int32) (dl : Nat → Nat) {s : Nat} (hs : s < n) (g : Nat → Int32) : (xW h a e cI cJ cO cE L I M J n cap fE sd si sa dl).set (22 + (6 * s + 1)) (sd s 1, .inl (cI, 8, .inl g)) = xW h a e cI cJ cO cE L I M J n cap fE sd si (up2 sa s 1 g) dl := by
  rw [xSet h a e cI cJ cO cE L I M J n cap fE sd si sa dl (by omega)]
  unfold xW
  congr 2
  apply List.map_congr_left
  intro t _
  by_cases et : t = 6 * s + 1
  · subst et
    rw [va_up_self, xP_1]
    simp [up2]
  · rw [va_up_ne _ _ et]
    have hq : t / 6 ≠ s ∨ t % 6 ≠ 1 := by omega
    unfold xP
    rcases hq with hq | hq
    · simp [up2, hq]
    · simp [up2, hq]
theorem xSa_3 (h : Nat) (a : Nat → Nat) (e : Nat) (cI cJ cO cE : ClassId) (L : Nat → Int64) (I : Nat → Int32) (M : Nat → Nat → Int64) (J : Nat → Nat → Int32) (n cap : Nat) (fE : Nat → Option Nat) (sd : Nat → Nat → Nat) (si : Nat → Nat → Int32) (sa : Nat → Nat → Nat → Int32) (dl : Nat → Nat) {s : Nat} (hs : s < n) (g : Nat → Int32) : (xW h a e cI cJ cO cE L I M J n cap fE sd si sa dl).set (22 + (6 * s + 3)) (sd s 3, .inl (cI, 10, .inl g)) = xW h a e cI cJ cO cE L I M J n cap fE sd si (up2 sa s 3 g) dl := by
  rw [xSet h a e cI cJ cO cE L I M J n cap fE sd si sa dl (by omega)]
  unfold xW
  congr 2
  apply List.map_congr_left
  intro t _
  by_cases et : t = 6 * s + 3
  · subst et
    rw [va_up_self, xP_3]
    simp [up2]
  · rw [va_up_ne _ _ et]
    have hq : t / 6 ≠ s ∨ t % 6 ≠ 3 := by omega
    unfold xP
    rcases hq with hq | hq
    · simp [up2, hq]
    · simp [up2, hq]
theorem xSa_5 (h : Nat) (a : Nat → Nat) (e : Nat) (cI cJ cO cE : ClassId) (L : Nat → Int64) (I : Nat → Int32) (M : Nat → Nat → Int64) (J : Nat → Nat → Int32) (n cap : Nat) (fE : Nat → Option Nat) (sd : Nat → Nat → Nat) (si : Nat → Nat → Int32) (sa : Nat → Nat → Nat → Int32) (dl : Nat → Nat) {s : Nat} (hs : s < n) (g : Nat → Int32) : (xW h a e cI cJ cO cE L I M J n cap fE sd si sa dl).set (22 + (6 * s + 5)) (sd s 5, .inl (cI, dl s, .inl g)) = xW h a e cI cJ cO cE L I M J n cap fE sd si (up2 sa s 5 g) dl := by
  rw [xSet h a e cI cJ cO cE L I M J n cap fE sd si sa dl (by omega)]
  unfold xW
  congr 2
  apply List.map_congr_left
  intro t _
  by_cases et : t = 6 * s + 5
  · subst et
    rw [va_up_self, xP_5]
    simp [up2]
  · rw [va_up_ne _ _ et]
    have hq : t / 6 ≠ s ∨ t % 6 ≠ 5 := by omega
    unfold xP
    rcases hq with hq | hq
    · simp [up2, hq]
    · rcases (show t % 6 = 0 ∨ t % 6 = 1 ∨ t % 6 = 2 ∨ t % 6 = 3 ∨ t % 6 = 4 by omega) with h9 | h9 | h9 | h9 | h9 <;> simp [up2, h9]
theorem xF_L0 (h : Nat) (a : Nat → Nat) (e : Nat) (cI cJ cO cE : ClassId) (L : Nat → Int64) (I : Nat → Int32) (M : Nat → Nat → Int64) (J : Nat → Nat → Int32) (n cap : Nat) (fE : Nat → Option Nat) (sd : Nat → Nat → Nat) (si : Nat → Nat → Int32) (sa : Nat → Nat → Nat → Int32) (dl : Nat → Nat) (x : Int64) : (xW h a e cI cJ cO cE L I M J n cap fE sd si sa dl).set 0 (h, .inr (9, [.ref (a 0), .ref (a 1), .ref (a 2), .ref (a 3), .ref (a 4), .ref (a 5), .ref (a 6), .long x, .long (L 1), .int (I 0), .int (I 1), .int (I 2), .int (I 3), .int (I 4)])) = xW h a e cI cJ cO cE (va_up L 0 x) I M J n cap fE sd si sa dl := by simp [xW, xFix, va_up]
theorem xF_L1 (h : Nat) (a : Nat → Nat) (e : Nat) (cI cJ cO cE : ClassId) (L : Nat → Int64) (I : Nat → Int32) (M : Nat → Nat → Int64) (J : Nat → Nat → Int32) (n cap : Nat) (fE : Nat → Option Nat) (sd : Nat → Nat → Nat) (si : Nat → Nat → Int32) (sa : Nat → Nat → Nat → Int32) (dl : Nat → Nat) (x : Int64) : (xW h a e cI cJ cO cE L I M J n cap fE sd si sa dl).set 0 (h, .inr (9, [.ref (a 0), .ref (a 1), .ref (a 2), .ref (a 3), .ref (a 4), .ref (a 5), .ref (a 6), .long (L 0), .long x, .int (I 0), .int (I 1), .int (I 2), .int (I 3), .int (I 4)])) = xW h a e cI cJ cO cE (va_up L 1 x) I M J n cap fE sd si sa dl := by simp [xW, xFix, va_up]
theorem xF_I0 (h : Nat) (a : Nat → Nat) (e : Nat) (cI cJ cO cE : ClassId) (L : Nat → Int64) (I : Nat → Int32) (M : Nat → Nat → Int64) (J : Nat → Nat → Int32) (n cap : Nat) (fE : Nat → Option Nat) (sd : Nat → Nat → Nat) (si : Nat → Nat → Int32) (sa : Nat → Nat → Nat → Int32) (dl : Nat → Nat) (x : Int32) : (xW h a e cI cJ cO cE L I M J n cap fE sd si sa dl).set 0 (h, .inr (9, [.ref (a 0), .ref (a 1), .ref (a 2), .ref (a 3), .ref (a 4), .ref (a 5), .ref (a 6), .long (L 0), .long (L 1), .int x, .int (I 1), .int (I 2), .int (I 3), .int (I 4)])) = xW h a e cI cJ cO cE L (va_up I 0 x) M J n cap fE sd si sa dl := by simp [xW, xFix, va_up]
theorem xF_I1 (h : Nat) (a : Nat → Nat) (e : Nat) (cI cJ cO cE : ClassId) (L : Nat → Int64) (I : Nat → Int32) (M : Nat → Nat → Int64) (J : Nat → Nat → Int32) (n cap : Nat) (fE : Nat → Option Nat) (sd : Nat → Nat → Nat) (si : Nat → Nat → Int32) (sa : Nat → Nat → Nat → Int32) (dl : Nat → Nat) (x : Int32) : (xW h a e cI cJ cO cE L I M J n cap fE sd si sa dl).set 0 (h, .inr (9, [.ref (a 0), .ref (a 1), .ref (a 2), .ref (a 3), .ref (a 4), .ref (a 5), .ref (a 6), .long (L 0), .long (L 1), .int (I 0), .int x, .int (I 2), .int (I 3), .int (I 4)])) = xW h a e cI cJ cO cE L (va_up I 1 x) M J n cap fE sd si sa dl := by simp [xW, xFix, va_up]
theorem xF_I2 (h : Nat) (a : Nat → Nat) (e : Nat) (cI cJ cO cE : ClassId) (L : Nat → Int64) (I : Nat → Int32) (M : Nat → Nat → Int64) (J : Nat → Nat → Int32) (n cap : Nat) (fE : Nat → Option Nat) (sd : Nat → Nat → Nat) (si : Nat → Nat → Int32) (sa : Nat → Nat → Nat → Int32) (dl : Nat → Nat) (x : Int32) : (xW h a e cI cJ cO cE L I M J n cap fE sd si sa dl).set 0 (h, .inr (9, [.ref (a 0), .ref (a 1), .ref (a 2), .ref (a 3), .ref (a 4), .ref (a 5), .ref (a 6), .long (L 0), .long (L 1), .int (I 0), .int (I 1), .int x, .int (I 3), .int (I 4)])) = xW h a e cI cJ cO cE L (va_up I 2 x) M J n cap fE sd si sa dl := by simp [xW, xFix, va_up]
theorem xF_I3 (h : Nat) (a : Nat → Nat) (e : Nat) (cI cJ cO cE : ClassId) (L : Nat → Int64) (I : Nat → Int32) (M : Nat → Nat → Int64) (J : Nat → Nat → Int32) (n cap : Nat) (fE : Nat → Option Nat) (sd : Nat → Nat → Nat) (si : Nat → Nat → Int32) (sa : Nat → Nat → Nat → Int32) (dl : Nat → Nat) (x : Int32) : (xW h a e cI cJ cO cE L I M J n cap fE sd si sa dl).set 0 (h, .inr (9, [.ref (a 0), .ref (a 1), .ref (a 2), .ref (a 3), .ref (a 4), .ref (a 5), .ref (a 6), .long (L 0), .long (L 1), .int (I 0), .int (I 1), .int (I 2), .int x, .int (I 4)])) = xW h a e cI cJ cO cE L (va_up I 3 x) M J n cap fE sd si sa dl := by simp [xW, xFix, va_up]
theorem xF_I4 (h : Nat) (a : Nat → Nat) (e : Nat) (cI cJ cO cE : ClassId) (L : Nat → Int64) (I : Nat → Int32) (M : Nat → Nat → Int64) (J : Nat → Nat → Int32) (n cap : Nat) (fE : Nat → Option Nat) (sd : Nat → Nat → Nat) (si : Nat → Nat → Int32) (sa : Nat → Nat → Nat → Int32) (dl : Nat → Nat) (x : Int32) : (xW h a e cI cJ cO cE L I M J n cap fE sd si sa dl).set 0 (h, .inr (9, [.ref (a 0), .ref (a 1), .ref (a 2), .ref (a 3), .ref (a 4), .ref (a 5), .ref (a 6), .long (L 0), .long (L 1), .int (I 0), .int (I 1), .int (I 2), .int (I 3), .int x])) = xW h a e cI cJ cO cE L (va_up I 4 x) M J n cap fE sd si sa dl := by simp [xW, xFix, va_up]
theorem xF_I7 (h : Nat) (a : Nat → Nat) (e : Nat) (cI cJ cO cE : ClassId) (L : Nat → Int64) (I : Nat → Int32) (M : Nat → Nat → Int64) (J : Nat → Nat → Int32) (n cap : Nat) (fE : Nat → Option Nat) (sd : Nat → Nat → Nat) (si : Nat → Nat → Int32) (sa : Nat → Nat → Nat → Int32) (dl : Nat → Nat) (x : Int32) : (xW h a e cI cJ cO cE L I M J n cap fE sd si sa dl).set 2 (a 1, .inr (6, [.ref (a 10), .ref (a 11), .int x])) = xW h a e cI cJ cO cE L (va_up I 7 x) M J n cap fE sd si sa dl := by simp [xW, xFix, va_up]
theorem xF_L2 (h : Nat) (a : Nat → Nat) (e : Nat) (cI cJ cO cE : ClassId) (L : Nat → Int64) (I : Nat → Int32) (M : Nat → Nat → Int64) (J : Nat → Nat → Int32) (n cap : Nat) (fE : Nat → Option Nat) (sd : Nat → Nat → Nat) (si : Nat → Nat → Int32) (sa : Nat → Nat → Nat → Int32) (dl : Nat → Nat) (x : Int64) : (xW h a e cI cJ cO cE L I M J n cap fE sd si sa dl).set 13 (a 2, .inr (2, [.ref (a 1), .long x, .long (L 3), .long (L 4), .int (I 8)])) = xW h a e cI cJ cO cE (va_up L 2 x) I M J n cap fE sd si sa dl := by simp [xW, xFix, va_up]
theorem xF_L3 (h : Nat) (a : Nat → Nat) (e : Nat) (cI cJ cO cE : ClassId) (L : Nat → Int64) (I : Nat → Int32) (M : Nat → Nat → Int64) (J : Nat → Nat → Int32) (n cap : Nat) (fE : Nat → Option Nat) (sd : Nat → Nat → Nat) (si : Nat → Nat → Int32) (sa : Nat → Nat → Nat → Int32) (dl : Nat → Nat) (x : Int64) : (xW h a e cI cJ cO cE L I M J n cap fE sd si sa dl).set 13 (a 2, .inr (2, [.ref (a 1), .long (L 2), .long x, .long (L 4), .int (I 8)])) = xW h a e cI cJ cO cE (va_up L 3 x) I M J n cap fE sd si sa dl := by simp [xW, xFix, va_up]
theorem xF_L4 (h : Nat) (a : Nat → Nat) (e : Nat) (cI cJ cO cE : ClassId) (L : Nat → Int64) (I : Nat → Int32) (M : Nat → Nat → Int64) (J : Nat → Nat → Int32) (n cap : Nat) (fE : Nat → Option Nat) (sd : Nat → Nat → Nat) (si : Nat → Nat → Int32) (sa : Nat → Nat → Nat → Int32) (dl : Nat → Nat) (x : Int64) : (xW h a e cI cJ cO cE L I M J n cap fE sd si sa dl).set 13 (a 2, .inr (2, [.ref (a 1), .long (L 2), .long (L 3), .long x, .int (I 8)])) = xW h a e cI cJ cO cE (va_up L 4 x) I M J n cap fE sd si sa dl := by simp [xW, xFix, va_up]
theorem xF_I8 (h : Nat) (a : Nat → Nat) (e : Nat) (cI cJ cO cE : ClassId) (L : Nat → Int64) (I : Nat → Int32) (M : Nat → Nat → Int64) (J : Nat → Nat → Int32) (n cap : Nat) (fE : Nat → Option Nat) (sd : Nat → Nat → Nat) (si : Nat → Nat → Int32) (sa : Nat → Nat → Nat → Int32) (dl : Nat → Nat) (x : Int32) : (xW h a e cI cJ cO cE L I M J n cap fE sd si sa dl).set 13 (a 2, .inr (2, [.ref (a 1), .long (L 2), .long (L 3), .long (L 4), .int x])) = xW h a e cI cJ cO cE L (va_up I 8 x) M J n cap fE sd si sa dl := by simp [xW, xFix, va_up]
theorem xF_L5 (h : Nat) (a : Nat → Nat) (e : Nat) (cI cJ cO cE : ClassId) (L : Nat → Int64) (I : Nat → Int32) (M : Nat → Nat → Int64) (J : Nat → Nat → Int32) (n cap : Nat) (fE : Nat → Option Nat) (sd : Nat → Nat → Nat) (si : Nat → Nat → Int32) (sa : Nat → Nat → Nat → Int32) (dl : Nat → Nat) (x : Int64) : (xW h a e cI cJ cO cE L I M J n cap fE sd si sa dl).set 14 (a 3, .inr (4, [.ref (a 1), .long x, .long (L 6), .long (L 7)])) = xW h a e cI cJ cO cE (va_up L 5 x) I M J n cap fE sd si sa dl := by simp [xW, xFix, va_up]
theorem xF_L6 (h : Nat) (a : Nat → Nat) (e : Nat) (cI cJ cO cE : ClassId) (L : Nat → Int64) (I : Nat → Int32) (M : Nat → Nat → Int64) (J : Nat → Nat → Int32) (n cap : Nat) (fE : Nat → Option Nat) (sd : Nat → Nat → Nat) (si : Nat → Nat → Int32) (sa : Nat → Nat → Nat → Int32) (dl : Nat → Nat) (x : Int64) : (xW h a e cI cJ cO cE L I M J n cap fE sd si sa dl).set 14 (a 3, .inr (4, [.ref (a 1), .long (L 5), .long x, .long (L 7)])) = xW h a e cI cJ cO cE (va_up L 6 x) I M J n cap fE sd si sa dl := by simp [xW, xFix, va_up]
theorem xF_L7 (h : Nat) (a : Nat → Nat) (e : Nat) (cI cJ cO cE : ClassId) (L : Nat → Int64) (I : Nat → Int32) (M : Nat → Nat → Int64) (J : Nat → Nat → Int32) (n cap : Nat) (fE : Nat → Option Nat) (sd : Nat → Nat → Nat) (si : Nat → Nat → Int32) (sa : Nat → Nat → Nat → Int32) (dl : Nat → Nat) (x : Int64) : (xW h a e cI cJ cO cE L I M J n cap fE sd si sa dl).set 14 (a 3, .inr (4, [.ref (a 1), .long (L 5), .long (L 6), .long x])) = xW h a e cI cJ cO cE (va_up L 7 x) I M J n cap fE sd si sa dl := by simp [xW, xFix, va_up]
theorem xF_L8 (h : Nat) (a : Nat → Nat) (e : Nat) (cI cJ cO cE : ClassId) (L : Nat → Int64) (I : Nat → Int32) (M : Nat → Nat → Int64) (J : Nat → Nat → Int32) (n cap : Nat) (fE : Nat → Option Nat) (sd : Nat → Nat → Nat) (si : Nat → Nat → Int32) (sa : Nat → Nat → Nat → Int32) (dl : Nat → Nat) (x : Int64) : (xW h a e cI cJ cO cE L I M J n cap fE sd si sa dl).set 15 (a 4, .inr (5, [.ref (a 12), .ref (a 13), .ref (a 14), .long x, .int (I 9), .int (I 10), .int (I 11)])) = xW h a e cI cJ cO cE (va_up L 8 x) I M J n cap fE sd si sa dl := by simp [xW, xFix, va_up]
theorem xF_I9 (h : Nat) (a : Nat → Nat) (e : Nat) (cI cJ cO cE : ClassId) (L : Nat → Int64) (I : Nat → Int32) (M : Nat → Nat → Int64) (J : Nat → Nat → Int32) (n cap : Nat) (fE : Nat → Option Nat) (sd : Nat → Nat → Nat) (si : Nat → Nat → Int32) (sa : Nat → Nat → Nat → Int32) (dl : Nat → Nat) (x : Int32) : (xW h a e cI cJ cO cE L I M J n cap fE sd si sa dl).set 15 (a 4, .inr (5, [.ref (a 12), .ref (a 13), .ref (a 14), .long (L 8), .int x, .int (I 10), .int (I 11)])) = xW h a e cI cJ cO cE L (va_up I 9 x) M J n cap fE sd si sa dl := by simp [xW, xFix, va_up]
theorem xF_I10 (h : Nat) (a : Nat → Nat) (e : Nat) (cI cJ cO cE : ClassId) (L : Nat → Int64) (I : Nat → Int32) (M : Nat → Nat → Int64) (J : Nat → Nat → Int32) (n cap : Nat) (fE : Nat → Option Nat) (sd : Nat → Nat → Nat) (si : Nat → Nat → Int32) (sa : Nat → Nat → Nat → Int32) (dl : Nat → Nat) (x : Int32) : (xW h a e cI cJ cO cE L I M J n cap fE sd si sa dl).set 15 (a 4, .inr (5, [.ref (a 12), .ref (a 13), .ref (a 14), .long (L 8), .int (I 9), .int x, .int (I 11)])) = xW h a e cI cJ cO cE L (va_up I 10 x) M J n cap fE sd si sa dl := by simp [xW, xFix, va_up]
theorem xF_I11 (h : Nat) (a : Nat → Nat) (e : Nat) (cI cJ cO cE : ClassId) (L : Nat → Int64) (I : Nat → Int32) (M : Nat → Nat → Int64) (J : Nat → Nat → Int32) (n cap : Nat) (fE : Nat → Option Nat) (sd : Nat → Nat → Nat) (si : Nat → Nat → Int32) (sa : Nat → Nat → Nat → Int32) (dl : Nat → Nat) (x : Int32) : (xW h a e cI cJ cO cE L I M J n cap fE sd si sa dl).set 15 (a 4, .inr (5, [.ref (a 12), .ref (a 13), .ref (a 14), .long (L 8), .int (I 9), .int (I 10), .int x])) = xW h a e cI cJ cO cE L (va_up I 11 x) M J n cap fE sd si sa dl := by simp [xW, xFix, va_up]
theorem xF_I12 (h : Nat) (a : Nat → Nat) (e : Nat) (cI cJ cO cE : ClassId) (L : Nat → Int64) (I : Nat → Int32) (M : Nat → Nat → Int64) (J : Nat → Nat → Int32) (n cap : Nat) (fE : Nat → Option Nat) (sd : Nat → Nat → Nat) (si : Nat → Nat → Int32) (sa : Nat → Nat → Nat → Int32) (dl : Nat → Nat) (x : Int32) : (xW h a e cI cJ cO cE L I M J n cap fE sd si sa dl).set 19 (a 5, .inr (3, [.ref (a 15), .int x])) = xW h a e cI cJ cO cE L (va_up I 12 x) M J n cap fE sd si sa dl := by simp [xW, xFix, va_up]
theorem xM_0 (h : Nat) (a : Nat → Nat) (e : Nat) (cI cJ cO cE : ClassId) (L : Nat → Int64) (I : Nat → Int32) (M : Nat → Nat → Int64) (J : Nat → Nat → Int32) (n cap : Nat) (fE : Nat → Option Nat) (sd : Nat → Nat → Nat) (si : Nat → Nat → Int32) (sa : Nat → Nat → Nat → Int32) (dl : Nat → Nat) (g : Nat → Int64) : (xW h a e cI cJ cO cE L I M J n cap fE sd si sa dl).set 5 (a 20, .inl (cJ, 40, .inr (.inl g))) = xW h a e cI cJ cO cE L I (va_up M 0 g) J n cap fE sd si sa dl := by simp [xW, xFix, va_up]
theorem xM_1 (h : Nat) (a : Nat → Nat) (e : Nat) (cI cJ cO cE : ClassId) (L : Nat → Int64) (I : Nat → Int32) (M : Nat → Nat → Int64) (J : Nat → Nat → Int32) (n cap : Nat) (fE : Nat → Option Nat) (sd : Nat → Nat → Nat) (si : Nat → Nat → Int32) (sa : Nat → Nat → Nat → Int32) (dl : Nat → Nat) (g : Nat → Int64) : (xW h a e cI cJ cO cE L I M J n cap fE sd si sa dl).set 6 (a 21, .inl (cJ, 40, .inr (.inl g))) = xW h a e cI cJ cO cE L I (va_up M 1 g) J n cap fE sd si sa dl := by simp [xW, xFix, va_up]
theorem xM_2 (h : Nat) (a : Nat → Nat) (e : Nat) (cI cJ cO cE : ClassId) (L : Nat → Int64) (I : Nat → Int32) (M : Nat → Nat → Int64) (J : Nat → Nat → Int32) (n cap : Nat) (fE : Nat → Option Nat) (sd : Nat → Nat → Nat) (si : Nat → Nat → Int32) (sa : Nat → Nat → Nat → Int32) (dl : Nat → Nat) (g : Nat → Int64) : (xW h a e cI cJ cO cE L I M J n cap fE sd si sa dl).set 7 (a 22, .inl (cJ, 40, .inr (.inl g))) = xW h a e cI cJ cO cE L I (va_up M 2 g) J n cap fE sd si sa dl := by simp [xW, xFix, va_up]
theorem xM_3 (h : Nat) (a : Nat → Nat) (e : Nat) (cI cJ cO cE : ClassId) (L : Nat → Int64) (I : Nat → Int32) (M : Nat → Nat → Int64) (J : Nat → Nat → Int32) (n cap : Nat) (fE : Nat → Option Nat) (sd : Nat → Nat → Nat) (si : Nat → Nat → Int32) (sa : Nat → Nat → Nat → Int32) (dl : Nat → Nat) (g : Nat → Int64) : (xW h a e cI cJ cO cE L I M J n cap fE sd si sa dl).set 8 (a 23, .inl (cJ, 40, .inr (.inl g))) = xW h a e cI cJ cO cE L I (va_up M 3 g) J n cap fE sd si sa dl := by simp [xW, xFix, va_up]
theorem xM_4 (h : Nat) (a : Nat → Nat) (e : Nat) (cI cJ cO cE : ClassId) (L : Nat → Int64) (I : Nat → Int32) (M : Nat → Nat → Int64) (J : Nat → Nat → Int32) (n cap : Nat) (fE : Nat → Option Nat) (sd : Nat → Nat → Nat) (si : Nat → Nat → Int32) (sa : Nat → Nat → Nat → Int32) (dl : Nat → Nat) (g : Nat → Int64) : (xW h a e cI cJ cO cE L I M J n cap fE sd si sa dl).set 9 (a 24, .inl (cJ, 40, .inr (.inl g))) = xW h a e cI cJ cO cE L I (va_up M 4 g) J n cap fE sd si sa dl := by simp [xW, xFix, va_up]
theorem xM_5 (h : Nat) (a : Nat → Nat) (e : Nat) (cI cJ cO cE : ClassId) (L : Nat → Int64) (I : Nat → Int32) (M : Nat → Nat → Int64) (J : Nat → Nat → Int32) (n cap : Nat) (fE : Nat → Option Nat) (sd : Nat → Nat → Nat) (si : Nat → Nat → Int32) (sa : Nat → Nat → Nat → Int32) (dl : Nat → Nat) (g : Nat → Int64) : (xW h a e cI cJ cO cE L I M J n cap fE sd si sa dl).set 10 (a 25, .inl (cJ, 40, .inr (.inl g))) = xW h a e cI cJ cO cE L I (va_up M 5 g) J n cap fE sd si sa dl := by simp [xW, xFix, va_up]
theorem xM_6 (h : Nat) (a : Nat → Nat) (e : Nat) (cI cJ cO cE : ClassId) (L : Nat → Int64) (I : Nat → Int32) (M : Nat → Nat → Int64) (J : Nat → Nat → Int32) (n cap : Nat) (fE : Nat → Option Nat) (sd : Nat → Nat → Nat) (si : Nat → Nat → Int32) (sa : Nat → Nat → Nat → Int32) (dl : Nat → Nat) (g : Nat → Int64) : (xW h a e cI cJ cO cE L I M J n cap fE sd si sa dl).set 11 (a 26, .inl (cJ, 40, .inr (.inl g))) = xW h a e cI cJ cO cE L I (va_up M 6 g) J n cap fE sd si sa dl := by simp [xW, xFix, va_up]
theorem xM_7 (h : Nat) (a : Nat → Nat) (e : Nat) (cI cJ cO cE : ClassId) (L : Nat → Int64) (I : Nat → Int32) (M : Nat → Nat → Int64) (J : Nat → Nat → Int32) (n cap : Nat) (fE : Nat → Option Nat) (sd : Nat → Nat → Nat) (si : Nat → Nat → Int32) (sa : Nat → Nat → Nat → Int32) (dl : Nat → Nat) (g : Nat → Int64) : (xW h a e cI cJ cO cE L I M J n cap fE sd si sa dl).set 12 (a 27, .inl (cJ, 40, .inr (.inl g))) = xW h a e cI cJ cO cE L I (va_up M 7 g) J n cap fE sd si sa dl := by simp [xW, xFix, va_up]
theorem xM_8 (h : Nat) (a : Nat → Nat) (e : Nat) (cI cJ cO cE : ClassId) (L : Nat → Int64) (I : Nat → Int32) (M : Nat → Nat → Int64) (J : Nat → Nat → Int32) (n cap : Nat) (fE : Nat → Option Nat) (sd : Nat → Nat → Nat) (si : Nat → Nat → Int32) (sa : Nat → Nat → Nat → Int32) (dl : Nat → Nat) (g : Nat → Int64) : (xW h a e cI cJ cO cE L I M J n cap fE sd si sa dl).set 20 (a 15, .inl (cJ, 2000, .inr (.inl g))) = xW h a e cI cJ cO cE L I (va_up M 8 g) J n cap fE sd si sa dl := by simp [xW, xFix, va_up]
theorem xM_9 (h : Nat) (a : Nat → Nat) (e : Nat) (cI cJ cO cE : ClassId) (L : Nat → Int64) (I : Nat → Int32) (M : Nat → Nat → Int64) (J : Nat → Nat → Int32) (n cap : Nat) (fE : Nat → Option Nat) (sd : Nat → Nat → Nat) (si : Nat → Nat → Int32) (sa : Nat → Nat → Nat → Int32) (dl : Nat → Nat) (g : Nat → Int64) : (xW h a e cI cJ cO cE L I M J n cap fE sd si sa dl).set 21 (a 6, .inl (cJ, 6, .inr (.inl g))) = xW h a e cI cJ cO cE L I (va_up M 9 g) J n cap fE sd si sa dl := by simp [xW, xFix, va_up]
theorem xJ_0 (h : Nat) (a : Nat → Nat) (e : Nat) (cI cJ cO cE : ClassId) (L : Nat → Int64) (I : Nat → Int32) (M : Nat → Nat → Int64) (J : Nat → Nat → Int32) (n cap : Nat) (fE : Nat → Option Nat) (sd : Nat → Nat → Nat) (si : Nat → Nat → Int32) (sa : Nat → Nat → Nat → Int32) (dl : Nat → Nat) (g : Nat → Int32) : (xW h a e cI cJ cO cE L I M J n cap fE sd si sa dl).set 16 (a 12, .inl (cI, 40, .inl g)) = xW h a e cI cJ cO cE L I M (va_up J 0 g) n cap fE sd si sa dl := by simp [xW, xFix, va_up]
theorem xJ_1 (h : Nat) (a : Nat → Nat) (e : Nat) (cI cJ cO cE : ClassId) (L : Nat → Int64) (I : Nat → Int32) (M : Nat → Nat → Int64) (J : Nat → Nat → Int32) (n cap : Nat) (fE : Nat → Option Nat) (sd : Nat → Nat → Nat) (si : Nat → Nat → Int32) (sa : Nat → Nat → Nat → Int32) (dl : Nat → Nat) (g : Nat → Int32) : (xW h a e cI cJ cO cE L I M J n cap fE sd si sa dl).set 17 (a 13, .inl (cI, 40, .inl g)) = xW h a e cI cJ cO cE L I M (va_up J 1 g) n cap fE sd si sa dl := by simp [xW, xFix, va_up]
theorem xJ_2 (h : Nat) (a : Nat → Nat) (e : Nat) (cI cJ cO cE : ClassId) (L : Nat → Int64) (I : Nat → Int32) (M : Nat → Nat → Int64) (J : Nat → Nat → Int32) (n cap : Nat) (fE : Nat → Option Nat) (sd : Nat → Nat → Nat) (si : Nat → Nat → Int32) (sa : Nat → Nat → Nat → Int32) (dl : Nat → Nat) (g : Nat → Int32) : (xW h a e cI cJ cO cE L I M J n cap fE sd si sa dl).set 18 (a 14, .inl (cI, 40, .inl g)) = xW h a e cI cJ cO cE L I M (va_up J 2 g) n cap fE sd si sa dl := by simp [xW, xFix, va_up]

end
section
def InvX (n cap : Nat) (fE : Nat → Option Nat) (sd : Nat → Nat → Nat) (dl : Nat → Nat) (b : Nat) (I : Nat → Int32) (J : Nat → Nat → Int32) (si : Nat → Nat → Int32) : Prop := (n ≤ 40 ∧ n ≤ cap ∧ cap < 100 ∧ I 6 = nI n ∧ ∀ s : Nat, s < n → fE s = some (sd s 0)) ∧ ((∃ p : Nat, p ≤ 40 ∧ I 9 = nI p) ∧ ∃ c : Nat, c ≤ b ∧ I 12 = nI c) ∧ (∀ j : Nat, ∃ x : Nat, x < 40 ∧ J 0 j = nI x) ∧ (∀ s : Nat, ∃ x : Nat, x ≤ 5 ∧ si s 6 = nI x) ∧ (∀ s : Nat, ∃ x : Nat, x < 10 ∧ si s 21 = nI x) ∧ (∀ s : Nat, ∃ x : Nat, x ≤ 10 ∧ si s 24 = nI x) ∧ (∀ s : Nat, (dl s = 20 ∨ dl s = 0) ∧ ∃ x : Nat, x ≤ dl s ∧ si s 32 = nI x) ∧ (∀ s : Nat, ∃ x : Nat, (x < dl s ∨ x = 0) ∧ si s 31 = nI x)
section INVX
variable {n cap b : Nat} {fE : Nat → Option Nat} {sd : Nat → Nat → Nat} {dl : Nat → Nat} {I : Nat → Int32} {J : Nat → Nat → Int32} {si : Nat → Nat → Int32}
theorem InvX.setI {j : Nat} {x : Int32} (h : InvX n cap fE sd dl b I J si) (hj : j ≠ 6 ∧ j ≠ 9 ∧ j ≠ 12) : InvX n cap fE sd dl b (va_up I j x) J si := by
  obtain ⟨⟨a1, a2, a3, a4, a5⟩, h2, h3⟩ := h
  have e6 : va_up I j x 6 = I 6 := va_up_ne I x hj.1.symm
  have e9 : va_up I j x 9 = I 9 := va_up_ne I x hj.2.1.symm
  have e12 : va_up I j x 12 = I 12 := va_up_ne I x hj.2.2.symm
  exact ⟨⟨a1, a2, a3, e6.trans a4, a5⟩, by rw [e9, e12]; exact h2, h3⟩
theorem InvX.set9 {x : Nat} (h : InvX n cap fE sd dl b I J si) (hx : x ≤ 40) : InvX n cap fE sd dl b (va_up I 9 (nI x)) J si := by
  obtain ⟨⟨a1, a2, a3, a4, a5⟩, h2, h3⟩ := h
  exact ⟨⟨a1, a2, a3, (va_up_ne I _ (by decide)).trans a4, a5⟩, ⟨⟨x, hx, va_up_self I 9 _⟩, by rw [va_up_ne I _ (by decide)]; exact h2.2⟩, h3⟩
theorem InvX.set12 {x : Nat} (h : InvX n cap fE sd dl b I J si) (hx : x ≤ b) : InvX n cap fE sd dl b (va_up I 12 (nI x)) J si := by
  obtain ⟨⟨a1, a2, a3, a4, a5⟩, h2, h3⟩ := h
  exact ⟨⟨a1, a2, a3, (va_up_ne I _ (by decide)).trans a4, a5⟩, ⟨by rw [va_up_ne I _ (by decide)]; exact h2.1, ⟨x, hx, va_up_self I 12 _⟩⟩, h3⟩
theorem InvX.mono {b2 : Nat} (h : InvX n cap fE sd dl b I J si) (hb : b ≤ b2) : InvX n cap fE sd dl b2 I J si := by
  obtain ⟨h1, ⟨h2, c, hc, ec⟩, h3⟩ := h
  exact ⟨h1, ⟨h2, c, Nat.le_trans hc hb, ec⟩, h3⟩
theorem InvX.setJ {j : Nat} {g : Nat → Int32} (h : InvX n cap fE sd dl b I J si) (hj : j ≠ 0) : InvX n cap fE sd dl b I (va_up J j g) si := by
  obtain ⟨h1, h2, h3, h4⟩ := h
  exact ⟨h1, h2, by rw [va_up_ne J g hj.symm]; exact h3, h4⟩
theorem InvX.setJ0 {i x : Nat} (h : InvX n cap fE sd dl b I J si) (hx : x < 40) : InvX n cap fE sd dl b I (va_up J 0 (upd (J 0) i (nI x))) si := by
  obtain ⟨h1, h2, h3, h4⟩ := h
  refine ⟨h1, h2, ?_, h4⟩
  rw [va_up_self]
  intro j
  by_cases ej : j = i
  · subst ej; exact ⟨x, hx, pk_us⟩
  · obtain ⟨y, hy, ey⟩ := h3 j; exact ⟨y, hy, (pk_un ej).trans ey⟩
theorem up2_ne {α : Type} {f : Nat → Nat → α} {s q s2 q2 : Nat} {x : α} (h : q2 ≠ q) : up2 f s q x s2 q2 = f s2 q2 := by simp [up2, h]
theorem InvX.setsi {s q : Nat} {x : Int32} (h : InvX n cap fE sd dl b I J si) (hq : q ≠ 6 ∧ q ≠ 21 ∧ q ≠ 24 ∧ q ≠ 31 ∧ q ≠ 32) : InvX n cap fE sd dl b I J (up2 si s q x) := by
  obtain ⟨h1, h2, h3, h4, h5, h6, h7, h8⟩ := h
  refine ⟨h1, h2, h3, fun t => ?_, fun t => ?_, fun t => ?_, fun t => ?_, fun t => ?_⟩
  · rw [up2_ne hq.1.symm]; exact h4 t
  · rw [up2_ne hq.2.1.symm]; exact h5 t
  · rw [up2_ne hq.2.2.1.symm]; exact h6 t
  · rw [up2_ne hq.2.2.2.2.symm]; exact h7 t
  · rw [up2_ne hq.2.2.2.1.symm]; exact h8 t
theorem up2_or {α : Type} {f : Nat → Nat → α} {s q : Nat} {x : α} {P : Nat → α → Prop} (h : ∀ t : Nat, P t (f t q)) (hx : P s x) : ∀ t : Nat, P t (up2 f s q x t q) := by
  intro t
  by_cases e : t = s
  · subst e; simp [up2]; exact hx
  · simp [up2, e]; exact h t
theorem InvX.set6 {s x : Nat} (h : InvX n cap fE sd dl b I J si) (hx : x ≤ 5) : InvX n cap fE sd dl b I J (up2 si s 6 (nI x)) := by
  obtain ⟨h1, h2, h3, h4, h5, h6, h7, h8⟩ := h
  refine ⟨h1, h2, h3, up2_or (P := fun _ v => ∃ x : Nat, x ≤ 5 ∧ v = nI x) h4 ⟨x, hx, rfl⟩, fun t => ?_, fun t => ?_, fun t => ?_, fun t => ?_⟩
  · rw [up2_ne (by decide)]; exact h5 t
  · rw [up2_ne (by decide)]; exact h6 t
  · rw [up2_ne (by decide)]; exact h7 t
  · rw [up2_ne (by decide)]; exact h8 t
theorem InvX.set21 {s x : Nat} (h : InvX n cap fE sd dl b I J si) (hx : x < 10) : InvX n cap fE sd dl b I J (up2 si s 21 (nI x)) := by
  obtain ⟨h1, h2, h3, h4, h5, h6, h7, h8⟩ := h
  refine ⟨h1, h2, h3, fun t => ?_, up2_or (P := fun _ v => ∃ x : Nat, x < 10 ∧ v = nI x) h5 ⟨x, hx, rfl⟩, fun t => ?_, fun t => ?_, fun t => ?_⟩
  · rw [up2_ne (by decide)]; exact h4 t
  · rw [up2_ne (by decide)]; exact h6 t
  · rw [up2_ne (by decide)]; exact h7 t
  · rw [up2_ne (by decide)]; exact h8 t
theorem InvX.set24 {s x : Nat} (h : InvX n cap fE sd dl b I J si) (hx : x ≤ 10) : InvX n cap fE sd dl b I J (up2 si s 24 (nI x)) := by
  obtain ⟨h1, h2, h3, h4, h5, h6, h7, h8⟩ := h
  refine ⟨h1, h2, h3, fun t => ?_, fun t => ?_, up2_or (P := fun _ v => ∃ x : Nat, x ≤ 10 ∧ v = nI x) h6 ⟨x, hx, rfl⟩, fun t => ?_, fun t => ?_⟩
  · rw [up2_ne (by decide)]; exact h4 t
  · rw [up2_ne (by decide)]; exact h5 t
  · rw [up2_ne (by decide)]; exact h7 t
  · rw [up2_ne (by decide)]; exact h8 t
theorem InvX.set32 {s x : Nat} (h : InvX n cap fE sd dl b I J si) (hx : x ≤ dl s) : InvX n cap fE sd dl b I J (up2 si s 32 (nI x)) := by
  obtain ⟨h1, h2, h3, h4, h5, h6, h7, h8⟩ := h
  refine ⟨h1, h2, h3, fun t => ?_, fun t => ?_, fun t => ?_, up2_or (P := fun t v => (dl t = 20 ∨ dl t = 0) ∧ ∃ x : Nat, x ≤ dl t ∧ v = nI x) h7 ⟨(h7 s).1, x, hx, rfl⟩, fun t => ?_⟩
  · rw [up2_ne (by decide)]; exact h4 t
  · rw [up2_ne (by decide)]; exact h5 t
  · rw [up2_ne (by decide)]; exact h6 t
  · rw [up2_ne (by decide)]; exact h8 t
theorem InvX.set31 {s x : Nat} (h : InvX n cap fE sd dl b I J si) (hx : x < dl s ∨ x = 0) : InvX n cap fE sd dl b I J (up2 si s 31 (nI x)) := by
  obtain ⟨h1, h2, h3, h4, h5, h6, h7, h8⟩ := h
  refine ⟨h1, h2, h3, fun t => ?_, fun t => ?_, fun t => ?_, fun t => ?_, up2_or (P := fun t v => ∃ x : Nat, (x < dl t ∨ x = 0) ∧ v = nI x) h8 ⟨x, hx, rfl⟩⟩
  · rw [up2_ne (by decide)]; exact h4 t
  · rw [up2_ne (by decide)]; exact h5 t
  · rw [up2_ne (by decide)]; exact h6 t
  · rw [up2_ne (by decide)]; exact h7 t
end INVX
theorem xw_ofWF {l : Launch} {y : MethodName} {ws ws' : List Cond} {rm : Room} {Pc : Array Value → State → Prop} {Qc : Array Value → State → Outcome → State → Prop} {mc ms : Nat} {free : Addr → Prop} {cc : ByteArray} {maxL : Nat} {ret : Option FieldType}
    (hy : plainFor y = true) (hw : ws = Cond.code y cc maxL ret :: ws')
    (body : ∀ p e s m args below meth c s₁, BodyLoose p l y (headSpec ws rm) cc maxL ret e s m args below meth c s₁ → c.maxLocals = maxL → Pc args s →
      W p l e (headSpec ws rm).room s m args below meth c s.heap [] 0 0 (MQ below Qc args s mc ms free) (entryFrame m args maxL)) : Met l y ws rm Pc Qc mc ms free := by
  refine MetFree.of_bodySF (code := cc) (maxLocals := maxL) (ret := ret) hy ?_ ?_
  · intro args s m h hn
    obtain ⟨meth, c, h1, h2, h3, h4, h5, h6, -, -⟩ := Cond.code_spec hn (atoms_spec (ws := ws) h _ (by rw [hw]; exact List.mem_cons_self))
    exact ⟨meth, c, h1, h2, h3, h4, h5, h6⟩
  · intro p e s m args below meth c s₁ B hml hP _
    have hh0 : s₁.heap = s.heap := by rw [B.state]; rfl
    obtain ⟨t, a1, o, b1, b2, b3⟩ := body p e s m args below meth c s₁ B hml hP s₁ hh0 (Stand.of_body B)
    exact ⟨t, o, a1, b1, b2, ⟨b3.1, b3.2⟩⟩
theorem nx_xor (a b : Nat) : nI a ^^^ nI b = nI (a ^^^ b) := by
  apply Int32.toBitVec_inj.1
  show BitVec.ofNat 32 a ^^^ BitVec.ofNat 32 b = BitVec.ofNat 32 (a ^^^ b)
  apply BitVec.eq_of_getLsbD_eq
  intro i hi
  simp [hi]
theorem xw_xor {x : Nat} {y : Int32} (hx : x < 2147483648) (e : y = nI x ^^^ 2000) : 0 ≤ y := by
  have h : nI x ^^^ 2000 = nI (x ^^^ 2000) := nx_xor x 2000
  rw [e, h]
  exact nI_pos' (Nat.xor_lt_two_pow (n := 31) (by omega) (by decide))
theorem xw_within {x y : Int32} {z : Nat} (hz : z < 1000) (h0 : 0 ≤ x) (h1 : x ≤ y) (ey : y = nI z - 1) : ∃ j : Nat, j < z ∧ x = nI j := by
  have e : (nI z - 1).toInt = (z : Int) - 1 := pk_sub_toInt (a := z) (b := 1) (by omega) (by omega)
  rw [ey] at h1
  simp only [p1_le, p1_0, e] at h0 h1
  obtain ⟨j, hj, ej⟩ := nI_of (x := x) (by simp only [p1_lt, p1_0]; omega)
  rw [ej, nI_toInt hj] at h1
  exact ⟨j, by omega, ej⟩
theorem xw_clamp (x : Int32) {a b : Int32} (ea : a = if (7 : Int32) < x then 7 else x) (eb : b = if (0 : Int32) < a then a else 0) : ∃ j : Nat, j ≤ 7 ∧ b = nI j := by
  have h0 : ¬ b < 0 := by
    rw [eb]; split
    · rename_i h; simp only [p1_lt, p1_0] at h ⊢; omega
    · decide
  have h7 : b ≤ 7 := by
    rw [eb]; split
    · rw [ea]; split
      · decide
      · rename_i h9; simp only [p1_lt, p1_le, p1_7] at h9 ⊢; omega
    · decide
  exact nI_of2 (by decide) h0 h7
theorem xw_up2 {α : Type} {f g : Nat → Nat → α} {s q : Nat} {x : α} {WR : List Nat} (hq : q ∈ WR) (h : ∀ s9 q9 : Nat, q9 ∉ WR → f s9 q9 = g s9 q9) : ∀ s9 q9 : Nat, q9 ∉ WR → up2 f s q x s9 q9 = g s9 q9 := by
  intro s9 q9 h9
  have e : q9 ≠ q := fun e => h9 (by rw [e]; exact hq)
  rw [up2_ne e]
  exact h s9 q9 h9
theorem xw_tr2 {α : Type} {f g f2 : Nat → Nat → α} {W1 WR : List Nat} (hs : ∀ j : Nat, j ∈ W1 → j ∈ WR) (h1 : ∀ s9 q9 : Nat, q9 ∉ W1 → f2 s9 q9 = f s9 q9) (h : ∀ s9 q9 : Nat, q9 ∉ WR → f s9 q9 = g s9 q9) : ∀ s9 q9 : Nat, q9 ∉ WR → f2 s9 q9 = g s9 q9 := fun s9 q9 hj => (h1 s9 q9 (fun q => hj (hs q9 q))).trans (h s9 q9 hj)
theorem xAt_fr (h : Nat) (a : Nat → Nat) (e : Nat) (cI cJ cO cE : ClassId) (L : Nat → Int64) (I : Nat → Int32) (M : Nat → Nat → Int64) (J : Nat → Nat → Int32) (n cap : Nat) (fE : Nat → Option Nat) (sd : Nat → Nat → Nat) (si : Nat → Nat → Int32) (sa : Nat → Nat → Nat → Int32) (dl : Nat → Nat) {o : Nat} (ho : o < 4) : (xW h a e cI cJ cO cE L I M J n cap fE sd si sa dl)[5 + o]? = some (a (20 + o), .inl (cJ, 40, .inr (.inl (M o)))) := by
  rcases (show o = 0 ∨ o = 1 ∨ o = 2 ∨ o = 3 by omega) with rfl | rfl | rfl | rfl <;> rfl
theorem xAt_to (h : Nat) (a : Nat → Nat) (e : Nat) (cI cJ cO cE : ClassId) (L : Nat → Int64) (I : Nat → Int32) (M : Nat → Nat → Int64) (J : Nat → Nat → Int32) (n cap : Nat) (fE : Nat → Option Nat) (sd : Nat → Nat → Nat) (si : Nat → Nat → Int32) (sa : Nat → Nat → Nat → Int32) (dl : Nat → Nat) {o : Nat} (ho : o < 4) : (xW h a e cI cJ cO cE L I M J n cap fE sd si sa dl)[9 + o]? = some (a (24 + o), .inl (cJ, 40, .inr (.inl (M (4 + o))))) := by
  rcases (show o = 0 ∨ o = 1 ∨ o = 2 ∨ o = 3 by omega) with rfl | rfl | rfl | rfl <;> rfl
theorem xM_fr (h : Nat) (a : Nat → Nat) (e : Nat) (cI cJ cO cE : ClassId) (L : Nat → Int64) (I : Nat → Int32) (M : Nat → Nat → Int64) (J : Nat → Nat → Int32) (n cap : Nat) (fE : Nat → Option Nat) (sd : Nat → Nat → Nat) (si : Nat → Nat → Int32) (sa : Nat → Nat → Nat → Int32) (dl : Nat → Nat) {o : Nat} (ho : o < 4) (g : Nat → Int64) : (xW h a e cI cJ cO cE L I M J n cap fE sd si sa dl).set (5 + o) (a (20 + o), .inl (cJ, 40, .inr (.inl g))) = xW h a e cI cJ cO cE L I (va_up M o g) J n cap fE sd si sa dl := by
  rcases (show o = 0 ∨ o = 1 ∨ o = 2 ∨ o = 3 by omega) with rfl | rfl | rfl | rfl
  · exact xM_0 h a e cI cJ cO cE L I M J n cap fE sd si sa dl g
  · exact xM_1 h a e cI cJ cO cE L I M J n cap fE sd si sa dl g
  · exact xM_2 h a e cI cJ cO cE L I M J n cap fE sd si sa dl g
  · exact xM_3 h a e cI cJ cO cE L I M J n cap fE sd si sa dl g
theorem xM_to (h : Nat) (a : Nat → Nat) (e : Nat) (cI cJ cO cE : ClassId) (L : Nat → Int64) (I : Nat → Int32) (M : Nat → Nat → Int64) (J : Nat → Nat → Int32) (n cap : Nat) (fE : Nat → Option Nat) (sd : Nat → Nat → Nat) (si : Nat → Nat → Int32) (sa : Nat → Nat → Nat → Int32) (dl : Nat → Nat) {o : Nat} (ho : o < 4) (g : Nat → Int64) : (xW h a e cI cJ cO cE L I M J n cap fE sd si sa dl).set (9 + o) (a (24 + o), .inl (cJ, 40, .inr (.inl g))) = xW h a e cI cJ cO cE L I (va_up M (4 + o) g) J n cap fE sd si sa dl := by
  rcases (show o = 0 ∨ o = 1 ∨ o = 2 ∨ o = 3 by omega) with rfl | rfl | rfl | rfl
  · exact xM_4 h a e cI cJ cO cE L I M J n cap fE sd si sa dl g
  · exact xM_5 h a e cI cJ cO cE L I M J n cap fE sd si sa dl g
  · exact xM_6 h a e cI cJ cO cE L I M J n cap fE sd si sa dl g
  · exact xM_7 h a e cI cJ cO cE L I M J n cap fE sd si sa dl g

end
section
theorem dX3_left_0 : decode cX3_left 0 = .ok (.aload_n 0, 1) := by decide +kernel
theorem dX3_left_1 : decode cX3_left 1 = .ok (.getfield 15, 3) := by decide +kernel
theorem dX3_left_4 : decode cX3_left 4 = .ok (.aload_n 0, 1) := by decide +kernel
theorem dX3_left_5 : decode cX3_left 5 = .ok (.getfield 19, 3) := by decide +kernel
theorem dX3_left_8 : decode cX3_left 8 = .ok (.lor, 1) := by decide +kernel
theorem dX3_left_9 : decode cX3_left 9 = .ok (.lreturn, 1) := by decide +kernel
theorem dX3_take_0 : decode cX3_take 0 = .ok (.aload_n 0, 1) := by decide +kernel
theorem dX3_take_1 : decode cX3_take 1 = .ok (.lload_n 1, 1) := by decide +kernel
theorem dX3_take_2 : decode cX3_take 2 = .ok (.putfield 15, 3) := by decide +kernel
theorem dX3_take_5 : decode cX3_take 5 = .ok (.aload_n 0, 1) := by decide +kernel
theorem dX3_take_6 : decode cX3_take 6 = .ok (.lload_n 3, 1) := by decide +kernel
theorem dX3_take_7 : decode cX3_take 7 = .ok (.putfield 19, 3) := by decide +kernel
theorem dX3_take_10 : decode cX3_take 10 = .ok (.aload_n 0, 1) := by decide +kernel
theorem dX3_take_11 : decode cX3_take 11 = .ok (.lconst 0, 1) := by decide +kernel
theorem dX3_take_12 : decode cX3_take 12 = .ok (.putfield 22, 3) := by decide +kernel
theorem dX3_take_15 : decode cX3_take 15 = .ok (.return_, 1) := by decide +kernel
theorem dX3_begin_0 : decode cX3_begin 0 = .ok (.aload_n 0, 1) := by decide +kernel
theorem dX3_begin_1 : decode cX3_begin 1 = .ok (.dup, 1) := by decide +kernel
theorem dX3_begin_2 : decode cX3_begin 2 = .ok (.getfield 22, 3) := by decide +kernel
theorem dX3_begin_5 : decode cX3_begin 5 = .ok (.iload_n 1, 1) := by decide +kernel
theorem dX3_begin_6 : decode cX3_begin 6 = .ok (.invokestatic 38, 3) := by decide +kernel
theorem dX3_begin_9 : decode cX3_begin 9 = .ok (.lor, 1) := by decide +kernel
theorem dX3_begin_10 : decode cX3_begin 10 = .ok (.putfield 22, 3) := by decide +kernel
theorem dX3_begin_13 : decode cX3_begin 13 = .ok (.return_, 1) := by decide +kernel
theorem dX3_end_0 : decode cX3_end 0 = .ok (.lconst 1, 1) := by decide +kernel
theorem dX3_end_1 : decode cX3_end 1 = .ok (.iload_n 1, 1) := by decide +kernel
theorem dX3_end_2 : decode cX3_end 2 = .ok (.lshl, 1) := by decide +kernel
theorem dX3_end_3 : decode cX3_end 3 = .ok (.ldc2_w 45, 3) := by decide +kernel
theorem dX3_end_6 : decode cX3_end 6 = .ok (.lxor, 1) := by decide +kernel
theorem dX3_end_7 : decode cX3_end 7 = .ok (.lstore_n 2, 1) := by decide +kernel
theorem dX3_end_8 : decode cX3_end 8 = .ok (.aload_n 0, 1) := by decide +kernel
theorem dX3_end_9 : decode cX3_end 9 = .ok (.dup, 1) := by decide +kernel
theorem dX3_end_10 : decode cX3_end 10 = .ok (.getfield 15, 3) := by decide +kernel
theorem dX3_end_13 : decode cX3_end 13 = .ok (.lload_n 2, 1) := by decide +kernel
theorem dX3_end_14 : decode cX3_end 14 = .ok (.land, 1) := by decide +kernel
theorem dX3_end_15 : decode cX3_end 15 = .ok (.putfield 15, 3) := by decide +kernel
theorem dX3_end_18 : decode cX3_end 18 = .ok (.aload_n 0, 1) := by decide +kernel
theorem dX3_end_19 : decode cX3_end 19 = .ok (.dup, 1) := by decide +kernel
theorem dX3_end_20 : decode cX3_end 20 = .ok (.getfield 19, 3) := by decide +kernel
theorem dX3_end_23 : decode cX3_end 23 = .ok (.lload_n 2, 1) := by decide +kernel
theorem dX3_end_24 : decode cX3_end 24 = .ok (.land, 1) := by decide +kernel
theorem dX3_end_25 : decode cX3_end 25 = .ok (.putfield 19, 3) := by decide +kernel
theorem dX3_end_28 : decode cX3_end 28 = .ok (.aload_n 0, 1) := by decide +kernel
theorem dX3_end_29 : decode cX3_end 29 = .ok (.dup, 1) := by decide +kernel
theorem dX3_end_30 : decode cX3_end 30 = .ok (.getfield 22, 3) := by decide +kernel
theorem dX3_end_33 : decode cX3_end 33 = .ok (.lload_n 2, 1) := by decide +kernel
theorem dX3_end_34 : decode cX3_end 34 = .ok (.land, 1) := by decide +kernel
theorem dX3_end_35 : decode cX3_end 35 = .ok (.putfield 22, 3) := by decide +kernel
theorem dX3_end_38 : decode cX3_end 38 = .ok (.return_, 1) := by decide +kernel
theorem dX4_clear_0 : decode cX4_clear 0 = .ok (.aload_n 0, 1) := by decide +kernel
theorem dX4_clear_1 : decode cX4_clear 1 = .ok (.lload_n 1, 1) := by decide +kernel
theorem dX4_clear_2 : decode cX4_clear 2 = .ok (.putfield 21, 3) := by decide +kernel
theorem dX4_clear_5 : decode cX4_clear 5 = .ok (.aload_n 0, 1) := by decide +kernel
theorem dX4_clear_6 : decode cX4_clear 6 = .ok (.iconst 0, 1) := by decide +kernel
theorem dX4_clear_7 : decode cX4_clear 7 = .ok (.putfield 25, 3) := by decide +kernel
theorem dX4_clear_10 : decode cX4_clear 10 = .ok (.aload_n 0, 1) := by decide +kernel
theorem dX4_clear_11 : decode cX4_clear 11 = .ok (.iconst 0, 1) := by decide +kernel
theorem dX4_clear_12 : decode cX4_clear 12 = .ok (.putfield 29, 3) := by decide +kernel
theorem dX4_clear_15 : decode cX4_clear 15 = .ok (.aload_n 0, 1) := by decide +kernel
theorem dX4_clear_16 : decode cX4_clear 16 = .ok (.iconst 1, 1) := by decide +kernel
theorem dX4_clear_17 : decode cX4_clear 17 = .ok (.putfield 32, 3) := by decide +kernel
theorem dX4_clear_20 : decode cX4_clear 20 = .ok (.return_, 1) := by decide +kernel
theorem dX8_within_0 : decode cX8_within 0 = .ok (.iload_n 0, 1) := by decide +kernel
theorem dX8_within_1 : decode cX8_within 1 = .ok (.iload_n 1, 1) := by decide +kernel
theorem dX8_within_2 : decode cX8_within 2 = .ok (.if_icmp .lt 12, 3) := by decide +kernel
theorem dX8_within_5 : decode cX8_within 5 = .ok (.iload_n 0, 1) := by decide +kernel
theorem dX8_within_6 : decode cX8_within 6 = .ok (.iload_n 2, 1) := by decide +kernel
theorem dX8_within_7 : decode cX8_within 7 = .ok (.if_icmp .gt 7, 3) := by decide +kernel
theorem dX8_within_10 : decode cX8_within 10 = .ok (.iconst 1, 1) := by decide +kernel
theorem dX8_within_11 : decode cX8_within 11 = .ok (.goto 4, 3) := by decide +kernel
theorem dX8_within_14 : decode cX8_within 14 = .ok (.iconst 0, 1) := by decide +kernel
theorem dX8_within_15 : decode cX8_within 15 = .ok (.ireturn, 1) := by decide +kernel
theorem dX8_only_0 : decode cX8_only 0 = .ok (.lconst 1, 1) := by decide +kernel
theorem dX8_only_1 : decode cX8_only 1 = .ok (.iload_n 0, 1) := by decide +kernel
theorem dX8_only_2 : decode cX8_only 2 = .ok (.lshl, 1) := by decide +kernel
theorem dX8_only_3 : decode cX8_only 3 = .ok (.lreturn, 1) := by decide +kernel
theorem dX8_holds_0 : decode cX8_holds 0 = .ok (.lload_n 0, 1) := by decide +kernel
theorem dX8_holds_1 : decode cX8_holds 1 = .ok (.iload_n 2, 1) := by decide +kernel
theorem dX8_holds_2 : decode cX8_holds 2 = .ok (.lushr, 1) := by decide +kernel
theorem dX8_holds_3 : decode cX8_holds 3 = .ok (.lconst 1, 1) := by decide +kernel
theorem dX8_holds_4 : decode cX8_holds 4 = .ok (.land, 1) := by decide +kernel
theorem dX8_holds_5 : decode cX8_holds 5 = .ok (.lconst 0, 1) := by decide +kernel
theorem dX8_holds_6 : decode cX8_holds 6 = .ok (.lcmp, 1) := by decide +kernel
theorem dX8_holds_7 : decode cX8_holds 7 = .ok (.ifCond .eq 7, 3) := by decide +kernel
theorem dX8_holds_10 : decode cX8_holds 10 = .ok (.iconst 1, 1) := by decide +kernel
theorem dX8_holds_11 : decode cX8_holds 11 = .ok (.goto 4, 3) := by decide +kernel
theorem dX8_holds_14 : decode cX8_holds 14 = .ok (.iconst 0, 1) := by decide +kernel
theorem dX8_holds_15 : decode cX8_holds 15 = .ok (.ireturn, 1) := by decide +kernel
theorem dJx4a65c_size_8abf5_0 : decode cJx4a65c_size_8abf5 0 = .ok (.aload_n 0, 1) := by decide +kernel
theorem dJx4a65c_size_8abf5_1 : decode cJx4a65c_size_8abf5 1 = .ok (.getfield 48, 3) := by decide +kernel
theorem dJx4a65c_size_8abf5_4 : decode cJx4a65c_size_8abf5 4 = .ok (.ireturn, 1) := by decide +kernel
end
section
theorem dX5_from_0 : decode cX5_from 0 = .ok (.aload_n 0, 1) := by decide +kernel
theorem dX5_from_1 : decode cX5_from 1 = .ok (.getfield 11, 3) := by decide +kernel
theorem dX5_from_4 : decode cX5_from 4 = .ok (.iload_n 1, 1) := by decide +kernel
theorem dX5_from_5 : decode cX5_from 5 = .ok (.aaload, 1) := by decide +kernel
theorem dX5_from_6 : decode cX5_from 6 = .ok (.iload_n 2, 1) := by decide +kernel
theorem dX5_from_7 : decode cX5_from 7 = .ok (.laload, 1) := by decide +kernel
theorem dX5_from_8 : decode cX5_from 8 = .ok (.lreturn, 1) := by decide +kernel
theorem dX5_told_0 : decode cX5_told 0 = .ok (.aload_n 0, 1) := by decide +kernel
theorem dX5_told_1 : decode cX5_told 1 = .ok (.getfield 11, 3) := by decide +kernel
theorem dX5_told_4 : decode cX5_told 4 = .ok (.iload_n 1, 1) := by decide +kernel
theorem dX5_told_5 : decode cX5_told 5 = .ok (.aaload, 1) := by decide +kernel
theorem dX5_told_6 : decode cX5_told 6 = .ok (.iload_n 2, 1) := by decide +kernel
theorem dX5_told_7 : decode cX5_told 7 = .ok (.laload, 1) := by decide +kernel
theorem dX5_told_8 : decode cX5_told 8 = .ok (.iload_n 3, 1) := by decide +kernel
theorem dX5_told_9 : decode cX5_told 9 = .ok (.invokestatic 19, 3) := by decide +kernel
theorem dX5_told_12 : decode cX5_told 12 = .ok (.ireturn, 1) := by decide +kernel
theorem dX5_add_0 : decode cX5_add 0 = .ok (.aload_n 0, 1) := by decide +kernel
theorem dX5_add_1 : decode cX5_add 1 = .ok (.iload_n 1, 1) := by decide +kernel
theorem dX5_add_2 : decode cX5_add 2 = .ok (.iload_n 2, 1) := by decide +kernel
theorem dX5_add_3 : decode cX5_add 3 = .ok (.iload_n 3, 1) := by decide +kernel
theorem dX5_add_4 : decode cX5_add 4 = .ok (.iconst 1, 1) := by decide +kernel
theorem dX5_add_5 : decode cX5_add 5 = .ok (.invokevirtual 23, 3) := by decide +kernel
theorem dX5_add_8 : decode cX5_add 8 = .ok (.aload_n 0, 1) := by decide +kernel
theorem dX5_add_9 : decode cX5_add 9 = .ok (.dup, 1) := by decide +kernel
theorem dX5_add_10 : decode cX5_add 10 = .ok (.getfield 27, 3) := by decide +kernel
theorem dX5_add_13 : decode cX5_add 13 = .ok (.iconst 1, 1) := by decide +kernel
theorem dX5_add_14 : decode cX5_add 14 = .ok (.iadd, 1) := by decide +kernel
theorem dX5_add_15 : decode cX5_add 15 = .ok (.putfield 27, 3) := by decide +kernel
theorem dX5_add_18 : decode cX5_add 18 = .ok (.return_, 1) := by decide +kernel
theorem dX5_remove_0 : decode cX5_remove 0 = .ok (.aload_n 0, 1) := by decide +kernel
theorem dX5_remove_1 : decode cX5_remove 1 = .ok (.iload_n 1, 1) := by decide +kernel
theorem dX5_remove_2 : decode cX5_remove 2 = .ok (.iload_n 2, 1) := by decide +kernel
theorem dX5_remove_3 : decode cX5_remove 3 = .ok (.iload_n 3, 1) := by decide +kernel
theorem dX5_remove_4 : decode cX5_remove 4 = .ok (.iconst 0, 1) := by decide +kernel
theorem dX5_remove_5 : decode cX5_remove 5 = .ok (.invokevirtual 23, 3) := by decide +kernel
theorem dX5_remove_8 : decode cX5_remove 8 = .ok (.aload_n 0, 1) := by decide +kernel
theorem dX5_remove_9 : decode cX5_remove 9 = .ok (.dup, 1) := by decide +kernel
theorem dX5_remove_10 : decode cX5_remove 10 = .ok (.getfield 27, 3) := by decide +kernel
theorem dX5_remove_13 : decode cX5_remove 13 = .ok (.iconst 1, 1) := by decide +kernel
theorem dX5_remove_14 : decode cX5_remove 14 = .ok (.isub, 1) := by decide +kernel
theorem dX5_remove_15 : decode cX5_remove 15 = .ok (.putfield 27, 3) := by decide +kernel
theorem dX5_remove_18 : decode cX5_remove 18 = .ok (.return_, 1) := by decide +kernel
theorem dX5_write_0 : decode cX5_write 0 = .ok (.aload_n 0, 1) := by decide +kernel
theorem dX5_write_1 : decode cX5_write 1 = .ok (.iload_n 1, 1) := by decide +kernel
theorem dX5_write_2 : decode cX5_write 2 = .ok (.iload_n 2, 1) := by decide +kernel
theorem dX5_write_3 : decode cX5_write 3 = .ok (.iload_n 3, 1) := by decide +kernel
theorem dX5_write_4 : decode cX5_write 4 = .ok (.iload 4, 2) := by decide +kernel
theorem dX5_write_6 : decode cX5_write 6 = .ok (.invokevirtual 31, 3) := by decide +kernel
theorem dX5_write_9 : decode cX5_write 9 = .ok (.iload_n 1, 1) := by decide +kernel
theorem dX5_write_10 : decode cX5_write 10 = .ok (.iconst 3, 1) := by decide +kernel
theorem dX5_write_11 : decode cX5_write 11 = .ok (.if_icmp .ne 12, 3) := by decide +kernel
theorem dX5_write_14 : decode cX5_write 14 = .ok (.aload_n 0, 1) := by decide +kernel
theorem dX5_write_15 : decode cX5_write 15 = .ok (.iload_n 1, 1) := by decide +kernel
theorem dX5_write_16 : decode cX5_write 16 = .ok (.iload_n 3, 1) := by decide +kernel
theorem dX5_write_17 : decode cX5_write 17 = .ok (.iload_n 2, 1) := by decide +kernel
theorem dX5_write_18 : decode cX5_write 18 = .ok (.iload 4, 2) := by decide +kernel
theorem dX5_write_20 : decode cX5_write 20 = .ok (.invokevirtual 31, 3) := by decide +kernel
theorem dX5_write_23 : decode cX5_write 23 = .ok (.return_, 1) := by decide +kernel
theorem dX5_writeOneWay_0 : decode cX5_writeOneWay 0 = .ok (.aload_n 0, 1) := by decide +kernel
theorem dX5_writeOneWay_1 : decode cX5_writeOneWay 1 = .ok (.getfield 11, 3) := by decide +kernel
theorem dX5_writeOneWay_4 : decode cX5_writeOneWay 4 = .ok (.iload_n 1, 1) := by decide +kernel
theorem dX5_writeOneWay_5 : decode cX5_writeOneWay 5 = .ok (.aaload, 1) := by decide +kernel
theorem dX5_writeOneWay_6 : decode cX5_writeOneWay 6 = .ok (.iload_n 2, 1) := by decide +kernel
theorem dX5_writeOneWay_7 : decode cX5_writeOneWay 7 = .ok (.iload 4, 2) := by decide +kernel
theorem dX5_writeOneWay_9 : decode cX5_writeOneWay 9 = .ok (.ifCond .eq 19, 3) := by decide +kernel
theorem dX5_writeOneWay_12 : decode cX5_writeOneWay 12 = .ok (.aload_n 0, 1) := by decide +kernel
theorem dX5_writeOneWay_13 : decode cX5_writeOneWay 13 = .ok (.getfield 11, 3) := by decide +kernel
theorem dX5_writeOneWay_16 : decode cX5_writeOneWay 16 = .ok (.iload_n 1, 1) := by decide +kernel
theorem dX5_writeOneWay_17 : decode cX5_writeOneWay 17 = .ok (.aaload, 1) := by decide +kernel
theorem dX5_writeOneWay_18 : decode cX5_writeOneWay 18 = .ok (.iload_n 2, 1) := by decide +kernel
theorem dX5_writeOneWay_19 : decode cX5_writeOneWay 19 = .ok (.laload, 1) := by decide +kernel
theorem dX5_writeOneWay_20 : decode cX5_writeOneWay 20 = .ok (.iload_n 3, 1) := by decide +kernel
theorem dX5_writeOneWay_21 : decode cX5_writeOneWay 21 = .ok (.invokestatic 34, 3) := by decide +kernel
theorem dX5_writeOneWay_24 : decode cX5_writeOneWay 24 = .ok (.lor, 1) := by decide +kernel
theorem dX5_writeOneWay_25 : decode cX5_writeOneWay 25 = .ok (.goto 20, 3) := by decide +kernel
theorem dX5_writeOneWay_28 : decode cX5_writeOneWay 28 = .ok (.aload_n 0, 1) := by decide +kernel
theorem dX5_writeOneWay_29 : decode cX5_writeOneWay 29 = .ok (.getfield 11, 3) := by decide +kernel
theorem dX5_writeOneWay_32 : decode cX5_writeOneWay 32 = .ok (.iload_n 1, 1) := by decide +kernel
theorem dX5_writeOneWay_33 : decode cX5_writeOneWay 33 = .ok (.aaload, 1) := by decide +kernel
theorem dX5_writeOneWay_34 : decode cX5_writeOneWay 34 = .ok (.iload_n 2, 1) := by decide +kernel
theorem dX5_writeOneWay_35 : decode cX5_writeOneWay 35 = .ok (.laload, 1) := by decide +kernel
theorem dX5_writeOneWay_36 : decode cX5_writeOneWay 36 = .ok (.iload_n 3, 1) := by decide +kernel
theorem dX5_writeOneWay_37 : decode cX5_writeOneWay 37 = .ok (.invokestatic 34, 3) := by decide +kernel
theorem dX5_writeOneWay_40 : decode cX5_writeOneWay 40 = .ok (.ldc2_w 38, 3) := by decide +kernel
theorem dX5_writeOneWay_43 : decode cX5_writeOneWay 43 = .ok (.lxor, 1) := by decide +kernel
theorem dX5_writeOneWay_44 : decode cX5_writeOneWay 44 = .ok (.land, 1) := by decide +kernel
theorem dX5_writeOneWay_45 : decode cX5_writeOneWay 45 = .ok (.lastore, 1) := by decide +kernel
theorem dX5_writeOneWay_46 : decode cX5_writeOneWay 46 = .ok (.aload_n 0, 1) := by decide +kernel
theorem dX5_writeOneWay_47 : decode cX5_writeOneWay 47 = .ok (.getfield 16, 3) := by decide +kernel
theorem dX5_writeOneWay_50 : decode cX5_writeOneWay 50 = .ok (.iload_n 1, 1) := by decide +kernel
theorem dX5_writeOneWay_51 : decode cX5_writeOneWay 51 = .ok (.aaload, 1) := by decide +kernel
theorem dX5_writeOneWay_52 : decode cX5_writeOneWay 52 = .ok (.iload_n 3, 1) := by decide +kernel
theorem dX5_writeOneWay_53 : decode cX5_writeOneWay 53 = .ok (.iload 4, 2) := by decide +kernel
theorem dX5_writeOneWay_55 : decode cX5_writeOneWay 55 = .ok (.ifCond .eq 19, 3) := by decide +kernel
theorem dX5_writeOneWay_58 : decode cX5_writeOneWay 58 = .ok (.aload_n 0, 1) := by decide +kernel
theorem dX5_writeOneWay_59 : decode cX5_writeOneWay 59 = .ok (.getfield 16, 3) := by decide +kernel
theorem dX5_writeOneWay_62 : decode cX5_writeOneWay 62 = .ok (.iload_n 1, 1) := by decide +kernel
theorem dX5_writeOneWay_63 : decode cX5_writeOneWay 63 = .ok (.aaload, 1) := by decide +kernel
theorem dX5_writeOneWay_64 : decode cX5_writeOneWay 64 = .ok (.iload_n 3, 1) := by decide +kernel
theorem dX5_writeOneWay_65 : decode cX5_writeOneWay 65 = .ok (.laload, 1) := by decide +kernel
theorem dX5_writeOneWay_66 : decode cX5_writeOneWay 66 = .ok (.iload_n 2, 1) := by decide +kernel
theorem dX5_writeOneWay_67 : decode cX5_writeOneWay 67 = .ok (.invokestatic 34, 3) := by decide +kernel
theorem dX5_writeOneWay_70 : decode cX5_writeOneWay 70 = .ok (.lor, 1) := by decide +kernel
theorem dX5_writeOneWay_71 : decode cX5_writeOneWay 71 = .ok (.goto 20, 3) := by decide +kernel
theorem dX5_writeOneWay_74 : decode cX5_writeOneWay 74 = .ok (.aload_n 0, 1) := by decide +kernel
theorem dX5_writeOneWay_75 : decode cX5_writeOneWay 75 = .ok (.getfield 16, 3) := by decide +kernel
theorem dX5_writeOneWay_78 : decode cX5_writeOneWay 78 = .ok (.iload_n 1, 1) := by decide +kernel
theorem dX5_writeOneWay_79 : decode cX5_writeOneWay 79 = .ok (.aaload, 1) := by decide +kernel
theorem dX5_writeOneWay_80 : decode cX5_writeOneWay 80 = .ok (.iload_n 3, 1) := by decide +kernel
theorem dX5_writeOneWay_81 : decode cX5_writeOneWay 81 = .ok (.laload, 1) := by decide +kernel
theorem dX5_writeOneWay_82 : decode cX5_writeOneWay 82 = .ok (.iload_n 2, 1) := by decide +kernel
theorem dX5_writeOneWay_83 : decode cX5_writeOneWay 83 = .ok (.invokestatic 34, 3) := by decide +kernel
theorem dX5_writeOneWay_86 : decode cX5_writeOneWay 86 = .ok (.ldc2_w 38, 3) := by decide +kernel
theorem dX5_writeOneWay_89 : decode cX5_writeOneWay 89 = .ok (.lxor, 1) := by decide +kernel
theorem dX5_writeOneWay_90 : decode cX5_writeOneWay 90 = .ok (.land, 1) := by decide +kernel
theorem dX5_writeOneWay_91 : decode cX5_writeOneWay 91 = .ok (.lastore, 1) := by decide +kernel
theorem dX5_writeOneWay_92 : decode cX5_writeOneWay 92 = .ok (.return_, 1) := by decide +kernel
end
section
theorem dX5_union_0 : decode cX5_union 0 = .ok (.lconst 0, 1) := by decide +kernel
theorem dX5_union_1 : decode cX5_union 1 = .ok (.lstore_n 3, 1) := by decide +kernel
theorem dX5_union_2 : decode cX5_union 2 = .ok (.iconst 0, 1) := by decide +kernel
theorem dX5_union_3 : decode cX5_union 3 = .ok (.istore 5, 2) := by decide +kernel
theorem dX5_union_5 : decode cX5_union 5 = .ok (.iload 5, 2) := by decide +kernel
theorem dX5_union_7 : decode cX5_union 7 = .ok (.aload_n 0, 1) := by decide +kernel
theorem dX5_union_8 : decode cX5_union 8 = .ok (.arraylength, 1) := by decide +kernel
theorem dX5_union_9 : decode cX5_union 9 = .ok (.if_icmp .ge 25, 3) := by decide +kernel
theorem dX5_union_12 : decode cX5_union 12 = .ok (.lload_n 1, 1) := by decide +kernel
theorem dX5_union_13 : decode cX5_union 13 = .ok (.iload 5, 2) := by decide +kernel
theorem dX5_union_15 : decode cX5_union 15 = .ok (.invokestatic 19, 3) := by decide +kernel
theorem dX5_union_18 : decode cX5_union 18 = .ok (.ifCond .eq 10, 3) := by decide +kernel
theorem dX5_union_21 : decode cX5_union 21 = .ok (.lload_n 3, 1) := by decide +kernel
theorem dX5_union_22 : decode cX5_union 22 = .ok (.aload_n 0, 1) := by decide +kernel
theorem dX5_union_23 : decode cX5_union 23 = .ok (.iload 5, 2) := by decide +kernel
theorem dX5_union_25 : decode cX5_union 25 = .ok (.laload, 1) := by decide +kernel
theorem dX5_union_26 : decode cX5_union 26 = .ok (.lor, 1) := by decide +kernel
theorem dX5_union_27 : decode cX5_union 27 = .ok (.lstore_n 3, 1) := by decide +kernel
theorem dX5_union_28 : decode cX5_union 28 = .ok (.iinc 5 1, 3) := by decide +kernel
theorem dX5_union_31 : decode cX5_union 31 = .ok (.goto (-26), 3) := by decide +kernel
theorem dX5_union_34 : decode cX5_union 34 = .ok (.lload_n 3, 1) := by decide +kernel
theorem dX5_union_35 : decode cX5_union 35 = .ok (.lreturn, 1) := by decide +kernel
theorem dX5_fromAny_0 : decode cX5_fromAny 0 = .ok (.aload_n 0, 1) := by decide +kernel
theorem dX5_fromAny_1 : decode cX5_fromAny 1 = .ok (.getfield 11, 3) := by decide +kernel
theorem dX5_fromAny_4 : decode cX5_fromAny 4 = .ok (.iload_n 1, 1) := by decide +kernel
theorem dX5_fromAny_5 : decode cX5_fromAny 5 = .ok (.aaload, 1) := by decide +kernel
theorem dX5_fromAny_6 : decode cX5_fromAny 6 = .ok (.lload_n 2, 1) := by decide +kernel
theorem dX5_fromAny_7 : decode cX5_fromAny 7 = .ok (.invokestatic 40, 3) := by decide +kernel
theorem dX5_fromAny_10 : decode cX5_fromAny 10 = .ok (.lreturn, 1) := by decide +kernel
theorem dX5_withNeeded_0 : decode cX5_withNeeded 0 = .ok (.lload_n 1, 1) := by decide +kernel
theorem dX5_withNeeded_1 : decode cX5_withNeeded 1 = .ok (.lstore_n 3, 1) := by decide +kernel
theorem dX5_withNeeded_2 : decode cX5_withNeeded 2 = .ok (.iconst 0, 1) := by decide +kernel
theorem dX5_withNeeded_3 : decode cX5_withNeeded 3 = .ok (.istore 5, 2) := by decide +kernel
theorem dX5_withNeeded_5 : decode cX5_withNeeded 5 = .ok (.iload 5, 2) := by decide +kernel
theorem dX5_withNeeded_7 : decode cX5_withNeeded 7 = .ok (.bipush 40, 2) := by decide +kernel
theorem dX5_withNeeded_9 : decode cX5_withNeeded 9 = .ok (.if_icmp .ge 36, 3) := by decide +kernel
theorem dX5_withNeeded_12 : decode cX5_withNeeded 12 = .ok (.lload_n 3, 1) := by decide +kernel
theorem dX5_withNeeded_13 : decode cX5_withNeeded 13 = .ok (.aload_n 0, 1) := by decide +kernel
theorem dX5_withNeeded_14 : decode cX5_withNeeded 14 = .ok (.getfield 11, 3) := by decide +kernel
theorem dX5_withNeeded_17 : decode cX5_withNeeded 17 = .ok (.iconst 0, 1) := by decide +kernel
theorem dX5_withNeeded_18 : decode cX5_withNeeded 18 = .ok (.aaload, 1) := by decide +kernel
theorem dX5_withNeeded_19 : decode cX5_withNeeded 19 = .ok (.lload_n 3, 1) := by decide +kernel
theorem dX5_withNeeded_20 : decode cX5_withNeeded 20 = .ok (.invokestatic 40, 3) := by decide +kernel
theorem dX5_withNeeded_23 : decode cX5_withNeeded 23 = .ok (.lor, 1) := by decide +kernel
theorem dX5_withNeeded_24 : decode cX5_withNeeded 24 = .ok (.lstore 6, 2) := by decide +kernel
theorem dX5_withNeeded_26 : decode cX5_withNeeded 26 = .ok (.lload 6, 2) := by decide +kernel
theorem dX5_withNeeded_28 : decode cX5_withNeeded 28 = .ok (.lload_n 3, 1) := by decide +kernel
theorem dX5_withNeeded_29 : decode cX5_withNeeded 29 = .ok (.lcmp, 1) := by decide +kernel
theorem dX5_withNeeded_30 : decode cX5_withNeeded 30 = .ok (.ifCond .ne 6, 3) := by decide +kernel
theorem dX5_withNeeded_33 : decode cX5_withNeeded 33 = .ok (.goto 12, 3) := by decide +kernel
theorem dX5_withNeeded_36 : decode cX5_withNeeded 36 = .ok (.lload 6, 2) := by decide +kernel
theorem dX5_withNeeded_38 : decode cX5_withNeeded 38 = .ok (.lstore_n 3, 1) := by decide +kernel
theorem dX5_withNeeded_39 : decode cX5_withNeeded 39 = .ok (.iinc 5 1, 3) := by decide +kernel
theorem dX5_withNeeded_42 : decode cX5_withNeeded 42 = .ok (.goto (-37), 3) := by decide +kernel
theorem dX5_withNeeded_45 : decode cX5_withNeeded 45 = .ok (.lload_n 3, 1) := by decide +kernel
theorem dX5_withNeeded_46 : decode cX5_withNeeded 46 = .ok (.lreturn, 1) := by decide +kernel
theorem dX5_withNeeders_0 : decode cX5_withNeeders 0 = .ok (.lload_n 1, 1) := by decide +kernel
theorem dX5_withNeeders_1 : decode cX5_withNeeders 1 = .ok (.lstore 5, 2) := by decide +kernel
theorem dX5_withNeeders_3 : decode cX5_withNeeders 3 = .ok (.iconst 0, 1) := by decide +kernel
theorem dX5_withNeeders_4 : decode cX5_withNeeders 4 = .ok (.istore 7, 2) := by decide +kernel
theorem dX5_withNeeders_6 : decode cX5_withNeeders 6 = .ok (.iload 7, 2) := by decide +kernel
theorem dX5_withNeeders_8 : decode cX5_withNeeders 8 = .ok (.bipush 40, 2) := by decide +kernel
theorem dX5_withNeeders_10 : decode cX5_withNeeders 10 = .ok (.if_icmp .ge 42, 3) := by decide +kernel
theorem dX5_withNeeders_13 : decode cX5_withNeeders 13 = .ok (.lload 5, 2) := by decide +kernel
theorem dX5_withNeeders_15 : decode cX5_withNeeders 15 = .ok (.aload_n 0, 1) := by decide +kernel
theorem dX5_withNeeders_16 : decode cX5_withNeeders 16 = .ok (.getfield 16, 3) := by decide +kernel
theorem dX5_withNeeders_19 : decode cX5_withNeeders 19 = .ok (.iconst 0, 1) := by decide +kernel
theorem dX5_withNeeders_20 : decode cX5_withNeeders 20 = .ok (.aaload, 1) := by decide +kernel
theorem dX5_withNeeders_21 : decode cX5_withNeeders 21 = .ok (.lload 5, 2) := by decide +kernel
theorem dX5_withNeeders_23 : decode cX5_withNeeders 23 = .ok (.invokestatic 40, 3) := by decide +kernel
theorem dX5_withNeeders_26 : decode cX5_withNeeders 26 = .ok (.lload_n 3, 1) := by decide +kernel
theorem dX5_withNeeders_27 : decode cX5_withNeeders 27 = .ok (.land, 1) := by decide +kernel
theorem dX5_withNeeders_28 : decode cX5_withNeeders 28 = .ok (.lor, 1) := by decide +kernel
theorem dX5_withNeeders_29 : decode cX5_withNeeders 29 = .ok (.lstore 8, 2) := by decide +kernel
theorem dX5_withNeeders_31 : decode cX5_withNeeders 31 = .ok (.lload 8, 2) := by decide +kernel
theorem dX5_withNeeders_33 : decode cX5_withNeeders 33 = .ok (.lload 5, 2) := by decide +kernel
theorem dX5_withNeeders_35 : decode cX5_withNeeders 35 = .ok (.lcmp, 1) := by decide +kernel
theorem dX5_withNeeders_36 : decode cX5_withNeeders 36 = .ok (.ifCond .ne 6, 3) := by decide +kernel
theorem dX5_withNeeders_39 : decode cX5_withNeeders 39 = .ok (.goto 13, 3) := by decide +kernel
theorem dX5_withNeeders_42 : decode cX5_withNeeders 42 = .ok (.lload 8, 2) := by decide +kernel
theorem dX5_withNeeders_44 : decode cX5_withNeeders 44 = .ok (.lstore 5, 2) := by decide +kernel
theorem dX5_withNeeders_46 : decode cX5_withNeeders 46 = .ok (.iinc 7 1, 3) := by decide +kernel
theorem dX5_withNeeders_49 : decode cX5_withNeeders 49 = .ok (.goto (-43), 3) := by decide +kernel
theorem dX5_withNeeders_52 : decode cX5_withNeeders 52 = .ok (.lload 5, 2) := by decide +kernel
theorem dX5_withNeeders_54 : decode cX5_withNeeders 54 = .ok (.lreturn, 1) := by decide +kernel
theorem dX5_clash_0 : decode cX5_clash 0 = .ok (.aload_n 0, 1) := by decide +kernel
theorem dX5_clash_1 : decode cX5_clash 1 = .ok (.getfield 11, 3) := by decide +kernel
theorem dX5_clash_4 : decode cX5_clash 4 = .ok (.iconst 3, 1) := by decide +kernel
theorem dX5_clash_5 : decode cX5_clash 5 = .ok (.aaload, 1) := by decide +kernel
theorem dX5_clash_6 : decode cX5_clash 6 = .ok (.lload_n 1, 1) := by decide +kernel
theorem dX5_clash_7 : decode cX5_clash 7 = .ok (.invokestatic 40, 3) := by decide +kernel
theorem dX5_clash_10 : decode cX5_clash 10 = .ok (.lload_n 1, 1) := by decide +kernel
theorem dX5_clash_11 : decode cX5_clash 11 = .ok (.land, 1) := by decide +kernel
theorem dX5_clash_12 : decode cX5_clash 12 = .ok (.lconst 0, 1) := by decide +kernel
theorem dX5_clash_13 : decode cX5_clash 13 = .ok (.lcmp, 1) := by decide +kernel
theorem dX5_clash_14 : decode cX5_clash 14 = .ok (.ifCond .eq 7, 3) := by decide +kernel
theorem dX5_clash_17 : decode cX5_clash 17 = .ok (.iconst 1, 1) := by decide +kernel
theorem dX5_clash_18 : decode cX5_clash 18 = .ok (.goto 4, 3) := by decide +kernel
theorem dX5_clash_21 : decode cX5_clash 21 = .ok (.iconst 0, 1) := by decide +kernel
theorem dX5_clash_22 : decode cX5_clash 22 = .ok (.ireturn, 1) := by decide +kernel
theorem dX5_awaitedBy_0 : decode cX5_awaitedBy 0 = .ok (.lload_n 2, 1) := by decide +kernel
theorem dX5_awaitedBy_1 : decode cX5_awaitedBy 1 = .ok (.iload_n 1, 1) := by decide +kernel
theorem dX5_awaitedBy_2 : decode cX5_awaitedBy 2 = .ok (.invokestatic 19, 3) := by decide +kernel
theorem dX5_awaitedBy_5 : decode cX5_awaitedBy 5 = .ok (.ifCond .eq 35, 3) := by decide +kernel
theorem dX5_awaitedBy_8 : decode cX5_awaitedBy 8 = .ok (.aload_n 0, 1) := by decide +kernel
theorem dX5_awaitedBy_9 : decode cX5_awaitedBy 9 = .ok (.getfield 11, 3) := by decide +kernel
theorem dX5_awaitedBy_12 : decode cX5_awaitedBy 12 = .ok (.iconst 0, 1) := by decide +kernel
theorem dX5_awaitedBy_13 : decode cX5_awaitedBy 13 = .ok (.aaload, 1) := by decide +kernel
theorem dX5_awaitedBy_14 : decode cX5_awaitedBy 14 = .ok (.iload_n 1, 1) := by decide +kernel
theorem dX5_awaitedBy_15 : decode cX5_awaitedBy 15 = .ok (.laload, 1) := by decide +kernel
theorem dX5_awaitedBy_16 : decode cX5_awaitedBy 16 = .ok (.aload_n 0, 1) := by decide +kernel
theorem dX5_awaitedBy_17 : decode cX5_awaitedBy 17 = .ok (.getfield 11, 3) := by decide +kernel
theorem dX5_awaitedBy_20 : decode cX5_awaitedBy 20 = .ok (.iconst 2, 1) := by decide +kernel
theorem dX5_awaitedBy_21 : decode cX5_awaitedBy 21 = .ok (.aaload, 1) := by decide +kernel
theorem dX5_awaitedBy_22 : decode cX5_awaitedBy 22 = .ok (.iload_n 1, 1) := by decide +kernel
theorem dX5_awaitedBy_23 : decode cX5_awaitedBy 23 = .ok (.laload, 1) := by decide +kernel
theorem dX5_awaitedBy_24 : decode cX5_awaitedBy 24 = .ok (.lor, 1) := by decide +kernel
theorem dX5_awaitedBy_25 : decode cX5_awaitedBy 25 = .ok (.lload_n 2, 1) := by decide +kernel
theorem dX5_awaitedBy_26 : decode cX5_awaitedBy 26 = .ok (.land, 1) := by decide +kernel
theorem dX5_awaitedBy_27 : decode cX5_awaitedBy 27 = .ok (.aload_n 0, 1) := by decide +kernel
theorem dX5_awaitedBy_28 : decode cX5_awaitedBy 28 = .ok (.getfield 11, 3) := by decide +kernel
theorem dX5_awaitedBy_31 : decode cX5_awaitedBy 31 = .ok (.iconst 3, 1) := by decide +kernel
theorem dX5_awaitedBy_32 : decode cX5_awaitedBy 32 = .ok (.aaload, 1) := by decide +kernel
theorem dX5_awaitedBy_33 : decode cX5_awaitedBy 33 = .ok (.iload_n 1, 1) := by decide +kernel
theorem dX5_awaitedBy_34 : decode cX5_awaitedBy 34 = .ok (.laload, 1) := by decide +kernel
theorem dX5_awaitedBy_35 : decode cX5_awaitedBy 35 = .ok (.lload 4, 2) := by decide +kernel
theorem dX5_awaitedBy_37 : decode cX5_awaitedBy 37 = .ok (.land, 1) := by decide +kernel
theorem dX5_awaitedBy_38 : decode cX5_awaitedBy 38 = .ok (.lor, 1) := by decide +kernel
theorem dX5_awaitedBy_39 : decode cX5_awaitedBy 39 = .ok (.lreturn, 1) := by decide +kernel
theorem dX5_awaitedBy_40 : decode cX5_awaitedBy 40 = .ok (.lload 4, 2) := by decide +kernel
theorem dX5_awaitedBy_42 : decode cX5_awaitedBy 42 = .ok (.iload_n 1, 1) := by decide +kernel
theorem dX5_awaitedBy_43 : decode cX5_awaitedBy 43 = .ok (.invokestatic 19, 3) := by decide +kernel
theorem dX5_awaitedBy_46 : decode cX5_awaitedBy 46 = .ok (.ifCond .eq 24, 3) := by decide +kernel
theorem dX5_awaitedBy_49 : decode cX5_awaitedBy 49 = .ok (.aload_n 0, 1) := by decide +kernel
theorem dX5_awaitedBy_50 : decode cX5_awaitedBy 50 = .ok (.getfield 16, 3) := by decide +kernel
theorem dX5_awaitedBy_53 : decode cX5_awaitedBy 53 = .ok (.iconst 0, 1) := by decide +kernel
theorem dX5_awaitedBy_54 : decode cX5_awaitedBy 54 = .ok (.aaload, 1) := by decide +kernel
theorem dX5_awaitedBy_55 : decode cX5_awaitedBy 55 = .ok (.iload_n 1, 1) := by decide +kernel
theorem dX5_awaitedBy_56 : decode cX5_awaitedBy 56 = .ok (.laload, 1) := by decide +kernel
theorem dX5_awaitedBy_57 : decode cX5_awaitedBy 57 = .ok (.aload_n 0, 1) := by decide +kernel
theorem dX5_awaitedBy_58 : decode cX5_awaitedBy 58 = .ok (.getfield 16, 3) := by decide +kernel
theorem dX5_awaitedBy_61 : decode cX5_awaitedBy 61 = .ok (.iconst 2, 1) := by decide +kernel
theorem dX5_awaitedBy_62 : decode cX5_awaitedBy 62 = .ok (.aaload, 1) := by decide +kernel
theorem dX5_awaitedBy_63 : decode cX5_awaitedBy 63 = .ok (.iload_n 1, 1) := by decide +kernel
theorem dX5_awaitedBy_64 : decode cX5_awaitedBy 64 = .ok (.laload, 1) := by decide +kernel
theorem dX5_awaitedBy_65 : decode cX5_awaitedBy 65 = .ok (.lor, 1) := by decide +kernel
theorem dX5_awaitedBy_66 : decode cX5_awaitedBy 66 = .ok (.lload 4, 2) := by decide +kernel
theorem dX5_awaitedBy_68 : decode cX5_awaitedBy 68 = .ok (.land, 1) := by decide +kernel
theorem dX5_awaitedBy_69 : decode cX5_awaitedBy 69 = .ok (.lreturn, 1) := by decide +kernel
theorem dX5_awaitedBy_70 : decode cX5_awaitedBy 70 = .ok (.lconst 0, 1) := by decide +kernel
theorem dX5_awaitedBy_71 : decode cX5_awaitedBy 71 = .ok (.lreturn, 1) := by decide +kernel
theorem dX5_after_0 : decode cX5_after 0 = .ok (.aload_n 0, 1) := by decide +kernel
theorem dX5_after_1 : decode cX5_after 1 = .ok (.getfield 11, 3) := by decide +kernel
theorem dX5_after_4 : decode cX5_after 4 = .ok (.iconst 0, 1) := by decide +kernel
theorem dX5_after_5 : decode cX5_after 5 = .ok (.aaload, 1) := by decide +kernel
theorem dX5_after_6 : decode cX5_after 6 = .ok (.iload_n 1, 1) := by decide +kernel
theorem dX5_after_7 : decode cX5_after 7 = .ok (.laload, 1) := by decide +kernel
theorem dX5_after_8 : decode cX5_after 8 = .ok (.aload_n 0, 1) := by decide +kernel
theorem dX5_after_9 : decode cX5_after 9 = .ok (.getfield 11, 3) := by decide +kernel
theorem dX5_after_12 : decode cX5_after 12 = .ok (.iconst 2, 1) := by decide +kernel
theorem dX5_after_13 : decode cX5_after 13 = .ok (.aaload, 1) := by decide +kernel
theorem dX5_after_14 : decode cX5_after 14 = .ok (.iload_n 1, 1) := by decide +kernel
theorem dX5_after_15 : decode cX5_after 15 = .ok (.laload, 1) := by decide +kernel
theorem dX5_after_16 : decode cX5_after 16 = .ok (.lor, 1) := by decide +kernel
theorem dX5_after_17 : decode cX5_after 17 = .ok (.lreturn, 1) := by decide +kernel
theorem dX5_tangled_0 : decode cX5_tangled 0 = .ok (.lload_n 1, 1) := by decide +kernel
theorem dX5_tangled_1 : decode cX5_tangled 1 = .ok (.lstore_n 3, 1) := by decide +kernel
theorem dX5_tangled_2 : decode cX5_tangled 2 = .ok (.iconst 0, 1) := by decide +kernel
theorem dX5_tangled_3 : decode cX5_tangled 3 = .ok (.istore 5, 2) := by decide +kernel
theorem dX5_tangled_5 : decode cX5_tangled 5 = .ok (.iload 5, 2) := by decide +kernel
theorem dX5_tangled_7 : decode cX5_tangled 7 = .ok (.bipush 40, 2) := by decide +kernel
theorem dX5_tangled_9 : decode cX5_tangled 9 = .ok (.if_icmp .ge 73, 3) := by decide +kernel
theorem dX5_tangled_12 : decode cX5_tangled 12 = .ok (.lconst 0, 1) := by decide +kernel
theorem dX5_tangled_13 : decode cX5_tangled 13 = .ok (.lstore 6, 2) := by decide +kernel
theorem dX5_tangled_15 : decode cX5_tangled 15 = .ok (.iconst 0, 1) := by decide +kernel
theorem dX5_tangled_16 : decode cX5_tangled 16 = .ok (.istore 8, 2) := by decide +kernel
theorem dX5_tangled_18 : decode cX5_tangled 18 = .ok (.iload 8, 2) := by decide +kernel
theorem dX5_tangled_20 : decode cX5_tangled 20 = .ok (.bipush 40, 2) := by decide +kernel
theorem dX5_tangled_22 : decode cX5_tangled 22 = .ok (.if_icmp .ge 41, 3) := by decide +kernel
theorem dX5_tangled_25 : decode cX5_tangled 25 = .ok (.lload_n 3, 1) := by decide +kernel
theorem dX5_tangled_26 : decode cX5_tangled 26 = .ok (.iload 8, 2) := by decide +kernel
theorem dX5_tangled_28 : decode cX5_tangled 28 = .ok (.invokestatic 19, 3) := by decide +kernel
theorem dX5_tangled_31 : decode cX5_tangled 31 = .ok (.ifCond .eq 26, 3) := by decide +kernel
theorem dX5_tangled_34 : decode cX5_tangled 34 = .ok (.aload_n 0, 1) := by decide +kernel
theorem dX5_tangled_35 : decode cX5_tangled 35 = .ok (.iload 8, 2) := by decide +kernel
theorem dX5_tangled_37 : decode cX5_tangled 37 = .ok (.invokevirtual 44, 3) := by decide +kernel
theorem dX5_tangled_40 : decode cX5_tangled 40 = .ok (.lload_n 3, 1) := by decide +kernel
theorem dX5_tangled_41 : decode cX5_tangled 41 = .ok (.land, 1) := by decide +kernel
theorem dX5_tangled_42 : decode cX5_tangled 42 = .ok (.lconst 0, 1) := by decide +kernel
theorem dX5_tangled_43 : decode cX5_tangled 43 = .ok (.lcmp, 1) := by decide +kernel
theorem dX5_tangled_44 : decode cX5_tangled 44 = .ok (.ifCond .eq 13, 3) := by decide +kernel
theorem dX5_tangled_47 : decode cX5_tangled 47 = .ok (.lload 6, 2) := by decide +kernel
theorem dX5_tangled_49 : decode cX5_tangled 49 = .ok (.iload 8, 2) := by decide +kernel
theorem dX5_tangled_51 : decode cX5_tangled 51 = .ok (.invokestatic 34, 3) := by decide +kernel
theorem dX5_tangled_54 : decode cX5_tangled 54 = .ok (.lor, 1) := by decide +kernel
theorem dX5_tangled_55 : decode cX5_tangled 55 = .ok (.lstore 6, 2) := by decide +kernel
theorem dX5_tangled_57 : decode cX5_tangled 57 = .ok (.iinc 8 1, 3) := by decide +kernel
theorem dX5_tangled_60 : decode cX5_tangled 60 = .ok (.goto (-42), 3) := by decide +kernel
theorem dX5_tangled_63 : decode cX5_tangled 63 = .ok (.lload 6, 2) := by decide +kernel
theorem dX5_tangled_65 : decode cX5_tangled 65 = .ok (.lload_n 3, 1) := by decide +kernel
theorem dX5_tangled_66 : decode cX5_tangled 66 = .ok (.lcmp, 1) := by decide +kernel
theorem dX5_tangled_67 : decode cX5_tangled 67 = .ok (.ifCond .ne 6, 3) := by decide +kernel
theorem dX5_tangled_70 : decode cX5_tangled 70 = .ok (.goto 12, 3) := by decide +kernel
theorem dX5_tangled_73 : decode cX5_tangled 73 = .ok (.lload 6, 2) := by decide +kernel
theorem dX5_tangled_75 : decode cX5_tangled 75 = .ok (.lstore_n 3, 1) := by decide +kernel
theorem dX5_tangled_76 : decode cX5_tangled 76 = .ok (.iinc 5 1, 3) := by decide +kernel
theorem dX5_tangled_79 : decode cX5_tangled 79 = .ok (.goto (-74), 3) := by decide +kernel
theorem dX5_tangled_82 : decode cX5_tangled 82 = .ok (.lload_n 3, 1) := by decide +kernel
theorem dX5_tangled_83 : decode cX5_tangled 83 = .ok (.lreturn, 1) := by decide +kernel
theorem dX5_shortestRing_0 : decode cX5_shortestRing 0 = .ok (.aload_n 0, 1) := by decide +kernel
theorem dX5_shortestRing_1 : decode cX5_shortestRing 1 = .ok (.lload_n 1, 1) := by decide +kernel
theorem dX5_shortestRing_2 : decode cX5_shortestRing 2 = .ok (.invokevirtual 47, 3) := by decide +kernel
theorem dX5_shortestRing_5 : decode cX5_shortestRing 5 = .ok (.lstore_n 3, 1) := by decide +kernel
theorem dX5_shortestRing_6 : decode cX5_shortestRing 6 = .ok (.iconst 0, 1) := by decide +kernel
theorem dX5_shortestRing_7 : decode cX5_shortestRing 7 = .ok (.istore 5, 2) := by decide +kernel
theorem dX5_shortestRing_9 : decode cX5_shortestRing 9 = .ok (.iconst 0, 1) := by decide +kernel
theorem dX5_shortestRing_10 : decode cX5_shortestRing 10 = .ok (.istore 6, 2) := by decide +kernel
theorem dX5_shortestRing_12 : decode cX5_shortestRing 12 = .ok (.iload 6, 2) := by decide +kernel
theorem dX5_shortestRing_14 : decode cX5_shortestRing 14 = .ok (.bipush 40, 2) := by decide +kernel
theorem dX5_shortestRing_16 : decode cX5_shortestRing 16 = .ok (.if_icmp .ge 52, 3) := by decide +kernel
theorem dX5_shortestRing_19 : decode cX5_shortestRing 19 = .ok (.lload_n 3, 1) := by decide +kernel
theorem dX5_shortestRing_20 : decode cX5_shortestRing 20 = .ok (.iload 6, 2) := by decide +kernel
theorem dX5_shortestRing_22 : decode cX5_shortestRing 22 = .ok (.invokestatic 19, 3) := by decide +kernel
theorem dX5_shortestRing_25 : decode cX5_shortestRing 25 = .ok (.ifCond .eq 13, 3) := by decide +kernel
theorem dX5_shortestRing_28 : decode cX5_shortestRing 28 = .ok (.aload_n 0, 1) := by decide +kernel
theorem dX5_shortestRing_29 : decode cX5_shortestRing 29 = .ok (.iload 6, 2) := by decide +kernel
theorem dX5_shortestRing_31 : decode cX5_shortestRing 31 = .ok (.lload_n 3, 1) := by decide +kernel
theorem dX5_shortestRing_32 : decode cX5_shortestRing 32 = .ok (.invokevirtual 51, 3) := by decide +kernel
theorem dX5_shortestRing_35 : decode cX5_shortestRing 35 = .ok (.goto 4, 3) := by decide +kernel
theorem dX5_shortestRing_38 : decode cX5_shortestRing 38 = .ok (.iconst 0, 1) := by decide +kernel
theorem dX5_shortestRing_39 : decode cX5_shortestRing 39 = .ok (.istore 7, 2) := by decide +kernel
theorem dX5_shortestRing_41 : decode cX5_shortestRing 41 = .ok (.iload 7, 2) := by decide +kernel
theorem dX5_shortestRing_43 : decode cX5_shortestRing 43 = .ok (.ifCond .le 19, 3) := by decide +kernel
theorem dX5_shortestRing_46 : decode cX5_shortestRing 46 = .ok (.iload 5, 2) := by decide +kernel
theorem dX5_shortestRing_48 : decode cX5_shortestRing 48 = .ok (.ifCond .eq 10, 3) := by decide +kernel
theorem dX5_shortestRing_51 : decode cX5_shortestRing 51 = .ok (.iload 7, 2) := by decide +kernel
theorem dX5_shortestRing_53 : decode cX5_shortestRing 53 = .ok (.iload 5, 2) := by decide +kernel
theorem dX5_shortestRing_55 : decode cX5_shortestRing 55 = .ok (.if_icmp .ge 7, 3) := by decide +kernel
theorem dX5_shortestRing_58 : decode cX5_shortestRing 58 = .ok (.iload 7, 2) := by decide +kernel
theorem dX5_shortestRing_60 : decode cX5_shortestRing 60 = .ok (.istore 5, 2) := by decide +kernel
theorem dX5_shortestRing_62 : decode cX5_shortestRing 62 = .ok (.iinc 6 1, 3) := by decide +kernel
theorem dX5_shortestRing_65 : decode cX5_shortestRing 65 = .ok (.goto (-53), 3) := by decide +kernel
theorem dX5_shortestRing_68 : decode cX5_shortestRing 68 = .ok (.iload 5, 2) := by decide +kernel
theorem dX5_shortestRing_70 : decode cX5_shortestRing 70 = .ok (.ireturn, 1) := by decide +kernel
theorem dX5_ringThrough_0 : decode cX5_ringThrough 0 = .ok (.lconst 0, 1) := by decide +kernel
theorem dX5_ringThrough_1 : decode cX5_ringThrough 1 = .ok (.lstore 4, 2) := by decide +kernel
theorem dX5_ringThrough_3 : decode cX5_ringThrough 3 = .ok (.aload_n 0, 1) := by decide +kernel
theorem dX5_ringThrough_4 : decode cX5_ringThrough 4 = .ok (.iload_n 1, 1) := by decide +kernel
theorem dX5_ringThrough_5 : decode cX5_ringThrough 5 = .ok (.invokevirtual 44, 3) := by decide +kernel
theorem dX5_ringThrough_8 : decode cX5_ringThrough 8 = .ok (.lload_n 2, 1) := by decide +kernel
theorem dX5_ringThrough_9 : decode cX5_ringThrough 9 = .ok (.land, 1) := by decide +kernel
theorem dX5_ringThrough_10 : decode cX5_ringThrough 10 = .ok (.lstore 6, 2) := by decide +kernel
theorem dX5_ringThrough_12 : decode cX5_ringThrough 12 = .ok (.iconst 1, 1) := by decide +kernel
theorem dX5_ringThrough_13 : decode cX5_ringThrough 13 = .ok (.istore 8, 2) := by decide +kernel
theorem dX5_ringThrough_15 : decode cX5_ringThrough 15 = .ok (.iload 8, 2) := by decide +kernel
theorem dX5_ringThrough_17 : decode cX5_ringThrough 17 = .ok (.bipush 40, 2) := by decide +kernel
theorem dX5_ringThrough_19 : decode cX5_ringThrough 19 = .ok (.if_icmp .gt 73, 3) := by decide +kernel
theorem dX5_ringThrough_22 : decode cX5_ringThrough 22 = .ok (.lload 6, 2) := by decide +kernel
theorem dX5_ringThrough_24 : decode cX5_ringThrough 24 = .ok (.lconst 0, 1) := by decide +kernel
theorem dX5_ringThrough_25 : decode cX5_ringThrough 25 = .ok (.lcmp, 1) := by decide +kernel
theorem dX5_ringThrough_26 : decode cX5_ringThrough 26 = .ok (.ifCond .eq 66, 3) := by decide +kernel
theorem dX5_ringThrough_29 : decode cX5_ringThrough 29 = .ok (.lload 6, 2) := by decide +kernel
theorem dX5_ringThrough_31 : decode cX5_ringThrough 31 = .ok (.iload_n 1, 1) := by decide +kernel
theorem dX5_ringThrough_32 : decode cX5_ringThrough 32 = .ok (.invokestatic 19, 3) := by decide +kernel
theorem dX5_ringThrough_35 : decode cX5_ringThrough 35 = .ok (.ifCond .eq 6, 3) := by decide +kernel
theorem dX5_ringThrough_38 : decode cX5_ringThrough 38 = .ok (.iload 8, 2) := by decide +kernel
theorem dX5_ringThrough_40 : decode cX5_ringThrough 40 = .ok (.ireturn, 1) := by decide +kernel
theorem dX5_ringThrough_41 : decode cX5_ringThrough 41 = .ok (.lload 4, 2) := by decide +kernel
theorem dX5_ringThrough_43 : decode cX5_ringThrough 43 = .ok (.lload 6, 2) := by decide +kernel
theorem dX5_ringThrough_45 : decode cX5_ringThrough 45 = .ok (.lor, 1) := by decide +kernel
theorem dX5_ringThrough_46 : decode cX5_ringThrough 46 = .ok (.lstore 4, 2) := by decide +kernel
theorem dX5_ringThrough_48 : decode cX5_ringThrough 48 = .ok (.aload_n 0, 1) := by decide +kernel
theorem dX5_ringThrough_49 : decode cX5_ringThrough 49 = .ok (.getfield 11, 3) := by decide +kernel
theorem dX5_ringThrough_52 : decode cX5_ringThrough 52 = .ok (.iconst 0, 1) := by decide +kernel
theorem dX5_ringThrough_53 : decode cX5_ringThrough 53 = .ok (.aaload, 1) := by decide +kernel
theorem dX5_ringThrough_54 : decode cX5_ringThrough 54 = .ok (.lload 6, 2) := by decide +kernel
theorem dX5_ringThrough_56 : decode cX5_ringThrough 56 = .ok (.invokestatic 40, 3) := by decide +kernel
theorem dX5_ringThrough_59 : decode cX5_ringThrough 59 = .ok (.aload_n 0, 1) := by decide +kernel
theorem dX5_ringThrough_60 : decode cX5_ringThrough 60 = .ok (.getfield 11, 3) := by decide +kernel
theorem dX5_ringThrough_63 : decode cX5_ringThrough 63 = .ok (.iconst 2, 1) := by decide +kernel
theorem dX5_ringThrough_64 : decode cX5_ringThrough 64 = .ok (.aaload, 1) := by decide +kernel
theorem dX5_ringThrough_65 : decode cX5_ringThrough 65 = .ok (.lload 6, 2) := by decide +kernel
theorem dX5_ringThrough_67 : decode cX5_ringThrough 67 = .ok (.invokestatic 40, 3) := by decide +kernel
theorem dX5_ringThrough_70 : decode cX5_ringThrough 70 = .ok (.lor, 1) := by decide +kernel
theorem dX5_ringThrough_71 : decode cX5_ringThrough 71 = .ok (.lstore 9, 2) := by decide +kernel
theorem dX5_ringThrough_73 : decode cX5_ringThrough 73 = .ok (.lload 9, 2) := by decide +kernel
theorem dX5_ringThrough_75 : decode cX5_ringThrough 75 = .ok (.lload_n 2, 1) := by decide +kernel
theorem dX5_ringThrough_76 : decode cX5_ringThrough 76 = .ok (.land, 1) := by decide +kernel
theorem dX5_ringThrough_77 : decode cX5_ringThrough 77 = .ok (.lload 4, 2) := by decide +kernel
theorem dX5_ringThrough_79 : decode cX5_ringThrough 79 = .ok (.ldc2_w 38, 3) := by decide +kernel
theorem dX5_ringThrough_82 : decode cX5_ringThrough 82 = .ok (.lxor, 1) := by decide +kernel
theorem dX5_ringThrough_83 : decode cX5_ringThrough 83 = .ok (.land, 1) := by decide +kernel
theorem dX5_ringThrough_84 : decode cX5_ringThrough 84 = .ok (.lstore 6, 2) := by decide +kernel
theorem dX5_ringThrough_86 : decode cX5_ringThrough 86 = .ok (.iinc 8 1, 3) := by decide +kernel
theorem dX5_ringThrough_89 : decode cX5_ringThrough 89 = .ok (.goto (-74), 3) := by decide +kernel
theorem dX5_ringThrough_92 : decode cX5_ringThrough 92 = .ok (.iconst 0, 1) := by decide +kernel
theorem dX5_ringThrough_93 : decode cX5_ringThrough 93 = .ok (.ireturn, 1) := by decide +kernel
end
section
theorem dX3_kindOf_0 : decode cX3_kindOf 0 = .ok (.aload_n 0, 1) := by decide +kernel
theorem dX3_kindOf_1 : decode cX3_kindOf 1 = .ok (.getfield 15, 3) := by decide +kernel
theorem dX3_kindOf_4 : decode cX3_kindOf 4 = .ok (.iload_n 1, 1) := by decide +kernel
theorem dX3_kindOf_5 : decode cX3_kindOf 5 = .ok (.invokestatic 25, 3) := by decide +kernel
theorem dX3_kindOf_8 : decode cX3_kindOf 8 = .ok (.ifCond .eq 5, 3) := by decide +kernel
theorem dX3_kindOf_11 : decode cX3_kindOf 11 = .ok (.iconst 1, 1) := by decide +kernel
theorem dX3_kindOf_12 : decode cX3_kindOf 12 = .ok (.ireturn, 1) := by decide +kernel
theorem dX3_kindOf_13 : decode cX3_kindOf 13 = .ok (.aload_n 0, 1) := by decide +kernel
theorem dX3_kindOf_14 : decode cX3_kindOf 14 = .ok (.getfield 19, 3) := by decide +kernel
theorem dX3_kindOf_17 : decode cX3_kindOf 17 = .ok (.iload_n 1, 1) := by decide +kernel
theorem dX3_kindOf_18 : decode cX3_kindOf 18 = .ok (.invokestatic 25, 3) := by decide +kernel
theorem dX3_kindOf_21 : decode cX3_kindOf 21 = .ok (.ifCond .eq 7, 3) := by decide +kernel
theorem dX3_kindOf_24 : decode cX3_kindOf 24 = .ok (.iconst 2, 1) := by decide +kernel
theorem dX3_kindOf_25 : decode cX3_kindOf 25 = .ok (.goto 4, 3) := by decide +kernel
theorem dX3_kindOf_28 : decode cX3_kindOf 28 = .ok (.iconst 0, 1) := by decide +kernel
theorem dX3_kindOf_29 : decode cX3_kindOf 29 = .ok (.ireturn, 1) := by decide +kernel
theorem dX3_awaitedBy_0 : decode cX3_awaitedBy 0 = .ok (.aload_n 0, 1) := by decide +kernel
theorem dX3_awaitedBy_1 : decode cX3_awaitedBy 1 = .ok (.getfield 9, 3) := by decide +kernel
theorem dX3_awaitedBy_4 : decode cX3_awaitedBy 4 = .ok (.iload_n 1, 1) := by decide +kernel
theorem dX3_awaitedBy_5 : decode cX3_awaitedBy 5 = .ok (.aload_n 0, 1) := by decide +kernel
theorem dX3_awaitedBy_6 : decode cX3_awaitedBy 6 = .ok (.getfield 15, 3) := by decide +kernel
theorem dX3_awaitedBy_9 : decode cX3_awaitedBy 9 = .ok (.aload_n 0, 1) := by decide +kernel
theorem dX3_awaitedBy_10 : decode cX3_awaitedBy 10 = .ok (.getfield 19, 3) := by decide +kernel
theorem dX3_awaitedBy_13 : decode cX3_awaitedBy 13 = .ok (.invokevirtual 29, 3) := by decide +kernel
theorem dX3_awaitedBy_16 : decode cX3_awaitedBy 16 = .ok (.lreturn, 1) := by decide +kernel
theorem dX3_awaiting_0 : decode cX3_awaiting 0 = .ok (.lconst 0, 1) := by decide +kernel
theorem dX3_awaiting_1 : decode cX3_awaiting 1 = .ok (.lstore_n 2, 1) := by decide +kernel
theorem dX3_awaiting_2 : decode cX3_awaiting 2 = .ok (.iconst 0, 1) := by decide +kernel
theorem dX3_awaiting_3 : decode cX3_awaiting 3 = .ok (.istore 4, 2) := by decide +kernel
theorem dX3_awaiting_5 : decode cX3_awaiting 5 = .ok (.iload 4, 2) := by decide +kernel
theorem dX3_awaiting_7 : decode cX3_awaiting 7 = .ok (.bipush 40, 2) := by decide +kernel
theorem dX3_awaiting_9 : decode cX3_awaiting 9 = .ok (.if_icmp .ge 30, 3) := by decide +kernel
theorem dX3_awaiting_12 : decode cX3_awaiting 12 = .ok (.aload_n 0, 1) := by decide +kernel
theorem dX3_awaiting_13 : decode cX3_awaiting 13 = .ok (.iload 4, 2) := by decide +kernel
theorem dX3_awaiting_15 : decode cX3_awaiting 15 = .ok (.invokevirtual 35, 3) := by decide +kernel
theorem dX3_awaiting_18 : decode cX3_awaiting 18 = .ok (.iload_n 1, 1) := by decide +kernel
theorem dX3_awaiting_19 : decode cX3_awaiting 19 = .ok (.invokestatic 25, 3) := by decide +kernel
theorem dX3_awaiting_22 : decode cX3_awaiting 22 = .ok (.ifCond .eq 11, 3) := by decide +kernel
theorem dX3_awaiting_25 : decode cX3_awaiting 25 = .ok (.lload_n 2, 1) := by decide +kernel
theorem dX3_awaiting_26 : decode cX3_awaiting 26 = .ok (.iload 4, 2) := by decide +kernel
theorem dX3_awaiting_28 : decode cX3_awaiting 28 = .ok (.invokestatic 38, 3) := by decide +kernel
theorem dX3_awaiting_31 : decode cX3_awaiting 31 = .ok (.lor, 1) := by decide +kernel
theorem dX3_awaiting_32 : decode cX3_awaiting 32 = .ok (.lstore_n 2, 1) := by decide +kernel
theorem dX3_awaiting_33 : decode cX3_awaiting 33 = .ok (.iinc 4 1, 3) := by decide +kernel
theorem dX3_awaiting_36 : decode cX3_awaiting 36 = .ok (.goto (-31), 3) := by decide +kernel
theorem dX3_awaiting_39 : decode cX3_awaiting 39 = .ok (.lload_n 2, 1) := by decide +kernel
theorem dX3_awaiting_40 : decode cX3_awaiting 40 = .ok (.lreturn, 1) := by decide +kernel
theorem dX3_leastReady_0 : decode cX3_leastReady 0 = .ok (.aload_n 0, 1) := by decide +kernel
theorem dX3_leastReady_1 : decode cX3_leastReady 1 = .ok (.invokevirtual 41, 3) := by decide +kernel
theorem dX3_leastReady_4 : decode cX3_leastReady 4 = .ok (.aload_n 0, 1) := by decide +kernel
theorem dX3_leastReady_5 : decode cX3_leastReady 5 = .ok (.getfield 22, 3) := by decide +kernel
theorem dX3_leastReady_8 : decode cX3_leastReady 8 = .ok (.ldc2_w 45, 3) := by decide +kernel
theorem dX3_leastReady_11 : decode cX3_leastReady 11 = .ok (.lxor, 1) := by decide +kernel
theorem dX3_leastReady_12 : decode cX3_leastReady 12 = .ok (.land, 1) := by decide +kernel
theorem dX3_leastReady_13 : decode cX3_leastReady 13 = .ok (.lstore_n 1, 1) := by decide +kernel
theorem dX3_leastReady_14 : decode cX3_leastReady 14 = .ok (.iconst 0, 1) := by decide +kernel
theorem dX3_leastReady_15 : decode cX3_leastReady 15 = .ok (.istore_n 3, 1) := by decide +kernel
theorem dX3_leastReady_16 : decode cX3_leastReady 16 = .ok (.iload_n 3, 1) := by decide +kernel
theorem dX3_leastReady_17 : decode cX3_leastReady 17 = .ok (.bipush 40, 2) := by decide +kernel
theorem dX3_leastReady_19 : decode cX3_leastReady 19 = .ok (.if_icmp .ge 29, 3) := by decide +kernel
theorem dX3_leastReady_22 : decode cX3_leastReady 22 = .ok (.lload_n 1, 1) := by decide +kernel
theorem dX3_leastReady_23 : decode cX3_leastReady 23 = .ok (.iload_n 3, 1) := by decide +kernel
theorem dX3_leastReady_24 : decode cX3_leastReady 24 = .ok (.invokestatic 25, 3) := by decide +kernel
theorem dX3_leastReady_27 : decode cX3_leastReady 27 = .ok (.ifCond .eq 15, 3) := by decide +kernel
theorem dX3_leastReady_30 : decode cX3_leastReady 30 = .ok (.aload_n 0, 1) := by decide +kernel
theorem dX3_leastReady_31 : decode cX3_leastReady 31 = .ok (.iload_n 3, 1) := by decide +kernel
theorem dX3_leastReady_32 : decode cX3_leastReady 32 = .ok (.invokevirtual 35, 3) := by decide +kernel
theorem dX3_leastReady_35 : decode cX3_leastReady 35 = .ok (.lconst 0, 1) := by decide +kernel
theorem dX3_leastReady_36 : decode cX3_leastReady 36 = .ok (.lcmp, 1) := by decide +kernel
theorem dX3_leastReady_37 : decode cX3_leastReady 37 = .ok (.ifCond .ne 5, 3) := by decide +kernel
theorem dX3_leastReady_40 : decode cX3_leastReady 40 = .ok (.iload_n 3, 1) := by decide +kernel
theorem dX3_leastReady_41 : decode cX3_leastReady 41 = .ok (.ireturn, 1) := by decide +kernel
theorem dX3_leastReady_42 : decode cX3_leastReady 42 = .ok (.iinc 3 1, 3) := by decide +kernel
theorem dX3_leastReady_45 : decode cX3_leastReady 45 = .ok (.goto (-29), 3) := by decide +kernel
theorem dX3_leastReady_48 : decode cX3_leastReady 48 = .ok (.iconst (-1), 1) := by decide +kernel
theorem dX3_leastReady_49 : decode cX3_leastReady 49 = .ok (.ireturn, 1) := by decide +kernel
theorem dX3_noteState_0 : decode cX3_noteState 0 = .ok (.aload_n 0, 1) := by decide +kernel
theorem dX3_noteState_1 : decode cX3_noteState 1 = .ok (.getfield 22, 3) := by decide +kernel
theorem dX3_noteState_4 : decode cX3_noteState 4 = .ok (.iload_n 1, 1) := by decide +kernel
theorem dX3_noteState_5 : decode cX3_noteState 5 = .ok (.invokestatic 25, 3) := by decide +kernel
theorem dX3_noteState_8 : decode cX3_noteState 8 = .ok (.ifCond .ne 4, 3) := by decide +kernel
theorem dX3_noteState_11 : decode cX3_noteState 11 = .ok (.return_, 1) := by decide +kernel
theorem dX3_noteState_12 : decode cX3_noteState 12 = .ok (.aload_n 0, 1) := by decide +kernel
theorem dX3_noteState_13 : decode cX3_noteState 13 = .ok (.getfield 15, 3) := by decide +kernel
theorem dX3_noteState_16 : decode cX3_noteState 16 = .ok (.iload_n 1, 1) := by decide +kernel
theorem dX3_noteState_17 : decode cX3_noteState 17 = .ok (.invokestatic 25, 3) := by decide +kernel
theorem dX3_noteState_20 : decode cX3_noteState 20 = .ok (.ifCond .eq 16, 3) := by decide +kernel
theorem dX3_noteState_23 : decode cX3_noteState 23 = .ok (.iload_n 2, 1) := by decide +kernel
theorem dX3_noteState_24 : decode cX3_noteState 24 = .ok (.iconst 1, 1) := by decide +kernel
theorem dX3_noteState_25 : decode cX3_noteState 25 = .ok (.if_icmp .ne 7, 3) := by decide +kernel
theorem dX3_noteState_28 : decode cX3_noteState 28 = .ok (.iconst 1, 1) := by decide +kernel
theorem dX3_noteState_29 : decode cX3_noteState 29 = .ok (.goto 16, 3) := by decide +kernel
theorem dX3_noteState_32 : decode cX3_noteState 32 = .ok (.iconst 0, 1) := by decide +kernel
theorem dX3_noteState_33 : decode cX3_noteState 33 = .ok (.goto 12, 3) := by decide +kernel
theorem dX3_noteState_36 : decode cX3_noteState 36 = .ok (.iload_n 2, 1) := by decide +kernel
theorem dX3_noteState_37 : decode cX3_noteState 37 = .ok (.ifCond .eq 7, 3) := by decide +kernel
theorem dX3_noteState_40 : decode cX3_noteState 40 = .ok (.iconst 1, 1) := by decide +kernel
theorem dX3_noteState_41 : decode cX3_noteState 41 = .ok (.goto 4, 3) := by decide +kernel
theorem dX3_noteState_44 : decode cX3_noteState 44 = .ok (.iconst 0, 1) := by decide +kernel
theorem dX3_noteState_45 : decode cX3_noteState 45 = .ok (.istore_n 3, 1) := by decide +kernel
theorem dX3_noteState_46 : decode cX3_noteState 46 = .ok (.iload_n 3, 1) := by decide +kernel
theorem dX3_noteState_47 : decode cX3_noteState 47 = .ok (.ifCond .ne 8, 3) := by decide +kernel
theorem dX3_noteState_50 : decode cX3_noteState 50 = .ok (.aload_n 0, 1) := by decide +kernel
theorem dX3_noteState_51 : decode cX3_noteState 51 = .ok (.iload_n 1, 1) := by decide +kernel
theorem dX3_noteState_52 : decode cX3_noteState 52 = .ok (.invokevirtual 47, 3) := by decide +kernel
theorem dX3_noteState_55 : decode cX3_noteState 55 = .ok (.return_, 1) := by decide +kernel
end
section
theorem dX6_allow_0 : decode cX6_allow 0 = .ok (.aload_n 0, 1) := by decide +kernel
theorem dX6_allow_1 : decode cX6_allow 1 = .ok (.iload_n 1, 1) := by decide +kernel
theorem dX6_allow_2 : decode cX6_allow 2 = .ok (.putfield 15, 3) := by decide +kernel
theorem dX6_allow_5 : decode cX6_allow 5 = .ok (.aload_n 0, 1) := by decide +kernel
theorem dX6_allow_6 : decode cX6_allow 6 = .ok (.iload_n 2, 1) := by decide +kernel
theorem dX6_allow_7 : decode cX6_allow 7 = .ok (.putfield 22, 3) := by decide +kernel
theorem dX6_allow_10 : decode cX6_allow 10 = .ok (.aload_n 0, 1) := by decide +kernel
theorem dX6_allow_11 : decode cX6_allow 11 = .ok (.iload_n 3, 1) := by decide +kernel
theorem dX6_allow_12 : decode cX6_allow 12 = .ok (.putfield 19, 3) := by decide +kernel
theorem dX6_allow_15 : decode cX6_allow 15 = .ok (.return_, 1) := by decide +kernel
theorem dX6_note_0 : decode cX6_note 0 = .ok (.aload_n 0, 1) := by decide +kernel
theorem dX6_note_1 : decode cX6_note 1 = .ok (.getfield 9, 3) := by decide +kernel
theorem dX6_note_4 : decode cX6_note 4 = .ok (.aload_n 0, 1) := by decide +kernel
theorem dX6_note_5 : decode cX6_note 5 = .ok (.getfield 25, 3) := by decide +kernel
theorem dX6_note_8 : decode cX6_note 8 = .ok (.iload_n 1, 1) := by decide +kernel
theorem dX6_note_9 : decode cX6_note 9 = .ok (.iastore, 1) := by decide +kernel
theorem dX6_note_10 : decode cX6_note 10 = .ok (.aload_n 0, 1) := by decide +kernel
theorem dX6_note_11 : decode cX6_note 11 = .ok (.aload_n 0, 1) := by decide +kernel
theorem dX6_note_12 : decode cX6_note 12 = .ok (.getfield 25, 3) := by decide +kernel
theorem dX6_note_15 : decode cX6_note 15 = .ok (.iconst 1, 1) := by decide +kernel
theorem dX6_note_16 : decode cX6_note 16 = .ok (.iadd, 1) := by decide +kernel
theorem dX6_note_17 : decode cX6_note 17 = .ok (.bipush 10, 2) := by decide +kernel
theorem dX6_note_19 : decode cX6_note 19 = .ok (.irem, 1) := by decide +kernel
theorem dX6_note_20 : decode cX6_note 20 = .ok (.putfield 25, 3) := by decide +kernel
theorem dX6_note_23 : decode cX6_note 23 = .ok (.aload_n 0, 1) := by decide +kernel
theorem dX6_note_24 : decode cX6_note 24 = .ok (.getfield 28, 3) := by decide +kernel
theorem dX6_note_27 : decode cX6_note 27 = .ok (.bipush 10, 2) := by decide +kernel
theorem dX6_note_29 : decode cX6_note 29 = .ok (.if_icmp .ge 13, 3) := by decide +kernel
theorem dX6_note_32 : decode cX6_note 32 = .ok (.aload_n 0, 1) := by decide +kernel
theorem dX6_note_33 : decode cX6_note 33 = .ok (.dup, 1) := by decide +kernel
theorem dX6_note_34 : decode cX6_note 34 = .ok (.getfield 28, 3) := by decide +kernel
theorem dX6_note_37 : decode cX6_note 37 = .ok (.iconst 1, 1) := by decide +kernel
theorem dX6_note_38 : decode cX6_note 38 = .ok (.iadd, 1) := by decide +kernel
theorem dX6_note_39 : decode cX6_note 39 = .ok (.putfield 28, 3) := by decide +kernel
theorem dX6_note_42 : decode cX6_note 42 = .ok (.return_, 1) := by decide +kernel
theorem dX6_allowed_0 : decode cX6_allowed 0 = .ok (.aload_n 0, 1) := by decide +kernel
theorem dX6_allowed_1 : decode cX6_allowed 1 = .ok (.getfield 22, 3) := by decide +kernel
theorem dX6_allowed_4 : decode cX6_allowed 4 = .ok (.ifCond .ne 5, 3) := by decide +kernel
theorem dX6_allowed_7 : decode cX6_allowed 7 = .ok (.iconst 0, 1) := by decide +kernel
theorem dX6_allowed_8 : decode cX6_allowed 8 = .ok (.ireturn, 1) := by decide +kernel
theorem dX6_allowed_9 : decode cX6_allowed 9 = .ok (.aload_n 0, 1) := by decide +kernel
theorem dX6_allowed_10 : decode cX6_allowed 10 = .ok (.getfield 28, 3) := by decide +kernel
theorem dX6_allowed_13 : decode cX6_allowed 13 = .ok (.aload_n 0, 1) := by decide +kernel
theorem dX6_allowed_14 : decode cX6_allowed 14 = .ok (.getfield 22, 3) := by decide +kernel
theorem dX6_allowed_17 : decode cX6_allowed 17 = .ok (.if_icmp .ge 5, 3) := by decide +kernel
theorem dX6_allowed_20 : decode cX6_allowed 20 = .ok (.iconst 1, 1) := by decide +kernel
theorem dX6_allowed_21 : decode cX6_allowed 21 = .ok (.ireturn, 1) := by decide +kernel
theorem dX6_allowed_22 : decode cX6_allowed 22 = .ok (.aload_n 0, 1) := by decide +kernel
theorem dX6_allowed_23 : decode cX6_allowed 23 = .ok (.getfield 9, 3) := by decide +kernel
theorem dX6_allowed_26 : decode cX6_allowed 26 = .ok (.aload_n 0, 1) := by decide +kernel
theorem dX6_allowed_27 : decode cX6_allowed 27 = .ok (.getfield 25, 3) := by decide +kernel
theorem dX6_allowed_30 : decode cX6_allowed 30 = .ok (.bipush 10, 2) := by decide +kernel
theorem dX6_allowed_32 : decode cX6_allowed 32 = .ok (.iadd, 1) := by decide +kernel
theorem dX6_allowed_33 : decode cX6_allowed 33 = .ok (.aload_n 0, 1) := by decide +kernel
theorem dX6_allowed_34 : decode cX6_allowed 34 = .ok (.getfield 22, 3) := by decide +kernel
theorem dX6_allowed_37 : decode cX6_allowed 37 = .ok (.isub, 1) := by decide +kernel
theorem dX6_allowed_38 : decode cX6_allowed 38 = .ok (.bipush 10, 2) := by decide +kernel
theorem dX6_allowed_40 : decode cX6_allowed 40 = .ok (.irem, 1) := by decide +kernel
theorem dX6_allowed_41 : decode cX6_allowed 41 = .ok (.iaload, 1) := by decide +kernel
theorem dX6_allowed_42 : decode cX6_allowed 42 = .ok (.iload_n 1, 1) := by decide +kernel
theorem dX6_allowed_43 : decode cX6_allowed 43 = .ok (.aload_n 0, 1) := by decide +kernel
theorem dX6_allowed_44 : decode cX6_allowed 44 = .ok (.getfield 19, 3) := by decide +kernel
theorem dX6_allowed_47 : decode cX6_allowed 47 = .ok (.isub, 1) := by decide +kernel
theorem dX6_allowed_48 : decode cX6_allowed 48 = .ok (.if_icmp .gt 7, 3) := by decide +kernel
theorem dX6_allowed_51 : decode cX6_allowed 51 = .ok (.iconst 1, 1) := by decide +kernel
theorem dX6_allowed_52 : decode cX6_allowed 52 = .ok (.goto 4, 3) := by decide +kernel
theorem dX6_allowed_55 : decode cX6_allowed 55 = .ok (.iconst 0, 1) := by decide +kernel
theorem dX6_allowed_56 : decode cX6_allowed 56 = .ok (.ireturn, 1) := by decide +kernel
theorem dX7_firstStateOfStart_0 : decode cX7_firstStateOfStart 0 = .ok (.aload_n 0, 1) := by decide +kernel
theorem dX7_firstStateOfStart_1 : decode cX7_firstStateOfStart 1 = .ok (.getfield 29, 3) := by decide +kernel
theorem dX7_firstStateOfStart_4 : decode cX7_firstStateOfStart 4 = .ok (.ifCond .ne 7, 3) := by decide +kernel
theorem dX7_firstStateOfStart_7 : decode cX7_firstStateOfStart 7 = .ok (.iconst 2, 1) := by decide +kernel
theorem dX7_firstStateOfStart_8 : decode cX7_firstStateOfStart 8 = .ok (.goto 4, 3) := by decide +kernel
theorem dX7_firstStateOfStart_11 : decode cX7_firstStateOfStart 11 = .ok (.iconst 1, 1) := by decide +kernel
theorem dX7_firstStateOfStart_12 : decode cX7_firstStateOfStart 12 = .ok (.ireturn, 1) := by decide +kernel
theorem dX7_firstStateOfStop_0 : decode cX7_firstStateOfStop 0 = .ok (.aload_n 0, 1) := by decide +kernel
theorem dX7_firstStateOfStop_1 : decode cX7_firstStateOfStop 1 = .ok (.getfield 32, 3) := by decide +kernel
theorem dX7_firstStateOfStop_4 : decode cX7_firstStateOfStop 4 = .ok (.ifCond .ne 7, 3) := by decide +kernel
theorem dX7_firstStateOfStop_7 : decode cX7_firstStateOfStop 7 = .ok (.iconst 0, 1) := by decide +kernel
theorem dX7_firstStateOfStop_8 : decode cX7_firstStateOfStop 8 = .ok (.goto 4, 3) := by decide +kernel
theorem dX7_firstStateOfStop_11 : decode cX7_firstStateOfStop 11 = .ok (.iconst 3, 1) := by decide +kernel
theorem dX7_firstStateOfStop_12 : decode cX7_firstStateOfStop 12 = .ok (.ireturn, 1) := by decide +kernel
theorem dJx4a65c_elementData_915e3_0 : decode cJx4a65c_elementData_915e3 0 = .ok (.aload_n 0, 1) := by decide +kernel
theorem dJx4a65c_elementData_915e3_1 : decode cJx4a65c_elementData_915e3 1 = .ok (.getfield 9, 3) := by decide +kernel
theorem dJx4a65c_elementData_915e3_4 : decode cJx4a65c_elementData_915e3 4 = .ok (.iload_n 1, 1) := by decide +kernel
theorem dJx4a65c_elementData_915e3_5 : decode cJx4a65c_elementData_915e3 5 = .ok (.aaload, 1) := by decide +kernel
theorem dJx4a65c_elementData_915e3_6 : decode cJx4a65c_elementData_915e3 6 = .ok (.areturn, 1) := by decide +kernel
theorem dJx4a65c_get_915e3_0 : decode cJx4a65c_get_915e3 0 = .ok (.iload_n 1, 1) := by decide +kernel
theorem dJx4a65c_get_915e3_1 : decode cJx4a65c_get_915e3 1 = .ok (.aload_n 0, 1) := by decide +kernel
theorem dJx4a65c_get_915e3_2 : decode cJx4a65c_get_915e3 2 = .ok (.getfield 48, 3) := by decide +kernel
theorem dJx4a65c_get_915e3_5 : decode cJx4a65c_get_915e3 5 = .ok (.invokestatic 118, 3) := by decide +kernel
theorem dJx4a65c_get_915e3_8 : decode cJx4a65c_get_915e3 8 = .ok (.pop, 1) := by decide +kernel
theorem dJx4a65c_get_915e3_9 : decode cJx4a65c_get_915e3 9 = .ok (.aload_n 0, 1) := by decide +kernel
theorem dJx4a65c_get_915e3_10 : decode cJx4a65c_get_915e3 10 = .ok (.iload_n 1, 1) := by decide +kernel
theorem dJx4a65c_get_915e3_11 : decode cJx4a65c_get_915e3 11 = .ok (.invokevirtual 123, 3) := by decide +kernel
theorem dJx4a65c_get_915e3_14 : decode cJx4a65c_get_915e3 14 = .ok (.areturn, 1) := by decide +kernel
theorem dJ15_checkIndex_7cf53_0 : decode cJ15_checkIndex_7cf53 0 = .ok (.iload_n 0, 1) := by decide +kernel
theorem dJ15_checkIndex_7cf53_1 : decode cJ15_checkIndex_7cf53 1 = .ok (.iload_n 1, 1) := by decide +kernel
theorem dJ15_checkIndex_7cf53_2 : decode cJ15_checkIndex_7cf53 2 = .ok (.aconst_null, 1) := by decide +kernel
theorem dJ15_checkIndex_7cf53_3 : decode cJ15_checkIndex_7cf53 3 = .ok (.invokestatic 105, 3) := by decide +kernel
theorem dJ15_checkIndex_7cf53_6 : decode cJ15_checkIndex_7cf53 6 = .ok (.ireturn, 1) := by decide +kernel
theorem dJ3_checkIndex_8e157_0 : decode cJ3_checkIndex_8e157 0 = .ok (.iload_n 0, 1) := by decide +kernel
theorem dJ3_checkIndex_8e157_1 : decode cJ3_checkIndex_8e157 1 = .ok (.ifCond .lt 8, 3) := by decide +kernel
theorem dJ3_checkIndex_8e157_4 : decode cJ3_checkIndex_8e157 4 = .ok (.iload_n 0, 1) := by decide +kernel
theorem dJ3_checkIndex_8e157_5 : decode cJ3_checkIndex_8e157 5 = .ok (.iload_n 1, 1) := by decide +kernel
theorem dJ3_checkIndex_8e157_6 : decode cJ3_checkIndex_8e157 6 = .ok (.if_icmp .lt 10, 3) := by decide +kernel
theorem dJ3_checkIndex_8e157_16 : decode cJ3_checkIndex_8e157 16 = .ok (.iload_n 0, 1) := by decide +kernel
theorem dJ3_checkIndex_8e157_17 : decode cJ3_checkIndex_8e157 17 = .ok (.ireturn, 1) := by decide +kernel
def wq_x_ck3 : List Cond := [.code yJ3_checkIndex_8e157 cJ3_checkIndex_8e157 3 (some .int)]
set_option maxRecDepth 20000 in
theorem wi_x_ck3 : ∀ w ∈ wq_x_ck3, w ∈ lw_tbl := (wix [462] rfl)
set_option maxRecDepth 20000 in
theorem wg_x_ck3 : GoodIn wq_x_ck3 wq_x_ck3 := goodIn_sub (fun _ h => h) (by decide +kernel)
def rm_x_ck3 : Room := { frames := 0, cells := 0, slots := 0, locals := 0 }
set_option maxHeartbeats 4000000 in
set_option maxRecDepth 100000 in
theorem c_x_ck3 (l : Launch) (dC : Nat → ClassId) (dI : Nat → Nat → Nat) (h : Nat) (a : Nat → Nat) (e : Nat) (cI cJ cO cE : ClassId) (L : Nat → Int64) (I : Nat → Int32) (M : Nat → Nat → Int64) (J : Nat → Nat → Int32) (n cap : Nat) (fE : Nat → Option Nat) (sd : Nat → Nat → Nat) (si : Nat → Nat → Int32) (sa : Nat → Nat → Nat → Int32) (dl : Nat → Nat) (b : Nat) (iv : Nat) (lv : Nat) (sz : Nat) (hX0 : InvX n cap fE sd dl b I J si) (hb0 : b + 0 < 2147483648) (hp0 : iv < lv) (hp1 : lv < 100) : Met l yJ3_checkIndex_8e157 wq_x_ck3 rm_x_ck3 (va_Pc [.int (nI iv), .int (nI lv), .null] (fun U => U.heap.size = sz ∧ va_P (dC, dI) vwCl (xW h a e cI cJ cO cE L I M J n cap fE sd si sa dl) U.heap ∧ va_K (dC, dI) vwCl (xT cI cJ cO cE) U ∧ va_D (fun _ => True) (xW h a e cI cJ cO cE L I M J n cap fE sd si sa dl) ∧ pw_N U)) (va_Qi (fun (r : Int32) (u : Unit) => (True)) (fun (u : Unit) (t : State) => va_P (dC, dI) vwCl (xW h a e cI cJ cO cE L I M J n cap fE sd si sa dl) t.heap ∧ va_D (va_A (xW h a e cI cJ cO cE L I M J n cap fE sd si sa dl) sz) (xW h a e cI cJ cO cE L I M J n cap fE sd si sa dl)) (va_A (xW h a e cI cJ cO cE L I M J n cap fE sd si sa dl) sz)) 0 0 (va_A (xW h a e cI cJ cO cE L I M J n cap fE sd si sa dl) sz) := by
  have hn : n ≤ 40 := hX0.1.1
  have hX := hX0
  refine Met.ofW (cc := cJ3_checkIndex_8e157) (maxL := 3) (ret := (some .int)) (by decide) rfl ?_
  intro p e9 s m args below meth c s₁ B hml hv
  obtain ⟨rfl, hsz, hP, hK, hD0, hN⟩ := hv
  have hx := B.exec
  have hb := B.bytes
  have hr := B.returns
  have hts := atoms_spec (ws := wq_x_ck3) B.pre
  have hown : s.vm.findClass RJ3 = some m.cls := findClass_of_methodNamed B.named
  have hlocks := B.notSynchronized
  subst hsz
  have hD := hD0.self (sz := s.heap.size)
  generalize hAe : va_A (xW h a e cI cJ cO cE L I M J n cap fE sd si sa dl) s.heap.size = A at hD ⊢
  have hA : ∀ q : Nat, s.heap.size ≤ q → A q := fun q h => by rw [← hAe]; exact Or.inr h
  have hS : va_S A s.heap s.heap [] := va_S.rf
  have hl := lv_entry ([.int (nI iv), .int (nI lv), .null]) (n := 3) (Nat.le_of_ble_eq_true rfl)
  rw [lg_entry_eq]
  generalize (lg_sl ([.int (nI iv), .int (nI lv), .null]) ++ List.replicate (3 - (lg_sl ([.int (nI iv), .int (nI lv), .null])).length) Slot.unset).toArray = ls at hl ⊢
  have hl : lv_has ls 3 [(0, .int (nI iv)), (1, .int (nI lv)), (2, .null)] := hl
  refine lv_iload_n hx hb dJ3_checkIndex_8e157_0 rfl (lv_at hl 0 rfl) ?_
  refine lv_if_lt (tgt := 9) hx hb dJ3_checkIndex_8e157_1 (by decide) (fun c1 => ?_) (fun c1 => ?_)
  · replace c1 : iv < 0 := (nI_ltI (a := iv) (b := 0) (by omega) (by omega)).mp c1
    exact False.elim (by omega)
  · replace c1 : ¬ (iv < 0) := fun q9 => c1 ((nI_ltI (a := iv) (b := 0) (by omega) (by omega)).mpr q9)
    refine lv_iload_n hx hb dJ3_checkIndex_8e157_4 rfl (lv_at hl 0 rfl) ?_
    refine lv_iload_n hx hb dJ3_checkIndex_8e157_5 rfl (lv_at hl 1 rfl) ?_
    refine lv_icmp_lt (tgt := 16) hx hb dJ3_checkIndex_8e157_6 (by decide) (fun c2 => ?_) (fun c2 => ?_)
    · replace c2 : iv < lv := (nI_ltI (a := iv) (b := lv) (by omega) (by omega)).mp c2
      refine lv_iload_n hx hb dJ3_checkIndex_8e157_16 rfl (lv_at hl 0 rfl) ?_
      exact W.iret (v := (nI iv)) hx hb hr (fun t ht hW => ⟨⟨(nI iv), (), rfl, trivial, by rw [ht]; exact hP, hD⟩, hS.F ht⟩) hS.2.2 dJ3_checkIndex_8e157_17
    · replace c2 : ¬ (iv < lv) := fun q9 => c2 ((nI_ltI (a := iv) (b := lv) (by omega) (by omega)).mpr q9)
      exact False.elim (by omega)
def wq_x_ck : List Cond := ([.code yJ15_checkIndex_7cf53 cJ15_checkIndex_7cf53 2 (some .int), .methodLink RJ15 105 yJ3_checkIndex_8e157, .static yJ3_checkIndex_8e157, .initialized RJ3] : List Cond) ++ (wq_x_ck3)
set_option maxRecDepth 20000 in
theorem wi_x_ck : ∀ w ∈ wq_x_ck, w ∈ lw_tbl := List.forall_mem_append.mpr ⟨(wix [459, 460, 461, 78] rfl), wi_x_ck3⟩
set_option maxRecDepth 20000 in
theorem wg_x_ck : GoodIn wq_x_ck wq_x_ck := goodIn_sub (fun _ h => h) (by decide +kernel)
set_option maxRecDepth 20000 in
theorem wc_x_ck_x_ck3_105 : GoodIn wq_x_ck (va_wsS RJ15 105 yJ3_checkIndex_8e157 wq_x_ck3) := goodIn_app (goodIn_of _ (by decide +kernel)) (fun w h => ⟨List.mem_append_right _ (h), (wg_x_ck3 w h).2⟩)
def rm_x_ck : Room := { frames := 1, cells := 0, slots := 0, locals := 22 }
set_option maxHeartbeats 4000000 in
set_option maxRecDepth 100000 in
theorem c_x_ck (l : Launch) (dC : Nat → ClassId) (dI : Nat → Nat → Nat) (h : Nat) (a : Nat → Nat) (e : Nat) (cI cJ cO cE : ClassId) (L : Nat → Int64) (I : Nat → Int32) (M : Nat → Nat → Int64) (J : Nat → Nat → Int32) (n cap : Nat) (fE : Nat → Option Nat) (sd : Nat → Nat → Nat) (si : Nat → Nat → Int32) (sa : Nat → Nat → Nat → Int32) (dl : Nat → Nat) (b : Nat) (iv : Nat) (lv : Nat) (sz : Nat) (hX0 : InvX n cap fE sd dl b I J si) (hb0 : b + 0 < 2147483648) (hp0 : iv < lv) (hp1 : lv < 100) : Met l yJ15_checkIndex_7cf53 wq_x_ck rm_x_ck (va_Pc [.int (nI iv), .int (nI lv)] (fun U => U.heap.size = sz ∧ va_P (dC, dI) vwCl (xW h a e cI cJ cO cE L I M J n cap fE sd si sa dl) U.heap ∧ va_K (dC, dI) vwCl (xT cI cJ cO cE) U ∧ va_D (fun _ => True) (xW h a e cI cJ cO cE L I M J n cap fE sd si sa dl) ∧ pw_N U)) (va_Qi (fun (r : Int32) (u : Unit) => (True)) (fun (u : Unit) (t : State) => va_P (dC, dI) vwCl (xW h a e cI cJ cO cE L I M J n cap fE sd si sa dl) t.heap ∧ va_D (va_A (xW h a e cI cJ cO cE L I M J n cap fE sd si sa dl) sz) (xW h a e cI cJ cO cE L I M J n cap fE sd si sa dl)) (va_A (xW h a e cI cJ cO cE L I M J n cap fE sd si sa dl) sz)) 0 0 (va_A (xW h a e cI cJ cO cE L I M J n cap fE sd si sa dl) sz) := by
  have hn : n ≤ 40 := hX0.1.1
  have hX := hX0
  refine Met.ofW (cc := cJ15_checkIndex_7cf53) (maxL := 2) (ret := (some .int)) (by decide) rfl ?_
  intro p e9 s m args below meth c s₁ B hml hv
  obtain ⟨rfl, hsz, hP, hK, hD0, hN⟩ := hv
  have hx := B.exec
  have hb := B.bytes
  have hr := B.returns
  have hts := atoms_spec (ws := wq_x_ck) B.pre
  have hown : s.vm.findClass RJ15 = some m.cls := findClass_of_methodNamed B.named
  have hlocks := B.notSynchronized
  subst hsz
  have hD := hD0.self (sz := s.heap.size)
  generalize hAe : va_A (xW h a e cI cJ cO cE L I M J n cap fE sd si sa dl) s.heap.size = A at hD ⊢
  have hA : ∀ q : Nat, s.heap.size ≤ q → A q := fun q h => by rw [← hAe]; exact Or.inr h
  have hS : va_S A s.heap s.heap [] := va_S.rf
  have hl := lv_entry ([.int (nI iv), .int (nI lv)]) (n := 2) (Nat.le_of_ble_eq_true rfl)
  rw [lg_entry_eq]
  generalize (lg_sl ([.int (nI iv), .int (nI lv)]) ++ List.replicate (2 - (lg_sl ([.int (nI iv), .int (nI lv)])).length) Slot.unset).toArray = ls at hl ⊢
  have hl : lv_has ls 2 [(0, .int (nI iv)), (1, .int (nI lv))] := hl
  refine lv_iload_n hx hb dJ15_checkIndex_7cf53_0 rfl (lv_at hl 0 rfl) ?_
  refine lv_iload_n hx hb dJ15_checkIndex_7cf53_1 rfl (lv_at hl 1 rfl) ?_
  refine lv_null hx hb dJ15_checkIndex_7cf53_2 ?_
  have hFc := mw_free hD hS hA
  refine va_calli (va_runS (As := [.int (nI iv), .int (nI lv), .null]) (rest := []) ⟨hx, hb, hml, hown, hts⟩ (c_x_ck3 l dC dI h a e cI cJ cO cE L I M J n cap fE sd si sa dl (b) iv lv s.heap.size hX (by omega) (by omega) (by omega)) (va_cwS 3 hts wc_x_ck_x_ck3_105 rfl rfl rfl (by decide +kernel) ⟨Nat.le_of_ble_eq_true rfl, Nat.le_of_ble_eq_true rfl⟩) ⟨fun a9 U g mk q => by obtain ⟨q0, q1, qP, qK, qD, qN⟩ := q; exact ⟨q0, q1, qP, va_K.moved (u := U) (U := U.calling g mk a9) (Vm.Alike.refl U.vm) qK, qD, pw_N.same (u := U) (U := U.calling g mk a9) rfl qN⟩, fun U hU hW => ⟨rfl, by rw [hU], by rw [hU]; exact hP, va_K.moved hW.alike hK, hD.weaken (fun _ _ _ _ => trivial), pw_N.warm hW hN⟩⟩ rfl rfl hl.1 rfl (lv_room (Nat.le_of_ble_eq_true rfl)) dJ15_checkIndex_7cf53_3 ⟨Nat.le_of_ble_eq_true rfl, Nat.le_of_ble_eq_true rfl⟩) hS (fun q _ h => hFc q h) hFc (fun r1 u t H1 locs ht hvm hw hB hz1 hk1 hS => ?_)
  replace hP := hB.1
  rw [ht] at hP
  replace hD : va_D A (xW h a e cI cJ cO cE L I M J n cap fE sd si sa dl) := hB.2.weaken (fun _ q _ h9 => hFc q.1 h9)
  clear hB
  generalize H1 = H at hP hS ⊢
  replace hP : va_P (dC, dI) vwCl (xW h a e cI cJ cO cE L I M J n cap fE sd si sa dl) H := hP
  exact W.iret (v := r1) hx hb hr (fun t ht hW => ⟨⟨r1, (), rfl, trivial, by rw [ht]; exact hP, hD⟩, hS.F ht⟩) hS.2.2 dJ15_checkIndex_7cf53_6
def wq_x_elementData : List Cond := ([.code yJx4a65c_elementData_915e3 cJx4a65c_elementData_915e3 2 (some (.object "java/lang/Object")), .fieldLink RJx4a65c 9 "java/util/ArrayList" "elementData" "[Ljava/lang/Object;"] : List Cond) ++ (wsJx4a65c0)
theorem in_x_elementData_Jx4a65c : ∀ w ∈ wsJx4a65c0, w ∈ wq_x_elementData := fun _ h => List.mem_append_right _ (h)
set_option maxRecDepth 20000 in
theorem wi_x_elementData : ∀ w ∈ wq_x_elementData, w ∈ lw_tbl := List.forall_mem_append.mpr ⟨(wix [466, 102] rfl), inKJx4a65c⟩
set_option maxRecDepth 20000 in
theorem wg_x_elementData : GoodIn wq_x_elementData wq_x_elementData := goodIn_sub (fun _ h => h) (by decide +kernel)
def rm_x_elementData : Room := { frames := 0, cells := 0, slots := 0, locals := 0 }
set_option maxHeartbeats 4000000 in
set_option maxRecDepth 100000 in
theorem c_x_elementData (l : Launch) (dC : Nat → ClassId) (dI : Nat → Nat → Nat) (h : Nat) (a : Nat → Nat) (e : Nat) (cI cJ cO cE : ClassId) (L : Nat → Int64) (I : Nat → Int32) (M : Nat → Nat → Int64) (J : Nat → Nat → Int32) (n cap : Nat) (fE : Nat → Option Nat) (sd : Nat → Nat → Nat) (si : Nat → Nat → Int32) (sa : Nat → Nat → Nat → Int32) (dl : Nat → Nat) (b : Nat) (iv : Nat) (sz : Nat) (hX0 : InvX n cap fE sd dl b I J si) (hb0 : b + 0 < 2147483648) (hp0 : iv < n) : Met l yJx4a65c_elementData_915e3 wq_x_elementData rm_x_elementData (va_Pc [.ref (a 0), .int (nI iv)] (fun U => U.heap.size = sz ∧ va_P (dC, dI) vwCl (xW h a e cI cJ cO cE L I M J n cap fE sd si sa dl) U.heap ∧ va_K (dC, dI) vwCl (xT cI cJ cO cE) U ∧ va_D (fun _ => True) (xW h a e cI cJ cO cE L I M J n cap fE sd si sa dl) ∧ pw_N U)) (va_Qr (fun (u : Unit) => (True)) (fun (u : Unit) (ra : Nat) (t : State) => ra = sd iv 0 ∧ va_P (dC, dI) vwCl (xW h a e cI cJ cO cE L I M J n cap fE sd si sa dl) t.heap ∧ va_D (va_A (xW h a e cI cJ cO cE L I M J n cap fE sd si sa dl) sz) (xW h a e cI cJ cO cE L I M J n cap fE sd si sa dl)) (va_A (xW h a e cI cJ cO cE L I M J n cap fE sd si sa dl) sz)) 0 0 (va_A (xW h a e cI cJ cO cE L I M J n cap fE sd si sa dl) sz) := by
  have hn : n ≤ 40 := hX0.1.1
  have hX := hX0
  refine Met.ofW (cc := cJx4a65c_elementData_915e3) (maxL := 2) (ret := (some (.object "java/lang/Object"))) (by decide) rfl ?_
  intro p e9 s m args below meth c s₁ B hml hv
  obtain ⟨rfl, hsz, hP, hK, hD0, hN⟩ := hv
  have hx := B.exec
  have hb := B.bytes
  have hr := B.returns
  have hts := atoms_spec (ws := wq_x_elementData) B.pre
  have hown : s.vm.findClass RJx4a65c = some m.cls := findClass_of_methodNamed B.named
  have hlocks := B.notSynchronized
  subst hsz
  have hD := hD0.self (sz := s.heap.size)
  generalize hAe : va_A (xW h a e cI cJ cO cE L I M J n cap fE sd si sa dl) s.heap.size = A at hD ⊢
  have hA : ∀ q : Nat, s.heap.size ≤ q → A q := fun q h => by rw [← hAe]; exact Or.inr h
  have hS : va_S A s.heap s.heap [] := va_S.rf
  have hl := lv_entry ([.ref (a 0), .int (nI iv)]) (n := 2) (Nat.le_of_ble_eq_true rfl)
  rw [lg_entry_eq]
  generalize (lg_sl ([.ref (a 0), .int (nI iv)]) ++ List.replicate (2 - (lg_sl ([.ref (a 0), .int (nI iv)])).length) Slot.unset).toArray = ls at hl ⊢
  have hl : lv_has ls 2 [(0, .ref (a 0)), (1, .int (nI iv))] := hl
  refine lv_aload_n hx hb dJx4a65c_elementData_915e3_0 rfl (lv_at hl 0 rfl) ?_
  refine va_get (D := (dC, dI)) (ci := 0) (v := .ref e) (C := RJx4a65c) (T := TJx4a65c) (N := 3) hx hb hts in_x_elementData_Jx4a65c hown hK hP 1 rfl rfl 1 (by decide) (hts (.fieldLink RJx4a65c 9 "java/util/ArrayList" "elementData" "[Ljava/lang/Object;") (by decide +kernel)) (fun _ h9 => h9) rfl dJx4a65c_elementData_915e3_1 ?_
  refine lv_iload_n hx hb dJx4a65c_elementData_915e3_4 rfl (lv_at hl 1 rfl) ?_
  refine va_aldq (C := "java/lang/Object") (n := cap) (f := fE) hx hb hK hP (22 + 6 * n) 3 (xAt_E h a e cI cJ cO cE L I M J n cap fE sd si sa dl (by omega)) rfl (vp_in_nI (n := iv) (by have := hX.1.2.1; omega) (by have := hX.1.2.2.1; omega)) dJx4a65c_elementData_915e3_5 ?_
  refine p1_topr (v := .ref (sd iv 0)) (by rw [nI_clamp (by omega), hX.1.2.2.2.2 iv (by omega)]; rfl) ?_
  exact W.aret hx hb hr (Or.inl ⟨_, rfl⟩) (Or.inr ⟨_, rfl⟩) (fun t ht hW => ⟨⟨(), sd iv 0, rfl, trivial, rfl, by rw [ht]; exact hP, hD⟩, hS.F ht⟩) hS.2.2 dJx4a65c_elementData_915e3_6
def wq_x_get : List Cond := ([.code yJx4a65c_get_915e3 cJx4a65c_get_915e3 2 (some (.object "java/lang/Object")), .fieldLink RJx4a65c 48 "java/util/ArrayList" "size" "I", .methodLink RJx4a65c 118 yJ15_checkIndex_7cf53, .static yJ15_checkIndex_7cf53, .initialized RJ15, .methodLink RJx4a65c 123 yJx4a65c_elementData_915e3, .instanceMethod yJx4a65c_elementData_915e3, .selects RJx4a65c yJx4a65c_elementData_915e3 yJx4a65c_elementData_915e3, .initialized RJx4a65c] : List Cond) ++ (wsJx4a65c0 ++ (wq_x_ck ++ (wq_x_elementData)))
theorem in_x_get_Jx4a65c : ∀ w ∈ wsJx4a65c0, w ∈ wq_x_get := fun _ h => List.mem_append_right _ (List.mem_append_left _ (h))
set_option maxRecDepth 20000 in
theorem wi_x_get : ∀ w ∈ wq_x_get, w ∈ lw_tbl := List.forall_mem_append.mpr ⟨(wix [456, 103, 457, 458, 77, 463, 464, 465, 63] rfl), List.forall_mem_append.mpr ⟨inKJx4a65c, List.forall_mem_append.mpr ⟨wi_x_ck, wi_x_elementData⟩⟩⟩
set_option maxRecDepth 20000 in
theorem wg_x_get : GoodIn wq_x_get wq_x_get := goodIn_sub (fun _ h => h) (by decide +kernel)
set_option maxRecDepth 20000 in
theorem wc_x_get_x_ck_118 : GoodIn wq_x_get (va_wsS RJx4a65c 118 yJ15_checkIndex_7cf53 wq_x_ck) := goodIn_app (goodIn_of _ (by decide +kernel)) (fun w h => ⟨List.mem_append_right _ (List.mem_append_right _ (List.mem_append_left _ (h))), (wg_x_ck w h).2⟩)
set_option maxRecDepth 20000 in
theorem wc_x_get_x_elementData_123 : GoodIn wq_x_get (wsV RJx4a65c 123 RJx4a65c yJx4a65c_elementData_915e3 wq_x_elementData) := goodIn_app (goodIn_of _ (by decide +kernel)) (fun w h => ⟨List.mem_append_right _ (List.mem_append_right _ (List.mem_append_right _ (h))), (wg_x_elementData w h).2⟩)
def rm_x_get : Room := { frames := 2, cells := 0, slots := 0, locals := 43 }
set_option maxHeartbeats 4000000 in
set_option maxRecDepth 100000 in
theorem c_x_get (l : Launch) (dC : Nat → ClassId) (dI : Nat → Nat → Nat) (h : Nat) (a : Nat → Nat) (e : Nat) (cI cJ cO cE : ClassId) (L : Nat → Int64) (I : Nat → Int32) (M : Nat → Nat → Int64) (J : Nat → Nat → Int32) (n cap : Nat) (fE : Nat → Option Nat) (sd : Nat → Nat → Nat) (si : Nat → Nat → Int32) (sa : Nat → Nat → Nat → Int32) (dl : Nat → Nat) (b : Nat) (iv : Nat) (sz : Nat) (hX0 : InvX n cap fE sd dl b I J si) (hb0 : b + 0 < 2147483648) (hp0 : iv < n) : Met l yJx4a65c_get_915e3 wq_x_get rm_x_get (va_Pc [.ref (a 0), .int (nI iv)] (fun U => U.heap.size = sz ∧ va_P (dC, dI) vwCl (xW h a e cI cJ cO cE L I M J n cap fE sd si sa dl) U.heap ∧ va_K (dC, dI) vwCl (xT cI cJ cO cE) U ∧ va_D (fun _ => True) (xW h a e cI cJ cO cE L I M J n cap fE sd si sa dl) ∧ pw_N U)) (va_Qr (fun (u : Unit) => (True)) (fun (u : Unit) (ra : Nat) (t : State) => ra = sd iv 0 ∧ va_P (dC, dI) vwCl (xW h a e cI cJ cO cE L I M J n cap fE sd si sa dl) t.heap ∧ va_D (va_A (xW h a e cI cJ cO cE L I M J n cap fE sd si sa dl) sz) (xW h a e cI cJ cO cE L I M J n cap fE sd si sa dl)) (va_A (xW h a e cI cJ cO cE L I M J n cap fE sd si sa dl) sz)) 0 0 (va_A (xW h a e cI cJ cO cE L I M J n cap fE sd si sa dl) sz) := by
  have hn : n ≤ 40 := hX0.1.1
  have hX := hX0
  refine Met.ofW (cc := cJx4a65c_get_915e3) (maxL := 2) (ret := (some (.object "java/lang/Object"))) (by decide) rfl ?_
  intro p e9 s m args below meth c s₁ B hml hv
  obtain ⟨rfl, hsz, hP, hK, hD0, hN⟩ := hv
  have hx := B.exec
  have hb := B.bytes
  have hr := B.returns
  have hts := atoms_spec (ws := wq_x_get) B.pre
  have hown : s.vm.findClass RJx4a65c = some m.cls := findClass_of_methodNamed B.named
  have hlocks := B.notSynchronized
  subst hsz
  have hD := hD0.self (sz := s.heap.size)
  generalize hAe : va_A (xW h a e cI cJ cO cE L I M J n cap fE sd si sa dl) s.heap.size = A at hD ⊢
  have hA : ∀ q : Nat, s.heap.size ≤ q → A q := fun q h => by rw [← hAe]; exact Or.inr h
  have hS : va_S A s.heap s.heap [] := va_S.rf
  have hl := lv_entry ([.ref (a 0), .int (nI iv)]) (n := 2) (Nat.le_of_ble_eq_true rfl)
  rw [lg_entry_eq]
  generalize (lg_sl ([.ref (a 0), .int (nI iv)]) ++ List.replicate (2 - (lg_sl ([.ref (a 0), .int (nI iv)])).length) Slot.unset).toArray = ls at hl ⊢
  have hl : lv_has ls 2 [(0, .ref (a 0)), (1, .int (nI iv))] := hl
  refine lv_iload_n hx hb dJx4a65c_get_915e3_0 rfl (lv_at hl 1 rfl) ?_
  refine lv_aload_n hx hb dJx4a65c_get_915e3_1 rfl (lv_at hl 0 rfl) ?_
  refine va_get (D := (dC, dI)) (ci := 0) (v := .int (I 6)) (C := RJx4a65c) (T := TJx4a65c) (N := 3) hx hb hts in_x_get_Jx4a65c hown hK hP 1 rfl rfl 2 (by decide) (hts (.fieldLink RJx4a65c 48 "java/util/ArrayList" "size" "I") (by decide +kernel)) (fun _ h9 => h9) rfl dJx4a65c_get_915e3_2 ?_
  refine p1_topr (v := .int (nI n)) (congrArg Value.int hX.1.2.2.2.1) ?_
  have hFc := mw_free hD hS hA
  refine va_calli (va_runS (As := [.int (nI iv), .int (nI n)]) (rest := []) ⟨hx, hb, hml, hown, hts⟩ (c_x_ck l dC dI h a e cI cJ cO cE L I M J n cap fE sd si sa dl (b) iv n s.heap.size hX (by omega) (by omega) (by omega)) (va_cwS 2 hts wc_x_get_x_ck_118 rfl rfl rfl (by decide +kernel) ⟨Nat.le_of_ble_eq_true rfl, Nat.le_of_ble_eq_true rfl⟩) ⟨fun a9 U g mk q => by obtain ⟨q0, q1, qP, qK, qD, qN⟩ := q; exact ⟨q0, q1, qP, va_K.moved (u := U) (U := U.calling g mk a9) (Vm.Alike.refl U.vm) qK, qD, pw_N.same (u := U) (U := U.calling g mk a9) rfl qN⟩, fun U hU hW => ⟨rfl, by rw [hU], by rw [hU]; exact hP, va_K.moved hW.alike hK, hD.weaken (fun _ _ _ _ => trivial), pw_N.warm hW hN⟩⟩ rfl rfl hl.1 rfl (lv_room (Nat.le_of_ble_eq_true rfl)) dJx4a65c_get_915e3_5 ⟨Nat.le_of_ble_eq_true rfl, Nat.le_of_ble_eq_true rfl⟩) hS (fun q _ h => hFc q h) hFc (fun r1 u t H1 locs ht hvm hw hB hz1 hk1 hS => ?_)
  replace hP := hB.1
  rw [ht] at hP
  replace hD : va_D A (xW h a e cI cJ cO cE L I M J n cap fE sd si sa dl) := hB.2.weaken (fun _ q _ h9 => hFc q.1 h9)
  clear hB
  generalize H1 = H at hP hS ⊢
  replace hP : va_P (dC, dI) vwCl (xW h a e cI cJ cO cE L I M J n cap fE sd si sa dl) H := hP
  refine lv_pop hx hb dJx4a65c_get_915e3_8 rfl ?_
  refine lv_aload_n hx hb dJx4a65c_get_915e3_9 rfl (lv_at hl 0 rfl) ?_
  refine lv_iload_n hx hb dJx4a65c_get_915e3_10 rfl (lv_at hl 1 rfl) ?_
  have hFc := mw_free hD hS hA
  refine va_callr (va_runV (As := [.int (nI iv)]) (rest := []) ⟨hx, hb, hml, hown, hts⟩ (c_x_elementData l dC dI h a e cI cJ cO cE L I M J n cap fE sd si sa dl (b) iv H.size hX (by omega) (by omega)) (cwV 1 hts wc_x_get_x_elementData_123 rfl rfl rfl (by decide +kernel) ⟨Nat.le_of_ble_eq_true rfl, Nat.le_of_ble_eq_true rfl⟩) ⟨fun a9 U g mk q => by obtain ⟨q0, q1, qP, qK, qD, qN⟩ := q; exact ⟨q0, q1, qP, va_K.moved (u := U) (U := U.calling g mk a9) (Vm.Alike.refl U.vm) qK, qD, pw_N.same (u := U) (U := U.calling g mk a9) rfl qN⟩, va_recv hK hP (ci := 0) (q0 := 1) rfl rfl, fun U hU hW => ⟨rfl, by rw [hU], by rw [hU]; exact hP, va_K.moved hW.alike hK, hD.weaken (fun _ _ _ _ => trivial), pw_N.warm hW hN⟩⟩ rfl rfl hl.1 rfl (lv_room (Nat.le_of_ble_eq_true rfl)) dJx4a65c_get_915e3_11 ⟨Nat.le_of_ble_eq_true rfl, Nat.le_of_ble_eq_true rfl⟩) hS (fun q _ h => hFc q h) hFc (fun u r2 t H1 locs ht hvm hw hB hz1 hk1 hS => ?_)
  obtain ⟨hra, hB⟩ := hB
  replace hP := hB.1
  rw [ht] at hP
  replace hD : va_D A (xW h a e cI cJ cO cE L I M J n cap fE sd si sa dl) := hB.2.weaken (fun _ q _ h9 => hFc q.1 h9)
  clear hB
  generalize H1 = H at hP hS ⊢
  replace hP : va_P (dC, dI) vwCl (xW h a e cI cJ cO cE L I M J n cap fE sd si sa dl) H := hP
  subst hra
  exact W.aret hx hb hr (Or.inl ⟨_, rfl⟩) (Or.inr ⟨_, rfl⟩) (fun t ht hW => ⟨⟨(), sd iv 0, rfl, trivial, rfl, by rw [ht]; exact hP, hD⟩, hS.F ht⟩) hS.2.2 dJx4a65c_get_915e3_14
end
section
theorem dX0_isFull_0 : decode cX0_isFull 0 = .ok (.aload_n 0, 1) := by decide +kernel
theorem dX0_isFull_1 : decode cX0_isFull 1 = .ok (.getfield 17, 3) := by decide +kernel
theorem dX0_isFull_4 : decode cX0_isFull 4 = .ok (.aload_n 0, 1) := by decide +kernel
theorem dX0_isFull_5 : decode cX0_isFull 5 = .ok (.getfield 13, 3) := by decide +kernel
theorem dX0_isFull_8 : decode cX0_isFull 8 = .ok (.arraylength, 1) := by decide +kernel
theorem dX0_isFull_9 : decode cX0_isFull 9 = .ok (.if_icmp .lt 7, 3) := by decide +kernel
theorem dX0_isFull_12 : decode cX0_isFull 12 = .ok (.iconst 1, 1) := by decide +kernel
theorem dX0_isFull_13 : decode cX0_isFull 13 = .ok (.goto 4, 3) := by decide +kernel
theorem dX0_isFull_16 : decode cX0_isFull 16 = .ok (.iconst 0, 1) := by decide +kernel
theorem dX0_isFull_17 : decode cX0_isFull 17 = .ok (.ireturn, 1) := by decide +kernel
theorem dX0_put_0 : decode cX0_put 0 = .ok (.aload_n 0, 1) := by decide +kernel
theorem dX0_put_1 : decode cX0_put 1 = .ok (.invokevirtual 20, 3) := by decide +kernel
theorem dX0_put_4 : decode cX0_put 4 = .ok (.ifCond .eq 4, 3) := by decide +kernel
theorem dX0_put_7 : decode cX0_put 7 = .ok (.return_, 1) := by decide +kernel
theorem dX0_put_8 : decode cX0_put 8 = .ok (.aload_n 0, 1) := by decide +kernel
theorem dX0_put_9 : decode cX0_put 9 = .ok (.getfield 13, 3) := by decide +kernel
theorem dX0_put_12 : decode cX0_put 12 = .ok (.aload_n 0, 1) := by decide +kernel
theorem dX0_put_13 : decode cX0_put 13 = .ok (.getfield 24, 3) := by decide +kernel
theorem dX0_put_16 : decode cX0_put 16 = .ok (.aload_n 0, 1) := by decide +kernel
theorem dX0_put_17 : decode cX0_put 17 = .ok (.getfield 17, 3) := by decide +kernel
theorem dX0_put_20 : decode cX0_put 20 = .ok (.iadd, 1) := by decide +kernel
theorem dX0_put_21 : decode cX0_put 21 = .ok (.aload_n 0, 1) := by decide +kernel
theorem dX0_put_22 : decode cX0_put 22 = .ok (.getfield 13, 3) := by decide +kernel
theorem dX0_put_25 : decode cX0_put 25 = .ok (.arraylength, 1) := by decide +kernel
theorem dX0_put_26 : decode cX0_put 26 = .ok (.irem, 1) := by decide +kernel
theorem dX0_put_27 : decode cX0_put 27 = .ok (.iload_n 1, 1) := by decide +kernel
theorem dX0_put_28 : decode cX0_put 28 = .ok (.iastore, 1) := by decide +kernel
theorem dX0_put_29 : decode cX0_put 29 = .ok (.aload_n 0, 1) := by decide +kernel
theorem dX0_put_30 : decode cX0_put 30 = .ok (.dup, 1) := by decide +kernel
theorem dX0_put_31 : decode cX0_put 31 = .ok (.getfield 17, 3) := by decide +kernel
theorem dX0_put_34 : decode cX0_put 34 = .ok (.iconst 1, 1) := by decide +kernel
theorem dX0_put_35 : decode cX0_put 35 = .ok (.iadd, 1) := by decide +kernel
theorem dX0_put_36 : decode cX0_put 36 = .ok (.putfield 17, 3) := by decide +kernel
theorem dX0_put_39 : decode cX0_put 39 = .ok (.return_, 1) := by decide +kernel
theorem dX0_readFirst_0 : decode cX0_readFirst 0 = .ok (.aload_n 0, 1) := by decide +kernel
theorem dX0_readFirst_1 : decode cX0_readFirst 1 = .ok (.getfield 17, 3) := by decide +kernel
theorem dX0_readFirst_4 : decode cX0_readFirst 4 = .ok (.ifCond .eq 11, 3) := by decide +kernel
theorem dX0_readFirst_7 : decode cX0_readFirst 7 = .ok (.aload_n 0, 1) := by decide +kernel
theorem dX0_readFirst_8 : decode cX0_readFirst 8 = .ok (.getfield 13, 3) := by decide +kernel
theorem dX0_readFirst_11 : decode cX0_readFirst 11 = .ok (.arraylength, 1) := by decide +kernel
theorem dX0_readFirst_12 : decode cX0_readFirst 12 = .ok (.ifCond .ne 4, 3) := by decide +kernel
theorem dX0_readFirst_15 : decode cX0_readFirst 15 = .ok (.return_, 1) := by decide +kernel
theorem dX0_readFirst_16 : decode cX0_readFirst 16 = .ok (.aload_n 0, 1) := by decide +kernel
theorem dX0_readFirst_17 : decode cX0_readFirst 17 = .ok (.aload_n 0, 1) := by decide +kernel
theorem dX0_readFirst_18 : decode cX0_readFirst 18 = .ok (.getfield 13, 3) := by decide +kernel
theorem dX0_readFirst_21 : decode cX0_readFirst 21 = .ok (.aload_n 0, 1) := by decide +kernel
theorem dX0_readFirst_22 : decode cX0_readFirst 22 = .ok (.getfield 24, 3) := by decide +kernel
theorem dX0_readFirst_25 : decode cX0_readFirst 25 = .ok (.iaload, 1) := by decide +kernel
theorem dX0_readFirst_26 : decode cX0_readFirst 26 = .ok (.putfield 7, 3) := by decide +kernel
theorem dX0_readFirst_29 : decode cX0_readFirst 29 = .ok (.aload_n 0, 1) := by decide +kernel
theorem dX0_readFirst_30 : decode cX0_readFirst 30 = .ok (.aload_n 0, 1) := by decide +kernel
theorem dX0_readFirst_31 : decode cX0_readFirst 31 = .ok (.getfield 24, 3) := by decide +kernel
theorem dX0_readFirst_34 : decode cX0_readFirst 34 = .ok (.iconst 1, 1) := by decide +kernel
theorem dX0_readFirst_35 : decode cX0_readFirst 35 = .ok (.iadd, 1) := by decide +kernel
theorem dX0_readFirst_36 : decode cX0_readFirst 36 = .ok (.aload_n 0, 1) := by decide +kernel
theorem dX0_readFirst_37 : decode cX0_readFirst 37 = .ok (.getfield 13, 3) := by decide +kernel
theorem dX0_readFirst_40 : decode cX0_readFirst 40 = .ok (.arraylength, 1) := by decide +kernel
theorem dX0_readFirst_41 : decode cX0_readFirst 41 = .ok (.irem, 1) := by decide +kernel
theorem dX0_readFirst_42 : decode cX0_readFirst 42 = .ok (.putfield 24, 3) := by decide +kernel
theorem dX0_readFirst_45 : decode cX0_readFirst 45 = .ok (.aload_n 0, 1) := by decide +kernel
theorem dX0_readFirst_46 : decode cX0_readFirst 46 = .ok (.dup, 1) := by decide +kernel
theorem dX0_readFirst_47 : decode cX0_readFirst 47 = .ok (.getfield 17, 3) := by decide +kernel
theorem dX0_readFirst_50 : decode cX0_readFirst 50 = .ok (.iconst 1, 1) := by decide +kernel
theorem dX0_readFirst_51 : decode cX0_readFirst 51 = .ok (.isub, 1) := by decide +kernel
theorem dX0_readFirst_52 : decode cX0_readFirst 52 = .ok (.putfield 17, 3) := by decide +kernel
theorem dX0_readFirst_55 : decode cX0_readFirst 55 = .ok (.aload_n 0, 1) := by decide +kernel
theorem dX0_readFirst_56 : decode cX0_readFirst 56 = .ok (.dup, 1) := by decide +kernel
theorem dX0_readFirst_57 : decode cX0_readFirst 57 = .ok (.getfield 27, 3) := by decide +kernel
theorem dX0_readFirst_60 : decode cX0_readFirst 60 = .ok (.iconst 1, 1) := by decide +kernel
theorem dX0_readFirst_61 : decode cX0_readFirst 61 = .ok (.iadd, 1) := by decide +kernel
theorem dX0_readFirst_62 : decode cX0_readFirst 62 = .ok (.putfield 27, 3) := by decide +kernel
theorem dX0_readFirst_65 : decode cX0_readFirst 65 = .ok (.return_, 1) := by decide +kernel
theorem dX7_enter_0 : decode cX7_enter 0 = .ok (.aload_n 0, 1) := by decide +kernel
theorem dX7_enter_1 : decode cX7_enter 1 = .ok (.iload_n 1, 1) := by decide +kernel
theorem dX7_enter_2 : decode cX7_enter 2 = .ok (.putfield 22, 3) := by decide +kernel
theorem dX7_enter_5 : decode cX7_enter 5 = .ok (.aload_n 0, 1) := by decide +kernel
theorem dX7_enter_6 : decode cX7_enter 6 = .ok (.iload_n 2, 1) := by decide +kernel
theorem dX7_enter_7 : decode cX7_enter 7 = .ok (.putfield 35, 3) := by decide +kernel
theorem dX7_enter_10 : decode cX7_enter 10 = .ok (.aload_n 0, 1) := by decide +kernel
theorem dX7_enter_11 : decode cX7_enter 11 = .ok (.iconst 0, 1) := by decide +kernel
theorem dX7_enter_12 : decode cX7_enter 12 = .ok (.putfield 47, 3) := by decide +kernel
theorem dX7_enter_15 : decode cX7_enter 15 = .ok (.aload_n 0, 1) := by decide +kernel
theorem dX7_enter_16 : decode cX7_enter 16 = .ok (.iconst 0, 1) := by decide +kernel
theorem dX7_enter_17 : decode cX7_enter 17 = .ok (.putfield 51, 3) := by decide +kernel
theorem dX7_enter_20 : decode cX7_enter 20 = .ok (.iload_n 1, 1) := by decide +kernel
theorem dX7_enter_21 : decode cX7_enter 21 = .ok (.iconst 2, 1) := by decide +kernel
theorem dX7_enter_22 : decode cX7_enter 22 = .ok (.if_icmp .ne 35, 3) := by decide +kernel
theorem dX7_enter_25 : decode cX7_enter 25 = .ok (.aload_n 0, 1) := by decide +kernel
theorem dX7_enter_26 : decode cX7_enter 26 = .ok (.aload_n 0, 1) := by decide +kernel
theorem dX7_enter_27 : decode cX7_enter 27 = .ok (.getfield 9, 3) := by decide +kernel
theorem dX7_enter_30 : decode cX7_enter 30 = .ok (.iconst 0, 1) := by decide +kernel
theorem dX7_enter_31 : decode cX7_enter 31 = .ok (.aload_n 0, 1) := by decide +kernel
theorem dX7_enter_32 : decode cX7_enter 32 = .ok (.getfield 54, 3) := by decide +kernel
theorem dX7_enter_35 : decode cX7_enter 35 = .ok (.bipush 7, 2) := by decide +kernel
theorem dX7_enter_37 : decode cX7_enter 37 = .ok (.invokestatic 57, 3) := by decide +kernel
theorem dX7_enter_40 : decode cX7_enter 40 = .ok (.invokestatic 63, 3) := by decide +kernel
theorem dX7_enter_43 : decode cX7_enter 43 = .ok (.iaload, 1) := by decide +kernel
theorem dX7_enter_44 : decode cX7_enter 44 = .ok (.putfield 51, 3) := by decide +kernel
theorem dX7_enter_47 : decode cX7_enter 47 = .ok (.aload_n 0, 1) := by decide +kernel
theorem dX7_enter_48 : decode cX7_enter 48 = .ok (.dup, 1) := by decide +kernel
theorem dX7_enter_49 : decode cX7_enter 49 = .ok (.getfield 54, 3) := by decide +kernel
theorem dX7_enter_52 : decode cX7_enter 52 = .ok (.iconst 1, 1) := by decide +kernel
theorem dX7_enter_53 : decode cX7_enter 53 = .ok (.iadd, 1) := by decide +kernel
theorem dX7_enter_54 : decode cX7_enter 54 = .ok (.putfield 54, 3) := by decide +kernel
theorem dX7_enter_57 : decode cX7_enter 57 = .ok (.iload_n 1, 1) := by decide +kernel
theorem dX7_enter_58 : decode cX7_enter 58 = .ok (.iconst 4, 1) := by decide +kernel
theorem dX7_enter_59 : decode cX7_enter 59 = .ok (.if_icmp .eq 8, 3) := by decide +kernel
theorem dX7_enter_62 : decode cX7_enter 62 = .ok (.iload_n 1, 1) := by decide +kernel
theorem dX7_enter_63 : decode cX7_enter 63 = .ok (.iconst 5, 1) := by decide +kernel
theorem dX7_enter_64 : decode cX7_enter 64 = .ok (.if_icmp .ne 13, 3) := by decide +kernel
theorem dX7_enter_67 : decode cX7_enter 67 = .ok (.aload_n 0, 1) := by decide +kernel
theorem dX7_enter_68 : decode cX7_enter 68 = .ok (.dup, 1) := by decide +kernel
theorem dX7_enter_69 : decode cX7_enter 69 = .ok (.getfield 66, 3) := by decide +kernel
theorem dX7_enter_72 : decode cX7_enter 72 = .ok (.iconst 1, 1) := by decide +kernel
theorem dX7_enter_73 : decode cX7_enter 73 = .ok (.iadd, 1) := by decide +kernel
theorem dX7_enter_74 : decode cX7_enter 74 = .ok (.putfield 66, 3) := by decide +kernel
theorem dX7_enter_77 : decode cX7_enter 77 = .ok (.iload_n 1, 1) := by decide +kernel
theorem dX7_enter_78 : decode cX7_enter 78 = .ok (.iconst 5, 1) := by decide +kernel
theorem dX7_enter_79 : decode cX7_enter 79 = .ok (.if_icmp .ne 11, 3) := by decide +kernel
theorem dX7_enter_82 : decode cX7_enter 82 = .ok (.aload_n 0, 1) := by decide +kernel
theorem dX7_enter_83 : decode cX7_enter 83 = .ok (.getfield 18, 3) := by decide +kernel
theorem dX7_enter_86 : decode cX7_enter 86 = .ok (.iload_n 2, 1) := by decide +kernel
theorem dX7_enter_87 : decode cX7_enter 87 = .ok (.invokevirtual 69, 3) := by decide +kernel
theorem dX7_enter_90 : decode cX7_enter 90 = .ok (.return_, 1) := by decide +kernel
theorem dX7_endByItself_0 : decode cX7_endByItself 0 = .ok (.aload_n 0, 1) := by decide +kernel
theorem dX7_endByItself_1 : decode cX7_endByItself 1 = .ok (.iconst 1, 1) := by decide +kernel
theorem dX7_endByItself_2 : decode cX7_endByItself 2 = .ok (.putfield 47, 3) := by decide +kernel
theorem dX7_endByItself_5 : decode cX7_endByItself 5 = .ok (.aload_n 0, 1) := by decide +kernel
theorem dX7_endByItself_6 : decode cX7_endByItself 6 = .ok (.iconst 0, 1) := by decide +kernel
theorem dX7_endByItself_7 : decode cX7_endByItself 7 = .ok (.putfield 51, 3) := by decide +kernel
theorem dX7_endByItself_10 : decode cX7_endByItself 10 = .ok (.return_, 1) := by decide +kernel
theorem dX7_isDue_0 : decode cX7_isDue 0 = .ok (.aload_n 0, 1) := by decide +kernel
theorem dX7_isDue_1 : decode cX7_isDue 1 = .ok (.invokevirtual 72, 3) := by decide +kernel
theorem dX7_isDue_4 : decode cX7_isDue 4 = .ok (.istore_n 2, 1) := by decide +kernel
theorem dX7_isDue_5 : decode cX7_isDue 5 = .ok (.iload_n 2, 1) := by decide +kernel
theorem dX7_isDue_6 : decode cX7_isDue 6 = .ok (.ifCond .le 17, 3) := by decide +kernel
theorem dX7_isDue_9 : decode cX7_isDue 9 = .ok (.iload_n 1, 1) := by decide +kernel
theorem dX7_isDue_10 : decode cX7_isDue 10 = .ok (.aload_n 0, 1) := by decide +kernel
theorem dX7_isDue_11 : decode cX7_isDue 11 = .ok (.getfield 35, 3) := by decide +kernel
theorem dX7_isDue_14 : decode cX7_isDue 14 = .ok (.isub, 1) := by decide +kernel
theorem dX7_isDue_15 : decode cX7_isDue 15 = .ok (.iload_n 2, 1) := by decide +kernel
theorem dX7_isDue_16 : decode cX7_isDue 16 = .ok (.if_icmp .lt 7, 3) := by decide +kernel
theorem dX7_isDue_19 : decode cX7_isDue 19 = .ok (.iconst 1, 1) := by decide +kernel
theorem dX7_isDue_20 : decode cX7_isDue 20 = .ok (.goto 4, 3) := by decide +kernel
theorem dX7_isDue_23 : decode cX7_isDue 23 = .ok (.iconst 0, 1) := by decide +kernel
theorem dX7_isDue_24 : decode cX7_isDue 24 = .ok (.ireturn, 1) := by decide +kernel
theorem dX7_span_0 : decode cX7_span 0 = .ok (.aload_n 0, 1) := by decide +kernel
theorem dX7_span_1 : decode cX7_span 1 = .ok (.getfield 22, 3) := by decide +kernel
theorem dX7_span_4 : decode cX7_span 4 = .ok (.tableswitch 59 1 5 #[36, 46, 41, 59, 51], 36) := by decide +kernel
theorem dX7_span_40 : decode cX7_span 40 = .ok (.aload_n 0, 1) := by decide +kernel
theorem dX7_span_41 : decode cX7_span 41 = .ok (.getfield 29, 3) := by decide +kernel
theorem dX7_span_44 : decode cX7_span 44 = .ok (.ireturn, 1) := by decide +kernel
theorem dX7_span_45 : decode cX7_span 45 = .ok (.aload_n 0, 1) := by decide +kernel
theorem dX7_span_46 : decode cX7_span 46 = .ok (.getfield 32, 3) := by decide +kernel
theorem dX7_span_49 : decode cX7_span 49 = .ok (.ireturn, 1) := by decide +kernel
theorem dX7_span_50 : decode cX7_span 50 = .ok (.aload_n 0, 1) := by decide +kernel
theorem dX7_span_51 : decode cX7_span 51 = .ok (.getfield 51, 3) := by decide +kernel
theorem dX7_span_54 : decode cX7_span 54 = .ok (.ireturn, 1) := by decide +kernel
theorem dX7_span_55 : decode cX7_span 55 = .ok (.aload_n 0, 1) := by decide +kernel
theorem dX7_span_56 : decode cX7_span 56 = .ok (.getfield 18, 3) := by decide +kernel
theorem dX7_span_59 : decode cX7_span 59 = .ok (.getfield 76, 3) := by decide +kernel
theorem dX7_span_62 : decode cX7_span 62 = .ok (.ireturn, 1) := by decide +kernel
theorem dX7_span_63 : decode cX7_span 63 = .ok (.iconst 0, 1) := by decide +kernel
theorem dX7_span_64 : decode cX7_span 64 = .ok (.ireturn, 1) := by decide +kernel
end
section
theorem dX4_add_0 : decode cX4_add 0 = .ok (.aload_n 0, 1) := by decide +kernel
theorem dX4_add_1 : decode cX4_add 1 = .ok (.getfield 25, 3) := by decide +kernel
theorem dX4_add_4 : decode cX4_add 4 = .ok (.bipush 40, 2) := by decide +kernel
theorem dX4_add_6 : decode cX4_add 6 = .ok (.if_icmp .lt 4, 3) := by decide +kernel
theorem dX4_add_9 : decode cX4_add 9 = .ok (.return_, 1) := by decide +kernel
theorem dX4_add_10 : decode cX4_add 10 = .ok (.aload_n 0, 1) := by decide +kernel
theorem dX4_add_11 : decode cX4_add 11 = .ok (.getfield 15, 3) := by decide +kernel
theorem dX4_add_14 : decode cX4_add 14 = .ok (.iload_n 1, 1) := by decide +kernel
theorem dX4_add_15 : decode cX4_add 15 = .ok (.iload_n 2, 1) := by decide +kernel
theorem dX4_add_16 : decode cX4_add 16 = .ok (.iastore, 1) := by decide +kernel
theorem dX4_add_17 : decode cX4_add 17 = .ok (.aload_n 0, 1) := by decide +kernel
theorem dX4_add_18 : decode cX4_add 18 = .ok (.getfield 18, 3) := by decide +kernel
theorem dX4_add_21 : decode cX4_add 21 = .ok (.iload_n 1, 1) := by decide +kernel
theorem dX4_add_22 : decode cX4_add 22 = .ok (.iload_n 3, 1) := by decide +kernel
theorem dX4_add_23 : decode cX4_add 23 = .ok (.iastore, 1) := by decide +kernel
theorem dX4_add_24 : decode cX4_add 24 = .ok (.aload_n 0, 1) := by decide +kernel
theorem dX4_add_25 : decode cX4_add 25 = .ok (.aload_n 0, 1) := by decide +kernel
theorem dX4_add_26 : decode cX4_add 26 = .ok (.getfield 29, 3) := by decide +kernel
theorem dX4_add_29 : decode cX4_add 29 = .ok (.iload_n 3, 1) := by decide +kernel
theorem dX4_add_30 : decode cX4_add 30 = .ok (.invokestatic 36, 3) := by decide +kernel
theorem dX4_add_33 : decode cX4_add 33 = .ok (.putfield 29, 3) := by decide +kernel
theorem dX4_add_36 : decode cX4_add 36 = .ok (.aload_n 0, 1) := by decide +kernel
theorem dX4_add_37 : decode cX4_add 37 = .ok (.getfield 25, 3) := by decide +kernel
theorem dX4_add_40 : decode cX4_add 40 = .ok (.istore 4, 2) := by decide +kernel
theorem dX4_add_42 : decode cX4_add 42 = .ok (.iload 4, 2) := by decide +kernel
theorem dX4_add_44 : decode cX4_add 44 = .ok (.ifCond .le 42, 3) := by decide +kernel
theorem dX4_add_47 : decode cX4_add 47 = .ok (.aload_n 0, 1) := by decide +kernel
theorem dX4_add_48 : decode cX4_add 48 = .ok (.iload_n 1, 1) := by decide +kernel
theorem dX4_add_49 : decode cX4_add 49 = .ok (.aload_n 0, 1) := by decide +kernel
theorem dX4_add_50 : decode cX4_add 50 = .ok (.getfield 9, 3) := by decide +kernel
theorem dX4_add_53 : decode cX4_add 53 = .ok (.iload 4, 2) := by decide +kernel
theorem dX4_add_55 : decode cX4_add 55 = .ok (.iconst 1, 1) := by decide +kernel
theorem dX4_add_56 : decode cX4_add 56 = .ok (.isub, 1) := by decide +kernel
theorem dX4_add_57 : decode cX4_add 57 = .ok (.iaload, 1) := by decide +kernel
theorem dX4_add_58 : decode cX4_add 58 = .ok (.invokevirtual 42, 3) := by decide +kernel
theorem dX4_add_61 : decode cX4_add 61 = .ok (.ifCond .eq 25, 3) := by decide +kernel
theorem dX4_add_64 : decode cX4_add 64 = .ok (.aload_n 0, 1) := by decide +kernel
theorem dX4_add_65 : decode cX4_add 65 = .ok (.getfield 9, 3) := by decide +kernel
theorem dX4_add_68 : decode cX4_add 68 = .ok (.iload 4, 2) := by decide +kernel
theorem dX4_add_70 : decode cX4_add 70 = .ok (.aload_n 0, 1) := by decide +kernel
theorem dX4_add_71 : decode cX4_add 71 = .ok (.getfield 9, 3) := by decide +kernel
theorem dX4_add_74 : decode cX4_add 74 = .ok (.iload 4, 2) := by decide +kernel
theorem dX4_add_76 : decode cX4_add 76 = .ok (.iconst 1, 1) := by decide +kernel
theorem dX4_add_77 : decode cX4_add 77 = .ok (.isub, 1) := by decide +kernel
theorem dX4_add_78 : decode cX4_add 78 = .ok (.iaload, 1) := by decide +kernel
theorem dX4_add_79 : decode cX4_add 79 = .ok (.iastore, 1) := by decide +kernel
theorem dX4_add_80 : decode cX4_add 80 = .ok (.iinc 4 (-1), 3) := by decide +kernel
theorem dX4_add_83 : decode cX4_add 83 = .ok (.goto (-41), 3) := by decide +kernel
theorem dX4_add_86 : decode cX4_add 86 = .ok (.aload_n 0, 1) := by decide +kernel
theorem dX4_add_87 : decode cX4_add 87 = .ok (.getfield 9, 3) := by decide +kernel
theorem dX4_add_90 : decode cX4_add 90 = .ok (.iload 4, 2) := by decide +kernel
theorem dX4_add_92 : decode cX4_add 92 = .ok (.iload_n 1, 1) := by decide +kernel
theorem dX4_add_93 : decode cX4_add 93 = .ok (.iastore, 1) := by decide +kernel
theorem dX4_add_94 : decode cX4_add 94 = .ok (.aload_n 0, 1) := by decide +kernel
theorem dX4_add_95 : decode cX4_add 95 = .ok (.dup, 1) := by decide +kernel
theorem dX4_add_96 : decode cX4_add 96 = .ok (.getfield 25, 3) := by decide +kernel
theorem dX4_add_99 : decode cX4_add 99 = .ok (.iconst 1, 1) := by decide +kernel
theorem dX4_add_100 : decode cX4_add 100 = .ok (.iadd, 1) := by decide +kernel
theorem dX4_add_101 : decode cX4_add 101 = .ok (.putfield 25, 3) := by decide +kernel
theorem dX4_add_104 : decode cX4_add 104 = .ok (.return_, 1) := by decide +kernel
theorem dX4_isBefore_0 : decode cX4_isBefore 0 = .ok (.aload_n 0, 1) := by decide +kernel
theorem dX4_isBefore_1 : decode cX4_isBefore 1 = .ok (.getfield 15, 3) := by decide +kernel
theorem dX4_isBefore_4 : decode cX4_isBefore 4 = .ok (.iload_n 1, 1) := by decide +kernel
theorem dX4_isBefore_5 : decode cX4_isBefore 5 = .ok (.iaload, 1) := by decide +kernel
theorem dX4_isBefore_6 : decode cX4_isBefore 6 = .ok (.aload_n 0, 1) := by decide +kernel
theorem dX4_isBefore_7 : decode cX4_isBefore 7 = .ok (.getfield 15, 3) := by decide +kernel
theorem dX4_isBefore_10 : decode cX4_isBefore 10 = .ok (.iload_n 2, 1) := by decide +kernel
theorem dX4_isBefore_11 : decode cX4_isBefore 11 = .ok (.iaload, 1) := by decide +kernel
theorem dX4_isBefore_12 : decode cX4_isBefore 12 = .ok (.if_icmp .eq 26, 3) := by decide +kernel
theorem dX4_isBefore_15 : decode cX4_isBefore 15 = .ok (.aload_n 0, 1) := by decide +kernel
theorem dX4_isBefore_16 : decode cX4_isBefore 16 = .ok (.getfield 15, 3) := by decide +kernel
theorem dX4_isBefore_19 : decode cX4_isBefore 19 = .ok (.iload_n 1, 1) := by decide +kernel
theorem dX4_isBefore_20 : decode cX4_isBefore 20 = .ok (.iaload, 1) := by decide +kernel
theorem dX4_isBefore_21 : decode cX4_isBefore 21 = .ok (.aload_n 0, 1) := by decide +kernel
theorem dX4_isBefore_22 : decode cX4_isBefore 22 = .ok (.getfield 15, 3) := by decide +kernel
theorem dX4_isBefore_25 : decode cX4_isBefore 25 = .ok (.iload_n 2, 1) := by decide +kernel
theorem dX4_isBefore_26 : decode cX4_isBefore 26 = .ok (.iaload, 1) := by decide +kernel
theorem dX4_isBefore_27 : decode cX4_isBefore 27 = .ok (.if_icmp .ge 7, 3) := by decide +kernel
theorem dX4_isBefore_30 : decode cX4_isBefore 30 = .ok (.iconst 1, 1) := by decide +kernel
theorem dX4_isBefore_31 : decode cX4_isBefore 31 = .ok (.goto 17, 3) := by decide +kernel
theorem dX4_isBefore_34 : decode cX4_isBefore 34 = .ok (.iconst 0, 1) := by decide +kernel
theorem dX4_isBefore_35 : decode cX4_isBefore 35 = .ok (.goto 13, 3) := by decide +kernel
theorem dX4_isBefore_38 : decode cX4_isBefore 38 = .ok (.iload_n 1, 1) := by decide +kernel
theorem dX4_isBefore_39 : decode cX4_isBefore 39 = .ok (.iload_n 2, 1) := by decide +kernel
theorem dX4_isBefore_40 : decode cX4_isBefore 40 = .ok (.if_icmp .ge 7, 3) := by decide +kernel
theorem dX4_isBefore_43 : decode cX4_isBefore 43 = .ok (.iconst 1, 1) := by decide +kernel
theorem dX4_isBefore_44 : decode cX4_isBefore 44 = .ok (.goto 4, 3) := by decide +kernel
theorem dX4_isBefore_47 : decode cX4_isBefore 47 = .ok (.iconst 0, 1) := by decide +kernel
theorem dX4_isBefore_48 : decode cX4_isBefore 48 = .ok (.ireturn, 1) := by decide +kernel
theorem dX4_endOf_0 : decode cX4_endOf 0 = .ok (.iconst 0, 1) := by decide +kernel
theorem dX4_endOf_1 : decode cX4_endOf 1 = .ok (.istore_n 3, 1) := by decide +kernel
theorem dX4_endOf_2 : decode cX4_endOf 2 = .ok (.iconst 0, 1) := by decide +kernel
theorem dX4_endOf_3 : decode cX4_endOf 3 = .ok (.istore 4, 2) := by decide +kernel
theorem dX4_endOf_5 : decode cX4_endOf 5 = .ok (.iload 4, 2) := by decide +kernel
theorem dX4_endOf_7 : decode cX4_endOf 7 = .ok (.bipush 40, 2) := by decide +kernel
theorem dX4_endOf_9 : decode cX4_endOf 9 = .ok (.if_icmp .ge 30, 3) := by decide +kernel
theorem dX4_endOf_12 : decode cX4_endOf 12 = .ok (.lload_n 1, 1) := by decide +kernel
theorem dX4_endOf_13 : decode cX4_endOf 13 = .ok (.iload 4, 2) := by decide +kernel
theorem dX4_endOf_15 : decode cX4_endOf 15 = .ok (.invokestatic 46, 3) := by decide +kernel
theorem dX4_endOf_18 : decode cX4_endOf 18 = .ok (.ifCond .eq 15, 3) := by decide +kernel
theorem dX4_endOf_21 : decode cX4_endOf 21 = .ok (.iload_n 3, 1) := by decide +kernel
theorem dX4_endOf_22 : decode cX4_endOf 22 = .ok (.aload_n 0, 1) := by decide +kernel
theorem dX4_endOf_23 : decode cX4_endOf 23 = .ok (.getfield 18, 3) := by decide +kernel
theorem dX4_endOf_26 : decode cX4_endOf 26 = .ok (.iload 4, 2) := by decide +kernel
theorem dX4_endOf_28 : decode cX4_endOf 28 = .ok (.iaload, 1) := by decide +kernel
theorem dX4_endOf_29 : decode cX4_endOf 29 = .ok (.invokestatic 36, 3) := by decide +kernel
theorem dX4_endOf_32 : decode cX4_endOf 32 = .ok (.istore_n 3, 1) := by decide +kernel
theorem dX4_endOf_33 : decode cX4_endOf 33 = .ok (.iinc 4 1, 3) := by decide +kernel
theorem dX4_endOf_36 : decode cX4_endOf 36 = .ok (.goto (-31), 3) := by decide +kernel
theorem dX4_endOf_39 : decode cX4_endOf 39 = .ok (.iload_n 3, 1) := by decide +kernel
theorem dX4_endOf_40 : decode cX4_endOf 40 = .ok (.ireturn, 1) := by decide +kernel
theorem dX4_tell_0 : decode cX4_tell 0 = .ok (.iload_n 1, 1) := by decide +kernel
theorem dX4_tell_1 : decode cX4_tell 1 = .ok (.iconst 0, 1) := by decide +kernel
theorem dX4_tell_2 : decode cX4_tell 2 = .ok (.aload_n 0, 1) := by decide +kernel
theorem dX4_tell_3 : decode cX4_tell 3 = .ok (.getfield 25, 3) := by decide +kernel
theorem dX4_tell_6 : decode cX4_tell 6 = .ok (.iconst 1, 1) := by decide +kernel
theorem dX4_tell_7 : decode cX4_tell 7 = .ok (.isub, 1) := by decide +kernel
theorem dX4_tell_8 : decode cX4_tell 8 = .ok (.invokestatic 50, 3) := by decide +kernel
theorem dX4_tell_11 : decode cX4_tell 11 = .ok (.ifCond .ne 5, 3) := by decide +kernel
theorem dX4_tell_14 : decode cX4_tell 14 = .ok (.iconst (-1), 1) := by decide +kernel
theorem dX4_tell_15 : decode cX4_tell 15 = .ok (.ireturn, 1) := by decide +kernel
theorem dX4_tell_16 : decode cX4_tell 16 = .ok (.aload_n 0, 1) := by decide +kernel
theorem dX4_tell_17 : decode cX4_tell 17 = .ok (.getfield 9, 3) := by decide +kernel
theorem dX4_tell_20 : decode cX4_tell 20 = .ok (.iload_n 1, 1) := by decide +kernel
theorem dX4_tell_21 : decode cX4_tell 21 = .ok (.iaload, 1) := by decide +kernel
theorem dX4_tell_22 : decode cX4_tell 22 = .ok (.istore_n 3, 1) := by decide +kernel
theorem dX4_tell_23 : decode cX4_tell 23 = .ok (.iload_n 2, 1) := by decide +kernel
theorem dX4_tell_24 : decode cX4_tell 24 = .ok (.tableswitch 65 0 3 #[32, 34, 51, 58], 32) := by decide +kernel
theorem dX4_tell_56 : decode cX4_tell 56 = .ok (.iload_n 3, 1) := by decide +kernel
theorem dX4_tell_57 : decode cX4_tell 57 = .ok (.ireturn, 1) := by decide +kernel
theorem dX4_tell_58 : decode cX4_tell 58 = .ok (.aload_n 0, 1) := by decide +kernel
theorem dX4_tell_59 : decode cX4_tell 59 = .ok (.getfield 21, 3) := by decide +kernel
theorem dX4_tell_62 : decode cX4_tell 62 = .ok (.iload_n 3, 1) := by decide +kernel
theorem dX4_tell_63 : decode cX4_tell 63 = .ok (.invokestatic 46, 3) := by decide +kernel
theorem dX4_tell_66 : decode cX4_tell 66 = .ok (.ifCond .eq 7, 3) := by decide +kernel
theorem dX4_tell_69 : decode cX4_tell 69 = .ok (.iconst 1, 1) := by decide +kernel
theorem dX4_tell_70 : decode cX4_tell 70 = .ok (.goto 4, 3) := by decide +kernel
theorem dX4_tell_73 : decode cX4_tell 73 = .ok (.iconst 2, 1) := by decide +kernel
theorem dX4_tell_74 : decode cX4_tell 74 = .ok (.ireturn, 1) := by decide +kernel
theorem dX4_tell_75 : decode cX4_tell 75 = .ok (.aload_n 0, 1) := by decide +kernel
theorem dX4_tell_76 : decode cX4_tell 76 = .ok (.getfield 15, 3) := by decide +kernel
theorem dX4_tell_79 : decode cX4_tell 79 = .ok (.iload_n 3, 1) := by decide +kernel
theorem dX4_tell_80 : decode cX4_tell 80 = .ok (.iaload, 1) := by decide +kernel
theorem dX4_tell_81 : decode cX4_tell 81 = .ok (.ireturn, 1) := by decide +kernel
theorem dX4_tell_82 : decode cX4_tell 82 = .ok (.aload_n 0, 1) := by decide +kernel
theorem dX4_tell_83 : decode cX4_tell 83 = .ok (.getfield 18, 3) := by decide +kernel
theorem dX4_tell_86 : decode cX4_tell 86 = .ok (.iload_n 3, 1) := by decide +kernel
theorem dX4_tell_87 : decode cX4_tell 87 = .ok (.iaload, 1) := by decide +kernel
theorem dX4_tell_88 : decode cX4_tell 88 = .ok (.ireturn, 1) := by decide +kernel
theorem dX4_tell_89 : decode cX4_tell 89 = .ok (.iconst (-1), 1) := by decide +kernel
theorem dX4_tell_90 : decode cX4_tell 90 = .ok (.ireturn, 1) := by decide +kernel
theorem dX8_exists_0 : decode cX8_exists 0 = .ok (.iload_n 1, 1) := by decide +kernel
theorem dX8_exists_1 : decode cX8_exists 1 = .ok (.iconst 0, 1) := by decide +kernel
theorem dX8_exists_2 : decode cX8_exists 2 = .ok (.aload_n 0, 1) := by decide +kernel
theorem dX8_exists_3 : decode cX8_exists 3 = .ok (.getfield 10, 3) := by decide +kernel
theorem dX8_exists_6 : decode cX8_exists 6 = .ok (.invokevirtual 61, 3) := by decide +kernel
theorem dX8_exists_9 : decode cX8_exists 9 = .ok (.iconst 1, 1) := by decide +kernel
theorem dX8_exists_10 : decode cX8_exists 10 = .ok (.isub, 1) := by decide +kernel
theorem dX8_exists_11 : decode cX8_exists 11 = .ok (.invokestatic 57, 3) := by decide +kernel
theorem dX8_exists_14 : decode cX8_exists 14 = .ok (.ireturn, 1) := by decide +kernel
end
section
theorem dX1_gatherNeeded_0 : decode cX1_gatherNeeded 0 = .ok (.aload_n 0, 1) := by decide +kernel
theorem dX1_gatherNeeded_1 : decode cX1_gatherNeeded 1 = .ok (.aload_n 0, 1) := by decide +kernel
theorem dX1_gatherNeeded_2 : decode cX1_gatherNeeded 2 = .ok (.getfield 9, 3) := by decide +kernel
theorem dX1_gatherNeeded_5 : decode cX1_gatherNeeded 5 = .ok (.iload_n 1, 1) := by decide +kernel
theorem dX1_gatherNeeded_6 : decode cX1_gatherNeeded 6 = .ok (.invokestatic 19, 3) := by decide +kernel
theorem dX1_gatherNeeded_9 : decode cX1_gatherNeeded 9 = .ok (.invokevirtual 62, 3) := by decide +kernel
theorem dX1_gatherNeeded_12 : decode cX1_gatherNeeded 12 = .ok (.putfield 15, 3) := by decide +kernel
theorem dX1_gatherNeeded_15 : decode cX1_gatherNeeded 15 = .ok (.aload_n 0, 1) := by decide +kernel
theorem dX1_gatherNeeded_16 : decode cX1_gatherNeeded 16 = .ok (.getfield 9, 3) := by decide +kernel
theorem dX1_gatherNeeded_19 : decode cX1_gatherNeeded 19 = .ok (.aload_n 0, 1) := by decide +kernel
theorem dX1_gatherNeeded_20 : decode cX1_gatherNeeded 20 = .ok (.getfield 15, 3) := by decide +kernel
theorem dX1_gatherNeeded_23 : decode cX1_gatherNeeded 23 = .ok (.invokevirtual 66, 3) := by decide +kernel
theorem dX1_gatherNeeded_26 : decode cX1_gatherNeeded 26 = .ok (.ifCond .eq 6, 3) := by decide +kernel
theorem dX1_gatherNeeded_29 : decode cX1_gatherNeeded 29 = .ok (.bipush (-4), 2) := by decide +kernel
theorem dX1_gatherNeeded_31 : decode cX1_gatherNeeded 31 = .ok (.ireturn, 1) := by decide +kernel
theorem dX1_gatherNeeded_32 : decode cX1_gatherNeeded 32 = .ok (.aload_n 0, 1) := by decide +kernel
theorem dX1_gatherNeeded_33 : decode cX1_gatherNeeded 33 = .ok (.aload_n 0, 1) := by decide +kernel
theorem dX1_gatherNeeded_34 : decode cX1_gatherNeeded 34 = .ok (.getfield 9, 3) := by decide +kernel
theorem dX1_gatherNeeded_37 : decode cX1_gatherNeeded 37 = .ok (.aload_n 0, 1) := by decide +kernel
theorem dX1_gatherNeeded_38 : decode cX1_gatherNeeded 38 = .ok (.getfield 15, 3) := by decide +kernel
theorem dX1_gatherNeeded_41 : decode cX1_gatherNeeded 41 = .ok (.lload_n 2, 1) := by decide +kernel
theorem dX1_gatherNeeded_42 : decode cX1_gatherNeeded 42 = .ok (.land, 1) := by decide +kernel
theorem dX1_gatherNeeded_43 : decode cX1_gatherNeeded 43 = .ok (.invokevirtual 49, 3) := by decide +kernel
theorem dX1_gatherNeeded_46 : decode cX1_gatherNeeded 46 = .ok (.putfield 53, 3) := by decide +kernel
theorem dX1_gatherNeeded_49 : decode cX1_gatherNeeded 49 = .ok (.aload_n 0, 1) := by decide +kernel
theorem dX1_gatherNeeded_50 : decode cX1_gatherNeeded 50 = .ok (.getfield 53, 3) := by decide +kernel
theorem dX1_gatherNeeded_53 : decode cX1_gatherNeeded 53 = .ok (.ifCond .le 8, 3) := by decide +kernel
theorem dX1_gatherNeeded_56 : decode cX1_gatherNeeded 56 = .ok (.bipush (-5), 2) := by decide +kernel
theorem dX1_gatherNeeded_58 : decode cX1_gatherNeeded 58 = .ok (.goto 4, 3) := by decide +kernel
theorem dX1_gatherNeeded_61 : decode cX1_gatherNeeded 61 = .ok (.iconst 0, 1) := by decide +kernel
theorem dX1_gatherNeeded_62 : decode cX1_gatherNeeded 62 = .ok (.ireturn, 1) := by decide +kernel
theorem dX1_gatherWanted_0 : decode cX1_gatherWanted 0 = .ok (.lconst 0, 1) := by decide +kernel
theorem dX1_gatherWanted_1 : decode cX1_gatherWanted 1 = .ok (.lstore_n 3, 1) := by decide +kernel
theorem dX1_gatherWanted_2 : decode cX1_gatherWanted 2 = .ok (.iconst 0, 1) := by decide +kernel
theorem dX1_gatherWanted_3 : decode cX1_gatherWanted 3 = .ok (.istore 5, 2) := by decide +kernel
theorem dX1_gatherWanted_5 : decode cX1_gatherWanted 5 = .ok (.iload 5, 2) := by decide +kernel
theorem dX1_gatherWanted_7 : decode cX1_gatherWanted 7 = .ok (.bipush 40, 2) := by decide +kernel
theorem dX1_gatherWanted_9 : decode cX1_gatherWanted 9 = .ok (.if_icmp .ge 108, 3) := by decide +kernel
theorem dX1_gatherWanted_12 : decode cX1_gatherWanted 12 = .ok (.aload_n 0, 1) := by decide +kernel
theorem dX1_gatherWanted_13 : decode cX1_gatherWanted 13 = .ok (.getfield 9, 3) := by decide +kernel
theorem dX1_gatherWanted_16 : decode cX1_gatherWanted 16 = .ok (.iconst 1, 1) := by decide +kernel
theorem dX1_gatherWanted_17 : decode cX1_gatherWanted 17 = .ok (.aload_n 0, 1) := by decide +kernel
theorem dX1_gatherWanted_18 : decode cX1_gatherWanted 18 = .ok (.getfield 15, 3) := by decide +kernel
theorem dX1_gatherWanted_21 : decode cX1_gatherWanted 21 = .ok (.invokevirtual 42, 3) := by decide +kernel
theorem dX1_gatherWanted_24 : decode cX1_gatherWanted 24 = .ok (.aload_n 0, 1) := by decide +kernel
theorem dX1_gatherWanted_25 : decode cX1_gatherWanted 25 = .ok (.getfield 15, 3) := by decide +kernel
theorem dX1_gatherWanted_28 : decode cX1_gatherWanted 28 = .ok (.ldc2_w 32, 3) := by decide +kernel
theorem dX1_gatherWanted_31 : decode cX1_gatherWanted 31 = .ok (.lxor, 1) := by decide +kernel
theorem dX1_gatherWanted_32 : decode cX1_gatherWanted 32 = .ok (.land, 1) := by decide +kernel
theorem dX1_gatherWanted_33 : decode cX1_gatherWanted 33 = .ok (.lload_n 3, 1) := by decide +kernel
theorem dX1_gatherWanted_34 : decode cX1_gatherWanted 34 = .ok (.ldc2_w 32, 3) := by decide +kernel
theorem dX1_gatherWanted_37 : decode cX1_gatherWanted 37 = .ok (.lxor, 1) := by decide +kernel
theorem dX1_gatherWanted_38 : decode cX1_gatherWanted 38 = .ok (.land, 1) := by decide +kernel
theorem dX1_gatherWanted_39 : decode cX1_gatherWanted 39 = .ok (.invokestatic 70, 3) := by decide +kernel
theorem dX1_gatherWanted_42 : decode cX1_gatherWanted 42 = .ok (.istore 6, 2) := by decide +kernel
theorem dX1_gatherWanted_44 : decode cX1_gatherWanted 44 = .ok (.iload 6, 2) := by decide +kernel
theorem dX1_gatherWanted_46 : decode cX1_gatherWanted 46 = .ok (.ifCond .ge 4, 3) := by decide +kernel
theorem dX1_gatherWanted_49 : decode cX1_gatherWanted 49 = .ok (.return_, 1) := by decide +kernel
theorem dX1_gatherWanted_50 : decode cX1_gatherWanted 50 = .ok (.lload_n 3, 1) := by decide +kernel
theorem dX1_gatherWanted_51 : decode cX1_gatherWanted 51 = .ok (.iload 6, 2) := by decide +kernel
theorem dX1_gatherWanted_53 : decode cX1_gatherWanted 53 = .ok (.invokestatic 19, 3) := by decide +kernel
theorem dX1_gatherWanted_56 : decode cX1_gatherWanted 56 = .ok (.lor, 1) := by decide +kernel
theorem dX1_gatherWanted_57 : decode cX1_gatherWanted 57 = .ok (.lstore_n 3, 1) := by decide +kernel
theorem dX1_gatherWanted_58 : decode cX1_gatherWanted 58 = .ok (.aload_n 0, 1) := by decide +kernel
theorem dX1_gatherWanted_59 : decode cX1_gatherWanted 59 = .ok (.getfield 15, 3) := by decide +kernel
theorem dX1_gatherWanted_62 : decode cX1_gatherWanted 62 = .ok (.aload_n 0, 1) := by decide +kernel
theorem dX1_gatherWanted_63 : decode cX1_gatherWanted 63 = .ok (.getfield 9, 3) := by decide +kernel
theorem dX1_gatherWanted_66 : decode cX1_gatherWanted 66 = .ok (.iload 6, 2) := by decide +kernel
theorem dX1_gatherWanted_68 : decode cX1_gatherWanted 68 = .ok (.invokestatic 19, 3) := by decide +kernel
theorem dX1_gatherWanted_71 : decode cX1_gatherWanted 71 = .ok (.invokevirtual 62, 3) := by decide +kernel
theorem dX1_gatherWanted_74 : decode cX1_gatherWanted 74 = .ok (.lor, 1) := by decide +kernel
theorem dX1_gatherWanted_75 : decode cX1_gatherWanted 75 = .ok (.lstore 7, 2) := by decide +kernel
theorem dX1_gatherWanted_77 : decode cX1_gatherWanted 77 = .ok (.aload_n 0, 1) := by decide +kernel
theorem dX1_gatherWanted_78 : decode cX1_gatherWanted 78 = .ok (.getfield 9, 3) := by decide +kernel
theorem dX1_gatherWanted_81 : decode cX1_gatherWanted 81 = .ok (.lload 7, 2) := by decide +kernel
theorem dX1_gatherWanted_83 : decode cX1_gatherWanted 83 = .ok (.invokevirtual 66, 3) := by decide +kernel
theorem dX1_gatherWanted_86 : decode cX1_gatherWanted 86 = .ok (.ifCond .ne 25, 3) := by decide +kernel
theorem dX1_gatherWanted_89 : decode cX1_gatherWanted 89 = .ok (.aload_n 0, 1) := by decide +kernel
theorem dX1_gatherWanted_90 : decode cX1_gatherWanted 90 = .ok (.getfield 9, 3) := by decide +kernel
theorem dX1_gatherWanted_93 : decode cX1_gatherWanted 93 = .ok (.lload 7, 2) := by decide +kernel
theorem dX1_gatherWanted_95 : decode cX1_gatherWanted 95 = .ok (.lload_n 1, 1) := by decide +kernel
theorem dX1_gatherWanted_96 : decode cX1_gatherWanted 96 = .ok (.land, 1) := by decide +kernel
theorem dX1_gatherWanted_97 : decode cX1_gatherWanted 97 = .ok (.invokevirtual 73, 3) := by decide +kernel
theorem dX1_gatherWanted_100 : decode cX1_gatherWanted 100 = .ok (.lconst 0, 1) := by decide +kernel
theorem dX1_gatherWanted_101 : decode cX1_gatherWanted 101 = .ok (.lcmp, 1) := by decide +kernel
theorem dX1_gatherWanted_102 : decode cX1_gatherWanted 102 = .ok (.ifCond .ne 9, 3) := by decide +kernel
theorem dX1_gatherWanted_105 : decode cX1_gatherWanted 105 = .ok (.aload_n 0, 1) := by decide +kernel
theorem dX1_gatherWanted_106 : decode cX1_gatherWanted 106 = .ok (.lload 7, 2) := by decide +kernel
theorem dX1_gatherWanted_108 : decode cX1_gatherWanted 108 = .ok (.putfield 15, 3) := by decide +kernel
theorem dX1_gatherWanted_111 : decode cX1_gatherWanted 111 = .ok (.iinc 5 1, 3) := by decide +kernel
theorem dX1_gatherWanted_114 : decode cX1_gatherWanted 114 = .ok (.goto (-109), 3) := by decide +kernel
theorem dX1_gatherWanted_117 : decode cX1_gatherWanted 117 = .ok (.return_, 1) := by decide +kernel
theorem dX1_least_0 : decode cX1_least 0 = .ok (.iconst 0, 1) := by decide +kernel
theorem dX1_least_1 : decode cX1_least 1 = .ok (.istore_n 2, 1) := by decide +kernel
theorem dX1_least_2 : decode cX1_least 2 = .ok (.iload_n 2, 1) := by decide +kernel
theorem dX1_least_3 : decode cX1_least 3 = .ok (.bipush 40, 2) := by decide +kernel
theorem dX1_least_5 : decode cX1_least 5 = .ok (.if_icmp .ge 19, 3) := by decide +kernel
theorem dX1_least_8 : decode cX1_least 8 = .ok (.lload_n 0, 1) := by decide +kernel
theorem dX1_least_9 : decode cX1_least 9 = .ok (.iload_n 2, 1) := by decide +kernel
theorem dX1_least_10 : decode cX1_least 10 = .ok (.invokestatic 76, 3) := by decide +kernel
theorem dX1_least_13 : decode cX1_least 13 = .ok (.ifCond .eq 5, 3) := by decide +kernel
theorem dX1_least_16 : decode cX1_least 16 = .ok (.iload_n 2, 1) := by decide +kernel
theorem dX1_least_17 : decode cX1_least 17 = .ok (.ireturn, 1) := by decide +kernel
theorem dX1_least_18 : decode cX1_least 18 = .ok (.iinc 2 1, 3) := by decide +kernel
theorem dX1_least_21 : decode cX1_least 21 = .ok (.goto (-19), 3) := by decide +kernel
theorem dX1_least_24 : decode cX1_least 24 = .ok (.iconst (-1), 1) := by decide +kernel
theorem dX1_least_25 : decode cX1_least 25 = .ok (.ireturn, 1) := by decide +kernel
theorem dX2_add_0 : decode cX2_add 0 = .ok (.aload_n 0, 1) := by decide +kernel
theorem dX2_add_1 : decode cX2_add 1 = .ok (.getfield 9, 3) := by decide +kernel
theorem dX2_add_4 : decode cX2_add 4 = .ok (.aload_n 0, 1) := by decide +kernel
theorem dX2_add_5 : decode cX2_add 5 = .ok (.getfield 15, 3) := by decide +kernel
theorem dX2_add_8 : decode cX2_add 8 = .ok (.sipush 2000, 3) := by decide +kernel
theorem dX2_add_11 : decode cX2_add 11 = .ok (.invokestatic 19, 3) := by decide +kernel
theorem dX2_add_14 : decode cX2_add 14 = .ok (.iload_n 1, 1) := by decide +kernel
theorem dX2_add_15 : decode cX2_add 15 = .ok (.i2l, 1) := by decide +kernel
theorem dX2_add_16 : decode cX2_add 16 = .ok (.ldc2_w 25, 3) := by decide +kernel
theorem dX2_add_19 : decode cX2_add 19 = .ok (.lmul, 1) := by decide +kernel
theorem dX2_add_20 : decode cX2_add 20 = .ok (.iload_n 2, 1) := by decide +kernel
theorem dX2_add_21 : decode cX2_add 21 = .ok (.bipush 8, 2) := by decide +kernel
theorem dX2_add_23 : decode cX2_add 23 = .ok (.imul, 1) := by decide +kernel
theorem dX2_add_24 : decode cX2_add 24 = .ok (.i2l, 1) := by decide +kernel
theorem dX2_add_25 : decode cX2_add 25 = .ok (.ladd, 1) := by decide +kernel
theorem dX2_add_26 : decode cX2_add 26 = .ok (.iload_n 3, 1) := by decide +kernel
theorem dX2_add_27 : decode cX2_add 27 = .ok (.i2l, 1) := by decide +kernel
theorem dX2_add_28 : decode cX2_add 28 = .ok (.ladd, 1) := by decide +kernel
theorem dX2_add_29 : decode cX2_add 29 = .ok (.lastore, 1) := by decide +kernel
theorem dX2_add_30 : decode cX2_add 30 = .ok (.aload_n 0, 1) := by decide +kernel
theorem dX2_add_31 : decode cX2_add 31 = .ok (.dup, 1) := by decide +kernel
theorem dX2_add_32 : decode cX2_add 32 = .ok (.getfield 15, 3) := by decide +kernel
theorem dX2_add_35 : decode cX2_add 35 = .ok (.iconst 1, 1) := by decide +kernel
theorem dX2_add_36 : decode cX2_add 36 = .ok (.iadd, 1) := by decide +kernel
theorem dX2_add_37 : decode cX2_add 37 = .ok (.putfield 15, 3) := by decide +kernel
theorem dX2_add_40 : decode cX2_add 40 = .ok (.return_, 1) := by decide +kernel
theorem dJ13_bitCount_95d88_0 : decode cJ13_bitCount_95d88 0 = .ok (.lload_n 0, 1) := by decide +kernel
theorem dJ13_bitCount_95d88_1 : decode cJ13_bitCount_95d88 1 = .ok (.lload_n 0, 1) := by decide +kernel
theorem dJ13_bitCount_95d88_2 : decode cJ13_bitCount_95d88 2 = .ok (.iconst 1, 1) := by decide +kernel
theorem dJ13_bitCount_95d88_3 : decode cJ13_bitCount_95d88 3 = .ok (.lushr, 1) := by decide +kernel
theorem dJ13_bitCount_95d88_4 : decode cJ13_bitCount_95d88 4 = .ok (.ldc2_w 314, 3) := by decide +kernel
theorem dJ13_bitCount_95d88_7 : decode cJ13_bitCount_95d88 7 = .ok (.land, 1) := by decide +kernel
theorem dJ13_bitCount_95d88_8 : decode cJ13_bitCount_95d88 8 = .ok (.lsub, 1) := by decide +kernel
theorem dJ13_bitCount_95d88_9 : decode cJ13_bitCount_95d88 9 = .ok (.lstore_n 0, 1) := by decide +kernel
theorem dJ13_bitCount_95d88_10 : decode cJ13_bitCount_95d88 10 = .ok (.lload_n 0, 1) := by decide +kernel
theorem dJ13_bitCount_95d88_11 : decode cJ13_bitCount_95d88 11 = .ok (.ldc2_w 316, 3) := by decide +kernel
theorem dJ13_bitCount_95d88_14 : decode cJ13_bitCount_95d88 14 = .ok (.land, 1) := by decide +kernel
theorem dJ13_bitCount_95d88_15 : decode cJ13_bitCount_95d88 15 = .ok (.lload_n 0, 1) := by decide +kernel
theorem dJ13_bitCount_95d88_16 : decode cJ13_bitCount_95d88 16 = .ok (.iconst 2, 1) := by decide +kernel
theorem dJ13_bitCount_95d88_17 : decode cJ13_bitCount_95d88 17 = .ok (.lushr, 1) := by decide +kernel
theorem dJ13_bitCount_95d88_18 : decode cJ13_bitCount_95d88 18 = .ok (.ldc2_w 316, 3) := by decide +kernel
theorem dJ13_bitCount_95d88_21 : decode cJ13_bitCount_95d88 21 = .ok (.land, 1) := by decide +kernel
theorem dJ13_bitCount_95d88_22 : decode cJ13_bitCount_95d88 22 = .ok (.ladd, 1) := by decide +kernel
theorem dJ13_bitCount_95d88_23 : decode cJ13_bitCount_95d88 23 = .ok (.lstore_n 0, 1) := by decide +kernel
theorem dJ13_bitCount_95d88_24 : decode cJ13_bitCount_95d88 24 = .ok (.lload_n 0, 1) := by decide +kernel
theorem dJ13_bitCount_95d88_25 : decode cJ13_bitCount_95d88 25 = .ok (.lload_n 0, 1) := by decide +kernel
theorem dJ13_bitCount_95d88_26 : decode cJ13_bitCount_95d88 26 = .ok (.iconst 4, 1) := by decide +kernel
theorem dJ13_bitCount_95d88_27 : decode cJ13_bitCount_95d88 27 = .ok (.lushr, 1) := by decide +kernel
theorem dJ13_bitCount_95d88_28 : decode cJ13_bitCount_95d88 28 = .ok (.ladd, 1) := by decide +kernel
theorem dJ13_bitCount_95d88_29 : decode cJ13_bitCount_95d88 29 = .ok (.ldc2_w 318, 3) := by decide +kernel
theorem dJ13_bitCount_95d88_32 : decode cJ13_bitCount_95d88 32 = .ok (.land, 1) := by decide +kernel
theorem dJ13_bitCount_95d88_33 : decode cJ13_bitCount_95d88 33 = .ok (.lstore_n 0, 1) := by decide +kernel
theorem dJ13_bitCount_95d88_34 : decode cJ13_bitCount_95d88 34 = .ok (.lload_n 0, 1) := by decide +kernel
theorem dJ13_bitCount_95d88_35 : decode cJ13_bitCount_95d88 35 = .ok (.lload_n 0, 1) := by decide +kernel
theorem dJ13_bitCount_95d88_36 : decode cJ13_bitCount_95d88 36 = .ok (.bipush 8, 2) := by decide +kernel
theorem dJ13_bitCount_95d88_38 : decode cJ13_bitCount_95d88 38 = .ok (.lushr, 1) := by decide +kernel
theorem dJ13_bitCount_95d88_39 : decode cJ13_bitCount_95d88 39 = .ok (.ladd, 1) := by decide +kernel
theorem dJ13_bitCount_95d88_40 : decode cJ13_bitCount_95d88 40 = .ok (.lstore_n 0, 1) := by decide +kernel
theorem dJ13_bitCount_95d88_41 : decode cJ13_bitCount_95d88 41 = .ok (.lload_n 0, 1) := by decide +kernel
theorem dJ13_bitCount_95d88_42 : decode cJ13_bitCount_95d88 42 = .ok (.lload_n 0, 1) := by decide +kernel
theorem dJ13_bitCount_95d88_43 : decode cJ13_bitCount_95d88 43 = .ok (.bipush 16, 2) := by decide +kernel
theorem dJ13_bitCount_95d88_45 : decode cJ13_bitCount_95d88 45 = .ok (.lushr, 1) := by decide +kernel
theorem dJ13_bitCount_95d88_46 : decode cJ13_bitCount_95d88 46 = .ok (.ladd, 1) := by decide +kernel
theorem dJ13_bitCount_95d88_47 : decode cJ13_bitCount_95d88 47 = .ok (.lstore_n 0, 1) := by decide +kernel
theorem dJ13_bitCount_95d88_48 : decode cJ13_bitCount_95d88 48 = .ok (.lload_n 0, 1) := by decide +kernel
theorem dJ13_bitCount_95d88_49 : decode cJ13_bitCount_95d88 49 = .ok (.lload_n 0, 1) := by decide +kernel
theorem dJ13_bitCount_95d88_50 : decode cJ13_bitCount_95d88 50 = .ok (.bipush 32, 2) := by decide +kernel
theorem dJ13_bitCount_95d88_52 : decode cJ13_bitCount_95d88 52 = .ok (.lushr, 1) := by decide +kernel
theorem dJ13_bitCount_95d88_53 : decode cJ13_bitCount_95d88 53 = .ok (.ladd, 1) := by decide +kernel
theorem dJ13_bitCount_95d88_54 : decode cJ13_bitCount_95d88 54 = .ok (.lstore_n 0, 1) := by decide +kernel
theorem dJ13_bitCount_95d88_55 : decode cJ13_bitCount_95d88 55 = .ok (.lload_n 0, 1) := by decide +kernel
theorem dJ13_bitCount_95d88_56 : decode cJ13_bitCount_95d88 56 = .ok (.l2i, 1) := by decide +kernel
theorem dJ13_bitCount_95d88_57 : decode cJ13_bitCount_95d88 57 = .ok (.bipush 127, 2) := by decide +kernel
theorem dJ13_bitCount_95d88_59 : decode cJ13_bitCount_95d88 59 = .ok (.iand, 1) := by decide +kernel
theorem dJ13_bitCount_95d88_60 : decode cJ13_bitCount_95d88 60 = .ok (.ireturn, 1) := by decide +kernel
theorem dJ9_floorMod_7cf53_0 : decode cJ9_floorMod_7cf53 0 = .ok (.iload_n 0, 1) := by decide +kernel
theorem dJ9_floorMod_7cf53_1 : decode cJ9_floorMod_7cf53 1 = .ok (.iload_n 1, 1) := by decide +kernel
theorem dJ9_floorMod_7cf53_2 : decode cJ9_floorMod_7cf53 2 = .ok (.irem, 1) := by decide +kernel
theorem dJ9_floorMod_7cf53_3 : decode cJ9_floorMod_7cf53 3 = .ok (.istore_n 2, 1) := by decide +kernel
theorem dJ9_floorMod_7cf53_4 : decode cJ9_floorMod_7cf53 4 = .ok (.iload_n 0, 1) := by decide +kernel
theorem dJ9_floorMod_7cf53_5 : decode cJ9_floorMod_7cf53 5 = .ok (.iload_n 1, 1) := by decide +kernel
theorem dJ9_floorMod_7cf53_6 : decode cJ9_floorMod_7cf53 6 = .ok (.ixor, 1) := by decide +kernel
theorem dJ9_floorMod_7cf53_7 : decode cJ9_floorMod_7cf53 7 = .ok (.ifCond .ge 11, 3) := by decide +kernel
theorem dJ9_floorMod_7cf53_18 : decode cJ9_floorMod_7cf53 18 = .ok (.iload_n 2, 1) := by decide +kernel
theorem dJ9_floorMod_7cf53_19 : decode cJ9_floorMod_7cf53 19 = .ok (.ireturn, 1) := by decide +kernel
end
section
theorem xw_ge0 {x : Int32} (h : 0 ≤ x) : ¬ x < 0 := by simp only [p1_le, p1_lt, p1_0] at h ⊢; omega
theorem xw_ge1 {x : Int32} (h : 1 ≤ x) : ¬ x < 0 := by simp only [p1_le, p1_lt, p1_0, p1_1] at h ⊢; omega
theorem xw_ge1p {x : Int32} {j : Nat} (e : x = nI j) (h : 1 ≤ x) : 0 < j := by
  rcases Nat.eq_zero_or_pos j with q | q
  · rw [e, q] at h; exact absurd h (by decide)
  · exact q

end
section
theorem dJx4a65c_grow_92f84_0 : decode cJx4a65c_grow_92f84 0 = .ok (.aload_n 0, 1) := by decide +kernel
theorem dJx4a65c_grow_92f84_1 : decode cJx4a65c_grow_92f84 1 = .ok (.getfield 9, 3) := by decide +kernel
theorem dJx4a65c_grow_92f84_4 : decode cJx4a65c_grow_92f84 4 = .ok (.arraylength, 1) := by decide +kernel
theorem dJx4a65c_grow_92f84_5 : decode cJx4a65c_grow_92f84 5 = .ok (.istore_n 2, 1) := by decide +kernel
theorem dJx4a65c_grow_92f84_6 : decode cJx4a65c_grow_92f84 6 = .ok (.iload_n 2, 1) := by decide +kernel
theorem dJx4a65c_grow_92f84_7 : decode cJx4a65c_grow_92f84 7 = .ok (.ifCond .gt 13, 3) := by decide +kernel
theorem dJx4a65c_grow_92f84_10 : decode cJx4a65c_grow_92f84 10 = .ok (.aload_n 0, 1) := by decide +kernel
theorem dJx4a65c_grow_92f84_11 : decode cJx4a65c_grow_92f84 11 = .ok (.getfield 9, 3) := by decide +kernel
theorem dJx4a65c_grow_92f84_14 : decode cJx4a65c_grow_92f84 14 = .ok (.getstatic 39, 3) := by decide +kernel
theorem dJx4a65c_grow_92f84_17 : decode cJx4a65c_grow_92f84 17 = .ok (.if_acmp .eq 28, 3) := by decide +kernel
theorem dJx4a65c_grow_92f84_20 : decode cJx4a65c_grow_92f84 20 = .ok (.iload_n 2, 1) := by decide +kernel
theorem dJx4a65c_grow_92f84_21 : decode cJx4a65c_grow_92f84 21 = .ok (.iload_n 1, 1) := by decide +kernel
theorem dJx4a65c_grow_92f84_22 : decode cJx4a65c_grow_92f84 22 = .ok (.iload_n 2, 1) := by decide +kernel
theorem dJx4a65c_grow_92f84_23 : decode cJx4a65c_grow_92f84 23 = .ok (.isub, 1) := by decide +kernel
theorem dJx4a65c_grow_92f84_24 : decode cJx4a65c_grow_92f84 24 = .ok (.iload_n 2, 1) := by decide +kernel
theorem dJx4a65c_grow_92f84_25 : decode cJx4a65c_grow_92f84 25 = .ok (.iconst 1, 1) := by decide +kernel
theorem dJx4a65c_grow_92f84_26 : decode cJx4a65c_grow_92f84 26 = .ok (.ishr, 1) := by decide +kernel
theorem dJx4a65c_grow_92f84_27 : decode cJx4a65c_grow_92f84 27 = .ok (.invokestatic 73, 3) := by decide +kernel
theorem dJx4a65c_grow_92f84_30 : decode cJx4a65c_grow_92f84 30 = .ok (.istore_n 3, 1) := by decide +kernel
theorem dJx4a65c_grow_92f84_31 : decode cJx4a65c_grow_92f84 31 = .ok (.aload_n 0, 1) := by decide +kernel
theorem dJx4a65c_grow_92f84_32 : decode cJx4a65c_grow_92f84 32 = .ok (.aload_n 0, 1) := by decide +kernel
theorem dJx4a65c_grow_92f84_33 : decode cJx4a65c_grow_92f84 33 = .ok (.getfield 9, 3) := by decide +kernel
theorem dJx4a65c_grow_92f84_36 : decode cJx4a65c_grow_92f84 36 = .ok (.iload_n 3, 1) := by decide +kernel
theorem dJx4a65c_grow_92f84_37 : decode cJx4a65c_grow_92f84 37 = .ok (.invokestatic 66, 3) := by decide +kernel
theorem dJx4a65c_grow_92f84_40 : decode cJx4a65c_grow_92f84 40 = .ok (.dup_x1, 1) := by decide +kernel
theorem dJx4a65c_grow_92f84_41 : decode cJx4a65c_grow_92f84 41 = .ok (.putfield 9, 3) := by decide +kernel
theorem dJx4a65c_grow_92f84_44 : decode cJx4a65c_grow_92f84 44 = .ok (.areturn, 1) := by decide +kernel
theorem dJx4a65c_grow_92f84_45 : decode cJx4a65c_grow_92f84 45 = .ok (.aload_n 0, 1) := by decide +kernel
theorem dJx4a65c_grow_92f84_46 : decode cJx4a65c_grow_92f84 46 = .ok (.bipush 10, 2) := by decide +kernel
theorem dJx4a65c_grow_92f84_48 : decode cJx4a65c_grow_92f84 48 = .ok (.iload_n 1, 1) := by decide +kernel
theorem dJx4a65c_grow_92f84_49 : decode cJx4a65c_grow_92f84 49 = .ok (.invokestatic 79, 3) := by decide +kernel
theorem dJx4a65c_grow_92f84_52 : decode cJx4a65c_grow_92f84 52 = .ok (.anewarray 7, 3) := by decide +kernel
theorem dJx4a65c_grow_92f84_55 : decode cJx4a65c_grow_92f84 55 = .ok (.dup_x1, 1) := by decide +kernel
theorem dJx4a65c_grow_92f84_56 : decode cJx4a65c_grow_92f84 56 = .ok (.putfield 9, 3) := by decide +kernel
theorem dJx4a65c_grow_92f84_59 : decode cJx4a65c_grow_92f84 59 = .ok (.areturn, 1) := by decide +kernel
theorem dJx4a65c_grow_d5877_0 : decode cJx4a65c_grow_d5877 0 = .ok (.aload_n 0, 1) := by decide +kernel
theorem dJx4a65c_grow_d5877_1 : decode cJx4a65c_grow_d5877 1 = .ok (.aload_n 0, 1) := by decide +kernel
theorem dJx4a65c_grow_d5877_2 : decode cJx4a65c_grow_d5877 2 = .ok (.getfield 48, 3) := by decide +kernel
theorem dJx4a65c_grow_d5877_5 : decode cJx4a65c_grow_d5877 5 = .ok (.iconst 1, 1) := by decide +kernel
theorem dJx4a65c_grow_d5877_6 : decode cJx4a65c_grow_d5877 6 = .ok (.iadd, 1) := by decide +kernel
theorem dJx4a65c_grow_d5877_7 : decode cJx4a65c_grow_d5877 7 = .ok (.invokevirtual 69, 3) := by decide +kernel
theorem dJx4a65c_grow_d5877_10 : decode cJx4a65c_grow_d5877 10 = .ok (.areturn, 1) := by decide +kernel
theorem dJx4a65c_add_72be8_0 : decode cJx4a65c_add_72be8 0 = .ok (.iload_n 3, 1) := by decide +kernel
theorem dJx4a65c_add_72be8_1 : decode cJx4a65c_add_72be8 1 = .ok (.aload_n 2, 1) := by decide +kernel
theorem dJx4a65c_add_72be8_2 : decode cJx4a65c_add_72be8 2 = .ok (.arraylength, 1) := by decide +kernel
theorem dJx4a65c_add_72be8_3 : decode cJx4a65c_add_72be8 3 = .ok (.if_icmp .ne 8, 3) := by decide +kernel
theorem dJx4a65c_add_72be8_6 : decode cJx4a65c_add_72be8 6 = .ok (.aload_n 0, 1) := by decide +kernel
theorem dJx4a65c_add_72be8_7 : decode cJx4a65c_add_72be8 7 = .ok (.invokevirtual 129, 3) := by decide +kernel
theorem dJx4a65c_add_72be8_10 : decode cJx4a65c_add_72be8 10 = .ok (.astore_n 2, 1) := by decide +kernel
theorem dJx4a65c_add_72be8_11 : decode cJx4a65c_add_72be8 11 = .ok (.aload_n 2, 1) := by decide +kernel
theorem dJx4a65c_add_72be8_12 : decode cJx4a65c_add_72be8 12 = .ok (.iload_n 3, 1) := by decide +kernel
theorem dJx4a65c_add_72be8_13 : decode cJx4a65c_add_72be8 13 = .ok (.aload_n 1, 1) := by decide +kernel
theorem dJx4a65c_add_72be8_14 : decode cJx4a65c_add_72be8 14 = .ok (.aastore, 1) := by decide +kernel
theorem dJx4a65c_add_72be8_15 : decode cJx4a65c_add_72be8 15 = .ok (.aload_n 0, 1) := by decide +kernel
theorem dJx4a65c_add_72be8_16 : decode cJx4a65c_add_72be8 16 = .ok (.iload_n 3, 1) := by decide +kernel
theorem dJx4a65c_add_72be8_17 : decode cJx4a65c_add_72be8 17 = .ok (.iconst 1, 1) := by decide +kernel
theorem dJx4a65c_add_72be8_18 : decode cJx4a65c_add_72be8 18 = .ok (.iadd, 1) := by decide +kernel
theorem dJx4a65c_add_72be8_19 : decode cJx4a65c_add_72be8 19 = .ok (.putfield 48, 3) := by decide +kernel
theorem dJx4a65c_add_72be8_22 : decode cJx4a65c_add_72be8 22 = .ok (.return_, 1) := by decide +kernel
theorem dJx4a65c_add_9ea2d_0 : decode cJx4a65c_add_9ea2d 0 = .ok (.aload_n 0, 1) := by decide +kernel
theorem dJx4a65c_add_9ea2d_1 : decode cJx4a65c_add_9ea2d 1 = .ok (.dup, 1) := by decide +kernel
theorem dJx4a65c_add_9ea2d_2 : decode cJx4a65c_add_9ea2d 2 = .ok (.getfield 63, 3) := by decide +kernel
theorem dJx4a65c_add_9ea2d_5 : decode cJx4a65c_add_9ea2d 5 = .ok (.iconst 1, 1) := by decide +kernel
theorem dJx4a65c_add_9ea2d_6 : decode cJx4a65c_add_9ea2d 6 = .ok (.iadd, 1) := by decide +kernel
theorem dJx4a65c_add_9ea2d_7 : decode cJx4a65c_add_9ea2d 7 = .ok (.putfield 63, 3) := by decide +kernel
theorem dJx4a65c_add_9ea2d_10 : decode cJx4a65c_add_9ea2d 10 = .ok (.aload_n 0, 1) := by decide +kernel
theorem dJx4a65c_add_9ea2d_11 : decode cJx4a65c_add_9ea2d 11 = .ok (.aload_n 1, 1) := by decide +kernel
theorem dJx4a65c_add_9ea2d_12 : decode cJx4a65c_add_9ea2d 12 = .ok (.aload_n 0, 1) := by decide +kernel
theorem dJx4a65c_add_9ea2d_13 : decode cJx4a65c_add_9ea2d 13 = .ok (.getfield 9, 3) := by decide +kernel
theorem dJx4a65c_add_9ea2d_16 : decode cJx4a65c_add_9ea2d 16 = .ok (.aload_n 0, 1) := by decide +kernel
theorem dJx4a65c_add_9ea2d_17 : decode cJx4a65c_add_9ea2d 17 = .ok (.getfield 48, 3) := by decide +kernel
theorem dJx4a65c_add_9ea2d_20 : decode cJx4a65c_add_9ea2d 20 = .ok (.invokevirtual 131, 3) := by decide +kernel
theorem dJx4a65c_add_9ea2d_23 : decode cJx4a65c_add_9ea2d 23 = .ok (.iconst 1, 1) := by decide +kernel
theorem dJx4a65c_add_9ea2d_24 : decode cJx4a65c_add_9ea2d 24 = .ok (.ireturn, 1) := by decide +kernel
theorem dJ7_copyOf_1904c_0 : decode cJ7_copyOf_1904c 0 = .ok (.aload_n 0, 1) := by decide +kernel
theorem dJ7_copyOf_1904c_1 : decode cJ7_copyOf_1904c 1 = .ok (.iload_n 1, 1) := by decide +kernel
theorem dJ7_copyOf_1904c_2 : decode cJ7_copyOf_1904c 2 = .ok (.aload_n 0, 1) := by decide +kernel
theorem dJ7_copyOf_1904c_3 : decode cJ7_copyOf_1904c 3 = .ok (.invokevirtual 86, 3) := by decide +kernel
theorem dJ7_copyOf_1904c_6 : decode cJ7_copyOf_1904c 6 = .ok (.invokestatic 300, 3) := by decide +kernel
theorem dJ7_copyOf_1904c_9 : decode cJ7_copyOf_1904c 9 = .ok (.areturn, 1) := by decide +kernel
theorem dJ7_copyOf_6403c_0 : decode cJ7_copyOf_6403c 0 = .ok (.aload_n 2, 1) := by decide +kernel
theorem dJ7_copyOf_6403c_1 : decode cJ7_copyOf_6403c 1 = .ok (.ldc 110, 2) := by decide +kernel
theorem dJ7_copyOf_6403c_3 : decode cJ7_copyOf_6403c 3 = .ok (.if_acmp .ne 10, 3) := by decide +kernel
theorem dJ7_copyOf_6403c_6 : decode cJ7_copyOf_6403c 6 = .ok (.iload_n 1, 1) := by decide +kernel
theorem dJ7_copyOf_6403c_7 : decode cJ7_copyOf_6403c 7 = .ok (.anewarray 2, 3) := by decide +kernel
theorem dJ7_copyOf_6403c_10 : decode cJ7_copyOf_6403c 10 = .ok (.goto 14, 3) := by decide +kernel
theorem dJ7_copyOf_6403c_24 : decode cJ7_copyOf_6403c 24 = .ok (.astore_n 3, 1) := by decide +kernel
theorem dJ7_copyOf_6403c_25 : decode cJ7_copyOf_6403c 25 = .ok (.aload_n 0, 1) := by decide +kernel
theorem dJ7_copyOf_6403c_26 : decode cJ7_copyOf_6403c 26 = .ok (.iconst 0, 1) := by decide +kernel
theorem dJ7_copyOf_6403c_27 : decode cJ7_copyOf_6403c 27 = .ok (.aload_n 3, 1) := by decide +kernel
theorem dJ7_copyOf_6403c_28 : decode cJ7_copyOf_6403c 28 = .ok (.iconst 0, 1) := by decide +kernel
theorem dJ7_copyOf_6403c_29 : decode cJ7_copyOf_6403c 29 = .ok (.aload_n 0, 1) := by decide +kernel
theorem dJ7_copyOf_6403c_30 : decode cJ7_copyOf_6403c 30 = .ok (.arraylength, 1) := by decide +kernel
theorem dJ7_copyOf_6403c_31 : decode cJ7_copyOf_6403c 31 = .ok (.iload_n 1, 1) := by decide +kernel
theorem dJ7_copyOf_6403c_32 : decode cJ7_copyOf_6403c 32 = .ok (.invokestatic 304, 3) := by decide +kernel
theorem dJ7_copyOf_6403c_35 : decode cJ7_copyOf_6403c 35 = .ok (.invokestatic 150, 3) := by decide +kernel
theorem dJ7_copyOf_6403c_38 : decode cJ7_copyOf_6403c 38 = .ok (.aload_n 3, 1) := by decide +kernel
theorem dJ7_copyOf_6403c_39 : decode cJ7_copyOf_6403c 39 = .ok (.areturn, 1) := by decide +kernel
theorem dJ8_newLength_cabcc_0 : decode cJ8_newLength_cabcc 0 = .ok (.iload_n 0, 1) := by decide +kernel
theorem dJ8_newLength_cabcc_1 : decode cJ8_newLength_cabcc 1 = .ok (.iload_n 1, 1) := by decide +kernel
theorem dJ8_newLength_cabcc_2 : decode cJ8_newLength_cabcc 2 = .ok (.iload_n 2, 1) := by decide +kernel
theorem dJ8_newLength_cabcc_3 : decode cJ8_newLength_cabcc 3 = .ok (.invokestatic 194, 3) := by decide +kernel
theorem dJ8_newLength_cabcc_6 : decode cJ8_newLength_cabcc 6 = .ok (.iadd, 1) := by decide +kernel
theorem dJ8_newLength_cabcc_7 : decode cJ8_newLength_cabcc 7 = .ok (.istore_n 3, 1) := by decide +kernel
theorem dJ8_newLength_cabcc_8 : decode cJ8_newLength_cabcc 8 = .ok (.iconst 0, 1) := by decide +kernel
theorem dJ8_newLength_cabcc_9 : decode cJ8_newLength_cabcc 9 = .ok (.iload_n 3, 1) := by decide +kernel
theorem dJ8_newLength_cabcc_10 : decode cJ8_newLength_cabcc 10 = .ok (.if_icmp .ge 11, 3) := by decide +kernel
theorem dJ8_newLength_cabcc_13 : decode cJ8_newLength_cabcc 13 = .ok (.iload_n 3, 1) := by decide +kernel
theorem dJ8_newLength_cabcc_14 : decode cJ8_newLength_cabcc 14 = .ok (.ldc 200, 2) := by decide +kernel
theorem dJ8_newLength_cabcc_16 : decode cJ8_newLength_cabcc 16 = .ok (.if_icmp .gt 5, 3) := by decide +kernel
theorem dJ8_newLength_cabcc_19 : decode cJ8_newLength_cabcc 19 = .ok (.iload_n 3, 1) := by decide +kernel
theorem dJ8_newLength_cabcc_20 : decode cJ8_newLength_cabcc 20 = .ok (.ireturn, 1) := by decide +kernel
def xL (mi : Nat) (f : Nat → Option Nat) (N : Nat) (A : Nat → Prop) (U : State) (H : Heap) : Prop := va_Mi "[Ljava/lang/Object;" mi U ∧ va_Dc U ∧ va_AO "java/lang/Object" U ∧ ∀ i : Nat, i < N → ∀ y : Nat, f i = some y → (∃ cv : Cell, H[y]? = some cv ∧ cv.vm.isStatics = false ∧ U.vm.findClass RX7 = some cv.cls) ∧ ¬ A y
theorem xL.moved {mi : Nat} {f : Nat → Option Nat} {N : Nat} {A : Nat → Prop} {u U : State} {H : Heap} (hvm : u.vm.Alike U.vm) (h : xL mi f N A u H) : xL mi f N A U H := by
  refine ⟨va_Mi.moved hvm h.1, va_Dc.moved hvm h.2.1, va_AO.moved hvm h.2.2.1, fun i hi y hy => ?_⟩
  obtain ⟨⟨cv, h1, h2, h3⟩, h4⟩ := h.2.2.2 i hi y hy
  exact ⟨⟨cv, h1, h2, by rw [hvm.findClass]; exact h3⟩, h4⟩
theorem xL.kept {mi : Nat} {f : Nat → Option Nat} {N : Nat} {A : Nat → Prop} {U : State} {H H1 : Heap} (h : xL mi f N A U H) (hq : ∀ a : Nat, a < H.size → ¬ A a → H1[a]? = H[a]?) : xL mi f N A U H1 := by
  refine ⟨h.1, h.2.1, h.2.2.1, fun i hi y hy => ?_⟩
  obtain ⟨⟨cv, h1, h2, h3⟩, h4⟩ := h.2.2.2 i hi y hy
  have hlt : y < H.size := by
    rcases Nat.lt_or_ge y H.size with q | q
    · exact q
    · rw [Array.getElem?_eq_none q] at h1; cases h1
  exact ⟨⟨cv, by rw [hq y hlt h4]; exact h1, h2, h3⟩, h4⟩
theorem xL.narrow {mi : Nat} {f : Nat → Option Nat} {N : Nat} {A B : Nat → Prop} {U : State} {H : Heap} (h : xL mi f N A U H) (hAB : ∀ q, B q → A q) : xL mi f N B U H := by
  refine ⟨h.1, h.2.1, h.2.2.1, fun i hi y hy => ?_⟩
  obtain ⟨h1, h4⟩ := h.2.2.2 i hi y hy
  exact ⟨h1, fun q => h4 (hAB y q)⟩
theorem xl_max {g : Nat} (h : g < 100) : ∃ w : Nat, 0 < w ∧ w ≤ g + 1 ∧ (if (1 : Int32) < nI g then nI g else 1) = nI w := by
  by_cases c : 1 < g
  · exact ⟨g, by omega, by omega, if_pos ((nI_ltI (a := 1) (b := g) (by omega) (by omega)).mpr c)⟩
  · exact ⟨1, by omega, by omega, if_neg (fun q => c ((nI_ltI (a := 1) (b := g) (by omega) (by omega)).mp q))⟩
theorem xl_0 : (0 : Int32).toNatClampNeg = 0 := by decide
def wq_l_newLength : List Cond := [.code yJ8_newLength_cabcc cJ8_newLength_cabcc 4 (some .int), .methodLink RJ8 194 Lib.Math.max.name, .static Lib.Math.max.name, .initialized "java/lang/Math", .code Lib.Math.max.name Lib.Math.max.code 2 (some .int), .constant RJ8 200 (2147483639)]
set_option maxRecDepth 20000 in
theorem wi_l_newLength : ∀ w ∈ wq_l_newLength, w ∈ lw_tbl := (wix [402, 403, 404, 74, 405, 406] rfl)
set_option maxRecDepth 20000 in
theorem wg_l_newLength : GoodIn wq_l_newLength wq_l_newLength := goodIn_sub (fun _ h => h) (by decide +kernel)
set_option maxHeartbeats 4000000 in
set_option maxRecDepth 100000 in
theorem c_l_newLength (l : Launch) (dC : Nat → ClassId) (dI : Nat → Nat → Nat) (n : Nat) (g : Nat) (sz : Nat) (hp0 : n < 100) (hp1 : g < 100) : Met l yJ8_newLength_cabcc wq_l_newLength ({ frames := 1, cells := 0, slots := 0, locals := 24 }) (va_Pc [.int (nI n), .int 1, .int (nI g)] (fun U => U.heap.size = sz ∧ va_P (dC, dI) vwCl [] U.heap ∧ va_K (dC, dI) vwCl [] U ∧ va_D (fun _ => True) [])) (va_Qi (fun (r : Int32) (_ : Unit) => ∃ w : Nat, 0 < w ∧ w ≤ g + 1 ∧ r = nI (n + w)) (fun (_ : Unit) (t : State) => True) (va_A [] sz)) 0 0 (va_A [] sz) := by
  refine Met.ofW (cc := cJ8_newLength_cabcc) (maxL := 4) (ret := (some .int)) (by decide) rfl ?_
  intro p e s m args below meth c s₁ B hml hv
  obtain ⟨rfl, hsz, hP, hK, hD0⟩ := hv
  have hx := B.exec
  have hb := B.bytes
  have hr := B.returns
  have hts := atoms_spec (ws := wq_l_newLength) B.pre
  have hown : s.vm.findClass RJ8 = some m.cls := findClass_of_methodNamed B.named
  have hlocks := B.notSynchronized
  subst hsz
  have hD := hD0.self (sz := s.heap.size)
  generalize hAe : va_A [] s.heap.size = A at hD ⊢
  have hA : ∀ q : Nat, s.heap.size ≤ q → A q := fun q h => by rw [← hAe]; exact Or.inr h
  have hS : va_S A s.heap s.heap [] := va_S.rf
  have hP : va_P (dC, dI) vwCl [] s.heap := hP
  have hl := lv_entry ([.int (nI n), .int 1, .int (nI g)]) (n := 4) (Nat.le_of_ble_eq_true rfl)
  rw [lg_entry_eq]
  generalize (lg_sl ([.int (nI n), .int 1, .int (nI g)]) ++ List.replicate (4 - (lg_sl ([.int (nI n), .int 1, .int (nI g)])).length) Slot.unset).toArray = ls at hl ⊢
  have hl : lv_has ls 4 [(0, .int (nI n)), (1, .int 1), (2, .int (nI g))] := hl
  refine lv_iload_n hx hb dJ8_newLength_cabcc_0 rfl (lv_at hl 0 rfl) ?_
  refine lv_iload_n hx hb dJ8_newLength_cabcc_1 rfl (lv_at hl 1 rfl) ?_
  refine lv_iload_n hx hb dJ8_newLength_cabcc_2 rfl (lv_at hl 2 rfl) ?_
  refine va_mmax hx hb (by rw [hml]; exact hl.1.symm) hown (hts (.methodLink RJ8 194 Lib.Math.max.name) (by decide +kernel)) (hts (.static Lib.Math.max.name) (by decide +kernel)) (hts (.initialized "java/lang/Math") (by decide +kernel)) (hts (.code Lib.Math.max.name Lib.Math.max.code 2 (some .int)) (by decide +kernel)) (Nat.le_of_ble_eq_true rfl) (Nat.le_of_ble_eq_true rfl) (Nat.le_of_ble_eq_true rfl) (Nat.le_of_ble_eq_true rfl) dJ8_newLength_cabcc_3 ?_
  obtain ⟨w, hw1, hw2, ew⟩ := xl_max hp1
  refine p1_topr (v := .int (nI w)) (congrArg Value.int ew) ?_
  refine lv_iadd hx hb dJ8_newLength_cabcc_6 ?_
  refine p1_topr (v := .int (nI (n + w))) (congrArg Value.int (nI_add n w)) ?_
  refine lv_istore_n (lv' := [(3, .int (nI (n + w))), (0, .int (nI n)), (1, .int 1), (2, .int (nI g))]) hx hb dJ8_newLength_cabcc_7 rfl hl (by decide) rfl (fun ls hl => ?_)
  refine lv_iconst (v := 0) hx hb dJ8_newLength_cabcc_8 (by decide) ?_
  refine lv_iload_n hx hb dJ8_newLength_cabcc_9 rfl (lv_at hl 0 rfl) ?_
  refine lv_icmp_ge (tgt := 21) hx hb dJ8_newLength_cabcc_10 (by decide) (fun c9 => absurd ((nI_leI (a := n + w) (b := 0) (by omega) (by omega)).mp c9) (by omega)) (fun _ => ?_)
  refine lv_iload_n hx hb dJ8_newLength_cabcc_13 rfl (lv_at hl 0 rfl) ?_
  refine lv_ldc (v := 2147483639) hx hb hown (hts (.constant RJ8 200 (2147483639)) (by decide +kernel)) dJ8_newLength_cabcc_14 ?_
  refine lv_icmp_gt (tgt := 21) hx hb dJ8_newLength_cabcc_16 (by decide) (fun c9 => absurd ((nI_ltI (a := 2147483639) (b := n + w) (by omega) (by omega)).mp c9) (by omega)) (fun _ => ?_)
  refine lv_iload_n hx hb dJ8_newLength_cabcc_19 rfl (lv_at hl 0 rfl) ?_
  exact W.iret (v := nI (n + w)) hx hb hr (fun t ht hW => ⟨⟨nI (n + w), (), rfl, ⟨w, hw1, hw2, rfl⟩, trivial⟩, hS.F ht⟩) hS.2.2 dJ8_newLength_cabcc_20
def wq_l_copyOf3 : List Cond := [.code yJ7_copyOf_6403c cJ7_copyOf_6403c 4 (some (.array (.object "java/lang/Object"))), .classLink RJ7 110 "[Ljava/lang/Object;", .classLink RJ7 2 "java/lang/Object", .methodLink RJ7 304 Lib.Math.min.name, .static Lib.Math.min.name, .initialized "java/lang/Math", .code Lib.Math.min.name Lib.Math.min.code 2 (some .int), .methodLink RJ7 150 arraycopyName, .native arraycopyName, .static arraycopyName, .initialized "java/lang/System"]
set_option maxRecDepth 20000 in
theorem wi_l_copyOf3 : ∀ w ∈ wq_l_copyOf3, w ∈ lw_tbl := (wix [430, 431, 433, 434, 435, 74, 436, 437, 439, 438, 76] rfl)
set_option maxRecDepth 20000 in
theorem wg_l_copyOf3 : GoodIn wq_l_copyOf3 wq_l_copyOf3 := goodIn_sub (fun _ h => h) (by decide +kernel)
set_option maxHeartbeats 4000000 in
set_option maxRecDepth 100000 in
theorem c_l_copyOf3 (l : Launch) (dC : Nat → ClassId) (dI : Nat → Nat → Nat) (a : Nat) (mi : Nat) (n : Nat) (N : Nat) (cE : ClassId) (f : Nat → Option Nat) (sz : Nat) (hp0 : n < N) (hp1 : N < 200) : Met l yJ7_copyOf_6403c wq_l_copyOf3 ({ frames := 1, cells := 1, slots := 200, locals := 40 }) (va_Pc [.ref a, .int (nI N), .ref mi] (fun U => U.heap.size = sz ∧ va_P (dC, dI) vwCl [(a, .inl (cE, n, .inr (.inr (.inr (.inr f)))))] U.heap ∧ va_K (dC, dI) vwCl [(cE, .object "java/lang/Object")] U ∧ va_D (fun _ => True) [(a, .inl (cE, n, .inr (.inr (.inr (.inr f)))))] ∧ pw_N U ∧ xL mi f n (va_A [(a, .inl (cE, n, .inr (.inr (.inr (.inr f)))))] sz) U U.heap)) (va_Qr (fun (_ : Unit) => True) (fun (_ : Unit) (ra : Nat) (t : State) => ∃ (cG : ClassId) (g : Nat → Option Nat), (∀ i : Nat, i < n → g i = f i) ∧ va_P (dC, dI) vwCl [(a, .inl (cE, n, .inr (.inr (.inr (.inr f))))), (ra, .inl (cG, N, .inr (.inr (.inr (.inr g)))))] t.heap ∧ va_K (dC, dI) vwCl [(cG, .object "java/lang/Object")] t ∧ va_D (va_A [(a, .inl (cE, n, .inr (.inr (.inr (.inr f)))))] sz) [(a, .inl (cE, n, .inr (.inr (.inr (.inr f))))), (ra, .inl (cG, N, .inr (.inr (.inr (.inr g)))))]) (va_A [(a, .inl (cE, n, .inr (.inr (.inr (.inr f)))))] sz)) 1 200 (va_A [(a, .inl (cE, n, .inr (.inr (.inr (.inr f)))))] sz) := by
  refine Met.ofW (cc := cJ7_copyOf_6403c) (maxL := 4) (ret := (some (.array (.object "java/lang/Object")))) (by decide) rfl ?_
  intro p e s m args below meth c s₁ B hml hv
  obtain ⟨rfl, hsz, hP, hK, hD0, hN, hL⟩ := hv
  have hx := B.exec
  have hb := B.bytes
  have hr := B.returns
  have hts := atoms_spec (ws := wq_l_copyOf3) B.pre
  have hown : s.vm.findClass RJ7 = some m.cls := findClass_of_methodNamed B.named
  have hlocks := B.notSynchronized
  subst hsz
  have hD := hD0.self (sz := s.heap.size)
  generalize hAe : va_A [(a, .inl (cE, n, .inr (.inr (.inr (.inr f)))))] s.heap.size = A at hD hL ⊢
  have hA : ∀ q : Nat, s.heap.size ≤ q → A q := fun q h => by rw [← hAe]; exact Or.inr h
  have hS : va_S A s.heap s.heap [] := va_S.rf
  have hP : va_P (dC, dI) vwCl [(a, .inl (cE, n, .inr (.inr (.inr (.inr f)))))] s.heap := hP
  have hl := lv_entry ([.ref a, .int (nI N), .ref mi]) (n := 4) (Nat.le_of_ble_eq_true rfl)
  rw [lg_entry_eq]
  generalize (lg_sl ([.ref a, .int (nI N), .ref mi]) ++ List.replicate (4 - (lg_sl ([.ref a, .int (nI N), .ref mi])).length) Slot.unset).toArray = ls at hl ⊢
  have hl : lv_has ls 4 [(0, .ref a), (1, .int (nI N)), (2, .ref mi)] := hl
  refine lv_aload_n hx hb dJ7_copyOf_6403c_0 rfl (lv_at hl 2 rfl) ?_
  refine va_ldcM hx hb hown (hts (.classLink RJ7 110 "[Ljava/lang/Object;") (by decide +kernel)) hL.1 dJ7_copyOf_6403c_1 ?_
  refine lv_acmp_ne (rx := some mi) (ry := some mi) (tgt := 13) hx hb dJ7_copyOf_6403c_3 (by decide) (fun c9 => absurd rfl c9) (fun _ => ?_)
  refine lv_iload_n hx hb dJ7_copyOf_6403c_6 rfl (lv_at hl 1 rfl) ?_
  refine va_newq (C := "java/lang/Object") (N' := N) hx hb hown (hts (.classLink RJ7 2 "java/lang/Object") (by decide +kernel)) hL.2.2.1 hK hP hD hS hA (nI_pos (by omega)) (nI_clamp (by omega)) (by omega) (Nat.le_of_ble_eq_true rfl) (show 0 + N ≤ 200 by omega) dJ7_copyOf_6403c_7 (fun q cG H hK hP hD hS => ?_)
  replace hP : va_P (dC, dI) vwCl [(a, .inl (cE, n, .inr (.inr (.inr (.inr f))))), (q, .inl (cG, N, .inr (.inr (.inr (.inr (fun _ => none))))))] H := hP
  replace hD : va_D A [(a, .inl (cE, n, .inr (.inr (.inr (.inr f))))), (q, .inl (cG, N, .inr (.inr (.inr (.inr (fun _ => none))))))] := hD
  replace hK : va_K (dC, dI) vwCl [(cE, .object "java/lang/Object"), (cG, .object "java/lang/Object")] s := hK
  refine W.widen (k := 1) (n := 200) (by omega) (by omega) ?_
  refine lv_goto (tgt := 24) hx hb dJ7_copyOf_6403c_10 (by decide) ?_
  refine lv_astore_n (lv' := [(3, .ref q), (0, .ref a), (1, .int (nI N)), (2, .ref mi)]) hx hb dJ7_copyOf_6403c_24 rfl hl (by decide) rfl (fun ls hl => ?_)
  refine lv_aload_n hx hb dJ7_copyOf_6403c_25 rfl (lv_at hl 1 rfl) ?_
  refine lv_iconst (v := 0) hx hb dJ7_copyOf_6403c_26 (by decide) ?_
  refine lv_aload_n hx hb dJ7_copyOf_6403c_27 rfl (lv_at hl 0 rfl) ?_
  refine lv_iconst (v := 0) hx hb dJ7_copyOf_6403c_28 (by decide) ?_
  refine lv_aload_n hx hb dJ7_copyOf_6403c_29 rfl (lv_at hl 1 rfl) ?_
  refine va_alen (v := nI n) hx hb hK hP 0 0 rfl rfl rfl dJ7_copyOf_6403c_30 ?_
  refine lv_iload_n hx hb dJ7_copyOf_6403c_31 rfl (lv_at hl 2 rfl) ?_
  refine va_mmin hx hb (by rw [hml]; exact hl.1.symm) hown (hts (.methodLink RJ7 304 Lib.Math.min.name) (by decide +kernel)) (hts (.static Lib.Math.min.name) (by decide +kernel)) (hts (.initialized "java/lang/Math") (by decide +kernel)) (hts (.code Lib.Math.min.name Lib.Math.min.code 2 (some .int)) (by decide +kernel)) (Nat.le_of_ble_eq_true rfl) (Nat.le_of_ble_eq_true rfl) (Nat.le_of_ble_eq_true rfl) (Nat.le_of_ble_eq_true rfl) dJ7_copyOf_6403c_32 ?_
  refine p1_topr (v := .int (nI n)) (congrArg Value.int (if_neg (fun c9 => absurd ((nI_ltI (a := N) (b := n) (by omega) (by omega)).mp c9) (by omega)))) ?_
  have hL2 := hL.kept (fun a9 h1 h2 => hS.2.1 a9 h1 h2)
  have hca := hN (.castable RX7 "java/lang/Object") (by decide +kernel)
  refine va_copyq (E0 := "java/lang/Object") (E1 := "java/lang/Object") (C := RX7) (f := f) (g := fun _ => none) hx hb (by rw [hml]; exact hl.1.symm) hown (hts (.methodLink RJ7 150 arraycopyName) (by decide +kernel)) (hts (.native arraycopyName) (by decide +kernel)) (hts (.static arraycopyName) (by decide +kernel)) (hts (.initialized "java/lang/System") (by decide +kernel)) hK hP hD hS 0 1 0 1 rfl rfl rfl rfl (by decide) (by decide) (nI_pos (by omega)) (by rw [nI_clamp (show n < 2 ^ 31 by omega), xl_0]; omega) (by rw [nI_clamp (show n < 2 ^ 31 by omega), xl_0]; omega) (fun i9 hi9 y9 hy9 => (hL2.2.2.2 i9 (by rw [nI_clamp (show n < 2 ^ 31 by omega)] at hi9; exact hi9) y9 (by rw [xl_0, Nat.zero_add] at hy9; exact hy9)).1) (fun k1 k2 e1 e2 => by obtain ⟨c0, t1, f1, f2, f3⟩ := Cond.castable_spec (va_Nw.use (A := #[]) rfl hca); cases e1.symm.trans f2; cases e2.symm.trans f1; exact f3) (Nat.le_of_ble_eq_true rfl) (by decide +kernel) dJ7_copyOf_6403c_35 (fun H locs hP hD hS => ?_)
  replace hP : va_P (dC, dI) vwCl [(a, .inl (cE, n, .inr (.inr (.inr (.inr f))))), (q, .inl (cG, N, .inr (.inr (.inr (.inr (va_cpy f (fun _ => none) (0 : Int32).toNatClampNeg (0 : Int32).toNatClampNeg (nI n).toNatClampNeg))))))] H := hP
  replace hD : va_D A [(a, .inl (cE, n, .inr (.inr (.inr (.inr f))))), (q, .inl (cG, N, .inr (.inr (.inr (.inr (va_cpy f (fun _ => none) (0 : Int32).toNatClampNeg (0 : Int32).toNatClampNeg (nI n).toNatClampNeg))))))] := hD
  have hg : ∀ i : Nat, i < n → (va_cpy f (fun _ => none) (0 : Int32).toNatClampNeg (0 : Int32).toNatClampNeg (nI n).toNatClampNeg) i = f i := fun i hi => by rw [pk_cpy_in (by rw [xl_0]; omega) (by rw [nI_clamp (show n < 2 ^ 31 by omega), xl_0]; omega), xl_0]; congr 1; omega
  generalize (va_cpy f (fun _ => none) (0 : Int32).toNatClampNeg (0 : Int32).toNatClampNeg (nI n).toNatClampNeg) = g at hP hD hg
  refine lv_aload_n hx hb dJ7_copyOf_6403c_38 rfl (lv_at hl 0 rfl) ?_
  have hK9 := hK.sub (tys' := [(cG, .object "java/lang/Object")]) [1] rfl
  exact W.aret hx hb hr (Or.inr ⟨_, rfl⟩) (Or.inr ⟨_, rfl⟩) (fun t ht hW => ⟨⟨(), q, rfl, trivial, cG, g, hg, by rw [ht]; exact hP, va_K.moved hW.alike hK9, hD⟩, hS.F ht⟩) hS.2.2 dJ7_copyOf_6403c_39
def wq_l_copyOf2 : List Cond := ([.code yJ7_copyOf_1904c cJ7_copyOf_1904c 2 (some (.array (.object "java/lang/Object"))), .methodLink RJ7 86 ⟨"java/lang/Object", "getClass", "()Ljava/lang/Class;"⟩, .selects "[Ljava/lang/Object;" ⟨"java/lang/Object", "getClass", "()Ljava/lang/Class;"⟩ ⟨"java/lang/Object", "getClass", "()Ljava/lang/Class;"⟩, .instanceMethod ⟨"java/lang/Object", "getClass", "()Ljava/lang/Class;"⟩, .native ⟨"java/lang/Object", "getClass", "()Ljava/lang/Class;"⟩, .methodLink RJ7 300 yJ7_copyOf_6403c, .static yJ7_copyOf_6403c, .initialized RJ7] : List Cond) ++ (wq_l_copyOf3)
set_option maxRecDepth 20000 in
theorem wi_l_copyOf2 : ∀ w ∈ wq_l_copyOf2, w ∈ lw_tbl := List.forall_mem_append.mpr ⟨(wix [412, 413, 1203, 414, 427, 428, 429, 75] rfl), wi_l_copyOf3⟩
set_option maxRecDepth 20000 in
theorem wg_l_copyOf2 : GoodIn wq_l_copyOf2 wq_l_copyOf2 := goodIn_sub (fun _ h => h) (by decide +kernel)
set_option maxRecDepth 20000 in
theorem wc_l_copyOf2_l_copyOf3_300 : GoodIn wq_l_copyOf2 (va_wsS RJ7 300 yJ7_copyOf_6403c wq_l_copyOf3) := goodIn_app (goodIn_of _ (by decide +kernel)) (fun w h => ⟨List.mem_append_right _ (h), (wg_l_copyOf3 w h).2⟩)
set_option maxHeartbeats 4000000 in
set_option maxRecDepth 100000 in
theorem c_l_copyOf2 (l : Launch) (dC : Nat → ClassId) (dI : Nat → Nat → Nat) (a : Nat) (mi : Nat) (n : Nat) (N : Nat) (cE : ClassId) (f : Nat → Option Nat) (sz : Nat) (hp0 : n < N) (hp1 : N < 200) : Met l yJ7_copyOf_1904c wq_l_copyOf2 ({ frames := 2, cells := 1, slots := 200, locals := 63 }) (va_Pc [.ref a, .int (nI N)] (fun U => U.heap.size = sz ∧ va_P (dC, dI) vwCl [(a, .inl (cE, n, .inr (.inr (.inr (.inr f)))))] U.heap ∧ va_K (dC, dI) vwCl [(cE, .object "java/lang/Object")] U ∧ va_D (fun _ => True) [(a, .inl (cE, n, .inr (.inr (.inr (.inr f)))))] ∧ pw_N U ∧ xL mi f n (va_A [(a, .inl (cE, n, .inr (.inr (.inr (.inr f)))))] sz) U U.heap)) (va_Qr (fun (_ : Unit) => True) (fun (_ : Unit) (ra : Nat) (t : State) => ∃ (cG : ClassId) (g : Nat → Option Nat), (∀ i : Nat, i < n → g i = f i) ∧ va_P (dC, dI) vwCl [(a, .inl (cE, n, .inr (.inr (.inr (.inr f))))), (ra, .inl (cG, N, .inr (.inr (.inr (.inr g)))))] t.heap ∧ va_K (dC, dI) vwCl [(cG, .object "java/lang/Object")] t ∧ va_D (va_A [(a, .inl (cE, n, .inr (.inr (.inr (.inr f)))))] sz) [(a, .inl (cE, n, .inr (.inr (.inr (.inr f))))), (ra, .inl (cG, N, .inr (.inr (.inr (.inr g)))))]) (va_A [(a, .inl (cE, n, .inr (.inr (.inr (.inr f)))))] sz)) 1 200 (va_A [(a, .inl (cE, n, .inr (.inr (.inr (.inr f)))))] sz) := by
  refine Met.ofW (cc := cJ7_copyOf_1904c) (maxL := 2) (ret := (some (.array (.object "java/lang/Object")))) (by decide) rfl ?_
  intro p e s m args below meth c s₁ B hml hv
  obtain ⟨rfl, hsz, hP, hK, hD0, hN, hL⟩ := hv
  have hx := B.exec
  have hb := B.bytes
  have hr := B.returns
  have hts := atoms_spec (ws := wq_l_copyOf2) B.pre
  have hown : s.vm.findClass RJ7 = some m.cls := findClass_of_methodNamed B.named
  have hlocks := B.notSynchronized
  subst hsz
  have hD := hD0.self (sz := s.heap.size)
  generalize hAe : va_A [(a, .inl (cE, n, .inr (.inr (.inr (.inr f)))))] s.heap.size = A at hD hL ⊢
  have hA : ∀ q : Nat, s.heap.size ≤ q → A q := fun q h => by rw [← hAe]; exact Or.inr h
  have hS : va_S A s.heap s.heap [] := va_S.rf
  have hP : va_P (dC, dI) vwCl [(a, .inl (cE, n, .inr (.inr (.inr (.inr f)))))] s.heap := hP
  have hl := lv_entry ([.ref a, .int (nI N)]) (n := 2) (Nat.le_of_ble_eq_true rfl)
  rw [lg_entry_eq]
  generalize (lg_sl ([.ref a, .int (nI N)]) ++ List.replicate (2 - (lg_sl ([.ref a, .int (nI N)])).length) Slot.unset).toArray = ls at hl ⊢
  have hl : lv_has ls 2 [(0, .ref a), (1, .int (nI N))] := hl
  refine lv_aload_n hx hb dJ7_copyOf_1904c_0 rfl (lv_at hl 0 rfl) ?_
  refine lv_iload_n hx hb dJ7_copyOf_1904c_1 rfl (lv_at hl 1 rfl) ?_
  refine lv_aload_n hx hb dJ7_copyOf_1904c_2 rfl (lv_at hl 0 rfl) ?_
  refine va_getC hx hb (by rw [hml]; exact hl.1.symm) hown (hts (.methodLink RJ7 86 ⟨"java/lang/Object", "getClass", "()Ljava/lang/Class;"⟩) (by decide +kernel)) hL.2.1.use (hts (.selects "[Ljava/lang/Object;" ⟨"java/lang/Object", "getClass", "()Ljava/lang/Class;"⟩ ⟨"java/lang/Object", "getClass", "()Ljava/lang/Class;"⟩) (by decide +kernel)) (hts (.instanceMethod ⟨"java/lang/Object", "getClass", "()Ljava/lang/Class;"⟩) (by decide +kernel)) (hts (.native ⟨"java/lang/Object", "getClass", "()Ljava/lang/Class;"⟩) (by decide +kernel)) hL.1 ⟨_, hP 0 _ rfl, rfl, va_nmO (hK.2 0 _ rfl).2 (by decide +kernel)⟩ (Nat.le_of_ble_eq_true rfl) (Nat.le_of_ble_eq_true rfl) dJ7_copyOf_1904c_3 ?_
  have hPc := hP.sub (ws' := [(a, .inl (cE, n, .inr (.inr (.inr (.inr f)))))]) [0] rfl
  have hDc := hD.sub (ws' := [(a, .inl (cE, n, .inr (.inr (.inr (.inr f)))))]) [0] (by decide) rfl
  have hKc := hK.sub (tys' := [(cE, .object "java/lang/Object")]) [0] rfl
  have hFc := va_free (wc := [(a, .inl (cE, n, .inr (.inr (.inr (.inr f)))))]) hD hS hA [0] rfl
  refine va_callr (va_runS (As := [.ref a, .int (nI N), .ref mi]) (rest := []) ⟨hx, hb, hml, hown, hts⟩ (c_l_copyOf3 l dC dI a mi n N cE f s.heap.size hp0 hp1) (va_cwS 3 hts wc_l_copyOf2_l_copyOf3_300 rfl rfl rfl (by decide +kernel) ⟨Nat.le_of_ble_eq_true rfl, Nat.le_of_ble_eq_true rfl⟩) ⟨fun a9 U g9 mk q => by obtain ⟨q0, q1, qP, qK, qD, qN, qL⟩ := q; exact ⟨q0, q1, qP, va_K.moved (u := U) (U := U.calling g9 mk a9) (Vm.Alike.refl U.vm) qK, qD, pw_N.same (u := U) (U := U.calling g9 mk a9) rfl qN, xL.moved (u := U) (U := U.calling g9 mk a9) (Vm.Alike.refl U.vm) qL⟩, fun U hU hW => ⟨rfl, by rw [hU], by rw [hU]; exact hPc, va_K.moved hW.alike hKc, hDc.weaken (fun _ _ _ _ => trivial), pw_N.warm hW hN, by rw [hU]; exact xL.moved hW.alike ((hL.kept (fun a9 h1 h2 => hS.2.1 a9 h1 h2)).narrow hFc)⟩⟩ rfl rfl hl.1 rfl (lv_room (Nat.le_of_ble_eq_true rfl)) dJ7_copyOf_1904c_6 ⟨Nat.le_of_ble_eq_true rfl, Nat.le_of_ble_eq_true rfl⟩) hS (fun q _ h => hFc q h) hFc (fun u r1 t H1 locs ht hvm hw hB hz1 hk1 hS => ?_)
  obtain ⟨cG, g, hg, hP1, hK1, hD1⟩ := hB
  rw [ht] at hP1
  obtain ⟨hP, hD⟩ := va_join (wr := []) (w1 := [(a, .inl (cE, n, .inr (.inr (.inr (.inr f))))), (r1, .inl (cG, N, .inr (.inr (.inr (.inr g)))))]) hP hD [0] [] rfl rfl (by decide) (by decide) hk1 hFc hP1 hD1
  generalize H1 = H at hP hS ⊢
  replace hP : va_P (dC, dI) vwCl [(a, .inl (cE, n, .inr (.inr (.inr (.inr f))))), (r1, .inl (cG, N, .inr (.inr (.inr (.inr g)))))] H := hP
  replace hD : va_D A [(a, .inl (cE, n, .inr (.inr (.inr (.inr f))))), (r1, .inl (cG, N, .inr (.inr (.inr (.inr g)))))] := hD
  exact W.aret hx hb hr (Or.inr ⟨_, rfl⟩) (Or.inr ⟨_, rfl⟩) (fun t ht hW => ⟨⟨(), r1, rfl, trivial, cG, g, hg, by rw [ht]; exact hP, va_K.moved hW.alike (va_K.moved hvm.symm hK1), hD⟩, hS.F ht⟩) hS.2.2 dJ7_copyOf_1904c_9
def wq_l_growI : List Cond := ([.code yJx4a65c_grow_92f84 cJx4a65c_grow_92f84 4 (some (.array (.object "java/lang/Object"))), .fieldLink RJx4a65c 9 "java/util/ArrayList" "elementData" "[Ljava/lang/Object;", .methodLink RJx4a65c 73 yJ8_newLength_cabcc, .static yJ8_newLength_cabcc, .initialized RJ8, .methodLink RJx4a65c 66 yJ7_copyOf_1904c, .static yJ7_copyOf_1904c, .initialized RJ7] : List Cond) ++ (wsJx4a65c0 ++ (wq_l_newLength ++ (wq_l_copyOf2)))
theorem in_l_growI_Jx4a65c : ∀ w ∈ wsJx4a65c0, w ∈ wq_l_growI := fun _ h => List.mem_append_right _ (List.mem_append_left _ (h))
set_option maxRecDepth 20000 in
theorem wi_l_growI : ∀ w ∈ wq_l_growI, w ∈ lw_tbl := List.forall_mem_append.mpr ⟨(wix [399, 102, 400, 401, 73, 410, 411, 75] rfl), List.forall_mem_append.mpr ⟨inKJx4a65c, List.forall_mem_append.mpr ⟨wi_l_newLength, wi_l_copyOf2⟩⟩⟩
set_option maxRecDepth 20000 in
theorem wg_l_growI : GoodIn wq_l_growI wq_l_growI := goodIn_sub (fun _ h => h) (by decide +kernel)
set_option maxRecDepth 20000 in
theorem wc_l_growI_l_newLength_73 : GoodIn wq_l_growI (va_wsS RJx4a65c 73 yJ8_newLength_cabcc wq_l_newLength) := goodIn_app (goodIn_of _ (by decide +kernel)) (fun w h => ⟨List.mem_append_right _ (List.mem_append_right _ (List.mem_append_left _ (h))), (wg_l_newLength w h).2⟩)
set_option maxRecDepth 20000 in
theorem wc_l_growI_l_copyOf2_66 : GoodIn wq_l_growI (va_wsS RJx4a65c 66 yJ7_copyOf_1904c wq_l_copyOf2) := goodIn_app (goodIn_of _ (by decide +kernel)) (fun w h => ⟨List.mem_append_right _ (List.mem_append_right _ (List.mem_append_right _ (h))), (wg_l_copyOf2 w h).2⟩)
set_option maxHeartbeats 4000000 in
set_option maxRecDepth 100000 in
theorem c_l_growI (l : Launch) (dC : Nat → ClassId) (dI : Nat → Nat → Nat) (h0 : Nat) (mc : Int32) (a : Nat) (mi : Nat) (n : Nat) (cE : ClassId) (f : Nat → Option Nat) (sz : Nat) (hp0 : 0 < n) (hp1 : n < 100) : Met l yJx4a65c_grow_92f84 wq_l_growI ({ frames := 3, cells := 1, slots := 200, locals := 84 }) (va_Pc [.ref h0, .int (nI (n + 1))] (fun U => U.heap.size = sz ∧ va_P (dC, dI) vwCl [(h0, .inr (0, [.int mc, .ref a, .int (nI n)])), (a, .inl (cE, n, .inr (.inr (.inr (.inr f)))))] U.heap ∧ va_K (dC, dI) vwCl [(cE, .object "java/lang/Object")] U ∧ va_D (fun _ => True) [(h0, .inr (0, [.int mc, .ref a, .int (nI n)])), (a, .inl (cE, n, .inr (.inr (.inr (.inr f)))))] ∧ pw_N U ∧ xL mi f n (va_A [(h0, .inr (0, [.int mc, .ref a, .int (nI n)])), (a, .inl (cE, n, .inr (.inr (.inr (.inr f)))))] sz) U U.heap)) (va_Qr (fun (_ : Unit) => True) (fun (_ : Unit) (ra : Nat) (t : State) => ∃ (cG : ClassId) (N : Nat) (g : Nat → Option Nat), (n < N ∧ N ≤ n + n / 2 + 1) ∧ (∀ i : Nat, i < n → g i = f i) ∧ va_P (dC, dI) vwCl [(h0, .inr (0, [.int mc, .ref ra, .int (nI n)])), (ra, .inl (cG, N, .inr (.inr (.inr (.inr g)))))] t.heap ∧ va_K (dC, dI) vwCl [(cG, .object "java/lang/Object")] t ∧ va_D (va_A [(h0, .inr (0, [.int mc, .ref a, .int (nI n)])), (a, .inl (cE, n, .inr (.inr (.inr (.inr f)))))] sz) [(h0, .inr (0, [.int mc, .ref ra, .int (nI n)])), (ra, .inl (cG, N, .inr (.inr (.inr (.inr g)))))]) (va_A [(h0, .inr (0, [.int mc, .ref a, .int (nI n)])), (a, .inl (cE, n, .inr (.inr (.inr (.inr f)))))] sz)) 1 200 (va_A [(h0, .inr (0, [.int mc, .ref a, .int (nI n)])), (a, .inl (cE, n, .inr (.inr (.inr (.inr f)))))] sz) := by
  refine Met.ofW (cc := cJx4a65c_grow_92f84) (maxL := 4) (ret := (some (.array (.object "java/lang/Object")))) (by decide) rfl ?_
  intro p e s m args below meth c s₁ B hml hv
  obtain ⟨rfl, hsz, hP, hK, hD0, hN, hL⟩ := hv
  have hx := B.exec
  have hb := B.bytes
  have hr := B.returns
  have hts := atoms_spec (ws := wq_l_growI) B.pre
  have hown : s.vm.findClass RJx4a65c = some m.cls := findClass_of_methodNamed B.named
  have hlocks := B.notSynchronized
  subst hsz
  have hD := hD0.self (sz := s.heap.size)
  generalize hAe : va_A [(h0, .inr (0, [.int mc, .ref a, .int (nI n)])), (a, .inl (cE, n, .inr (.inr (.inr (.inr f)))))] s.heap.size = A at hD hL ⊢
  have hA : ∀ q : Nat, s.heap.size ≤ q → A q := fun q h => by rw [← hAe]; exact Or.inr h
  have hS : va_S A s.heap s.heap [] := va_S.rf
  have hP : va_P (dC, dI) vwCl [(h0, .inr (0, [.int mc, .ref a, .int (nI n)])), (a, .inl (cE, n, .inr (.inr (.inr (.inr f)))))] s.heap := hP
  have hl := lv_entry ([.ref h0, .int (nI (n + 1))]) (n := 4) (Nat.le_of_ble_eq_true rfl)
  rw [lg_entry_eq]
  generalize (lg_sl ([.ref h0, .int (nI (n + 1))]) ++ List.replicate (4 - (lg_sl ([.ref h0, .int (nI (n + 1))])).length) Slot.unset).toArray = ls at hl ⊢
  have hl : lv_has ls 4 [(0, .ref h0), (1, .int (nI (n + 1)))] := hl
  refine lv_aload_n hx hb dJx4a65c_grow_92f84_0 rfl (lv_at hl 0 rfl) ?_
  refine va_get (D := (dC, dI)) (ci := 0) (v := .ref a) (C := RJx4a65c) (T := TJx4a65c) (N := 3) hx hb hts in_l_growI_Jx4a65c hown hK hP 0 rfl rfl 1 (by decide) (hts (.fieldLink RJx4a65c 9 "java/util/ArrayList" "elementData" "[Ljava/lang/Object;") (by decide +kernel)) (fun _ h9 => h9) rfl dJx4a65c_grow_92f84_1 ?_
  refine va_alen (v := nI n) hx hb hK hP 1 0 rfl rfl rfl dJx4a65c_grow_92f84_4 ?_
  refine lv_istore_n (lv' := [(2, .int (nI n)), (0, .ref h0), (1, .int (nI (n + 1)))]) hx hb dJx4a65c_grow_92f84_5 rfl hl (by decide) rfl (fun ls hl => ?_)
  refine lv_iload_n hx hb dJx4a65c_grow_92f84_6 rfl (lv_at hl 0 rfl) ?_
  refine lv_if_gt (tgt := 20) hx hb dJx4a65c_grow_92f84_7 (by decide) (fun _ => ?_) (fun c9 => absurd ((nI_ltI (a := 0) (b := n) (by omega) (by omega)).mpr hp0) c9)
  refine lv_iload_n hx hb dJx4a65c_grow_92f84_20 rfl (lv_at hl 0 rfl) ?_
  refine lv_iload_n hx hb dJx4a65c_grow_92f84_21 rfl (lv_at hl 2 rfl) ?_
  refine lv_iload_n hx hb dJx4a65c_grow_92f84_22 rfl (lv_at hl 0 rfl) ?_
  refine lv_isub hx hb dJx4a65c_grow_92f84_23 ?_
  refine p1_topr (v := .int 1) (congrArg Value.int (by rw [pk_sub (a := n + 1) (b := n) (by omega), Nat.add_sub_cancel_left]; rfl)) ?_
  refine lv_iload_n hx hb dJx4a65c_grow_92f84_24 rfl (lv_at hl 0 rfl) ?_
  refine lv_iconst (v := 1) hx hb dJx4a65c_grow_92f84_25 (by decide) ?_
  refine lv_ishr hx hb dJx4a65c_grow_92f84_26 ?_
  refine p1_topr (v := .int (nI (n / 2))) (congrArg Value.int (pk_shrN (n := n) (by omega) _ 1 (by decide))) ?_
  have hPc := hP.sub (ws' := []) [] rfl
  have hDc := hD.sub (ws' := []) [] (by decide) rfl
  have hKc := hK.sub (tys' := []) [] rfl
  have hFc := va_free (wc := []) hD hS hA [] rfl
  refine va_calli (va_runS (As := [.int (nI n), .int 1, .int (nI (n / 2))]) (rest := []) ⟨hx, hb, hml, hown, hts⟩ (c_l_newLength l dC dI n (n / 2) s.heap.size (by omega) (by omega)) (va_cwS 3 hts wc_l_growI_l_newLength_73 rfl rfl rfl (by decide +kernel) ⟨Nat.le_of_ble_eq_true rfl, Nat.le_of_ble_eq_true rfl⟩) ⟨fun a9 U g9 mk q => by obtain ⟨q0, q1, qP, qK, qD⟩ := q; exact ⟨q0, q1, qP, va_K.moved (u := U) (U := U.calling g9 mk a9) (Vm.Alike.refl U.vm) qK, qD⟩, fun U hU hW => ⟨rfl, by rw [hU], by rw [hU]; exact hPc, va_K.moved hW.alike hKc, hDc.weaken (fun _ _ _ _ => trivial)⟩⟩ rfl rfl hl.1 rfl (lv_room (Nat.le_of_ble_eq_true rfl)) dJx4a65c_grow_92f84_27 ⟨Nat.le_of_ble_eq_true rfl, Nat.le_of_ble_eq_true rfl⟩) hS (fun q _ h => hFc q h) hFc (fun r1 u t H1 locs ht hvm hw hB hz1 hk1 hS => ?_)
  obtain ⟨w, hw1, hw2, rfl⟩ := hw
  have hP1 : va_P (dC, dI) vwCl [] H1 := fun k q h => by simp at h
  have hD1 : va_D (va_A [] s.heap.size) [] := ⟨fun i j p q h => by simp at h, fun k q h => by simp at h⟩
  obtain ⟨hP, hD⟩ := va_join (wr := [(h0, .inr (0, [.int mc, .ref a, .int (nI n)])), (a, .inl (cE, n, .inr (.inr (.inr (.inr f)))))]) (w1 := []) hP hD [] [0, 1] rfl rfl (by decide) (by decide) hk1 hFc hP1 hD1
  generalize H1 = H at hP hS ⊢
  replace hP : va_P (dC, dI) vwCl [(h0, .inr (0, [.int mc, .ref a, .int (nI n)])), (a, .inl (cE, n, .inr (.inr (.inr (.inr f)))))] H := hP
  replace hD : va_D A [(h0, .inr (0, [.int mc, .ref a, .int (nI n)])), (a, .inl (cE, n, .inr (.inr (.inr (.inr f)))))] := hD
  refine lv_istore_n (lv' := [(3, .int (nI (n + w))), (2, .int (nI n)), (0, .ref h0), (1, .int (nI (n + 1)))]) hx hb dJx4a65c_grow_92f84_30 rfl hl (by decide) rfl (fun ls hl => ?_)
  refine lv_aload_n hx hb dJx4a65c_grow_92f84_31 rfl (lv_at hl 2 rfl) ?_
  refine lv_aload_n hx hb dJx4a65c_grow_92f84_32 rfl (lv_at hl 2 rfl) ?_
  refine va_get (D := (dC, dI)) (ci := 0) (v := .ref a) (C := RJx4a65c) (T := TJx4a65c) (N := 3) hx hb hts in_l_growI_Jx4a65c hown hK hP 0 rfl rfl 1 (by decide) (hts (.fieldLink RJx4a65c 9 "java/util/ArrayList" "elementData" "[Ljava/lang/Object;") (by decide +kernel)) (fun _ h9 => h9) rfl dJx4a65c_grow_92f84_33 ?_
  refine lv_iload_n hx hb dJx4a65c_grow_92f84_36 rfl (lv_at hl 0 rfl) ?_
  have hPc := hP.sub (ws' := [(a, .inl (cE, n, .inr (.inr (.inr (.inr f)))))]) [1] rfl
  have hDc := hD.sub (ws' := [(a, .inl (cE, n, .inr (.inr (.inr (.inr f)))))]) [1] (by decide) rfl
  have hKc := hK.sub (tys' := [(cE, .object "java/lang/Object")]) [0] rfl
  have hFc := va_free (wc := [(a, .inl (cE, n, .inr (.inr (.inr (.inr f)))))]) hD hS hA [1] rfl
  refine va_callr (va_runS (As := [.ref a, .int (nI (n + w))]) (rest := [.ref h0]) ⟨hx, hb, hml, hown, hts⟩ (c_l_copyOf2 l dC dI a mi n (n + w) cE f H.size (by omega) (by omega)) (va_cwS 2 hts wc_l_growI_l_copyOf2_66 rfl rfl rfl (by decide +kernel) ⟨Nat.le_of_ble_eq_true rfl, Nat.le_of_ble_eq_true rfl⟩) ⟨fun a9 U g9 mk q => by obtain ⟨q0, q1, qP, qK, qD, qN, qL⟩ := q; exact ⟨q0, q1, qP, va_K.moved (u := U) (U := U.calling g9 mk a9) (Vm.Alike.refl U.vm) qK, qD, pw_N.same (u := U) (U := U.calling g9 mk a9) rfl qN, xL.moved (u := U) (U := U.calling g9 mk a9) (Vm.Alike.refl U.vm) qL⟩, fun U hU hW => ⟨rfl, by rw [hU], by rw [hU]; exact hPc, va_K.moved hW.alike hKc, hDc.weaken (fun _ _ _ _ => trivial), pw_N.warm hW hN, by rw [hU]; exact xL.moved hW.alike ((hL.kept (fun a9 h1 h2 => hS.2.1 a9 h1 h2)).narrow hFc)⟩⟩ rfl rfl hl.1 rfl (lv_room (Nat.le_of_ble_eq_true rfl)) dJx4a65c_grow_92f84_37 ⟨Nat.le_of_ble_eq_true rfl, Nat.le_of_ble_eq_true rfl⟩) hS (fun q _ h => hFc q h) hFc (fun u r2 t H1 locs ht hvm hw hB hz1 hk1 hS => ?_)
  obtain ⟨cG, g, hg, hP1, hK1, hD1⟩ := hB
  rw [ht] at hP1
  obtain ⟨hP, hD⟩ := va_join (wr := [(h0, .inr (0, [.int mc, .ref a, .int (nI n)]))]) (w1 := [(a, .inl (cE, n, .inr (.inr (.inr (.inr f))))), (r2, .inl (cG, (n + w), .inr (.inr (.inr (.inr g)))))]) hP hD [1] [0] rfl rfl (by decide) (by decide) hk1 hFc hP1 hD1
  generalize H1 = H at hP hS ⊢
  replace hP : va_P (dC, dI) vwCl [(h0, .inr (0, [.int mc, .ref a, .int (nI n)])), (a, .inl (cE, n, .inr (.inr (.inr (.inr f))))), (r2, .inl (cG, (n + w), .inr (.inr (.inr (.inr g)))))] H := hP
  replace hD : va_D A [(h0, .inr (0, [.int mc, .ref a, .int (nI n)])), (a, .inl (cE, n, .inr (.inr (.inr (.inr f))))), (r2, .inl (cG, (n + w), .inr (.inr (.inr (.inr g)))))] := hD
  replace hK := hK.app (va_K.moved hvm.symm hK1)
  replace hK : va_K (dC, dI) vwCl [(cE, .object "java/lang/Object"), (cG, .object "java/lang/Object")] s := hK
  refine lv_dup_x1 hx hb dJx4a65c_grow_92f84_40 rfl rfl ?_
  refine va_put (D := (dC, dI)) (ci := 0) (fs := [.int mc, .ref a, .int (nI n)]) (v := .ref r2) (ty := .array (.object "java/lang/Object")) (C := RJx4a65c) (T := TJx4a65c) (N := 3) hx hb hts in_l_growI_Jx4a65c tyJx4a65c tyJx4a65c_ok nmJx4a65c hown hK hP hD hS 0 rfl rfl 1 (by decide) (hts (.fieldLink RJx4a65c 9 "java/util/ArrayList" "elementData" "[Ljava/lang/Object;") (by decide +kernel)) (fun _ h9 => h9) rfl (by decide +kernel) rfl rfl (Nat.le_of_ble_eq_true rfl) dJx4a65c_grow_92f84_41 (fun H locs hP hD hS => ?_)
  replace hP : va_P (dC, dI) vwCl [(h0, .inr (0, [.int mc, .ref r2, .int (nI n)])), (a, .inl (cE, n, .inr (.inr (.inr (.inr f))))), (r2, .inl (cG, (n + w), .inr (.inr (.inr (.inr g)))))] H := hP
  replace hD : va_D A [(h0, .inr (0, [.int mc, .ref r2, .int (nI n)])), (a, .inl (cE, n, .inr (.inr (.inr (.inr f))))), (r2, .inl (cG, (n + w), .inr (.inr (.inr (.inr g)))))] := hD
  have hP9 := hP.sub (ws' := [(h0, .inr (0, [.int mc, .ref r2, .int (nI n)])), (r2, .inl (cG, (n + w), .inr (.inr (.inr (.inr g)))))]) [0, 2] rfl
  have hD9 := hD.sub (ws' := [(h0, .inr (0, [.int mc, .ref r2, .int (nI n)])), (r2, .inl (cG, (n + w), .inr (.inr (.inr (.inr g)))))]) [0, 2] (by decide) rfl
  have hK9 := hK.sub (tys' := [(cG, .object "java/lang/Object")]) [1] rfl
  exact W.aret hx hb hr (Or.inr ⟨_, rfl⟩) (Or.inr ⟨_, rfl⟩) (fun t ht hW => ⟨⟨(), r2, rfl, trivial, cG, n + w, g, ⟨by omega, by omega⟩, hg, by rw [ht]; exact hP9, va_K.moved hW.alike hK9, hD9⟩, hS.F ht⟩) hS.2.2 dJx4a65c_grow_92f84_44
def wq_l_grow : List Cond := ([.code yJx4a65c_grow_d5877 cJx4a65c_grow_d5877 1 (some (.array (.object "java/lang/Object"))), .fieldLink RJx4a65c 48 "java/util/ArrayList" "size" "I", .methodLink RJx4a65c 69 yJx4a65c_grow_92f84, .instanceMethod yJx4a65c_grow_92f84, .selects RJx4a65c yJx4a65c_grow_92f84 yJx4a65c_grow_92f84, .initialized RJx4a65c] : List Cond) ++ (wsJx4a65c0 ++ (wq_l_growI))
theorem in_l_grow_Jx4a65c : ∀ w ∈ wsJx4a65c0, w ∈ wq_l_grow := fun _ h => List.mem_append_right _ (List.mem_append_left _ (h))
set_option maxRecDepth 20000 in
theorem wi_l_grow : ∀ w ∈ wq_l_grow, w ∈ lw_tbl := List.forall_mem_append.mpr ⟨(wix [395, 103, 396, 398, 2, 63] rfl), List.forall_mem_append.mpr ⟨inKJx4a65c, wi_l_growI⟩⟩
set_option maxRecDepth 20000 in
theorem wg_l_grow : GoodIn wq_l_grow wq_l_grow := goodIn_sub (fun _ h => h) (by decide +kernel)
set_option maxRecDepth 20000 in
theorem wc_l_grow_l_growI_69 : GoodIn wq_l_grow (wsV RJx4a65c 69 RJx4a65c yJx4a65c_grow_92f84 wq_l_growI) := goodIn_app (goodIn_of _ (by decide +kernel)) (fun w h => ⟨List.mem_append_right _ (List.mem_append_right _ (h)), (wg_l_growI w h).2⟩)
set_option maxHeartbeats 4000000 in
set_option maxRecDepth 100000 in
theorem c_l_grow (l : Launch) (dC : Nat → ClassId) (dI : Nat → Nat → Nat) (h0 : Nat) (mc : Int32) (a : Nat) (mi : Nat) (n : Nat) (cE : ClassId) (f : Nat → Option Nat) (sz : Nat) (hp0 : 0 < n) (hp1 : n < 100) : Met l yJx4a65c_grow_d5877 wq_l_grow ({ frames := 4, cells := 1, slots := 200, locals := 107 }) (va_Pc [.ref h0] (fun U => U.heap.size = sz ∧ va_P (dC, dI) vwCl [(h0, .inr (0, [.int mc, .ref a, .int (nI n)])), (a, .inl (cE, n, .inr (.inr (.inr (.inr f)))))] U.heap ∧ va_K (dC, dI) vwCl [(cE, .object "java/lang/Object")] U ∧ va_D (fun _ => True) [(h0, .inr (0, [.int mc, .ref a, .int (nI n)])), (a, .inl (cE, n, .inr (.inr (.inr (.inr f)))))] ∧ pw_N U ∧ xL mi f n (va_A [(h0, .inr (0, [.int mc, .ref a, .int (nI n)])), (a, .inl (cE, n, .inr (.inr (.inr (.inr f)))))] sz) U U.heap)) (va_Qr (fun (_ : Unit) => True) (fun (_ : Unit) (ra : Nat) (t : State) => ∃ (cG : ClassId) (N : Nat) (g : Nat → Option Nat), (n < N ∧ N ≤ n + n / 2 + 1) ∧ (∀ i : Nat, i < n → g i = f i) ∧ va_P (dC, dI) vwCl [(h0, .inr (0, [.int mc, .ref ra, .int (nI n)])), (ra, .inl (cG, N, .inr (.inr (.inr (.inr g)))))] t.heap ∧ va_K (dC, dI) vwCl [(cG, .object "java/lang/Object")] t ∧ va_D (va_A [(h0, .inr (0, [.int mc, .ref a, .int (nI n)])), (a, .inl (cE, n, .inr (.inr (.inr (.inr f)))))] sz) [(h0, .inr (0, [.int mc, .ref ra, .int (nI n)])), (ra, .inl (cG, N, .inr (.inr (.inr (.inr g)))))]) (va_A [(h0, .inr (0, [.int mc, .ref a, .int (nI n)])), (a, .inl (cE, n, .inr (.inr (.inr (.inr f)))))] sz)) 1 200 (va_A [(h0, .inr (0, [.int mc, .ref a, .int (nI n)])), (a, .inl (cE, n, .inr (.inr (.inr (.inr f)))))] sz) := by
  refine Met.ofW (cc := cJx4a65c_grow_d5877) (maxL := 1) (ret := (some (.array (.object "java/lang/Object")))) (by decide) rfl ?_
  intro p e s m args below meth c s₁ B hml hv
  obtain ⟨rfl, hsz, hP, hK, hD0, hN, hL⟩ := hv
  have hx := B.exec
  have hb := B.bytes
  have hr := B.returns
  have hts := atoms_spec (ws := wq_l_grow) B.pre
  have hown : s.vm.findClass RJx4a65c = some m.cls := findClass_of_methodNamed B.named
  have hlocks := B.notSynchronized
  subst hsz
  have hD := hD0.self (sz := s.heap.size)
  generalize hAe : va_A [(h0, .inr (0, [.int mc, .ref a, .int (nI n)])), (a, .inl (cE, n, .inr (.inr (.inr (.inr f)))))] s.heap.size = A at hD hL ⊢
  have hA : ∀ q : Nat, s.heap.size ≤ q → A q := fun q h => by rw [← hAe]; exact Or.inr h
  have hS : va_S A s.heap s.heap [] := va_S.rf
  have hP : va_P (dC, dI) vwCl [(h0, .inr (0, [.int mc, .ref a, .int (nI n)])), (a, .inl (cE, n, .inr (.inr (.inr (.inr f)))))] s.heap := hP
  have hl := lv_entry ([.ref h0]) (n := 1) (Nat.le_of_ble_eq_true rfl)
  rw [lg_entry_eq]
  generalize (lg_sl ([.ref h0]) ++ List.replicate (1 - (lg_sl ([.ref h0])).length) Slot.unset).toArray = ls at hl ⊢
  have hl : lv_has ls 1 [(0, .ref h0)] := hl
  refine lv_aload_n hx hb dJx4a65c_grow_d5877_0 rfl (lv_at hl 0 rfl) ?_
  refine lv_aload_n hx hb dJx4a65c_grow_d5877_1 rfl (lv_at hl 0 rfl) ?_
  refine va_get (D := (dC, dI)) (ci := 0) (v := .int (nI n)) (C := RJx4a65c) (T := TJx4a65c) (N := 3) hx hb hts in_l_grow_Jx4a65c hown hK hP 0 rfl rfl 2 (by decide) (hts (.fieldLink RJx4a65c 48 "java/util/ArrayList" "size" "I") (by decide +kernel)) (fun _ h9 => h9) rfl dJx4a65c_grow_d5877_2 ?_
  refine lv_iconst (v := 1) hx hb dJx4a65c_grow_d5877_5 (by decide) ?_
  refine lv_iadd hx hb dJx4a65c_grow_d5877_6 ?_
  refine p1_topr (v := .int (nI (n + 1))) (congrArg Value.int (nI_1 n)) ?_
  have hPc := hP.sub (ws' := [(h0, .inr (0, [.int mc, .ref a, .int (nI n)])), (a, .inl (cE, n, .inr (.inr (.inr (.inr f)))))]) [0, 1] rfl
  have hDc := hD.sub (ws' := [(h0, .inr (0, [.int mc, .ref a, .int (nI n)])), (a, .inl (cE, n, .inr (.inr (.inr (.inr f)))))]) [0, 1] (by decide) rfl
  have hKc := hK.sub (tys' := [(cE, .object "java/lang/Object")]) [0] rfl
  have hFc := va_free (wc := [(h0, .inr (0, [.int mc, .ref a, .int (nI n)])), (a, .inl (cE, n, .inr (.inr (.inr (.inr f)))))]) hD hS hA [0, 1] rfl
  refine va_callr (va_runV (As := [.int (nI (n + 1))]) (rest := []) ⟨hx, hb, hml, hown, hts⟩ (c_l_growI l dC dI h0 mc a mi n cE f s.heap.size hp0 hp1) (cwV 1 hts wc_l_grow_l_growI_69 rfl rfl rfl (by decide +kernel) ⟨Nat.le_of_ble_eq_true rfl, Nat.le_of_ble_eq_true rfl⟩) ⟨fun a9 U g9 mk q => by obtain ⟨q0, q1, qP, qK, qD, qN, qL⟩ := q; exact ⟨q0, q1, qP, va_K.moved (u := U) (U := U.calling g9 mk a9) (Vm.Alike.refl U.vm) qK, qD, pw_N.same (u := U) (U := U.calling g9 mk a9) rfl qN, xL.moved (u := U) (U := U.calling g9 mk a9) (Vm.Alike.refl U.vm) qL⟩, va_recv hKc hPc (ci := 0) (q0 := 0) rfl rfl, fun U hU hW => ⟨rfl, by rw [hU], by rw [hU]; exact hPc, va_K.moved hW.alike hKc, hDc.weaken (fun _ _ _ _ => trivial), pw_N.warm hW hN, by rw [hU]; exact xL.moved hW.alike ((hL.kept (fun a9 h1 h2 => hS.2.1 a9 h1 h2)).narrow hFc)⟩⟩ rfl rfl hl.1 rfl (lv_room (Nat.le_of_ble_eq_true rfl)) dJx4a65c_grow_d5877_7 ⟨Nat.le_of_ble_eq_true rfl, Nat.le_of_ble_eq_true rfl⟩) hS (fun q _ h => hFc q h) hFc (fun u r1 t H1 locs ht hvm hw hB hz1 hk1 hS => ?_)
  obtain ⟨cG, N, g, hN2, hg, hP1, hK1, hD1⟩ := hB
  rw [ht] at hP1
  obtain ⟨hP, hD⟩ := va_join (wr := []) (w1 := [(h0, .inr (0, [.int mc, .ref r1, .int (nI n)])), (r1, .inl (cG, N, .inr (.inr (.inr (.inr g)))))]) hP hD [0, 1] [] rfl rfl (by decide) (by decide) hk1 hFc hP1 hD1
  generalize H1 = H at hP hS ⊢
  replace hP : va_P (dC, dI) vwCl [(h0, .inr (0, [.int mc, .ref r1, .int (nI n)])), (r1, .inl (cG, N, .inr (.inr (.inr (.inr g)))))] H := hP
  replace hD : va_D A [(h0, .inr (0, [.int mc, .ref r1, .int (nI n)])), (r1, .inl (cG, N, .inr (.inr (.inr (.inr g)))))] := hD
  exact W.aret hx hb hr (Or.inr ⟨_, rfl⟩) (Or.inr ⟨_, rfl⟩) (fun t ht hW => ⟨⟨(), r1, rfl, trivial, cG, N, g, hN2, hg, by rw [ht]; exact hP, va_K.moved hW.alike (va_K.moved hvm.symm hK1), hD⟩, hS.F ht⟩) hS.2.2 dJx4a65c_grow_d5877_10
def wq_l_growZI : List Cond := ([.code yJx4a65c_grow_92f84 cJx4a65c_grow_92f84 4 (some (.array (.object "java/lang/Object"))), .fieldLink RJx4a65c 9 "java/util/ArrayList" "elementData" "[Ljava/lang/Object;", .fieldLink RJx4a65c 39 "java/util/ArrayList" "DEFAULTCAPACITY_EMPTY_ELEMENTDATA" "[Ljava/lang/Object;", .methodLink RJx4a65c 79 Lib.Math.max.name, .static Lib.Math.max.name, .initialized "java/lang/Math", .code Lib.Math.max.name Lib.Math.max.code 2 (some .int), .classLink RJx4a65c 7 "java/lang/Object"] : List Cond) ++ (wsJx4a65c0)
theorem in_l_growZI_Jx4a65c : ∀ w ∈ wsJx4a65c0, w ∈ wq_l_growZI := fun _ h => List.mem_append_right _ (h)
set_option maxRecDepth 20000 in
theorem wi_l_growZI : ∀ w ∈ wq_l_growZI, w ∈ lw_tbl := List.forall_mem_append.mpr ⟨(wix [399, 102, 100, 440, 404, 74, 405, 441] rfl), inKJx4a65c⟩
set_option maxRecDepth 20000 in
theorem wg_l_growZI : GoodIn wq_l_growZI wq_l_growZI := goodIn_sub (fun _ h => h) (by decide +kernel)
set_option maxHeartbeats 4000000 in
set_option maxRecDepth 100000 in
theorem c_l_growZI (l : Launch) (dC : Nat → ClassId) (dI : Nat → Nat → Nat) (h0 : Nat) (mc : Int32) (z : Nat) (sz : Nat)  : Met l yJx4a65c_grow_92f84 wq_l_growZI ({ frames := 1, cells := 1, slots := 10, locals := 24 }) (va_Pc [.ref h0, .int 1] (fun U => U.heap.size = sz ∧ va_P (dC, dI) vwCl [(h0, .inr (0, [.int mc, .ref z, .int 0]))] U.heap ∧ va_K (dC, dI) vwCl [] U ∧ va_D (fun _ => True) [(h0, .inr (0, [.int mc, .ref z, .int 0]))] ∧ pw_N U ∧ va_Z "java/util/ArrayList" "DEFAULTCAPACITY_EMPTY_ELEMENTDATA" "[Ljava/lang/Object;" (.ref z) (va_A [(h0, .inr (0, [.int mc, .ref z, .int 0]))] sz) U U.heap ∧ va_T (.object "java/lang/Object") z 0 (fun _ => .null) (va_A [(h0, .inr (0, [.int mc, .ref z, .int 0]))] sz) U U.heap ∧ va_AO "java/lang/Object" U)) (va_Qr (fun (_ : Unit) => True) (fun (_ : Unit) (ra : Nat) (t : State) => ∃ (cG : ClassId), va_P (dC, dI) vwCl [(h0, .inr (0, [.int mc, .ref ra, .int 0])), (ra, .inl (cG, 10, .inr (.inr (.inr (.inr (fun _ => none))))))] t.heap ∧ va_K (dC, dI) vwCl [(cG, .object "java/lang/Object")] t ∧ va_D (va_A [(h0, .inr (0, [.int mc, .ref z, .int 0]))] sz) [(h0, .inr (0, [.int mc, .ref ra, .int 0])), (ra, .inl (cG, 10, .inr (.inr (.inr (.inr (fun _ => none))))))]) (va_A [(h0, .inr (0, [.int mc, .ref z, .int 0]))] sz)) 1 10 (va_A [(h0, .inr (0, [.int mc, .ref z, .int 0]))] sz) := by
  refine Met.ofW (cc := cJx4a65c_grow_92f84) (maxL := 4) (ret := (some (.array (.object "java/lang/Object")))) (by decide) rfl ?_
  intro p e s m args below meth c s₁ B hml hv
  obtain ⟨rfl, hsz, hP, hK, hD0, hN, hZ, hT, hO⟩ := hv
  have hx := B.exec
  have hb := B.bytes
  have hr := B.returns
  have hts := atoms_spec (ws := wq_l_growZI) B.pre
  have hown : s.vm.findClass RJx4a65c = some m.cls := findClass_of_methodNamed B.named
  have hlocks := B.notSynchronized
  subst hsz
  have hD := hD0.self (sz := s.heap.size)
  generalize hAe : va_A [(h0, .inr (0, [.int mc, .ref z, .int 0]))] s.heap.size = A at hD hZ hT ⊢
  have hA : ∀ q : Nat, s.heap.size ≤ q → A q := fun q h => by rw [← hAe]; exact Or.inr h
  have hS : va_S A s.heap s.heap [] := va_S.rf
  have hP : va_P (dC, dI) vwCl [(h0, .inr (0, [.int mc, .ref z, .int 0]))] s.heap := hP
  have hl := lv_entry ([.ref h0, .int 1]) (n := 4) (Nat.le_of_ble_eq_true rfl)
  rw [lg_entry_eq]
  generalize (lg_sl ([.ref h0, .int 1]) ++ List.replicate (4 - (lg_sl ([.ref h0, .int 1])).length) Slot.unset).toArray = ls at hl ⊢
  have hl : lv_has ls 4 [(0, .ref h0), (1, .int 1)] := hl
  refine lv_aload_n hx hb dJx4a65c_grow_92f84_0 rfl (lv_at hl 0 rfl) ?_
  refine va_get (D := (dC, dI)) (ci := 0) (v := .ref z) (C := RJx4a65c) (T := TJx4a65c) (N := 3) hx hb hts in_l_growZI_Jx4a65c hown hK hP 0 rfl rfl 1 (by decide) (hts (.fieldLink RJx4a65c 9 "java/util/ArrayList" "elementData" "[Ljava/lang/Object;") (by decide +kernel)) (fun _ h9 => h9) rfl dJx4a65c_grow_92f84_1 ?_
  refine va_tlen (v := 0) hx hb hT hS rfl dJx4a65c_grow_92f84_4 ?_
  refine lv_istore_n (lv' := [(2, .int 0), (0, .ref h0), (1, .int 1)]) hx hb dJx4a65c_grow_92f84_5 rfl hl (by decide) rfl (fun ls hl => ?_)
  refine lv_iload_n hx hb dJx4a65c_grow_92f84_6 rfl (lv_at hl 0 rfl) ?_
  refine lv_if_gt (tgt := 20) hx hb dJx4a65c_grow_92f84_7 (by decide) (fun c9 => absurd c9 (by decide)) (fun _ => ?_)
  refine lv_aload_n hx hb dJx4a65c_grow_92f84_10 rfl (lv_at hl 1 rfl) ?_
  refine va_get (D := (dC, dI)) (ci := 0) (v := .ref z) (C := RJx4a65c) (T := TJx4a65c) (N := 3) hx hb hts in_l_growZI_Jx4a65c hown hK hP 0 rfl rfl 1 (by decide) (hts (.fieldLink RJx4a65c 9 "java/util/ArrayList" "elementData" "[Ljava/lang/Object;") (by decide +kernel)) (fun _ h9 => h9) rfl dJx4a65c_grow_92f84_11 ?_
  refine va_gets hx hb hZ hS hown (hts (.fieldLink RJx4a65c 39 "java/util/ArrayList" "DEFAULTCAPACITY_EMPTY_ELEMENTDATA" "[Ljava/lang/Object;") (by decide +kernel)) (fun _ h9 => h9) dJx4a65c_grow_92f84_14 ?_
  refine lv_acmp_eq (rx := some z) (ry := some z) (tgt := 45) hx hb dJx4a65c_grow_92f84_17 (by decide) (fun _ => ?_) (fun c9 => absurd rfl c9)
  refine lv_aload_n hx hb dJx4a65c_grow_92f84_45 rfl (lv_at hl 1 rfl) ?_
  refine lv_bipush (v := 10) hx hb dJx4a65c_grow_92f84_46 (by decide) ?_
  refine lv_iload_n hx hb dJx4a65c_grow_92f84_48 rfl (lv_at hl 2 rfl) ?_
  refine va_mmax hx hb (by rw [hml]; exact hl.1.symm) hown (hts (.methodLink RJx4a65c 79 Lib.Math.max.name) (by decide +kernel)) (hts (.static Lib.Math.max.name) (by decide +kernel)) (hts (.initialized "java/lang/Math") (by decide +kernel)) (hts (.code Lib.Math.max.name Lib.Math.max.code 2 (some .int)) (by decide +kernel)) (Nat.le_of_ble_eq_true rfl) (Nat.le_of_ble_eq_true rfl) (Nat.le_of_ble_eq_true rfl) (Nat.le_of_ble_eq_true rfl) dJx4a65c_grow_92f84_49 ?_
  refine p1_topr (v := .int 10) (congrArg Value.int (by decide)) ?_
  refine va_newq (C := "java/lang/Object") (N' := 10) hx hb hown (hts (.classLink RJx4a65c 7 "java/lang/Object") (by decide +kernel)) hO hK hP hD hS hA (by decide) (by decide) (by decide) (Nat.le_of_ble_eq_true rfl) (Nat.le_of_ble_eq_true rfl) dJx4a65c_grow_92f84_52 (fun q cG H hK hP hD hS => ?_)
  replace hP : va_P (dC, dI) vwCl [(h0, .inr (0, [.int mc, .ref z, .int 0])), (q, .inl (cG, 10, .inr (.inr (.inr (.inr (fun _ => none))))))] H := hP
  replace hD : va_D A [(h0, .inr (0, [.int mc, .ref z, .int 0])), (q, .inl (cG, 10, .inr (.inr (.inr (.inr (fun _ => none))))))] := hD
  replace hK : va_K (dC, dI) vwCl [(cG, .object "java/lang/Object")] s := hK
  refine W.widen (k := 1) (n := 10) (by omega) (by omega) ?_
  refine lv_dup_x1 hx hb dJx4a65c_grow_92f84_55 rfl rfl ?_
  refine va_put (D := (dC, dI)) (ci := 0) (fs := [.int mc, .ref z, .int 0]) (v := .ref q) (ty := .array (.object "java/lang/Object")) (C := RJx4a65c) (T := TJx4a65c) (N := 3) hx hb hts in_l_growZI_Jx4a65c tyJx4a65c tyJx4a65c_ok nmJx4a65c hown hK hP hD hS 0 rfl rfl 1 (by decide) (hts (.fieldLink RJx4a65c 9 "java/util/ArrayList" "elementData" "[Ljava/lang/Object;") (by decide +kernel)) (fun _ h9 => h9) rfl (by decide +kernel) rfl rfl (Nat.le_of_ble_eq_true rfl) dJx4a65c_grow_92f84_56 (fun H locs hP hD hS => ?_)
  replace hP : va_P (dC, dI) vwCl [(h0, .inr (0, [.int mc, .ref q, .int 0])), (q, .inl (cG, 10, .inr (.inr (.inr (.inr (fun _ => none))))))] H := hP
  replace hD : va_D A [(h0, .inr (0, [.int mc, .ref q, .int 0])), (q, .inl (cG, 10, .inr (.inr (.inr (.inr (fun _ => none))))))] := hD
  exact W.aret hx hb hr (Or.inr ⟨_, rfl⟩) (Or.inr ⟨_, rfl⟩) (fun t ht hW => ⟨⟨(), q, rfl, trivial, cG, by rw [ht]; exact hP, va_K.moved hW.alike hK, hD⟩, hS.F ht⟩) hS.2.2 dJx4a65c_grow_92f84_59
def wq_l_growZ : List Cond := ([.code yJx4a65c_grow_d5877 cJx4a65c_grow_d5877 1 (some (.array (.object "java/lang/Object"))), .fieldLink RJx4a65c 48 "java/util/ArrayList" "size" "I", .methodLink RJx4a65c 69 yJx4a65c_grow_92f84, .instanceMethod yJx4a65c_grow_92f84, .selects RJx4a65c yJx4a65c_grow_92f84 yJx4a65c_grow_92f84, .initialized RJx4a65c] : List Cond) ++ (wsJx4a65c0 ++ (wq_l_growZI))
theorem in_l_growZ_Jx4a65c : ∀ w ∈ wsJx4a65c0, w ∈ wq_l_growZ := fun _ h => List.mem_append_right _ (List.mem_append_left _ (h))
set_option maxRecDepth 20000 in
theorem wi_l_growZ : ∀ w ∈ wq_l_growZ, w ∈ lw_tbl := List.forall_mem_append.mpr ⟨(wix [395, 103, 396, 398, 2, 63] rfl), List.forall_mem_append.mpr ⟨inKJx4a65c, wi_l_growZI⟩⟩
set_option maxRecDepth 20000 in
theorem wg_l_growZ : GoodIn wq_l_growZ wq_l_growZ := goodIn_sub (fun _ h => h) (by decide +kernel)
set_option maxRecDepth 20000 in
theorem wc_l_growZ_l_growZI_69 : GoodIn wq_l_growZ (wsV RJx4a65c 69 RJx4a65c yJx4a65c_grow_92f84 wq_l_growZI) := goodIn_app (goodIn_of _ (by decide +kernel)) (fun w h => ⟨List.mem_append_right _ (List.mem_append_right _ (h)), (wg_l_growZI w h).2⟩)
set_option maxHeartbeats 4000000 in
set_option maxRecDepth 100000 in
theorem c_l_growZ (l : Launch) (dC : Nat → ClassId) (dI : Nat → Nat → Nat) (h0 : Nat) (mc : Int32) (z : Nat) (sz : Nat)  : Met l yJx4a65c_grow_d5877 wq_l_growZ ({ frames := 2, cells := 1, slots := 10, locals := 47 }) (va_Pc [.ref h0] (fun U => U.heap.size = sz ∧ va_P (dC, dI) vwCl [(h0, .inr (0, [.int mc, .ref z, .int 0]))] U.heap ∧ va_K (dC, dI) vwCl [] U ∧ va_D (fun _ => True) [(h0, .inr (0, [.int mc, .ref z, .int 0]))] ∧ pw_N U ∧ va_Z "java/util/ArrayList" "DEFAULTCAPACITY_EMPTY_ELEMENTDATA" "[Ljava/lang/Object;" (.ref z) (va_A [(h0, .inr (0, [.int mc, .ref z, .int 0]))] sz) U U.heap ∧ va_T (.object "java/lang/Object") z 0 (fun _ => .null) (va_A [(h0, .inr (0, [.int mc, .ref z, .int 0]))] sz) U U.heap ∧ va_AO "java/lang/Object" U)) (va_Qr (fun (_ : Unit) => True) (fun (_ : Unit) (ra : Nat) (t : State) => ∃ (cG : ClassId), va_P (dC, dI) vwCl [(h0, .inr (0, [.int mc, .ref ra, .int 0])), (ra, .inl (cG, 10, .inr (.inr (.inr (.inr (fun _ => none))))))] t.heap ∧ va_K (dC, dI) vwCl [(cG, .object "java/lang/Object")] t ∧ va_D (va_A [(h0, .inr (0, [.int mc, .ref z, .int 0]))] sz) [(h0, .inr (0, [.int mc, .ref ra, .int 0])), (ra, .inl (cG, 10, .inr (.inr (.inr (.inr (fun _ => none))))))]) (va_A [(h0, .inr (0, [.int mc, .ref z, .int 0]))] sz)) 1 10 (va_A [(h0, .inr (0, [.int mc, .ref z, .int 0]))] sz) := by
  refine Met.ofW (cc := cJx4a65c_grow_d5877) (maxL := 1) (ret := (some (.array (.object "java/lang/Object")))) (by decide) rfl ?_
  intro p e s m args below meth c s₁ B hml hv
  obtain ⟨rfl, hsz, hP, hK, hD0, hN, hZ, hT, hO⟩ := hv
  have hx := B.exec
  have hb := B.bytes
  have hr := B.returns
  have hts := atoms_spec (ws := wq_l_growZ) B.pre
  have hown : s.vm.findClass RJx4a65c = some m.cls := findClass_of_methodNamed B.named
  have hlocks := B.notSynchronized
  subst hsz
  have hD := hD0.self (sz := s.heap.size)
  generalize hAe : va_A [(h0, .inr (0, [.int mc, .ref z, .int 0]))] s.heap.size = A at hD hZ hT ⊢
  have hA : ∀ q : Nat, s.heap.size ≤ q → A q := fun q h => by rw [← hAe]; exact Or.inr h
  have hS : va_S A s.heap s.heap [] := va_S.rf
  have hP : va_P (dC, dI) vwCl [(h0, .inr (0, [.int mc, .ref z, .int 0]))] s.heap := hP
  have hl := lv_entry ([.ref h0]) (n := 1) (Nat.le_of_ble_eq_true rfl)
  rw [lg_entry_eq]
  generalize (lg_sl ([.ref h0]) ++ List.replicate (1 - (lg_sl ([.ref h0])).length) Slot.unset).toArray = ls at hl ⊢
  have hl : lv_has ls 1 [(0, .ref h0)] := hl
  refine lv_aload_n hx hb dJx4a65c_grow_d5877_0 rfl (lv_at hl 0 rfl) ?_
  refine lv_aload_n hx hb dJx4a65c_grow_d5877_1 rfl (lv_at hl 0 rfl) ?_
  refine va_get (D := (dC, dI)) (ci := 0) (v := .int 0) (C := RJx4a65c) (T := TJx4a65c) (N := 3) hx hb hts in_l_growZ_Jx4a65c hown hK hP 0 rfl rfl 2 (by decide) (hts (.fieldLink RJx4a65c 48 "java/util/ArrayList" "size" "I") (by decide +kernel)) (fun _ h9 => h9) rfl dJx4a65c_grow_d5877_2 ?_
  refine lv_iconst (v := 1) hx hb dJx4a65c_grow_d5877_5 (by decide) ?_
  refine lv_iadd hx hb dJx4a65c_grow_d5877_6 ?_
  refine p1_topr (v := .int 1) (congrArg Value.int (by decide)) ?_
  have hPc := hP.sub (ws' := [(h0, .inr (0, [.int mc, .ref z, .int 0]))]) [0] rfl
  have hDc := hD.sub (ws' := [(h0, .inr (0, [.int mc, .ref z, .int 0]))]) [0] (by decide) rfl
  have hKc := hK.sub (tys' := []) [] rfl
  have hFc := va_free (wc := [(h0, .inr (0, [.int mc, .ref z, .int 0]))]) hD hS hA [0] rfl
  refine va_callr (va_runV (As := [.int 1]) (rest := []) ⟨hx, hb, hml, hown, hts⟩ (c_l_growZI l dC dI h0 mc z s.heap.size) (cwV 1 hts wc_l_growZ_l_growZI_69 rfl rfl rfl (by decide +kernel) ⟨Nat.le_of_ble_eq_true rfl, Nat.le_of_ble_eq_true rfl⟩) ⟨fun a9 U g9 mk q => by obtain ⟨q0, q1, qP, qK, qD, qN, qZ, qT, qO⟩ := q; exact ⟨q0, q1, qP, va_K.moved (u := U) (U := U.calling g9 mk a9) (Vm.Alike.refl U.vm) qK, qD, pw_N.same (u := U) (U := U.calling g9 mk a9) rfl qN, va_Z.moved (u := U) (U := U.calling g9 mk a9) (Vm.Alike.refl U.vm) qZ, va_T.moved (u := U) (U := U.calling g9 mk a9) (Vm.Alike.refl U.vm) qT, va_AO.moved (u := U) (U := U.calling g9 mk a9) (Vm.Alike.refl U.vm) qO⟩, va_recv hKc hPc (ci := 0) (q0 := 0) rfl rfl, fun U hU hW => ⟨rfl, by rw [hU], by rw [hU]; exact hPc, va_K.moved hW.alike hKc, hDc.weaken (fun _ _ _ _ => trivial), pw_N.warm hW hN, by rw [hU]; exact va_Z.moved hW.alike ((hZ.kept (fun a9 h1 h2 => hS.2.1 a9 h1 h2)).narrow hFc), by rw [hU]; exact va_T.moved hW.alike ((hT.kept (fun a9 h1 h2 => hS.2.1 a9 h1 h2)).narrow hFc), va_AO.moved hW.alike hO⟩⟩ rfl rfl hl.1 rfl (lv_room (Nat.le_of_ble_eq_true rfl)) dJx4a65c_grow_d5877_7 ⟨Nat.le_of_ble_eq_true rfl, Nat.le_of_ble_eq_true rfl⟩) hS (fun q _ h => hFc q h) hFc (fun u r1 t H1 locs ht hvm hw hB hz1 hk1 hS => ?_)
  obtain ⟨cG, hP1, hK1, hD1⟩ := hB
  rw [ht] at hP1
  obtain ⟨hP, hD⟩ := va_join (wr := []) (w1 := [(h0, .inr (0, [.int mc, .ref r1, .int 0])), (r1, .inl (cG, 10, .inr (.inr (.inr (.inr (fun _ => none))))))]) hP hD [0] [] rfl rfl (by decide) (by decide) hk1 hFc hP1 hD1
  generalize H1 = H at hP hS ⊢
  replace hP : va_P (dC, dI) vwCl [(h0, .inr (0, [.int mc, .ref r1, .int 0])), (r1, .inl (cG, 10, .inr (.inr (.inr (.inr (fun _ => none))))))] H := hP
  replace hD : va_D A [(h0, .inr (0, [.int mc, .ref r1, .int 0])), (r1, .inl (cG, 10, .inr (.inr (.inr (.inr (fun _ => none))))))] := hD
  exact W.aret hx hb hr (Or.inr ⟨_, rfl⟩) (Or.inr ⟨_, rfl⟩) (fun t ht hW => ⟨⟨(), r1, rfl, trivial, cG, by rw [ht]; exact hP, va_K.moved hW.alike (va_K.moved hvm.symm hK1), hD⟩, hS.F ht⟩) hS.2.2 dJx4a65c_grow_d5877_10
def wq_l_add3A : List Cond := ([.code yJx4a65c_add_72be8 cJx4a65c_add_72be8 4 none, .fieldLink RJx4a65c 48 "java/util/ArrayList" "size" "I"] : List Cond) ++ (wsJx4a65c0)
theorem in_l_add3A_Jx4a65c : ∀ w ∈ wsJx4a65c0, w ∈ wq_l_add3A := fun _ h => List.mem_append_right _ (h)
set_option maxRecDepth 20000 in
theorem wi_l_add3A : ∀ w ∈ wq_l_add3A, w ∈ lw_tbl := List.forall_mem_append.mpr ⟨(wix [391, 103] rfl), inKJx4a65c⟩
set_option maxRecDepth 20000 in
theorem wg_l_add3A : GoodIn wq_l_add3A wq_l_add3A := goodIn_sub (fun _ h => h) (by decide +kernel)
set_option maxHeartbeats 4000000 in
set_option maxRecDepth 100000 in
theorem c_l_add3A (l : Launch) (dC : Nat → ClassId) (dI : Nat → Nat → Nat) (h0 : Nat) (mc : Int32) (a : Nat) (n : Nat) (M : Nat) (cE : ClassId) (f : Nat → Option Nat) (h1 : Nat) (vs : List Value) (sz : Nat) (hp0 : n < M) (hp1 : M < 100) : Met l yJx4a65c_add_72be8 wq_l_add3A ({ frames := 0, cells := 0, slots := 0, locals := 0 }) (va_Pc [.ref h0, .ref h1, .ref a, .int (nI n)] (fun U => U.heap.size = sz ∧ va_P (dC, dI) vwCl [(h0, .inr (0, [.int mc, .ref a, .int (nI n)])), (a, .inl (cE, M, .inr (.inr (.inr (.inr f))))), (h1, .inr (8, vs))] U.heap ∧ va_K (dC, dI) vwCl [(cE, .object "java/lang/Object")] U ∧ va_D (fun _ => True) [(h0, .inr (0, [.int mc, .ref a, .int (nI n)])), (a, .inl (cE, M, .inr (.inr (.inr (.inr f))))), (h1, .inr (8, vs))] ∧ pw_N U)) (va_Qv (fun (_ : Unit) => True) (fun (_ : Unit) (t : State) => ∃ (e1 : Nat) (cG : ClassId) (N : Nat) (g : Nat → Option Nat), (n < N ∧ N < 100) ∧ ((∀ i : Nat, i < n → g i = f i) ∧ g n = some h1) ∧ va_P (dC, dI) vwCl [(h0, .inr (0, [.int mc, .ref e1, .int (nI (n + 1))])), (e1, .inl (cG, N, .inr (.inr (.inr (.inr g))))), (h1, .inr (8, vs))] t.heap ∧ va_K (dC, dI) vwCl [(cG, .object "java/lang/Object")] t ∧ va_D (va_A [(h0, .inr (0, [.int mc, .ref a, .int (nI n)])), (a, .inl (cE, M, .inr (.inr (.inr (.inr f))))), (h1, .inr (8, vs))] sz) [(h0, .inr (0, [.int mc, .ref e1, .int (nI (n + 1))])), (e1, .inl (cG, N, .inr (.inr (.inr (.inr g))))), (h1, .inr (8, vs))]) (va_A [(h0, .inr (0, [.int mc, .ref a, .int (nI n)])), (a, .inl (cE, M, .inr (.inr (.inr (.inr f))))), (h1, .inr (8, vs))] sz)) 0 0 (va_A [(h0, .inr (0, [.int mc, .ref a, .int (nI n)])), (a, .inl (cE, M, .inr (.inr (.inr (.inr f))))), (h1, .inr (8, vs))] sz) := by
  refine Met.ofW (cc := cJx4a65c_add_72be8) (maxL := 4) (ret := none) (by decide) rfl ?_
  intro p e s m args below meth c s₁ B hml hv
  obtain ⟨rfl, hsz, hP, hK, hD0, hN⟩ := hv
  have hx := B.exec
  have hb := B.bytes
  have hr := B.returns
  have hts := atoms_spec (ws := wq_l_add3A) B.pre
  have hown : s.vm.findClass RJx4a65c = some m.cls := findClass_of_methodNamed B.named
  have hlocks := B.notSynchronized
  subst hsz
  have hD := hD0.self (sz := s.heap.size)
  generalize hAe : va_A [(h0, .inr (0, [.int mc, .ref a, .int (nI n)])), (a, .inl (cE, M, .inr (.inr (.inr (.inr f))))), (h1, .inr (8, vs))] s.heap.size = A at hD ⊢
  have hA : ∀ q : Nat, s.heap.size ≤ q → A q := fun q h => by rw [← hAe]; exact Or.inr h
  have hS : va_S A s.heap s.heap [] := va_S.rf
  have hP : va_P (dC, dI) vwCl [(h0, .inr (0, [.int mc, .ref a, .int (nI n)])), (a, .inl (cE, M, .inr (.inr (.inr (.inr f))))), (h1, .inr (8, vs))] s.heap := hP
  have hl := lv_entry ([.ref h0, .ref h1, .ref a, .int (nI n)]) (n := 4) (Nat.le_of_ble_eq_true rfl)
  rw [lg_entry_eq]
  generalize (lg_sl ([.ref h0, .ref h1, .ref a, .int (nI n)]) ++ List.replicate (4 - (lg_sl ([.ref h0, .ref h1, .ref a, .int (nI n)])).length) Slot.unset).toArray = ls at hl ⊢
  have hl : lv_has ls 4 [(0, .ref h0), (1, .ref h1), (2, .ref a), (3, .int (nI n))] := hl
  refine lv_iload_n hx hb dJx4a65c_add_72be8_0 rfl (lv_at hl 3 rfl) ?_
  refine lv_aload_n hx hb dJx4a65c_add_72be8_1 rfl (lv_at hl 2 rfl) ?_
  refine va_alen (v := nI M) hx hb hK hP 1 0 rfl rfl rfl dJx4a65c_add_72be8_2 ?_
  refine lv_icmp_ne (tgt := 11) hx hb dJx4a65c_add_72be8_3 (by decide) (fun _ => ?_) (fun c9 => absurd ((nI_eq (a := n) (b := M) (by omega) (by omega)).mp c9) (by omega))
  refine lv_aload_n hx hb dJx4a65c_add_72be8_11 rfl (lv_at hl 2 rfl) ?_
  refine lv_iload_n hx hb dJx4a65c_add_72be8_12 rfl (lv_at hl 3 rfl) ?_
  refine lv_aload_n hx hb dJx4a65c_add_72be8_13 rfl (lv_at hl 1 rfl) ?_
  have hca := hN (.castable RX7 "java/lang/Object") (by decide +kernel)
  refine va_astqO (E := "java/lang/Object") (r := (RX7, TX7, 12)) (ci := 8) (qk := 2) (n := M) (f := f) (i := (nI n)) hx hb hK hP hD hS 1 0 rfl rfl hca rfl rfl (vp_in_nI (n := n) (by omega) (by omega)) dJx4a65c_add_72be8_14 (fun H locs hP hD hS => ?_)
  replace hP : va_P (dC, dI) vwCl [(h0, .inr (0, [.int mc, .ref a, .int (nI n)])), (a, .inl (cE, M, .inr (.inr (.inr (.inr (va_up f (nI n).toNatClampNeg (some h1))))))), (h1, .inr (8, vs))] H := hP
  replace hD : va_D A [(h0, .inr (0, [.int mc, .ref a, .int (nI n)])), (a, .inl (cE, M, .inr (.inr (.inr (.inr (va_up f (nI n).toNatClampNeg (some h1))))))), (h1, .inr (8, vs))] := hD
  have hg2 : (∀ i : Nat, i < n → (va_up f (nI n).toNatClampNeg (some h1)) i = f i) ∧ (va_up f (nI n).toNatClampNeg (some h1)) n = some h1 := ⟨fun i hi => by rw [nI_clamp (show n < 2 ^ 31 by omega), va_up_ne _ _ (by omega)] <;> exact (fun _ _ => rfl : ∀ i : Nat, i < n → f i = f i) i hi, by rw [nI_clamp (show n < 2 ^ 31 by omega)]; exact va_up_self _ _ _⟩
  generalize (va_up f (nI n).toNatClampNeg (some h1)) = g2 at hP hD hg2
  refine lv_aload_n hx hb dJx4a65c_add_72be8_15 rfl (lv_at hl 0 rfl) ?_
  refine lv_iload_n hx hb dJx4a65c_add_72be8_16 rfl (lv_at hl 3 rfl) ?_
  refine lv_iconst (v := 1) hx hb dJx4a65c_add_72be8_17 (by decide) ?_
  refine lv_iadd hx hb dJx4a65c_add_72be8_18 ?_
  refine p1_topr (v := .int (nI (n + 1))) (congrArg Value.int (nI_1 n)) ?_
  refine va_put (D := (dC, dI)) (ci := 0) (fs := [.int mc, .ref a, .int (nI n)]) (v := .int (nI (n + 1))) (ty := .int) (C := RJx4a65c) (T := TJx4a65c) (N := 3) hx hb hts in_l_add3A_Jx4a65c tyJx4a65c tyJx4a65c_ok nmJx4a65c hown hK hP hD hS 0 rfl rfl 2 (by decide) (hts (.fieldLink RJx4a65c 48 "java/util/ArrayList" "size" "I") (by decide +kernel)) (fun _ h9 => h9) rfl (by decide +kernel) rfl rfl (Nat.le_of_ble_eq_true rfl) dJx4a65c_add_72be8_19 (fun H locs hP hD hS => ?_)
  replace hP : va_P (dC, dI) vwCl [(h0, .inr (0, [.int mc, .ref a, .int (nI (n + 1))])), (a, .inl (cE, M, .inr (.inr (.inr (.inr g2))))), (h1, .inr (8, vs))] H := hP
  replace hD : va_D A [(h0, .inr (0, [.int mc, .ref a, .int (nI (n + 1))])), (a, .inl (cE, M, .inr (.inr (.inr (.inr g2))))), (h1, .inr (8, vs))] := hD
  have hK9 := hK.sub (tys' := [(cE, .object "java/lang/Object")]) [0] rfl
  exact W.vret hx hb hr (fun t ht hW => ⟨⟨(), rfl, trivial, a, cE, M, g2, ⟨hp0, hp1⟩, hg2, by rw [ht]; exact hP, va_K.moved hW.alike hK9, hD⟩, hS.F ht⟩) hS.2.2 dJx4a65c_add_72be8_22
def wq_l_add3B : List Cond := ([.code yJx4a65c_add_72be8 cJx4a65c_add_72be8 4 none, .fieldLink RJx4a65c 48 "java/util/ArrayList" "size" "I", .methodLink RJx4a65c 129 yJx4a65c_grow_d5877, .instanceMethod yJx4a65c_grow_d5877, .selects RJx4a65c yJx4a65c_grow_d5877 yJx4a65c_grow_d5877, .initialized RJx4a65c] : List Cond) ++ (wsJx4a65c0 ++ (wq_l_grow))
theorem in_l_add3B_Jx4a65c : ∀ w ∈ wsJx4a65c0, w ∈ wq_l_add3B := fun _ h => List.mem_append_right _ (List.mem_append_left _ (h))
set_option maxRecDepth 20000 in
theorem wi_l_add3B : ∀ w ∈ wq_l_add3B, w ∈ lw_tbl := List.forall_mem_append.mpr ⟨(wix [391, 103, 392, 394, 1, 63] rfl), List.forall_mem_append.mpr ⟨inKJx4a65c, wi_l_grow⟩⟩
set_option maxRecDepth 20000 in
theorem wg_l_add3B : GoodIn wq_l_add3B wq_l_add3B := goodIn_sub (fun _ h => h) (by decide +kernel)
set_option maxRecDepth 20000 in
theorem wc_l_add3B_l_grow_129 : GoodIn wq_l_add3B (wsV RJx4a65c 129 RJx4a65c yJx4a65c_grow_d5877 wq_l_grow) := goodIn_app (goodIn_of _ (by decide +kernel)) (fun w h => ⟨List.mem_append_right _ (List.mem_append_right _ (h)), (wg_l_grow w h).2⟩)
set_option maxHeartbeats 4000000 in
set_option maxRecDepth 100000 in
theorem c_l_add3B (l : Launch) (dC : Nat → ClassId) (dI : Nat → Nat → Nat) (h0 : Nat) (mc : Int32) (a : Nat) (mi : Nat) (n : Nat) (cE : ClassId) (f : Nat → Option Nat) (h1 : Nat) (vs : List Value) (sz : Nat) (hp0 : 0 < n) (hp1 : n < 60) : Met l yJx4a65c_add_72be8 wq_l_add3B ({ frames := 5, cells := 1, slots := 200, locals := 127 }) (va_Pc [.ref h0, .ref h1, .ref a, .int (nI n)] (fun U => U.heap.size = sz ∧ va_P (dC, dI) vwCl [(h0, .inr (0, [.int mc, .ref a, .int (nI n)])), (a, .inl (cE, n, .inr (.inr (.inr (.inr f))))), (h1, .inr (8, vs))] U.heap ∧ va_K (dC, dI) vwCl [(cE, .object "java/lang/Object")] U ∧ va_D (fun _ => True) [(h0, .inr (0, [.int mc, .ref a, .int (nI n)])), (a, .inl (cE, n, .inr (.inr (.inr (.inr f))))), (h1, .inr (8, vs))] ∧ pw_N U ∧ xL mi f n (va_A [(h0, .inr (0, [.int mc, .ref a, .int (nI n)])), (a, .inl (cE, n, .inr (.inr (.inr (.inr f))))), (h1, .inr (8, vs))] sz) U U.heap)) (va_Qv (fun (_ : Unit) => True) (fun (_ : Unit) (t : State) => ∃ (e1 : Nat) (cG : ClassId) (N : Nat) (g : Nat → Option Nat), (n < N ∧ N < 100) ∧ ((∀ i : Nat, i < n → g i = f i) ∧ g n = some h1) ∧ va_P (dC, dI) vwCl [(h0, .inr (0, [.int mc, .ref e1, .int (nI (n + 1))])), (e1, .inl (cG, N, .inr (.inr (.inr (.inr g))))), (h1, .inr (8, vs))] t.heap ∧ va_K (dC, dI) vwCl [(cG, .object "java/lang/Object")] t ∧ va_D (va_A [(h0, .inr (0, [.int mc, .ref a, .int (nI n)])), (a, .inl (cE, n, .inr (.inr (.inr (.inr f))))), (h1, .inr (8, vs))] sz) [(h0, .inr (0, [.int mc, .ref e1, .int (nI (n + 1))])), (e1, .inl (cG, N, .inr (.inr (.inr (.inr g))))), (h1, .inr (8, vs))]) (va_A [(h0, .inr (0, [.int mc, .ref a, .int (nI n)])), (a, .inl (cE, n, .inr (.inr (.inr (.inr f))))), (h1, .inr (8, vs))] sz)) 1 200 (va_A [(h0, .inr (0, [.int mc, .ref a, .int (nI n)])), (a, .inl (cE, n, .inr (.inr (.inr (.inr f))))), (h1, .inr (8, vs))] sz) := by
  refine Met.ofW (cc := cJx4a65c_add_72be8) (maxL := 4) (ret := none) (by decide) rfl ?_
  intro p e s m args below meth c s₁ B hml hv
  obtain ⟨rfl, hsz, hP, hK, hD0, hN, hL⟩ := hv
  have hx := B.exec
  have hb := B.bytes
  have hr := B.returns
  have hts := atoms_spec (ws := wq_l_add3B) B.pre
  have hown : s.vm.findClass RJx4a65c = some m.cls := findClass_of_methodNamed B.named
  have hlocks := B.notSynchronized
  subst hsz
  have hD := hD0.self (sz := s.heap.size)
  generalize hAe : va_A [(h0, .inr (0, [.int mc, .ref a, .int (nI n)])), (a, .inl (cE, n, .inr (.inr (.inr (.inr f))))), (h1, .inr (8, vs))] s.heap.size = A at hD hL ⊢
  have hA : ∀ q : Nat, s.heap.size ≤ q → A q := fun q h => by rw [← hAe]; exact Or.inr h
  have hS : va_S A s.heap s.heap [] := va_S.rf
  have hP : va_P (dC, dI) vwCl [(h0, .inr (0, [.int mc, .ref a, .int (nI n)])), (a, .inl (cE, n, .inr (.inr (.inr (.inr f))))), (h1, .inr (8, vs))] s.heap := hP
  have hl := lv_entry ([.ref h0, .ref h1, .ref a, .int (nI n)]) (n := 4) (Nat.le_of_ble_eq_true rfl)
  rw [lg_entry_eq]
  generalize (lg_sl ([.ref h0, .ref h1, .ref a, .int (nI n)]) ++ List.replicate (4 - (lg_sl ([.ref h0, .ref h1, .ref a, .int (nI n)])).length) Slot.unset).toArray = ls at hl ⊢
  have hl : lv_has ls 4 [(0, .ref h0), (1, .ref h1), (2, .ref a), (3, .int (nI n))] := hl
  refine lv_iload_n hx hb dJx4a65c_add_72be8_0 rfl (lv_at hl 3 rfl) ?_
  refine lv_aload_n hx hb dJx4a65c_add_72be8_1 rfl (lv_at hl 2 rfl) ?_
  refine va_alen (v := nI n) hx hb hK hP 1 0 rfl rfl rfl dJx4a65c_add_72be8_2 ?_
  refine lv_icmp_ne (tgt := 11) hx hb dJx4a65c_add_72be8_3 (by decide) (fun c9 => absurd rfl c9) (fun _ => ?_)
  refine lv_aload_n hx hb dJx4a65c_add_72be8_6 rfl (lv_at hl 0 rfl) ?_
  have hPc := hP.sub (ws' := [(h0, .inr (0, [.int mc, .ref a, .int (nI n)])), (a, .inl (cE, n, .inr (.inr (.inr (.inr f)))))]) [0, 1] rfl
  have hDc := hD.sub (ws' := [(h0, .inr (0, [.int mc, .ref a, .int (nI n)])), (a, .inl (cE, n, .inr (.inr (.inr (.inr f)))))]) [0, 1] (by decide) rfl
  have hKc := hK.sub (tys' := [(cE, .object "java/lang/Object")]) [0] rfl
  have hFc := va_free (wc := [(h0, .inr (0, [.int mc, .ref a, .int (nI n)])), (a, .inl (cE, n, .inr (.inr (.inr (.inr f)))))]) hD hS hA [0, 1] rfl
  refine va_callr (va_runV (As := []) (rest := []) ⟨hx, hb, hml, hown, hts⟩ (c_l_grow l dC dI h0 mc a mi n cE f s.heap.size hp0 (by omega)) (cwV 0 hts wc_l_add3B_l_grow_129 rfl rfl rfl (by decide +kernel) ⟨Nat.le_of_ble_eq_true rfl, Nat.le_of_ble_eq_true rfl⟩) ⟨fun a9 U g9 mk q => by obtain ⟨q0, q1, qP, qK, qD, qN, qL⟩ := q; exact ⟨q0, q1, qP, va_K.moved (u := U) (U := U.calling g9 mk a9) (Vm.Alike.refl U.vm) qK, qD, pw_N.same (u := U) (U := U.calling g9 mk a9) rfl qN, xL.moved (u := U) (U := U.calling g9 mk a9) (Vm.Alike.refl U.vm) qL⟩, va_recv hKc hPc (ci := 0) (q0 := 0) rfl rfl, fun U hU hW => ⟨rfl, by rw [hU], by rw [hU]; exact hPc, va_K.moved hW.alike hKc, hDc.weaken (fun _ _ _ _ => trivial), pw_N.warm hW hN, by rw [hU]; exact xL.moved hW.alike ((hL.kept (fun a9 h1 h2 => hS.2.1 a9 h1 h2)).narrow hFc)⟩⟩ rfl rfl hl.1 rfl (lv_room (Nat.le_of_ble_eq_true rfl)) dJx4a65c_add_72be8_7 ⟨Nat.le_of_ble_eq_true rfl, Nat.le_of_ble_eq_true rfl⟩) hS (fun q _ h => hFc q h) hFc (fun u r1 t H1 locs ht hvm hw hB hz1 hk1 hS => ?_)
  obtain ⟨cG, N, g, hN2, hg, hP1, hK1, hD1⟩ := hB
  rw [ht] at hP1
  obtain ⟨hP, hD⟩ := va_join (wr := [(h1, .inr (8, vs))]) (w1 := [(h0, .inr (0, [.int mc, .ref r1, .int (nI n)])), (r1, .inl (cG, N, .inr (.inr (.inr (.inr g)))))]) hP hD [0, 1] [2] rfl rfl (by decide) (by decide) hk1 hFc hP1 hD1
  generalize H1 = H at hP hS ⊢
  replace hP := hP.sub (ws' := [(h0, .inr (0, [.int mc, .ref r1, .int (nI n)])), (r1, .inl (cG, N, .inr (.inr (.inr (.inr g))))), (h1, .inr (8, vs))]) [1, 2, 0] rfl
  replace hD := hD.sub (ws' := [(h0, .inr (0, [.int mc, .ref r1, .int (nI n)])), (r1, .inl (cG, N, .inr (.inr (.inr (.inr g))))), (h1, .inr (8, vs))]) [1, 2, 0] (by decide) rfl
  replace hK := hK.app (va_K.moved hvm.symm hK1)
  replace hK : va_K (dC, dI) vwCl [(cE, .object "java/lang/Object"), (cG, .object "java/lang/Object")] s := hK
  refine lv_astore_n (lv' := [(2, .ref r1), (0, .ref h0), (1, .ref h1), (3, .int (nI n))]) hx hb dJx4a65c_add_72be8_10 rfl hl (by decide) rfl (fun ls hl => ?_)
  refine lv_aload_n hx hb dJx4a65c_add_72be8_11 rfl (lv_at hl 0 rfl) ?_
  refine lv_iload_n hx hb dJx4a65c_add_72be8_12 rfl (lv_at hl 3 rfl) ?_
  refine lv_aload_n hx hb dJx4a65c_add_72be8_13 rfl (lv_at hl 2 rfl) ?_
  have hca := hN (.castable RX7 "java/lang/Object") (by decide +kernel)
  refine va_astqO (E := "java/lang/Object") (r := (RX7, TX7, 12)) (ci := 8) (qk := 2) (n := N) (f := g) (i := (nI n)) hx hb hK hP hD hS 1 1 rfl rfl hca rfl rfl (vp_in_nI (n := n) (by omega) (by omega)) dJx4a65c_add_72be8_14 (fun H locs hP hD hS => ?_)
  replace hP : va_P (dC, dI) vwCl [(h0, .inr (0, [.int mc, .ref r1, .int (nI n)])), (r1, .inl (cG, N, .inr (.inr (.inr (.inr (va_up g (nI n).toNatClampNeg (some h1))))))), (h1, .inr (8, vs))] H := hP
  replace hD : va_D A [(h0, .inr (0, [.int mc, .ref r1, .int (nI n)])), (r1, .inl (cG, N, .inr (.inr (.inr (.inr (va_up g (nI n).toNatClampNeg (some h1))))))), (h1, .inr (8, vs))] := hD
  have hg2 : (∀ i : Nat, i < n → (va_up g (nI n).toNatClampNeg (some h1)) i = f i) ∧ (va_up g (nI n).toNatClampNeg (some h1)) n = some h1 := ⟨fun i hi => by rw [nI_clamp (show n < 2 ^ 31 by omega), va_up_ne _ _ (by omega)] <;> exact hg i hi, by rw [nI_clamp (show n < 2 ^ 31 by omega)]; exact va_up_self _ _ _⟩
  generalize (va_up g (nI n).toNatClampNeg (some h1)) = g2 at hP hD hg2
  refine lv_aload_n hx hb dJx4a65c_add_72be8_15 rfl (lv_at hl 1 rfl) ?_
  refine lv_iload_n hx hb dJx4a65c_add_72be8_16 rfl (lv_at hl 3 rfl) ?_
  refine lv_iconst (v := 1) hx hb dJx4a65c_add_72be8_17 (by decide) ?_
  refine lv_iadd hx hb dJx4a65c_add_72be8_18 ?_
  refine p1_topr (v := .int (nI (n + 1))) (congrArg Value.int (nI_1 n)) ?_
  refine va_put (D := (dC, dI)) (ci := 0) (fs := [.int mc, .ref r1, .int (nI n)]) (v := .int (nI (n + 1))) (ty := .int) (C := RJx4a65c) (T := TJx4a65c) (N := 3) hx hb hts in_l_add3B_Jx4a65c tyJx4a65c tyJx4a65c_ok nmJx4a65c hown hK hP hD hS 0 rfl rfl 2 (by decide) (hts (.fieldLink RJx4a65c 48 "java/util/ArrayList" "size" "I") (by decide +kernel)) (fun _ h9 => h9) rfl (by decide +kernel) rfl rfl (Nat.le_of_ble_eq_true rfl) dJx4a65c_add_72be8_19 (fun H locs hP hD hS => ?_)
  replace hP : va_P (dC, dI) vwCl [(h0, .inr (0, [.int mc, .ref r1, .int (nI (n + 1))])), (r1, .inl (cG, N, .inr (.inr (.inr (.inr g2))))), (h1, .inr (8, vs))] H := hP
  replace hD : va_D A [(h0, .inr (0, [.int mc, .ref r1, .int (nI (n + 1))])), (r1, .inl (cG, N, .inr (.inr (.inr (.inr g2))))), (h1, .inr (8, vs))] := hD
  have hK9 := hK.sub (tys' := [(cG, .object "java/lang/Object")]) [1] rfl
  exact W.vret hx hb hr (fun t ht hW => ⟨⟨(), rfl, trivial, r1, cG, N, g2, ⟨hN2.1, by omega⟩, hg2, by rw [ht]; exact hP, va_K.moved hW.alike hK9, hD⟩, hS.F ht⟩) hS.2.2 dJx4a65c_add_72be8_22
def wq_l_add3C : List Cond := ([.code yJx4a65c_add_72be8 cJx4a65c_add_72be8 4 none, .fieldLink RJx4a65c 48 "java/util/ArrayList" "size" "I", .methodLink RJx4a65c 129 yJx4a65c_grow_d5877, .instanceMethod yJx4a65c_grow_d5877, .selects RJx4a65c yJx4a65c_grow_d5877 yJx4a65c_grow_d5877, .initialized RJx4a65c] : List Cond) ++ (wsJx4a65c0 ++ (wq_l_growZ))
theorem in_l_add3C_Jx4a65c : ∀ w ∈ wsJx4a65c0, w ∈ wq_l_add3C := fun _ h => List.mem_append_right _ (List.mem_append_left _ (h))
set_option maxRecDepth 20000 in
theorem wi_l_add3C : ∀ w ∈ wq_l_add3C, w ∈ lw_tbl := List.forall_mem_append.mpr ⟨(wix [391, 103, 392, 394, 1, 63] rfl), List.forall_mem_append.mpr ⟨inKJx4a65c, wi_l_growZ⟩⟩
set_option maxRecDepth 20000 in
theorem wg_l_add3C : GoodIn wq_l_add3C wq_l_add3C := goodIn_sub (fun _ h => h) (by decide +kernel)
set_option maxRecDepth 20000 in
theorem wc_l_add3C_l_growZ_129 : GoodIn wq_l_add3C (wsV RJx4a65c 129 RJx4a65c yJx4a65c_grow_d5877 wq_l_growZ) := goodIn_app (goodIn_of _ (by decide +kernel)) (fun w h => ⟨List.mem_append_right _ (List.mem_append_right _ (h)), (wg_l_growZ w h).2⟩)
set_option maxHeartbeats 4000000 in
set_option maxRecDepth 100000 in
theorem c_l_add3C (l : Launch) (dC : Nat → ClassId) (dI : Nat → Nat → Nat) (h0 : Nat) (mc : Int32) (z : Nat) (f : Nat → Option Nat) (h1 : Nat) (vs : List Value) (sz : Nat)  : Met l yJx4a65c_add_72be8 wq_l_add3C ({ frames := 3, cells := 1, slots := 10, locals := 67 }) (va_Pc [.ref h0, .ref h1, .ref z, .int 0] (fun U => U.heap.size = sz ∧ va_P (dC, dI) vwCl [(h0, .inr (0, [.int mc, .ref z, .int 0])), (h1, .inr (8, vs))] U.heap ∧ va_K (dC, dI) vwCl [] U ∧ va_D (fun _ => True) [(h0, .inr (0, [.int mc, .ref z, .int 0])), (h1, .inr (8, vs))] ∧ pw_N U ∧ va_Z "java/util/ArrayList" "DEFAULTCAPACITY_EMPTY_ELEMENTDATA" "[Ljava/lang/Object;" (.ref z) (va_A [(h0, .inr (0, [.int mc, .ref z, .int 0])), (h1, .inr (8, vs))] sz) U U.heap ∧ va_T (.object "java/lang/Object") z 0 (fun _ => .null) (va_A [(h0, .inr (0, [.int mc, .ref z, .int 0])), (h1, .inr (8, vs))] sz) U U.heap ∧ va_AO "java/lang/Object" U)) (va_Qv (fun (_ : Unit) => True) (fun (_ : Unit) (t : State) => ∃ (e1 : Nat) (cG : ClassId) (N : Nat) (g : Nat → Option Nat), (0 < N ∧ N < 100) ∧ ((∀ i : Nat, i < 0 → g i = f i) ∧ g 0 = some h1) ∧ va_P (dC, dI) vwCl [(h0, .inr (0, [.int mc, .ref e1, .int (nI (0 + 1))])), (e1, .inl (cG, N, .inr (.inr (.inr (.inr g))))), (h1, .inr (8, vs))] t.heap ∧ va_K (dC, dI) vwCl [(cG, .object "java/lang/Object")] t ∧ va_D (va_A [(h0, .inr (0, [.int mc, .ref z, .int 0])), (h1, .inr (8, vs))] sz) [(h0, .inr (0, [.int mc, .ref e1, .int (nI (0 + 1))])), (e1, .inl (cG, N, .inr (.inr (.inr (.inr g))))), (h1, .inr (8, vs))]) (va_A [(h0, .inr (0, [.int mc, .ref z, .int 0])), (h1, .inr (8, vs))] sz)) 1 10 (va_A [(h0, .inr (0, [.int mc, .ref z, .int 0])), (h1, .inr (8, vs))] sz) := by
  refine Met.ofW (cc := cJx4a65c_add_72be8) (maxL := 4) (ret := none) (by decide) rfl ?_
  intro p e s m args below meth c s₁ B hml hv
  obtain ⟨rfl, hsz, hP, hK, hD0, hN, hZ, hT, hO⟩ := hv
  have hx := B.exec
  have hb := B.bytes
  have hr := B.returns
  have hts := atoms_spec (ws := wq_l_add3C) B.pre
  have hown : s.vm.findClass RJx4a65c = some m.cls := findClass_of_methodNamed B.named
  have hlocks := B.notSynchronized
  subst hsz
  have hD := hD0.self (sz := s.heap.size)
  generalize hAe : va_A [(h0, .inr (0, [.int mc, .ref z, .int 0])), (h1, .inr (8, vs))] s.heap.size = A at hD hZ hT ⊢
  have hA : ∀ q : Nat, s.heap.size ≤ q → A q := fun q h => by rw [← hAe]; exact Or.inr h
  have hS : va_S A s.heap s.heap [] := va_S.rf
  have hP : va_P (dC, dI) vwCl [(h0, .inr (0, [.int mc, .ref z, .int 0])), (h1, .inr (8, vs))] s.heap := hP
  have hl := lv_entry ([.ref h0, .ref h1, .ref z, .int 0]) (n := 4) (Nat.le_of_ble_eq_true rfl)
  rw [lg_entry_eq]
  generalize (lg_sl ([.ref h0, .ref h1, .ref z, .int 0]) ++ List.replicate (4 - (lg_sl ([.ref h0, .ref h1, .ref z, .int 0])).length) Slot.unset).toArray = ls at hl ⊢
  have hl : lv_has ls 4 [(0, .ref h0), (1, .ref h1), (2, .ref z), (3, .int 0)] := hl
  refine lv_iload_n hx hb dJx4a65c_add_72be8_0 rfl (lv_at hl 3 rfl) ?_
  refine lv_aload_n hx hb dJx4a65c_add_72be8_1 rfl (lv_at hl 2 rfl) ?_
  refine va_tlen (v := 0) hx hb hT hS rfl dJx4a65c_add_72be8_2 ?_
  refine lv_icmp_ne (tgt := 11) hx hb dJx4a65c_add_72be8_3 (by decide) (fun c9 => absurd rfl c9) (fun _ => ?_)
  refine lv_aload_n hx hb dJx4a65c_add_72be8_6 rfl (lv_at hl 0 rfl) ?_
  have hPc := hP.sub (ws' := [(h0, .inr (0, [.int mc, .ref z, .int 0]))]) [0] rfl
  have hDc := hD.sub (ws' := [(h0, .inr (0, [.int mc, .ref z, .int 0]))]) [0] (by decide) rfl
  have hKc := hK.sub (tys' := []) [] rfl
  have hFc := va_free (wc := [(h0, .inr (0, [.int mc, .ref z, .int 0]))]) hD hS hA [0] rfl
  refine va_callr (va_runV (As := []) (rest := []) ⟨hx, hb, hml, hown, hts⟩ (c_l_growZ l dC dI h0 mc z s.heap.size) (cwV 0 hts wc_l_add3C_l_growZ_129 rfl rfl rfl (by decide +kernel) ⟨Nat.le_of_ble_eq_true rfl, Nat.le_of_ble_eq_true rfl⟩) ⟨fun a9 U g9 mk q => by obtain ⟨q0, q1, qP, qK, qD, qN, qZ, qT, qO⟩ := q; exact ⟨q0, q1, qP, va_K.moved (u := U) (U := U.calling g9 mk a9) (Vm.Alike.refl U.vm) qK, qD, pw_N.same (u := U) (U := U.calling g9 mk a9) rfl qN, va_Z.moved (u := U) (U := U.calling g9 mk a9) (Vm.Alike.refl U.vm) qZ, va_T.moved (u := U) (U := U.calling g9 mk a9) (Vm.Alike.refl U.vm) qT, va_AO.moved (u := U) (U := U.calling g9 mk a9) (Vm.Alike.refl U.vm) qO⟩, va_recv hKc hPc (ci := 0) (q0 := 0) rfl rfl, fun U hU hW => ⟨rfl, by rw [hU], by rw [hU]; exact hPc, va_K.moved hW.alike hKc, hDc.weaken (fun _ _ _ _ => trivial), pw_N.warm hW hN, by rw [hU]; exact va_Z.moved hW.alike ((hZ.kept (fun a9 h1 h2 => hS.2.1 a9 h1 h2)).narrow hFc), by rw [hU]; exact va_T.moved hW.alike ((hT.kept (fun a9 h1 h2 => hS.2.1 a9 h1 h2)).narrow hFc), va_AO.moved hW.alike hO⟩⟩ rfl rfl hl.1 rfl (lv_room (Nat.le_of_ble_eq_true rfl)) dJx4a65c_add_72be8_7 ⟨Nat.le_of_ble_eq_true rfl, Nat.le_of_ble_eq_true rfl⟩) hS (fun q _ h => hFc q h) hFc (fun u r1 t H1 locs ht hvm hw hB hz1 hk1 hS => ?_)
  obtain ⟨cG, hP1, hK1, hD1⟩ := hB
  rw [ht] at hP1
  obtain ⟨hP, hD⟩ := va_join (wr := [(h1, .inr (8, vs))]) (w1 := [(h0, .inr (0, [.int mc, .ref r1, .int 0])), (r1, .inl (cG, 10, .inr (.inr (.inr (.inr (fun _ => none))))))]) hP hD [0] [1] rfl rfl (by decide) (by decide) hk1 hFc hP1 hD1
  generalize H1 = H at hP hS ⊢
  replace hP := hP.sub (ws' := [(h0, .inr (0, [.int mc, .ref r1, .int 0])), (r1, .inl (cG, 10, .inr (.inr (.inr (.inr (fun _ => none)))))), (h1, .inr (8, vs))]) [1, 2, 0] rfl
  replace hD := hD.sub (ws' := [(h0, .inr (0, [.int mc, .ref r1, .int 0])), (r1, .inl (cG, 10, .inr (.inr (.inr (.inr (fun _ => none)))))), (h1, .inr (8, vs))]) [1, 2, 0] (by decide) rfl
  replace hK := hK.app (va_K.moved hvm.symm hK1)
  replace hK : va_K (dC, dI) vwCl [(cG, .object "java/lang/Object")] s := hK
  refine lv_astore_n (lv' := [(2, .ref r1), (0, .ref h0), (1, .ref h1), (3, .int 0)]) hx hb dJx4a65c_add_72be8_10 rfl hl (by decide) rfl (fun ls hl => ?_)
  refine lv_aload_n hx hb dJx4a65c_add_72be8_11 rfl (lv_at hl 0 rfl) ?_
  refine lv_iload_n hx hb dJx4a65c_add_72be8_12 rfl (lv_at hl 3 rfl) ?_
  refine lv_aload_n hx hb dJx4a65c_add_72be8_13 rfl (lv_at hl 2 rfl) ?_
  have hca := hN (.castable RX7 "java/lang/Object") (by decide +kernel)
  refine va_astqO (E := "java/lang/Object") (r := (RX7, TX7, 12)) (ci := 8) (qk := 2) (n := 10) (f := (fun _ => none)) (i := 0) hx hb hK hP hD hS 1 0 rfl rfl hca rfl rfl (vp_in_nI (n := 0) (by omega) (by omega)) dJx4a65c_add_72be8_14 (fun H locs hP hD hS => ?_)
  replace hP : va_P (dC, dI) vwCl [(h0, .inr (0, [.int mc, .ref r1, .int 0])), (r1, .inl (cG, 10, .inr (.inr (.inr (.inr (va_up (fun _ => none) (0 : Int32).toNatClampNeg (some h1))))))), (h1, .inr (8, vs))] H := hP
  replace hD : va_D A [(h0, .inr (0, [.int mc, .ref r1, .int 0])), (r1, .inl (cG, 10, .inr (.inr (.inr (.inr (va_up (fun _ => none) (0 : Int32).toNatClampNeg (some h1))))))), (h1, .inr (8, vs))] := hD
  have hg2 : (∀ i : Nat, i < 0 → (va_up (fun _ => none) (0 : Int32).toNatClampNeg (some h1)) i = f i) ∧ (va_up (fun _ => none) (0 : Int32).toNatClampNeg (some h1)) 0 = some h1 := ⟨fun i hi => by rw [xl_0, va_up_ne _ _ (by omega)] <;> exact (fun i hi => absurd hi (by omega) : ∀ i : Nat, i < 0 → (fun _ => none : Nat → Option Nat) i = f i) i hi, by rw [xl_0]; exact va_up_self _ _ _⟩
  generalize (va_up (fun _ => none) (0 : Int32).toNatClampNeg (some h1)) = g2 at hP hD hg2
  refine lv_aload_n hx hb dJx4a65c_add_72be8_15 rfl (lv_at hl 1 rfl) ?_
  refine lv_iload_n hx hb dJx4a65c_add_72be8_16 rfl (lv_at hl 3 rfl) ?_
  refine lv_iconst (v := 1) hx hb dJx4a65c_add_72be8_17 (by decide) ?_
  refine lv_iadd hx hb dJx4a65c_add_72be8_18 ?_
  refine p1_topr (v := .int (nI (0 + 1))) (congrArg Value.int (by decide)) ?_
  refine va_put (D := (dC, dI)) (ci := 0) (fs := [.int mc, .ref r1, .int 0]) (v := .int (nI (0 + 1))) (ty := .int) (C := RJx4a65c) (T := TJx4a65c) (N := 3) hx hb hts in_l_add3C_Jx4a65c tyJx4a65c tyJx4a65c_ok nmJx4a65c hown hK hP hD hS 0 rfl rfl 2 (by decide) (hts (.fieldLink RJx4a65c 48 "java/util/ArrayList" "size" "I") (by decide +kernel)) (fun _ h9 => h9) rfl (by decide +kernel) rfl rfl (Nat.le_of_ble_eq_true rfl) dJx4a65c_add_72be8_19 (fun H locs hP hD hS => ?_)
  replace hP : va_P (dC, dI) vwCl [(h0, .inr (0, [.int mc, .ref r1, .int (nI (0 + 1))])), (r1, .inl (cG, 10, .inr (.inr (.inr (.inr g2))))), (h1, .inr (8, vs))] H := hP
  replace hD : va_D A [(h0, .inr (0, [.int mc, .ref r1, .int (nI (0 + 1))])), (r1, .inl (cG, 10, .inr (.inr (.inr (.inr g2))))), (h1, .inr (8, vs))] := hD
  have hK9 := hK.sub (tys' := [(cG, .object "java/lang/Object")]) [0] rfl
  exact W.vret hx hb hr (fun t ht hW => ⟨⟨(), rfl, trivial, r1, cG, 10, g2, ⟨by omega, by omega⟩, hg2, by rw [ht]; exact hP, va_K.moved hW.alike hK9, hD⟩, hS.F ht⟩) hS.2.2 dJx4a65c_add_72be8_22
def wq_l_addA : List Cond := ([.code yJx4a65c_add_9ea2d cJx4a65c_add_9ea2d 2 (some .boolean), .fieldLink RJx4a65c 63 "java/util/ArrayList" "modCount" "I", .sameField "java/util/ArrayList" "java/util/AbstractList" "modCount" "I", .fieldLink RJx4a65c 9 "java/util/ArrayList" "elementData" "[Ljava/lang/Object;", .fieldLink RJx4a65c 48 "java/util/ArrayList" "size" "I", .methodLink RJx4a65c 131 yJx4a65c_add_72be8, .instanceMethod yJx4a65c_add_72be8, .selects RJx4a65c yJx4a65c_add_72be8 yJx4a65c_add_72be8, .initialized RJx4a65c] : List Cond) ++ (wsJx4a65c0 ++ (wq_l_add3A))
theorem in_l_addA_Jx4a65c : ∀ w ∈ wsJx4a65c0, w ∈ wq_l_addA := fun _ h => List.mem_append_right _ (List.mem_append_left _ (h))
set_option maxRecDepth 20000 in
theorem wi_l_addA : ∀ w ∈ wq_l_addA, w ∈ lw_tbl := List.forall_mem_append.mpr ⟨(wix [387, 105, 106, 102, 103, 388, 390, 0, 63] rfl), List.forall_mem_append.mpr ⟨inKJx4a65c, wi_l_add3A⟩⟩
set_option maxRecDepth 20000 in
theorem wg_l_addA : GoodIn wq_l_addA wq_l_addA := goodIn_sub (fun _ h => h) (by decide +kernel)
set_option maxRecDepth 20000 in
theorem wc_l_addA_l_add3A_131 : GoodIn wq_l_addA (wsV RJx4a65c 131 RJx4a65c yJx4a65c_add_72be8 wq_l_add3A) := goodIn_app (goodIn_of _ (by decide +kernel)) (fun w h => ⟨List.mem_append_right _ (List.mem_append_right _ (h)), (wg_l_add3A w h).2⟩)
set_option maxHeartbeats 4000000 in
set_option maxRecDepth 100000 in
theorem c_l_addA (l : Launch) (dC : Nat → ClassId) (dI : Nat → Nat → Nat) (h0 : Nat) (mc : Int32) (a : Nat) (n : Nat) (M : Nat) (cE : ClassId) (f : Nat → Option Nat) (h1 : Nat) (vs : List Value) (sz : Nat) (hp0 : n < M) (hp1 : M < 100) : Met l yJx4a65c_add_9ea2d wq_l_addA ({ frames := 1, cells := 0, slots := 0, locals := 23 }) (va_Pc [.ref h0, .ref h1] (fun U => U.heap.size = sz ∧ va_P (dC, dI) vwCl [(h0, .inr (0, [.int mc, .ref a, .int (nI n)])), (a, .inl (cE, M, .inr (.inr (.inr (.inr f))))), (h1, .inr (8, vs))] U.heap ∧ va_K (dC, dI) vwCl [(cE, .object "java/lang/Object")] U ∧ va_D (fun _ => True) [(h0, .inr (0, [.int mc, .ref a, .int (nI n)])), (a, .inl (cE, M, .inr (.inr (.inr (.inr f))))), (h1, .inr (8, vs))] ∧ pw_N U)) (va_Qi (fun (r : Int32) (_ : Unit) => r = 1) (fun (_ : Unit) (t : State) => ∃ (e1 : Nat) (cG : ClassId) (N : Nat) (g : Nat → Option Nat), (n < N ∧ N < 100) ∧ ((∀ i : Nat, i < n → g i = f i) ∧ g n = some h1) ∧ va_P (dC, dI) vwCl [(h0, .inr (0, [.int (mc + 1), .ref e1, .int (nI (n + 1))])), (e1, .inl (cG, N, .inr (.inr (.inr (.inr g))))), (h1, .inr (8, vs))] t.heap ∧ va_K (dC, dI) vwCl [(cG, .object "java/lang/Object")] t ∧ va_D (va_A [(h0, .inr (0, [.int mc, .ref a, .int (nI n)])), (a, .inl (cE, M, .inr (.inr (.inr (.inr f))))), (h1, .inr (8, vs))] sz) [(h0, .inr (0, [.int (mc + 1), .ref e1, .int (nI (n + 1))])), (e1, .inl (cG, N, .inr (.inr (.inr (.inr g))))), (h1, .inr (8, vs))]) (va_A [(h0, .inr (0, [.int mc, .ref a, .int (nI n)])), (a, .inl (cE, M, .inr (.inr (.inr (.inr f))))), (h1, .inr (8, vs))] sz)) 0 0 (va_A [(h0, .inr (0, [.int mc, .ref a, .int (nI n)])), (a, .inl (cE, M, .inr (.inr (.inr (.inr f))))), (h1, .inr (8, vs))] sz) := by
  refine Met.ofW (cc := cJx4a65c_add_9ea2d) (maxL := 2) (ret := (some .boolean)) (by decide) rfl ?_
  intro p e s m args below meth c s₁ B hml hv
  obtain ⟨rfl, hsz, hP, hK, hD0, hN⟩ := hv
  have hx := B.exec
  have hb := B.bytes
  have hr := B.returns
  have hts := atoms_spec (ws := wq_l_addA) B.pre
  have hown : s.vm.findClass RJx4a65c = some m.cls := findClass_of_methodNamed B.named
  have hlocks := B.notSynchronized
  subst hsz
  have hD := hD0.self (sz := s.heap.size)
  generalize hAe : va_A [(h0, .inr (0, [.int mc, .ref a, .int (nI n)])), (a, .inl (cE, M, .inr (.inr (.inr (.inr f))))), (h1, .inr (8, vs))] s.heap.size = A at hD ⊢
  have hA : ∀ q : Nat, s.heap.size ≤ q → A q := fun q h => by rw [← hAe]; exact Or.inr h
  have hS : va_S A s.heap s.heap [] := va_S.rf
  have hP : va_P (dC, dI) vwCl [(h0, .inr (0, [.int mc, .ref a, .int (nI n)])), (a, .inl (cE, M, .inr (.inr (.inr (.inr f))))), (h1, .inr (8, vs))] s.heap := hP
  have hl := lv_entry ([.ref h0, .ref h1]) (n := 2) (Nat.le_of_ble_eq_true rfl)
  rw [lg_entry_eq]
  generalize (lg_sl ([.ref h0, .ref h1]) ++ List.replicate (2 - (lg_sl ([.ref h0, .ref h1])).length) Slot.unset).toArray = ls at hl ⊢
  have hl : lv_has ls 2 [(0, .ref h0), (1, .ref h1)] := hl
  refine lv_aload_n hx hb dJx4a65c_add_9ea2d_0 rfl (lv_at hl 0 rfl) ?_
  refine lv_dup hx hb dJx4a65c_add_9ea2d_1 rfl ?_
  refine va_get (D := (dC, dI)) (ci := 0) (v := .int mc) (C := RJx4a65c) (T := TJx4a65c) (N := 3) hx hb hts in_l_addA_Jx4a65c hown hK hP 0 rfl rfl 0 (by decide) (hts (.fieldLink RJx4a65c 63 "java/util/ArrayList" "modCount" "I") (by decide +kernel)) (fun x9 h9 => u_same (hts (.sameField "java/util/ArrayList" "java/util/AbstractList" "modCount" "I") (by decide +kernel)) x9 h9) rfl dJx4a65c_add_9ea2d_2 ?_
  refine lv_iconst (v := 1) hx hb dJx4a65c_add_9ea2d_5 (by decide) ?_
  refine lv_iadd hx hb dJx4a65c_add_9ea2d_6 ?_
  refine va_put (D := (dC, dI)) (ci := 0) (fs := [.int mc, .ref a, .int (nI n)]) (v := .int (mc + 1)) (ty := .int) (C := RJx4a65c) (T := TJx4a65c) (N := 3) hx hb hts in_l_addA_Jx4a65c tyJx4a65c tyJx4a65c_ok nmJx4a65c hown hK hP hD hS 0 rfl rfl 0 (by decide) (hts (.fieldLink RJx4a65c 63 "java/util/ArrayList" "modCount" "I") (by decide +kernel)) (fun x9 h9 => u_same (hts (.sameField "java/util/ArrayList" "java/util/AbstractList" "modCount" "I") (by decide +kernel)) x9 h9) rfl (by decide +kernel) rfl rfl (Nat.le_of_ble_eq_true rfl) dJx4a65c_add_9ea2d_7 (fun H locs hP hD hS => ?_)
  replace hP : va_P (dC, dI) vwCl [(h0, .inr (0, [.int (mc + 1), .ref a, .int (nI n)])), (a, .inl (cE, M, .inr (.inr (.inr (.inr f))))), (h1, .inr (8, vs))] H := hP
  replace hD : va_D A [(h0, .inr (0, [.int (mc + 1), .ref a, .int (nI n)])), (a, .inl (cE, M, .inr (.inr (.inr (.inr f))))), (h1, .inr (8, vs))] := hD
  refine lv_aload_n hx hb dJx4a65c_add_9ea2d_10 rfl (lv_at hl 0 rfl) ?_
  refine lv_aload_n hx hb dJx4a65c_add_9ea2d_11 rfl (lv_at hl 1 rfl) ?_
  refine lv_aload_n hx hb dJx4a65c_add_9ea2d_12 rfl (lv_at hl 0 rfl) ?_
  refine va_get (D := (dC, dI)) (ci := 0) (v := .ref a) (C := RJx4a65c) (T := TJx4a65c) (N := 3) hx hb hts in_l_addA_Jx4a65c hown hK hP 0 rfl rfl 1 (by decide) (hts (.fieldLink RJx4a65c 9 "java/util/ArrayList" "elementData" "[Ljava/lang/Object;") (by decide +kernel)) (fun _ h9 => h9) rfl dJx4a65c_add_9ea2d_13 ?_
  refine lv_aload_n hx hb dJx4a65c_add_9ea2d_16 rfl (lv_at hl 0 rfl) ?_
  refine va_get (D := (dC, dI)) (ci := 0) (v := .int (nI n)) (C := RJx4a65c) (T := TJx4a65c) (N := 3) hx hb hts in_l_addA_Jx4a65c hown hK hP 0 rfl rfl 2 (by decide) (hts (.fieldLink RJx4a65c 48 "java/util/ArrayList" "size" "I") (by decide +kernel)) (fun _ h9 => h9) rfl dJx4a65c_add_9ea2d_17 ?_
  have hPc := hP.sub (ws' := [(h0, .inr (0, [.int (mc + 1), .ref a, .int (nI n)])), (a, .inl (cE, M, .inr (.inr (.inr (.inr f))))), (h1, .inr (8, vs))]) [0, 1, 2] rfl
  have hDc := hD.sub (ws' := [(h0, .inr (0, [.int (mc + 1), .ref a, .int (nI n)])), (a, .inl (cE, M, .inr (.inr (.inr (.inr f))))), (h1, .inr (8, vs))]) [0, 1, 2] (by decide) rfl
  have hKc := hK.sub (tys' := [(cE, .object "java/lang/Object")]) [0] rfl
  have hFc := va_free (wc := [(h0, .inr (0, [.int (mc + 1), .ref a, .int (nI n)])), (a, .inl (cE, M, .inr (.inr (.inr (.inr f))))), (h1, .inr (8, vs))]) hD hS hA [0, 1, 2] rfl
  refine va_callv (va_runV (As := [.ref h1, .ref a, .int (nI n)]) (rest := []) ⟨hx, hb, hml, hown, hts⟩ (c_l_add3A l dC dI h0 (mc + 1) a n M cE f h1 vs H.size hp0 hp1) (cwV 3 hts wc_l_addA_l_add3A_131 rfl rfl rfl (by decide +kernel) ⟨Nat.le_of_ble_eq_true rfl, Nat.le_of_ble_eq_true rfl⟩) ⟨fun a9 U g9 mk q => by obtain ⟨q0, q1, qP, qK, qD, qN⟩ := q; exact ⟨q0, q1, qP, va_K.moved (u := U) (U := U.calling g9 mk a9) (Vm.Alike.refl U.vm) qK, qD, pw_N.same (u := U) (U := U.calling g9 mk a9) rfl qN⟩, va_recv hKc hPc (ci := 0) (q0 := 0) rfl rfl, fun U hU hW => ⟨rfl, by rw [hU], by rw [hU]; exact hPc, va_K.moved hW.alike hKc, hDc.weaken (fun _ _ _ _ => trivial), pw_N.warm hW hN⟩⟩ rfl rfl hl.1 rfl (lv_room (Nat.le_of_ble_eq_true rfl)) dJx4a65c_add_9ea2d_20 ⟨Nat.le_of_ble_eq_true rfl, Nat.le_of_ble_eq_true rfl⟩) hS (fun q _ h => hFc q h) hFc (fun u t H1 locs ht hvm hw hB hz1 hk1 hS => ?_)
  obtain ⟨e1, cG, N, g, hN2, hg, hP1, hK1, hD1⟩ := hB
  rw [ht] at hP1
  obtain ⟨hP, hD⟩ := va_join (wr := []) (w1 := [(h0, .inr (0, [.int (mc + 1), .ref e1, .int (nI (n + 1))])), (e1, .inl (cG, N, .inr (.inr (.inr (.inr g))))), (h1, .inr (8, vs))]) hP hD [0, 1, 2] [] rfl rfl (by decide) (by decide) hk1 hFc hP1 hD1
  generalize H1 = H at hP hS ⊢
  replace hP : va_P (dC, dI) vwCl [(h0, .inr (0, [.int (mc + 1), .ref e1, .int (nI (n + 1))])), (e1, .inl (cG, N, .inr (.inr (.inr (.inr g))))), (h1, .inr (8, vs))] H := hP
  replace hD : va_D A [(h0, .inr (0, [.int (mc + 1), .ref e1, .int (nI (n + 1))])), (e1, .inl (cG, N, .inr (.inr (.inr (.inr g))))), (h1, .inr (8, vs))] := hD
  refine lv_iconst (v := 1) hx hb dJx4a65c_add_9ea2d_23 (by decide) ?_
  exact W.zret (v := 1) hx hb hr (by decide) (fun t ht hW => ⟨⟨1, (), rfl, rfl, e1, cG, N, g, hN2, hg, by rw [ht]; exact hP, va_K.moved hW.alike (va_K.moved hvm.symm hK1), hD⟩, hS.F ht⟩) hS.2.2 dJx4a65c_add_9ea2d_24
def wq_l_addB : List Cond := ([.code yJx4a65c_add_9ea2d cJx4a65c_add_9ea2d 2 (some .boolean), .fieldLink RJx4a65c 63 "java/util/ArrayList" "modCount" "I", .sameField "java/util/ArrayList" "java/util/AbstractList" "modCount" "I", .fieldLink RJx4a65c 9 "java/util/ArrayList" "elementData" "[Ljava/lang/Object;", .fieldLink RJx4a65c 48 "java/util/ArrayList" "size" "I", .methodLink RJx4a65c 131 yJx4a65c_add_72be8, .instanceMethod yJx4a65c_add_72be8, .selects RJx4a65c yJx4a65c_add_72be8 yJx4a65c_add_72be8, .initialized RJx4a65c] : List Cond) ++ (wsJx4a65c0 ++ (wq_l_add3B))
theorem in_l_addB_Jx4a65c : ∀ w ∈ wsJx4a65c0, w ∈ wq_l_addB := fun _ h => List.mem_append_right _ (List.mem_append_left _ (h))
set_option maxRecDepth 20000 in
theorem wi_l_addB : ∀ w ∈ wq_l_addB, w ∈ lw_tbl := List.forall_mem_append.mpr ⟨(wix [387, 105, 106, 102, 103, 388, 390, 0, 63] rfl), List.forall_mem_append.mpr ⟨inKJx4a65c, wi_l_add3B⟩⟩
set_option maxRecDepth 20000 in
theorem wg_l_addB : GoodIn wq_l_addB wq_l_addB := goodIn_sub (fun _ h => h) (by decide +kernel)
set_option maxRecDepth 20000 in
theorem wc_l_addB_l_add3B_131 : GoodIn wq_l_addB (wsV RJx4a65c 131 RJx4a65c yJx4a65c_add_72be8 wq_l_add3B) := goodIn_app (goodIn_of _ (by decide +kernel)) (fun w h => ⟨List.mem_append_right _ (List.mem_append_right _ (h)), (wg_l_add3B w h).2⟩)
set_option maxHeartbeats 4000000 in
set_option maxRecDepth 100000 in
theorem c_l_addB (l : Launch) (dC : Nat → ClassId) (dI : Nat → Nat → Nat) (h0 : Nat) (mc : Int32) (a : Nat) (mi : Nat) (n : Nat) (cE : ClassId) (f : Nat → Option Nat) (h1 : Nat) (vs : List Value) (sz : Nat) (hp0 : 0 < n) (hp1 : n < 60) : Met l yJx4a65c_add_9ea2d wq_l_addB ({ frames := 6, cells := 1, slots := 200, locals := 150 }) (va_Pc [.ref h0, .ref h1] (fun U => U.heap.size = sz ∧ va_P (dC, dI) vwCl [(h0, .inr (0, [.int mc, .ref a, .int (nI n)])), (a, .inl (cE, n, .inr (.inr (.inr (.inr f))))), (h1, .inr (8, vs))] U.heap ∧ va_K (dC, dI) vwCl [(cE, .object "java/lang/Object")] U ∧ va_D (fun _ => True) [(h0, .inr (0, [.int mc, .ref a, .int (nI n)])), (a, .inl (cE, n, .inr (.inr (.inr (.inr f))))), (h1, .inr (8, vs))] ∧ pw_N U ∧ xL mi f n (va_A [(h0, .inr (0, [.int mc, .ref a, .int (nI n)])), (a, .inl (cE, n, .inr (.inr (.inr (.inr f))))), (h1, .inr (8, vs))] sz) U U.heap)) (va_Qi (fun (r : Int32) (_ : Unit) => r = 1) (fun (_ : Unit) (t : State) => ∃ (e1 : Nat) (cG : ClassId) (N : Nat) (g : Nat → Option Nat), (n < N ∧ N < 100) ∧ ((∀ i : Nat, i < n → g i = f i) ∧ g n = some h1) ∧ va_P (dC, dI) vwCl [(h0, .inr (0, [.int (mc + 1), .ref e1, .int (nI (n + 1))])), (e1, .inl (cG, N, .inr (.inr (.inr (.inr g))))), (h1, .inr (8, vs))] t.heap ∧ va_K (dC, dI) vwCl [(cG, .object "java/lang/Object")] t ∧ va_D (va_A [(h0, .inr (0, [.int mc, .ref a, .int (nI n)])), (a, .inl (cE, n, .inr (.inr (.inr (.inr f))))), (h1, .inr (8, vs))] sz) [(h0, .inr (0, [.int (mc + 1), .ref e1, .int (nI (n + 1))])), (e1, .inl (cG, N, .inr (.inr (.inr (.inr g))))), (h1, .inr (8, vs))]) (va_A [(h0, .inr (0, [.int mc, .ref a, .int (nI n)])), (a, .inl (cE, n, .inr (.inr (.inr (.inr f))))), (h1, .inr (8, vs))] sz)) 1 200 (va_A [(h0, .inr (0, [.int mc, .ref a, .int (nI n)])), (a, .inl (cE, n, .inr (.inr (.inr (.inr f))))), (h1, .inr (8, vs))] sz) := by
  refine Met.ofW (cc := cJx4a65c_add_9ea2d) (maxL := 2) (ret := (some .boolean)) (by decide) rfl ?_
  intro p e s m args below meth c s₁ B hml hv
  obtain ⟨rfl, hsz, hP, hK, hD0, hN, hL⟩ := hv
  have hx := B.exec
  have hb := B.bytes
  have hr := B.returns
  have hts := atoms_spec (ws := wq_l_addB) B.pre
  have hown : s.vm.findClass RJx4a65c = some m.cls := findClass_of_methodNamed B.named
  have hlocks := B.notSynchronized
  subst hsz
  have hD := hD0.self (sz := s.heap.size)
  generalize hAe : va_A [(h0, .inr (0, [.int mc, .ref a, .int (nI n)])), (a, .inl (cE, n, .inr (.inr (.inr (.inr f))))), (h1, .inr (8, vs))] s.heap.size = A at hD hL ⊢
  have hA : ∀ q : Nat, s.heap.size ≤ q → A q := fun q h => by rw [← hAe]; exact Or.inr h
  have hS : va_S A s.heap s.heap [] := va_S.rf
  have hP : va_P (dC, dI) vwCl [(h0, .inr (0, [.int mc, .ref a, .int (nI n)])), (a, .inl (cE, n, .inr (.inr (.inr (.inr f))))), (h1, .inr (8, vs))] s.heap := hP
  have hl := lv_entry ([.ref h0, .ref h1]) (n := 2) (Nat.le_of_ble_eq_true rfl)
  rw [lg_entry_eq]
  generalize (lg_sl ([.ref h0, .ref h1]) ++ List.replicate (2 - (lg_sl ([.ref h0, .ref h1])).length) Slot.unset).toArray = ls at hl ⊢
  have hl : lv_has ls 2 [(0, .ref h0), (1, .ref h1)] := hl
  refine lv_aload_n hx hb dJx4a65c_add_9ea2d_0 rfl (lv_at hl 0 rfl) ?_
  refine lv_dup hx hb dJx4a65c_add_9ea2d_1 rfl ?_
  refine va_get (D := (dC, dI)) (ci := 0) (v := .int mc) (C := RJx4a65c) (T := TJx4a65c) (N := 3) hx hb hts in_l_addB_Jx4a65c hown hK hP 0 rfl rfl 0 (by decide) (hts (.fieldLink RJx4a65c 63 "java/util/ArrayList" "modCount" "I") (by decide +kernel)) (fun x9 h9 => u_same (hts (.sameField "java/util/ArrayList" "java/util/AbstractList" "modCount" "I") (by decide +kernel)) x9 h9) rfl dJx4a65c_add_9ea2d_2 ?_
  refine lv_iconst (v := 1) hx hb dJx4a65c_add_9ea2d_5 (by decide) ?_
  refine lv_iadd hx hb dJx4a65c_add_9ea2d_6 ?_
  refine va_put (D := (dC, dI)) (ci := 0) (fs := [.int mc, .ref a, .int (nI n)]) (v := .int (mc + 1)) (ty := .int) (C := RJx4a65c) (T := TJx4a65c) (N := 3) hx hb hts in_l_addB_Jx4a65c tyJx4a65c tyJx4a65c_ok nmJx4a65c hown hK hP hD hS 0 rfl rfl 0 (by decide) (hts (.fieldLink RJx4a65c 63 "java/util/ArrayList" "modCount" "I") (by decide +kernel)) (fun x9 h9 => u_same (hts (.sameField "java/util/ArrayList" "java/util/AbstractList" "modCount" "I") (by decide +kernel)) x9 h9) rfl (by decide +kernel) rfl rfl (Nat.le_of_ble_eq_true rfl) dJx4a65c_add_9ea2d_7 (fun H locs hP hD hS => ?_)
  replace hP : va_P (dC, dI) vwCl [(h0, .inr (0, [.int (mc + 1), .ref a, .int (nI n)])), (a, .inl (cE, n, .inr (.inr (.inr (.inr f))))), (h1, .inr (8, vs))] H := hP
  replace hD : va_D A [(h0, .inr (0, [.int (mc + 1), .ref a, .int (nI n)])), (a, .inl (cE, n, .inr (.inr (.inr (.inr f))))), (h1, .inr (8, vs))] := hD
  refine lv_aload_n hx hb dJx4a65c_add_9ea2d_10 rfl (lv_at hl 0 rfl) ?_
  refine lv_aload_n hx hb dJx4a65c_add_9ea2d_11 rfl (lv_at hl 1 rfl) ?_
  refine lv_aload_n hx hb dJx4a65c_add_9ea2d_12 rfl (lv_at hl 0 rfl) ?_
  refine va_get (D := (dC, dI)) (ci := 0) (v := .ref a) (C := RJx4a65c) (T := TJx4a65c) (N := 3) hx hb hts in_l_addB_Jx4a65c hown hK hP 0 rfl rfl 1 (by decide) (hts (.fieldLink RJx4a65c 9 "java/util/ArrayList" "elementData" "[Ljava/lang/Object;") (by decide +kernel)) (fun _ h9 => h9) rfl dJx4a65c_add_9ea2d_13 ?_
  refine lv_aload_n hx hb dJx4a65c_add_9ea2d_16 rfl (lv_at hl 0 rfl) ?_
  refine va_get (D := (dC, dI)) (ci := 0) (v := .int (nI n)) (C := RJx4a65c) (T := TJx4a65c) (N := 3) hx hb hts in_l_addB_Jx4a65c hown hK hP 0 rfl rfl 2 (by decide) (hts (.fieldLink RJx4a65c 48 "java/util/ArrayList" "size" "I") (by decide +kernel)) (fun _ h9 => h9) rfl dJx4a65c_add_9ea2d_17 ?_
  have hPc := hP.sub (ws' := [(h0, .inr (0, [.int (mc + 1), .ref a, .int (nI n)])), (a, .inl (cE, n, .inr (.inr (.inr (.inr f))))), (h1, .inr (8, vs))]) [0, 1, 2] rfl
  have hDc := hD.sub (ws' := [(h0, .inr (0, [.int (mc + 1), .ref a, .int (nI n)])), (a, .inl (cE, n, .inr (.inr (.inr (.inr f))))), (h1, .inr (8, vs))]) [0, 1, 2] (by decide) rfl
  have hKc := hK.sub (tys' := [(cE, .object "java/lang/Object")]) [0] rfl
  have hFc := va_free (wc := [(h0, .inr (0, [.int (mc + 1), .ref a, .int (nI n)])), (a, .inl (cE, n, .inr (.inr (.inr (.inr f))))), (h1, .inr (8, vs))]) hD hS hA [0, 1, 2] rfl
  refine va_callv (va_runV (As := [.ref h1, .ref a, .int (nI n)]) (rest := []) ⟨hx, hb, hml, hown, hts⟩ (c_l_add3B l dC dI h0 (mc + 1) a mi n cE f h1 vs H.size hp0 hp1) (cwV 3 hts wc_l_addB_l_add3B_131 rfl rfl rfl (by decide +kernel) ⟨Nat.le_of_ble_eq_true rfl, Nat.le_of_ble_eq_true rfl⟩) ⟨fun a9 U g9 mk q => by obtain ⟨q0, q1, qP, qK, qD, qN, qL⟩ := q; exact ⟨q0, q1, qP, va_K.moved (u := U) (U := U.calling g9 mk a9) (Vm.Alike.refl U.vm) qK, qD, pw_N.same (u := U) (U := U.calling g9 mk a9) rfl qN, xL.moved (u := U) (U := U.calling g9 mk a9) (Vm.Alike.refl U.vm) qL⟩, va_recv hKc hPc (ci := 0) (q0 := 0) rfl rfl, fun U hU hW => ⟨rfl, by rw [hU], by rw [hU]; exact hPc, va_K.moved hW.alike hKc, hDc.weaken (fun _ _ _ _ => trivial), pw_N.warm hW hN, by rw [hU]; exact xL.moved hW.alike ((hL.kept (fun a9 h1 h2 => hS.2.1 a9 h1 h2)).narrow hFc)⟩⟩ rfl rfl hl.1 rfl (lv_room (Nat.le_of_ble_eq_true rfl)) dJx4a65c_add_9ea2d_20 ⟨Nat.le_of_ble_eq_true rfl, Nat.le_of_ble_eq_true rfl⟩) hS (fun q _ h => hFc q h) hFc (fun u t H1 locs ht hvm hw hB hz1 hk1 hS => ?_)
  obtain ⟨e1, cG, N, g, hN2, hg, hP1, hK1, hD1⟩ := hB
  rw [ht] at hP1
  obtain ⟨hP, hD⟩ := va_join (wr := []) (w1 := [(h0, .inr (0, [.int (mc + 1), .ref e1, .int (nI (n + 1))])), (e1, .inl (cG, N, .inr (.inr (.inr (.inr g))))), (h1, .inr (8, vs))]) hP hD [0, 1, 2] [] rfl rfl (by decide) (by decide) hk1 hFc hP1 hD1
  generalize H1 = H at hP hS ⊢
  replace hP : va_P (dC, dI) vwCl [(h0, .inr (0, [.int (mc + 1), .ref e1, .int (nI (n + 1))])), (e1, .inl (cG, N, .inr (.inr (.inr (.inr g))))), (h1, .inr (8, vs))] H := hP
  replace hD : va_D A [(h0, .inr (0, [.int (mc + 1), .ref e1, .int (nI (n + 1))])), (e1, .inl (cG, N, .inr (.inr (.inr (.inr g))))), (h1, .inr (8, vs))] := hD
  refine lv_iconst (v := 1) hx hb dJx4a65c_add_9ea2d_23 (by decide) ?_
  exact W.zret (v := 1) hx hb hr (by decide) (fun t ht hW => ⟨⟨1, (), rfl, rfl, e1, cG, N, g, hN2, hg, by rw [ht]; exact hP, va_K.moved hW.alike (va_K.moved hvm.symm hK1), hD⟩, hS.F ht⟩) hS.2.2 dJx4a65c_add_9ea2d_24
def wq_l_addC : List Cond := ([.code yJx4a65c_add_9ea2d cJx4a65c_add_9ea2d 2 (some .boolean), .fieldLink RJx4a65c 63 "java/util/ArrayList" "modCount" "I", .sameField "java/util/ArrayList" "java/util/AbstractList" "modCount" "I", .fieldLink RJx4a65c 9 "java/util/ArrayList" "elementData" "[Ljava/lang/Object;", .fieldLink RJx4a65c 48 "java/util/ArrayList" "size" "I", .methodLink RJx4a65c 131 yJx4a65c_add_72be8, .instanceMethod yJx4a65c_add_72be8, .selects RJx4a65c yJx4a65c_add_72be8 yJx4a65c_add_72be8, .initialized RJx4a65c] : List Cond) ++ (wsJx4a65c0 ++ (wq_l_add3C))
theorem in_l_addC_Jx4a65c : ∀ w ∈ wsJx4a65c0, w ∈ wq_l_addC := fun _ h => List.mem_append_right _ (List.mem_append_left _ (h))
set_option maxRecDepth 20000 in
theorem wi_l_addC : ∀ w ∈ wq_l_addC, w ∈ lw_tbl := List.forall_mem_append.mpr ⟨(wix [387, 105, 106, 102, 103, 388, 390, 0, 63] rfl), List.forall_mem_append.mpr ⟨inKJx4a65c, wi_l_add3C⟩⟩
set_option maxRecDepth 20000 in
theorem wg_l_addC : GoodIn wq_l_addC wq_l_addC := goodIn_sub (fun _ h => h) (by decide +kernel)
set_option maxRecDepth 20000 in
theorem wc_l_addC_l_add3C_131 : GoodIn wq_l_addC (wsV RJx4a65c 131 RJx4a65c yJx4a65c_add_72be8 wq_l_add3C) := goodIn_app (goodIn_of _ (by decide +kernel)) (fun w h => ⟨List.mem_append_right _ (List.mem_append_right _ (h)), (wg_l_add3C w h).2⟩)
set_option maxHeartbeats 4000000 in
set_option maxRecDepth 100000 in
theorem c_l_addC (l : Launch) (dC : Nat → ClassId) (dI : Nat → Nat → Nat) (h0 : Nat) (mc : Int32) (z : Nat) (f : Nat → Option Nat) (h1 : Nat) (vs : List Value) (sz : Nat)  : Met l yJx4a65c_add_9ea2d wq_l_addC ({ frames := 4, cells := 1, slots := 10, locals := 90 }) (va_Pc [.ref h0, .ref h1] (fun U => U.heap.size = sz ∧ va_P (dC, dI) vwCl [(h0, .inr (0, [.int mc, .ref z, .int 0])), (h1, .inr (8, vs))] U.heap ∧ va_K (dC, dI) vwCl [] U ∧ va_D (fun _ => True) [(h0, .inr (0, [.int mc, .ref z, .int 0])), (h1, .inr (8, vs))] ∧ pw_N U ∧ va_Z "java/util/ArrayList" "DEFAULTCAPACITY_EMPTY_ELEMENTDATA" "[Ljava/lang/Object;" (.ref z) (va_A [(h0, .inr (0, [.int mc, .ref z, .int 0])), (h1, .inr (8, vs))] sz) U U.heap ∧ va_T (.object "java/lang/Object") z 0 (fun _ => .null) (va_A [(h0, .inr (0, [.int mc, .ref z, .int 0])), (h1, .inr (8, vs))] sz) U U.heap ∧ va_AO "java/lang/Object" U)) (va_Qi (fun (r : Int32) (_ : Unit) => r = 1) (fun (_ : Unit) (t : State) => ∃ (e1 : Nat) (cG : ClassId) (N : Nat) (g : Nat → Option Nat), (0 < N ∧ N < 100) ∧ ((∀ i : Nat, i < 0 → g i = f i) ∧ g 0 = some h1) ∧ va_P (dC, dI) vwCl [(h0, .inr (0, [.int (mc + 1), .ref e1, .int (nI (0 + 1))])), (e1, .inl (cG, N, .inr (.inr (.inr (.inr g))))), (h1, .inr (8, vs))] t.heap ∧ va_K (dC, dI) vwCl [(cG, .object "java/lang/Object")] t ∧ va_D (va_A [(h0, .inr (0, [.int mc, .ref z, .int 0])), (h1, .inr (8, vs))] sz) [(h0, .inr (0, [.int (mc + 1), .ref e1, .int (nI (0 + 1))])), (e1, .inl (cG, N, .inr (.inr (.inr (.inr g))))), (h1, .inr (8, vs))]) (va_A [(h0, .inr (0, [.int mc, .ref z, .int 0])), (h1, .inr (8, vs))] sz)) 1 10 (va_A [(h0, .inr (0, [.int mc, .ref z, .int 0])), (h1, .inr (8, vs))] sz) := by
  refine Met.ofW (cc := cJx4a65c_add_9ea2d) (maxL := 2) (ret := (some .boolean)) (by decide) rfl ?_
  intro p e s m args below meth c s₁ B hml hv
  obtain ⟨rfl, hsz, hP, hK, hD0, hN, hZ, hT, hO⟩ := hv
  have hx := B.exec
  have hb := B.bytes
  have hr := B.returns
  have hts := atoms_spec (ws := wq_l_addC) B.pre
  have hown : s.vm.findClass RJx4a65c = some m.cls := findClass_of_methodNamed B.named
  have hlocks := B.notSynchronized
  subst hsz
  have hD := hD0.self (sz := s.heap.size)
  generalize hAe : va_A [(h0, .inr (0, [.int mc, .ref z, .int 0])), (h1, .inr (8, vs))] s.heap.size = A at hD hZ hT ⊢
  have hA : ∀ q : Nat, s.heap.size ≤ q → A q := fun q h => by rw [← hAe]; exact Or.inr h
  have hS : va_S A s.heap s.heap [] := va_S.rf
  have hP : va_P (dC, dI) vwCl [(h0, .inr (0, [.int mc, .ref z, .int 0])), (h1, .inr (8, vs))] s.heap := hP
  have hl := lv_entry ([.ref h0, .ref h1]) (n := 2) (Nat.le_of_ble_eq_true rfl)
  rw [lg_entry_eq]
  generalize (lg_sl ([.ref h0, .ref h1]) ++ List.replicate (2 - (lg_sl ([.ref h0, .ref h1])).length) Slot.unset).toArray = ls at hl ⊢
  have hl : lv_has ls 2 [(0, .ref h0), (1, .ref h1)] := hl
  refine lv_aload_n hx hb dJx4a65c_add_9ea2d_0 rfl (lv_at hl 0 rfl) ?_
  refine lv_dup hx hb dJx4a65c_add_9ea2d_1 rfl ?_
  refine va_get (D := (dC, dI)) (ci := 0) (v := .int mc) (C := RJx4a65c) (T := TJx4a65c) (N := 3) hx hb hts in_l_addC_Jx4a65c hown hK hP 0 rfl rfl 0 (by decide) (hts (.fieldLink RJx4a65c 63 "java/util/ArrayList" "modCount" "I") (by decide +kernel)) (fun x9 h9 => u_same (hts (.sameField "java/util/ArrayList" "java/util/AbstractList" "modCount" "I") (by decide +kernel)) x9 h9) rfl dJx4a65c_add_9ea2d_2 ?_
  refine lv_iconst (v := 1) hx hb dJx4a65c_add_9ea2d_5 (by decide) ?_
  refine lv_iadd hx hb dJx4a65c_add_9ea2d_6 ?_
  refine va_put (D := (dC, dI)) (ci := 0) (fs := [.int mc, .ref z, .int 0]) (v := .int (mc + 1)) (ty := .int) (C := RJx4a65c) (T := TJx4a65c) (N := 3) hx hb hts in_l_addC_Jx4a65c tyJx4a65c tyJx4a65c_ok nmJx4a65c hown hK hP hD hS 0 rfl rfl 0 (by decide) (hts (.fieldLink RJx4a65c 63 "java/util/ArrayList" "modCount" "I") (by decide +kernel)) (fun x9 h9 => u_same (hts (.sameField "java/util/ArrayList" "java/util/AbstractList" "modCount" "I") (by decide +kernel)) x9 h9) rfl (by decide +kernel) rfl rfl (Nat.le_of_ble_eq_true rfl) dJx4a65c_add_9ea2d_7 (fun H locs hP hD hS => ?_)
  replace hP : va_P (dC, dI) vwCl [(h0, .inr (0, [.int (mc + 1), .ref z, .int 0])), (h1, .inr (8, vs))] H := hP
  replace hD : va_D A [(h0, .inr (0, [.int (mc + 1), .ref z, .int 0])), (h1, .inr (8, vs))] := hD
  refine lv_aload_n hx hb dJx4a65c_add_9ea2d_10 rfl (lv_at hl 0 rfl) ?_
  refine lv_aload_n hx hb dJx4a65c_add_9ea2d_11 rfl (lv_at hl 1 rfl) ?_
  refine lv_aload_n hx hb dJx4a65c_add_9ea2d_12 rfl (lv_at hl 0 rfl) ?_
  refine va_get (D := (dC, dI)) (ci := 0) (v := .ref z) (C := RJx4a65c) (T := TJx4a65c) (N := 3) hx hb hts in_l_addC_Jx4a65c hown hK hP 0 rfl rfl 1 (by decide) (hts (.fieldLink RJx4a65c 9 "java/util/ArrayList" "elementData" "[Ljava/lang/Object;") (by decide +kernel)) (fun _ h9 => h9) rfl dJx4a65c_add_9ea2d_13 ?_
  refine lv_aload_n hx hb dJx4a65c_add_9ea2d_16 rfl (lv_at hl 0 rfl) ?_
  refine va_get (D := (dC, dI)) (ci := 0) (v := .int 0) (C := RJx4a65c) (T := TJx4a65c) (N := 3) hx hb hts in_l_addC_Jx4a65c hown hK hP 0 rfl rfl 2 (by decide) (hts (.fieldLink RJx4a65c 48 "java/util/ArrayList" "size" "I") (by decide +kernel)) (fun _ h9 => h9) rfl dJx4a65c_add_9ea2d_17 ?_
  have hPc := hP.sub (ws' := [(h0, .inr (0, [.int (mc + 1), .ref z, .int 0])), (h1, .inr (8, vs))]) [0, 1] rfl
  have hDc := hD.sub (ws' := [(h0, .inr (0, [.int (mc + 1), .ref z, .int 0])), (h1, .inr (8, vs))]) [0, 1] (by decide) rfl
  have hKc := hK.sub (tys' := []) [] rfl
  have hFc := va_free (wc := [(h0, .inr (0, [.int (mc + 1), .ref z, .int 0])), (h1, .inr (8, vs))]) hD hS hA [0, 1] rfl
  refine va_callv (va_runV (As := [.ref h1, .ref z, .int 0]) (rest := []) ⟨hx, hb, hml, hown, hts⟩ (c_l_add3C l dC dI h0 (mc + 1) z f h1 vs H.size) (cwV 3 hts wc_l_addC_l_add3C_131 rfl rfl rfl (by decide +kernel) ⟨Nat.le_of_ble_eq_true rfl, Nat.le_of_ble_eq_true rfl⟩) ⟨fun a9 U g9 mk q => by obtain ⟨q0, q1, qP, qK, qD, qN, qZ, qT, qO⟩ := q; exact ⟨q0, q1, qP, va_K.moved (u := U) (U := U.calling g9 mk a9) (Vm.Alike.refl U.vm) qK, qD, pw_N.same (u := U) (U := U.calling g9 mk a9) rfl qN, va_Z.moved (u := U) (U := U.calling g9 mk a9) (Vm.Alike.refl U.vm) qZ, va_T.moved (u := U) (U := U.calling g9 mk a9) (Vm.Alike.refl U.vm) qT, va_AO.moved (u := U) (U := U.calling g9 mk a9) (Vm.Alike.refl U.vm) qO⟩, va_recv hKc hPc (ci := 0) (q0 := 0) rfl rfl, fun U hU hW => ⟨rfl, by rw [hU], by rw [hU]; exact hPc, va_K.moved hW.alike hKc, hDc.weaken (fun _ _ _ _ => trivial), pw_N.warm hW hN, by rw [hU]; exact va_Z.moved hW.alike ((hZ.kept (fun a9 h1 h2 => hS.2.1 a9 h1 h2)).narrow hFc), by rw [hU]; exact va_T.moved hW.alike ((hT.kept (fun a9 h1 h2 => hS.2.1 a9 h1 h2)).narrow hFc), va_AO.moved hW.alike hO⟩⟩ rfl rfl hl.1 rfl (lv_room (Nat.le_of_ble_eq_true rfl)) dJx4a65c_add_9ea2d_20 ⟨Nat.le_of_ble_eq_true rfl, Nat.le_of_ble_eq_true rfl⟩) hS (fun q _ h => hFc q h) hFc (fun u t H1 locs ht hvm hw hB hz1 hk1 hS => ?_)
  obtain ⟨e1, cG, N, g, hN2, hg, hP1, hK1, hD1⟩ := hB
  rw [ht] at hP1
  obtain ⟨hP, hD⟩ := va_join (wr := []) (w1 := [(h0, .inr (0, [.int (mc + 1), .ref e1, .int (nI (0 + 1))])), (e1, .inl (cG, N, .inr (.inr (.inr (.inr g))))), (h1, .inr (8, vs))]) hP hD [0, 1] [] rfl rfl (by decide) (by decide) hk1 hFc hP1 hD1
  generalize H1 = H at hP hS ⊢
  replace hP : va_P (dC, dI) vwCl [(h0, .inr (0, [.int (mc + 1), .ref e1, .int (nI (0 + 1))])), (e1, .inl (cG, N, .inr (.inr (.inr (.inr g))))), (h1, .inr (8, vs))] H := hP
  replace hD : va_D A [(h0, .inr (0, [.int (mc + 1), .ref e1, .int (nI (0 + 1))])), (e1, .inl (cG, N, .inr (.inr (.inr (.inr g))))), (h1, .inr (8, vs))] := hD
  refine lv_iconst (v := 1) hx hb dJx4a65c_add_9ea2d_23 (by decide) ?_
  exact W.zret (v := 1) hx hb hr (by decide) (fun t ht hW => ⟨⟨1, (), rfl, rfl, e1, cG, N, g, hN2, hg, by rw [ht]; exact hP, va_K.moved hW.alike (va_K.moved hvm.symm hK1), hD⟩, hS.F ht⟩) hS.2.2 dJx4a65c_add_9ea2d_24

end
section
theorem dX0_init_0 : decode cX0_init 0 = .ok (.aload_n 0, 1) := by decide +kernel
theorem dX0_init_1 : decode cX0_init 1 = .ok (.invokespecial 1, 3) := by decide +kernel
theorem dX0_init_4 : decode cX0_init 4 = .ok (.aload_n 0, 1) := by decide +kernel
theorem dX0_init_5 : decode cX0_init 5 = .ok (.iconst (-1), 1) := by decide +kernel
theorem dX0_init_6 : decode cX0_init 6 = .ok (.putfield 7, 3) := by decide +kernel
theorem dX0_init_9 : decode cX0_init 9 = .ok (.aload_n 0, 1) := by decide +kernel
theorem dX0_init_10 : decode cX0_init 10 = .ok (.iload_n 1, 1) := by decide +kernel
theorem dX0_init_11 : decode cX0_init 11 = .ok (.newarray .int, 2) := by decide +kernel
theorem dX0_init_13 : decode cX0_init 13 = .ok (.putfield 13, 3) := by decide +kernel
theorem dX0_init_16 : decode cX0_init 16 = .ok (.return_, 1) := by decide +kernel
theorem dX6_init_0 : decode cX6_init 0 = .ok (.aload_n 0, 1) := by decide +kernel
theorem dX6_init_1 : decode cX6_init 1 = .ok (.invokespecial 3, 3) := by decide +kernel
theorem dX6_init_4 : decode cX6_init 4 = .ok (.aload_n 0, 1) := by decide +kernel
theorem dX6_init_5 : decode cX6_init 5 = .ok (.bipush 10, 2) := by decide +kernel
theorem dX6_init_7 : decode cX6_init 7 = .ok (.newarray .int, 2) := by decide +kernel
theorem dX6_init_9 : decode cX6_init 9 = .ok (.putfield 9, 3) := by decide +kernel
theorem dX6_init_12 : decode cX6_init 12 = .ok (.aload_n 0, 1) := by decide +kernel
theorem dX6_init_13 : decode cX6_init 13 = .ok (.iconst 1, 1) := by decide +kernel
theorem dX6_init_14 : decode cX6_init 14 = .ok (.putfield 15, 3) := by decide +kernel
theorem dX6_init_17 : decode cX6_init 17 = .ok (.aload_n 0, 1) := by decide +kernel
theorem dX6_init_18 : decode cX6_init 18 = .ok (.iconst 1, 1) := by decide +kernel
theorem dX6_init_19 : decode cX6_init 19 = .ok (.putfield 19, 3) := by decide +kernel
theorem dX6_init_22 : decode cX6_init 22 = .ok (.return_, 1) := by decide +kernel
theorem dX7_init_0 : decode cX7_init 0 = .ok (.aload_n 0, 1) := by decide +kernel
theorem dX7_init_1 : decode cX7_init 1 = .ok (.invokespecial 3, 3) := by decide +kernel
theorem dX7_init_4 : decode cX7_init 4 = .ok (.aload_n 0, 1) := by decide +kernel
theorem dX7_init_5 : decode cX7_init 5 = .ok (.bipush 8, 2) := by decide +kernel
theorem dX7_init_7 : decode cX7_init 7 = .ok (.newarray .int, 2) := by decide +kernel
theorem dX7_init_9 : decode cX7_init 9 = .ok (.putfield 9, 3) := by decide +kernel
theorem dX7_init_12 : decode cX7_init 12 = .ok (.aload_n 0, 1) := by decide +kernel
theorem dX7_init_13 : decode cX7_init 13 = .ok (.new 15, 3) := by decide +kernel
theorem dX7_init_16 : decode cX7_init 16 = .ok (.dup, 1) := by decide +kernel
theorem dX7_init_17 : decode cX7_init 17 = .ok (.invokespecial 17, 3) := by decide +kernel
theorem dX7_init_20 : decode cX7_init 20 = .ok (.putfield 18, 3) := by decide +kernel
theorem dX7_init_23 : decode cX7_init 23 = .ok (.aload_n 0, 1) := by decide +kernel
theorem dX7_init_24 : decode cX7_init 24 = .ok (.iconst 0, 1) := by decide +kernel
theorem dX7_init_25 : decode cX7_init 25 = .ok (.putfield 22, 3) := by decide +kernel
theorem dX7_init_28 : decode cX7_init 28 = .ok (.aload_n 0, 1) := by decide +kernel
theorem dX7_init_29 : decode cX7_init 29 = .ok (.iload_n 1, 1) := by decide +kernel
theorem dX7_init_30 : decode cX7_init 30 = .ok (.putfield 26, 3) := by decide +kernel
theorem dX7_init_33 : decode cX7_init 33 = .ok (.aload_n 0, 1) := by decide +kernel
theorem dX7_init_34 : decode cX7_init 34 = .ok (.iload_n 2, 1) := by decide +kernel
theorem dX7_init_35 : decode cX7_init 35 = .ok (.putfield 29, 3) := by decide +kernel
theorem dX7_init_38 : decode cX7_init 38 = .ok (.aload_n 0, 1) := by decide +kernel
theorem dX7_init_39 : decode cX7_init 39 = .ok (.iload_n 3, 1) := by decide +kernel
theorem dX7_init_40 : decode cX7_init 40 = .ok (.putfield 32, 3) := by decide +kernel
theorem dX7_init_43 : decode cX7_init 43 = .ok (.aload_n 0, 1) := by decide +kernel
theorem dX7_init_44 : decode cX7_init 44 = .ok (.iload 4, 2) := by decide +kernel
theorem dX7_init_46 : decode cX7_init 46 = .ok (.putfield 35, 3) := by decide +kernel
theorem dX7_init_49 : decode cX7_init 49 = .ok (.aload_n 0, 1) := by decide +kernel
theorem dX7_init_50 : decode cX7_init 50 = .ok (.new 38, 3) := by decide +kernel
theorem dX7_init_53 : decode cX7_init 53 = .ok (.dup, 1) := by decide +kernel
theorem dX7_init_54 : decode cX7_init 54 = .ok (.iload_n 1, 1) := by decide +kernel
theorem dX7_init_55 : decode cX7_init 55 = .ok (.iconst 2, 1) := by decide +kernel
theorem dX7_init_56 : decode cX7_init 56 = .ok (.if_icmp .ne 8, 3) := by decide +kernel
theorem dX7_init_59 : decode cX7_init 59 = .ok (.bipush 20, 2) := by decide +kernel
theorem dX7_init_61 : decode cX7_init 61 = .ok (.goto 4, 3) := by decide +kernel
theorem dX7_init_64 : decode cX7_init 64 = .ok (.iconst 0, 1) := by decide +kernel
theorem dX7_init_65 : decode cX7_init 65 = .ok (.invokespecial 40, 3) := by decide +kernel
theorem dX7_init_68 : decode cX7_init 68 = .ok (.putfield 43, 3) := by decide +kernel
theorem dX7_init_71 : decode cX7_init 71 = .ok (.return_, 1) := by decide +kernel
def wq_s_restarts : List Cond := ([.code yX6_init cX6_init 1 none, .methodLink RX6 3 objectInit, .instanceMethod objectInit, .code objectInit ⟨#[0xb1]⟩ 1 none, .arrayClass .int, .fieldLink RX6 9 "ServiceTree$Restarts" "times" "[I", .fieldLink RX6 15 "ServiceTree$Restarts" "delay" "I", .fieldLink RX6 19 "ServiceTree$Restarts" "window" "I"] : List Cond) ++ (wsX60)
theorem in_s_restarts_X6 : ∀ w ∈ wsX60, w ∈ wq_s_restarts := fun _ h => List.mem_append_right _ (h)
set_option maxRecDepth 20000 in
theorem wi_s_restarts : ∀ w ∈ wq_s_restarts, w ∈ lw_tbl := List.forall_mem_append.mpr ⟨(wix [288, 289, 86, 87, 209, 290, 293, 296] rfl), inKX6⟩
set_option maxRecDepth 20000 in
theorem wg_s_restarts : GoodIn wq_s_restarts wq_s_restarts := goodIn_sub (fun _ h => h) (by decide +kernel)
set_option maxHeartbeats 4000000 in
set_option maxRecDepth 100000 in
theorem c_s_restarts (l : Launch) (dC : Nat → ClassId) (dI : Nat → Nat → Nat) (h0 : Nat) (sz : Nat) : Met l yX6_init wq_s_restarts ({ frames := 1, cells := 1, slots := 10, locals := 28 }) (va_Pc [.ref h0] (fun U => U.heap.size = sz ∧ va_P (dC, dI) vwCl [(h0, .inr (7, [.null, .int 0, .int 0, .int 0, .int 0, .int 0]))] U.heap ∧ va_K (dC, dI) vwCl [] U ∧ va_D (fun _ => True) [(h0, .inr (7, [.null, .int 0, .int 0, .int 0, .int 0, .int 0]))] ∧ pw_N U)) (va_Qv (fun (_ : Unit) => True) (fun (_ : Unit) (t : State) => ∃ (t0 : Nat), ∃ (k0 : ClassId), va_P (dC, dI) vwCl [(h0, .inr (7, [.ref t0, .int 0, .int 0, .int 1, .int 0, .int 1])), (t0, .inl (k0, 10, .inl (fun _ => 0)))] t.heap ∧ va_K (dC, dI) vwCl [(k0, .int)] t ∧ va_D (va_A [(h0, .inr (7, [.null, .int 0, .int 0, .int 0, .int 0, .int 0]))] sz) [(h0, .inr (7, [.ref t0, .int 0, .int 0, .int 1, .int 0, .int 1])), (t0, .inl (k0, 10, .inl (fun _ => 0)))]) (va_A [(h0, .inr (7, [.null, .int 0, .int 0, .int 0, .int 0, .int 0]))] sz)) 1 10 (va_A [(h0, .inr (7, [.null, .int 0, .int 0, .int 0, .int 0, .int 0]))] sz) := by
  refine Met.ofW (cc := cX6_init) (maxL := 1) (ret := none) (by decide) rfl ?_
  intro p e s m args below meth c s₁ B hml hv
  obtain ⟨rfl, hsz, hP, hK, hD0, hN⟩ := hv
  have hx := B.exec
  have hb := B.bytes
  have hr := B.returns
  have hts := atoms_spec (ws := wq_s_restarts) B.pre
  have hown : s.vm.findClass RX6 = some m.cls := findClass_of_methodNamed B.named
  have hlocks := B.notSynchronized
  have hin : meth.name = "<init>" := (name_of_methodNamed B.named B.method).1
  subst hsz
  have hD := hD0.self (sz := s.heap.size)
  generalize hAe : va_A [(h0, .inr (7, [.null, .int 0, .int 0, .int 0, .int 0, .int 0]))] s.heap.size = A at hD ⊢
  have hA : ∀ q : Nat, s.heap.size ≤ q → A q := fun q h => by rw [← hAe]; exact Or.inr h
  have hS : va_S A s.heap s.heap [] := va_S.rf
  have hP : va_P (dC, dI) vwCl [(h0, .inr (7, [.null, .int 0, .int 0, .int 0, .int 0, .int 0]))] s.heap := hP
  have hl := lv_entry ([.ref h0]) (n := 1) (Nat.le_of_ble_eq_true rfl)
  rw [lg_entry_eq]
  generalize (lg_sl ([.ref h0]) ++ List.replicate (1 - (lg_sl ([.ref h0])).length) Slot.unset).toArray = ls at hl ⊢
  have hl : lv_has ls 1 [(0, .ref h0)] := hl
  refine lv_aload_n hx hb dX6_init_0 rfl (lv_at hl 0 rfl) ?_
  refine W.objInit hx hb hown (hts (.methodLink RX6 3 objectInit) (by decide +kernel)) (hts (.instanceMethod objectInit) (by decide +kernel)) (hts (.code objectInit ⟨#[0xb1]⟩ 1 none) (by decide +kernel)) rfl (by rw [hml]; exact hl.1) rfl dX6_init_1 (Nat.le_of_ble_eq_true rfl) (Nat.le_of_ble_eq_true rfl) ?_
  refine W.eq (g2 := F0 m 4 ls []) rfl ?_
  refine lv_aload_n hx hb dX6_init_4 rfl (lv_at hl 0 rfl) ?_
  refine lv_bipush (v := 10) hx hb dX6_init_5 (by decide) ?_
  refine va_newa (atype := .int) (ty := .int) (a0 := (10, .inl (fun _ => 0))) (N' := 10) hx hb (hts (.arrayClass .int) (by decide +kernel)) rfl hK hP hD hS hA (fun _ => rfl) (by decide) (by decide) (by decide) (Nat.le_of_ble_eq_true rfl) (Nat.le_of_ble_eq_true rfl) dX6_init_7 (fun q_1 cA_2 H hK hP hD hS => ?_)
  have hK : va_K (dC, dI) vwCl [(cA_2, .int)] s := hK
  replace hP : va_P (dC, dI) vwCl [(h0, .inr (7, [.null, .int 0, .int 0, .int 0, .int 0, .int 0])), (q_1, .inl (cA_2, 10, .inl (fun _ => 0)))] H := hP
  replace hD : va_D A [(h0, .inr (7, [.null, .int 0, .int 0, .int 0, .int 0, .int 0])), (q_1, .inl (cA_2, 10, .inl (fun _ => 0)))] := hD
  refine W.widen (k := 1) (n := 10) (by omega) (by omega) ?_
  refine va_putF (D := (dC, dI)) (ci := 7) (v := .ref q_1) (ty := .array .int) (C := RX6) (T := TX6) (N := 6) hx hb hts in_s_restarts_X6 tyX6 tyX6_ok nmX6 hown hK hP hD hS 0 rfl rfl 0 (by decide) (hts (.fieldLink RX6 9 "ServiceTree$Restarts" "times" "[I") (by decide +kernel)) (fun _ h9 => h9) rfl hin rfl (by decide +kernel) rfl rfl (Nat.le_of_ble_eq_true rfl) dX6_init_9 (fun H locs hP hD hS => ?_)
  replace hP : va_P (dC, dI) vwCl [(h0, .inr (7, [.ref q_1, .int 0, .int 0, .int 0, .int 0, .int 0])), (q_1, .inl (cA_2, 10, .inl (fun _ => 0)))] H := hP
  replace hD : va_D A [(h0, .inr (7, [.ref q_1, .int 0, .int 0, .int 0, .int 0, .int 0])), (q_1, .inl (cA_2, 10, .inl (fun _ => 0)))] := hD
  refine lv_aload_n hx hb dX6_init_12 rfl (lv_at hl 0 rfl) ?_
  refine lv_iconst (v := 1) hx hb dX6_init_13 (by decide) ?_
  refine va_put (D := (dC, dI)) (ci := 7) (v := .int 1) (ty := .int) (C := RX6) (T := TX6) (N := 6) hx hb hts in_s_restarts_X6 tyX6 tyX6_ok nmX6 hown hK hP hD hS 0 rfl rfl 3 (by decide) (hts (.fieldLink RX6 15 "ServiceTree$Restarts" "delay" "I") (by decide +kernel)) (fun _ h9 => h9) rfl (by decide +kernel) rfl rfl (Nat.le_of_ble_eq_true rfl) dX6_init_14 (fun H locs hP hD hS => ?_)
  replace hP : va_P (dC, dI) vwCl [(h0, .inr (7, [.ref q_1, .int 0, .int 0, .int 1, .int 0, .int 0])), (q_1, .inl (cA_2, 10, .inl (fun _ => 0)))] H := hP
  replace hD : va_D A [(h0, .inr (7, [.ref q_1, .int 0, .int 0, .int 1, .int 0, .int 0])), (q_1, .inl (cA_2, 10, .inl (fun _ => 0)))] := hD
  refine lv_aload_n hx hb dX6_init_17 rfl (lv_at hl 0 rfl) ?_
  refine lv_iconst (v := 1) hx hb dX6_init_18 (by decide) ?_
  refine va_put (D := (dC, dI)) (ci := 7) (v := .int 1) (ty := .int) (C := RX6) (T := TX6) (N := 6) hx hb hts in_s_restarts_X6 tyX6 tyX6_ok nmX6 hown hK hP hD hS 0 rfl rfl 5 (by decide) (hts (.fieldLink RX6 19 "ServiceTree$Restarts" "window" "I") (by decide +kernel)) (fun _ h9 => h9) rfl (by decide +kernel) rfl rfl (Nat.le_of_ble_eq_true rfl) dX6_init_19 (fun H locs hP hD hS => ?_)
  replace hP : va_P (dC, dI) vwCl [(h0, .inr (7, [.ref q_1, .int 0, .int 0, .int 1, .int 0, .int 1])), (q_1, .inl (cA_2, 10, .inl (fun _ => 0)))] H := hP
  replace hD : va_D A [(h0, .inr (7, [.ref q_1, .int 0, .int 0, .int 1, .int 0, .int 1])), (q_1, .inl (cA_2, 10, .inl (fun _ => 0)))] := hD
  have hP9 := hP.sub (ws' := [(h0, .inr (7, [.ref q_1, .int 0, .int 0, .int 1, .int 0, .int 1])), (q_1, .inl (cA_2, 10, .inl (fun _ => 0)))]) [0, 1] rfl
  have hD9 := hD.sub (ws' := [(h0, .inr (7, [.ref q_1, .int 0, .int 0, .int 1, .int 0, .int 1])), (q_1, .inl (cA_2, 10, .inl (fun _ => 0)))]) [0, 1] (by decide) rfl
  have hK9 := hK.sub (tys' := [(cA_2, .int)]) [0] rfl
  exact W.vret hx hb hr (fun t ht hW => ⟨⟨(), rfl, trivial, q_1, cA_2, by rw [ht]; exact hP9, va_K.moved hW.alike hK9, hD9⟩, hS.F ht⟩) hS.2.2 dX6_init_22
def wq_s_door20 : List Cond := ([.code yX0_init cX0_init 2 none, .methodLink RX0 1 objectInit, .instanceMethod objectInit, .code objectInit ⟨#[0xb1]⟩ 1 none, .fieldLink RX0 7 "ServiceTree$Door" "lastRead" "I", .arrayClass .int, .fieldLink RX0 13 "ServiceTree$Door" "letters" "[I"] : List Cond) ++ (wsX00)
theorem in_s_door20_X0 : ∀ w ∈ wsX00, w ∈ wq_s_door20 := fun _ h => List.mem_append_right _ (h)
set_option maxRecDepth 20000 in
theorem wi_s_door20 : ∀ w ∈ wq_s_door20, w ∈ lw_tbl := List.forall_mem_append.mpr ⟨(wix [314, 315, 86, 87, 322, 209, 316] rfl), inKX0⟩
set_option maxRecDepth 20000 in
theorem wg_s_door20 : GoodIn wq_s_door20 wq_s_door20 := goodIn_sub (fun _ h => h) (by decide +kernel)
set_option maxHeartbeats 4000000 in
set_option maxRecDepth 100000 in
theorem c_s_door20 (l : Launch) (dC : Nat → ClassId) (dI : Nat → Nat → Nat) (h0 : Nat) (sz : Nat) : Met l yX0_init wq_s_door20 ({ frames := 1, cells := 1, slots := 20, locals := 28 }) (va_Pc [.ref h0, .int 20] (fun U => U.heap.size = sz ∧ va_P (dC, dI) vwCl [(h0, .inr (1, [.null, .int 0, .int 0, .int 0, .int 0]))] U.heap ∧ va_K (dC, dI) vwCl [] U ∧ va_D (fun _ => True) [(h0, .inr (1, [.null, .int 0, .int 0, .int 0, .int 0]))] ∧ pw_N U)) (va_Qv (fun (_ : Unit) => True) (fun (_ : Unit) (t : State) => ∃ (t0 : Nat), ∃ (k0 : ClassId), va_P (dC, dI) vwCl [(h0, .inr (1, [.ref t0, .int 0, .int 0, .int 0, .int (-1)])), (t0, .inl (k0, 20, .inl (fun _ => 0)))] t.heap ∧ va_K (dC, dI) vwCl [(k0, .int)] t ∧ va_D (va_A [(h0, .inr (1, [.null, .int 0, .int 0, .int 0, .int 0]))] sz) [(h0, .inr (1, [.ref t0, .int 0, .int 0, .int 0, .int (-1)])), (t0, .inl (k0, 20, .inl (fun _ => 0)))]) (va_A [(h0, .inr (1, [.null, .int 0, .int 0, .int 0, .int 0]))] sz)) 1 20 (va_A [(h0, .inr (1, [.null, .int 0, .int 0, .int 0, .int 0]))] sz) := by
  refine Met.ofW (cc := cX0_init) (maxL := 2) (ret := none) (by decide) rfl ?_
  intro p e s m args below meth c s₁ B hml hv
  obtain ⟨rfl, hsz, hP, hK, hD0, hN⟩ := hv
  have hx := B.exec
  have hb := B.bytes
  have hr := B.returns
  have hts := atoms_spec (ws := wq_s_door20) B.pre
  have hown : s.vm.findClass RX0 = some m.cls := findClass_of_methodNamed B.named
  have hlocks := B.notSynchronized
  have hin : meth.name = "<init>" := (name_of_methodNamed B.named B.method).1
  subst hsz
  have hD := hD0.self (sz := s.heap.size)
  generalize hAe : va_A [(h0, .inr (1, [.null, .int 0, .int 0, .int 0, .int 0]))] s.heap.size = A at hD ⊢
  have hA : ∀ q : Nat, s.heap.size ≤ q → A q := fun q h => by rw [← hAe]; exact Or.inr h
  have hS : va_S A s.heap s.heap [] := va_S.rf
  have hP : va_P (dC, dI) vwCl [(h0, .inr (1, [.null, .int 0, .int 0, .int 0, .int 0]))] s.heap := hP
  have hl := lv_entry ([.ref h0, .int 20]) (n := 2) (Nat.le_of_ble_eq_true rfl)
  rw [lg_entry_eq]
  generalize (lg_sl ([.ref h0, .int 20]) ++ List.replicate (2 - (lg_sl ([.ref h0, .int 20])).length) Slot.unset).toArray = ls at hl ⊢
  have hl : lv_has ls 2 [(0, .ref h0), (1, .int 20)] := hl
  refine lv_aload_n hx hb dX0_init_0 rfl (lv_at hl 0 rfl) ?_
  refine W.objInit hx hb hown (hts (.methodLink RX0 1 objectInit) (by decide +kernel)) (hts (.instanceMethod objectInit) (by decide +kernel)) (hts (.code objectInit ⟨#[0xb1]⟩ 1 none) (by decide +kernel)) rfl (by rw [hml]; exact hl.1) rfl dX0_init_1 (Nat.le_of_ble_eq_true rfl) (Nat.le_of_ble_eq_true rfl) ?_
  refine W.eq (g2 := F0 m 4 ls []) rfl ?_
  refine lv_aload_n hx hb dX0_init_4 rfl (lv_at hl 0 rfl) ?_
  refine lv_iconst (v := (-1)) hx hb dX0_init_5 (by decide) ?_
  refine va_put (D := (dC, dI)) (ci := 1) (v := .int (-1)) (ty := .int) (C := RX0) (T := TX0) (N := 5) hx hb hts in_s_door20_X0 tyX0 tyX0_ok nmX0 hown hK hP hD hS 0 rfl rfl 4 (by decide) (hts (.fieldLink RX0 7 "ServiceTree$Door" "lastRead" "I") (by decide +kernel)) (fun _ h9 => h9) rfl (by decide +kernel) rfl rfl (Nat.le_of_ble_eq_true rfl) dX0_init_6 (fun H locs hP hD hS => ?_)
  replace hP : va_P (dC, dI) vwCl [(h0, .inr (1, [.null, .int 0, .int 0, .int 0, .int (-1)]))] H := hP
  replace hD : va_D A [(h0, .inr (1, [.null, .int 0, .int 0, .int 0, .int (-1)]))] := hD
  refine lv_aload_n hx hb dX0_init_9 rfl (lv_at hl 0 rfl) ?_
  refine lv_iload_n hx hb dX0_init_10 rfl (lv_at hl 1 rfl) ?_
  refine va_newa (atype := .int) (ty := .int) (a0 := (20, .inl (fun _ => 0))) (N' := 20) hx hb (hts (.arrayClass .int) (by decide +kernel)) rfl hK hP hD hS hA (fun _ => rfl) (by decide) (by decide) (by decide) (Nat.le_of_ble_eq_true rfl) (Nat.le_of_ble_eq_true rfl) dX0_init_11 (fun q_1 cA_2 H hK hP hD hS => ?_)
  have hK : va_K (dC, dI) vwCl [(cA_2, .int)] s := hK
  replace hP : va_P (dC, dI) vwCl [(h0, .inr (1, [.null, .int 0, .int 0, .int 0, .int (-1)])), (q_1, .inl (cA_2, 20, .inl (fun _ => 0)))] H := hP
  replace hD : va_D A [(h0, .inr (1, [.null, .int 0, .int 0, .int 0, .int (-1)])), (q_1, .inl (cA_2, 20, .inl (fun _ => 0)))] := hD
  refine W.widen (k := 1) (n := 20) (by omega) (by omega) ?_
  refine va_putF (D := (dC, dI)) (ci := 1) (v := .ref q_1) (ty := .array .int) (C := RX0) (T := TX0) (N := 5) hx hb hts in_s_door20_X0 tyX0 tyX0_ok nmX0 hown hK hP hD hS 0 rfl rfl 0 (by decide) (hts (.fieldLink RX0 13 "ServiceTree$Door" "letters" "[I") (by decide +kernel)) (fun _ h9 => h9) rfl hin rfl (by decide +kernel) rfl rfl (Nat.le_of_ble_eq_true rfl) dX0_init_13 (fun H locs hP hD hS => ?_)
  replace hP : va_P (dC, dI) vwCl [(h0, .inr (1, [.ref q_1, .int 0, .int 0, .int 0, .int (-1)])), (q_1, .inl (cA_2, 20, .inl (fun _ => 0)))] H := hP
  replace hD : va_D A [(h0, .inr (1, [.ref q_1, .int 0, .int 0, .int 0, .int (-1)])), (q_1, .inl (cA_2, 20, .inl (fun _ => 0)))] := hD
  have hP9 := hP.sub (ws' := [(h0, .inr (1, [.ref q_1, .int 0, .int 0, .int 0, .int (-1)])), (q_1, .inl (cA_2, 20, .inl (fun _ => 0)))]) [0, 1] rfl
  have hD9 := hD.sub (ws' := [(h0, .inr (1, [.ref q_1, .int 0, .int 0, .int 0, .int (-1)])), (q_1, .inl (cA_2, 20, .inl (fun _ => 0)))]) [0, 1] (by decide) rfl
  have hK9 := hK.sub (tys' := [(cA_2, .int)]) [0] rfl
  exact W.vret hx hb hr (fun t ht hW => ⟨⟨(), rfl, trivial, q_1, cA_2, by rw [ht]; exact hP9, va_K.moved hW.alike hK9, hD9⟩, hS.F ht⟩) hS.2.2 dX0_init_16
def wq_s_door0 : List Cond := ([.code yX0_init cX0_init 2 none, .methodLink RX0 1 objectInit, .instanceMethod objectInit, .code objectInit ⟨#[0xb1]⟩ 1 none, .fieldLink RX0 7 "ServiceTree$Door" "lastRead" "I", .arrayClass .int, .fieldLink RX0 13 "ServiceTree$Door" "letters" "[I"] : List Cond) ++ (wsX00)
theorem in_s_door0_X0 : ∀ w ∈ wsX00, w ∈ wq_s_door0 := fun _ h => List.mem_append_right _ (h)
set_option maxRecDepth 20000 in
theorem wi_s_door0 : ∀ w ∈ wq_s_door0, w ∈ lw_tbl := List.forall_mem_append.mpr ⟨(wix [314, 315, 86, 87, 322, 209, 316] rfl), inKX0⟩
set_option maxRecDepth 20000 in
theorem wg_s_door0 : GoodIn wq_s_door0 wq_s_door0 := goodIn_sub (fun _ h => h) (by decide +kernel)
set_option maxHeartbeats 4000000 in
set_option maxRecDepth 100000 in
theorem c_s_door0 (l : Launch) (dC : Nat → ClassId) (dI : Nat → Nat → Nat) (h0 : Nat) (sz : Nat) : Met l yX0_init wq_s_door0 ({ frames := 1, cells := 1, slots := 0, locals := 28 }) (va_Pc [.ref h0, .int 0] (fun U => U.heap.size = sz ∧ va_P (dC, dI) vwCl [(h0, .inr (1, [.null, .int 0, .int 0, .int 0, .int 0]))] U.heap ∧ va_K (dC, dI) vwCl [] U ∧ va_D (fun _ => True) [(h0, .inr (1, [.null, .int 0, .int 0, .int 0, .int 0]))] ∧ pw_N U)) (va_Qv (fun (_ : Unit) => True) (fun (_ : Unit) (t : State) => ∃ (t0 : Nat), ∃ (k0 : ClassId), va_P (dC, dI) vwCl [(h0, .inr (1, [.ref t0, .int 0, .int 0, .int 0, .int (-1)])), (t0, .inl (k0, 0, .inl (fun _ => 0)))] t.heap ∧ va_K (dC, dI) vwCl [(k0, .int)] t ∧ va_D (va_A [(h0, .inr (1, [.null, .int 0, .int 0, .int 0, .int 0]))] sz) [(h0, .inr (1, [.ref t0, .int 0, .int 0, .int 0, .int (-1)])), (t0, .inl (k0, 0, .inl (fun _ => 0)))]) (va_A [(h0, .inr (1, [.null, .int 0, .int 0, .int 0, .int 0]))] sz)) 1 0 (va_A [(h0, .inr (1, [.null, .int 0, .int 0, .int 0, .int 0]))] sz) := by
  refine Met.ofW (cc := cX0_init) (maxL := 2) (ret := none) (by decide) rfl ?_
  intro p e s m args below meth c s₁ B hml hv
  obtain ⟨rfl, hsz, hP, hK, hD0, hN⟩ := hv
  have hx := B.exec
  have hb := B.bytes
  have hr := B.returns
  have hts := atoms_spec (ws := wq_s_door0) B.pre
  have hown : s.vm.findClass RX0 = some m.cls := findClass_of_methodNamed B.named
  have hlocks := B.notSynchronized
  have hin : meth.name = "<init>" := (name_of_methodNamed B.named B.method).1
  subst hsz
  have hD := hD0.self (sz := s.heap.size)
  generalize hAe : va_A [(h0, .inr (1, [.null, .int 0, .int 0, .int 0, .int 0]))] s.heap.size = A at hD ⊢
  have hA : ∀ q : Nat, s.heap.size ≤ q → A q := fun q h => by rw [← hAe]; exact Or.inr h
  have hS : va_S A s.heap s.heap [] := va_S.rf
  have hP : va_P (dC, dI) vwCl [(h0, .inr (1, [.null, .int 0, .int 0, .int 0, .int 0]))] s.heap := hP
  have hl := lv_entry ([.ref h0, .int 0]) (n := 2) (Nat.le_of_ble_eq_true rfl)
  rw [lg_entry_eq]
  generalize (lg_sl ([.ref h0, .int 0]) ++ List.replicate (2 - (lg_sl ([.ref h0, .int 0])).length) Slot.unset).toArray = ls at hl ⊢
  have hl : lv_has ls 2 [(0, .ref h0), (1, .int 0)] := hl
  refine lv_aload_n hx hb dX0_init_0 rfl (lv_at hl 0 rfl) ?_
  refine W.objInit hx hb hown (hts (.methodLink RX0 1 objectInit) (by decide +kernel)) (hts (.instanceMethod objectInit) (by decide +kernel)) (hts (.code objectInit ⟨#[0xb1]⟩ 1 none) (by decide +kernel)) rfl (by rw [hml]; exact hl.1) rfl dX0_init_1 (Nat.le_of_ble_eq_true rfl) (Nat.le_of_ble_eq_true rfl) ?_
  refine W.eq (g2 := F0 m 4 ls []) rfl ?_
  refine lv_aload_n hx hb dX0_init_4 rfl (lv_at hl 0 rfl) ?_
  refine lv_iconst (v := (-1)) hx hb dX0_init_5 (by decide) ?_
  refine va_put (D := (dC, dI)) (ci := 1) (v := .int (-1)) (ty := .int) (C := RX0) (T := TX0) (N := 5) hx hb hts in_s_door0_X0 tyX0 tyX0_ok nmX0 hown hK hP hD hS 0 rfl rfl 4 (by decide) (hts (.fieldLink RX0 7 "ServiceTree$Door" "lastRead" "I") (by decide +kernel)) (fun _ h9 => h9) rfl (by decide +kernel) rfl rfl (Nat.le_of_ble_eq_true rfl) dX0_init_6 (fun H locs hP hD hS => ?_)
  replace hP : va_P (dC, dI) vwCl [(h0, .inr (1, [.null, .int 0, .int 0, .int 0, .int (-1)]))] H := hP
  replace hD : va_D A [(h0, .inr (1, [.null, .int 0, .int 0, .int 0, .int (-1)]))] := hD
  refine lv_aload_n hx hb dX0_init_9 rfl (lv_at hl 0 rfl) ?_
  refine lv_iload_n hx hb dX0_init_10 rfl (lv_at hl 1 rfl) ?_
  refine va_newa (atype := .int) (ty := .int) (a0 := (0, .inl (fun _ => 0))) (N' := 0) hx hb (hts (.arrayClass .int) (by decide +kernel)) rfl hK hP hD hS hA (fun _ => rfl) (by decide) (by decide) (by decide) (Nat.le_of_ble_eq_true rfl) (Nat.le_of_ble_eq_true rfl) dX0_init_11 (fun q_1 cA_2 H hK hP hD hS => ?_)
  have hK : va_K (dC, dI) vwCl [(cA_2, .int)] s := hK
  replace hP : va_P (dC, dI) vwCl [(h0, .inr (1, [.null, .int 0, .int 0, .int 0, .int (-1)])), (q_1, .inl (cA_2, 0, .inl (fun _ => 0)))] H := hP
  replace hD : va_D A [(h0, .inr (1, [.null, .int 0, .int 0, .int 0, .int (-1)])), (q_1, .inl (cA_2, 0, .inl (fun _ => 0)))] := hD
  refine W.widen (k := 1) (n := 0) (by omega) (by omega) ?_
  refine va_putF (D := (dC, dI)) (ci := 1) (v := .ref q_1) (ty := .array .int) (C := RX0) (T := TX0) (N := 5) hx hb hts in_s_door0_X0 tyX0 tyX0_ok nmX0 hown hK hP hD hS 0 rfl rfl 0 (by decide) (hts (.fieldLink RX0 13 "ServiceTree$Door" "letters" "[I") (by decide +kernel)) (fun _ h9 => h9) rfl hin rfl (by decide +kernel) rfl rfl (Nat.le_of_ble_eq_true rfl) dX0_init_13 (fun H locs hP hD hS => ?_)
  replace hP : va_P (dC, dI) vwCl [(h0, .inr (1, [.ref q_1, .int 0, .int 0, .int 0, .int (-1)])), (q_1, .inl (cA_2, 0, .inl (fun _ => 0)))] H := hP
  replace hD : va_D A [(h0, .inr (1, [.ref q_1, .int 0, .int 0, .int 0, .int (-1)])), (q_1, .inl (cA_2, 0, .inl (fun _ => 0)))] := hD
  have hP9 := hP.sub (ws' := [(h0, .inr (1, [.ref q_1, .int 0, .int 0, .int 0, .int (-1)])), (q_1, .inl (cA_2, 0, .inl (fun _ => 0)))]) [0, 1] rfl
  have hD9 := hD.sub (ws' := [(h0, .inr (1, [.ref q_1, .int 0, .int 0, .int 0, .int (-1)])), (q_1, .inl (cA_2, 0, .inl (fun _ => 0)))]) [0, 1] (by decide) rfl
  have hK9 := hK.sub (tys' := [(cA_2, .int)]) [0] rfl
  exact W.vret hx hb hr (fun t ht hW => ⟨⟨(), rfl, trivial, q_1, cA_2, by rw [ht]; exact hP9, va_K.moved hW.alike hK9, hD9⟩, hS.F ht⟩) hS.2.2 dX0_init_16
end
section
theorem xd_iff {A : Nat → Prop} {ws : va_W} : va_D A ws ↔ (ws.map (fun q => q.1)).Nodup ∧ ∀ q ∈ ws, A q.1 := by
  constructor
  · intro h
    refine ⟨List.pairwise_iff_getElem.mpr (fun i j hi hj hij e => ?_), fun q hq => ?_⟩
    · rw [List.getElem_map, List.getElem_map] at e
      have hi1 : i < ws.length := by rw [List.length_map] at hi; exact hi
      have hj1 : j < ws.length := by rw [List.length_map] at hj; exact hj
      have := h.1 i j _ _ (List.getElem?_eq_getElem hi1) (List.getElem?_eq_getElem hj1) e
      omega
    · obtain ⟨k, hk⟩ := List.getElem?_of_mem hq
      exact h.2 k q hk
  · intro h
    refine ⟨fun i j p q hi hj e => ?_, fun k q hk => h.2 q (List.mem_of_getElem? hk)⟩
    obtain ⟨hi1, hi2⟩ := List.getElem?_eq_some_iff.mp hi
    obtain ⟨hj1, hj2⟩ := List.getElem?_eq_some_iff.mp hj
    have hp := List.pairwise_iff_getElem.mp h.1
    rcases Nat.lt_trichotomy i j with c | c | c
    · have h9 := hp i j (by rw [List.length_map]; exact hi1) (by rw [List.length_map]; exact hj1) c
      rw [List.getElem_map, List.getElem_map, hi2, hj2] at h9
      exact absurd e h9
    · exact c
    · have h9 := hp j i (by rw [List.length_map]; exact hj1) (by rw [List.length_map]; exact hi1) c
      rw [List.getElem_map, List.getElem_map, hi2, hj2] at h9
      exact absurd e.symm h9
theorem xq_perm {D : va_G} {cl : List vw_C} {ws ws2 : va_W} {H : Heap} (p : ws.Perm ws2) (h : va_P D cl ws H) : va_P D cl ws2 H := fun k q hk => by
  obtain ⟨j, hj⟩ := List.getElem?_of_mem (p.mem_iff.mpr (List.mem_of_getElem? hk))
  exact h j q hj
theorem xd_perm {A : Nat → Prop} {ws ws2 : va_W} (p : ws.Perm ws2) (h : va_D A ws) : va_D A ws2 := by
  rw [xd_iff] at h ⊢
  exact ⟨(p.map _).nodup_iff.mp h.1, fun q hq => h.2 q (p.mem_iff.mpr hq)⟩
theorem xq_at {X C : va_W} {k : Nat} {q : Nat × va_E} (hk : C[k]? = some q) : (X ++ C)[X.length + k]? = some q := by
  rw [List.getElem?_append_right (Nat.le_add_right _ _), Nat.add_sub_cancel_left]; exact hk
theorem xq_al {X C : va_W} {k : Nat} {q : Nat × va_E} (hk : X[k]? = some q) : (X ++ C)[k]? = some q := by
  rw [List.getElem?_append_left (List.getElem?_eq_some_iff.mp hk).1]; exact hk
theorem xq_right {D : va_G} {cl : List vw_C} {X C : va_W} {H : Heap} (h : va_P D cl (X ++ C) H) : va_P D cl C H := fun k q hk => h (X.length + k) q (xq_at hk)
theorem xd_right {A : Nat → Prop} {X C : va_W} (h : va_D A (X ++ C)) : va_D A C :=
  ⟨fun i j p q hi hj e => by have h9 := h.1 (X.length + i) (X.length + j) p q (xq_at hi) (xq_at hj) e; omega, fun k q hk => h.2 (X.length + k) q (xq_at hk)⟩
theorem xj_free {A0 : Nat → Prop} {X C : va_W} {H0 H : Heap} {locs : List Loc} (hD : va_D A0 (X ++ C)) (hS : va_S A0 H0 H locs) (hA : ∀ q, H0.size ≤ q → A0 q) : ∀ q, va_A C H.size q → A0 q := by
  intro q hq
  rcases hq with ⟨k, e, hk⟩ | hq
  · exact (xd_right hD).2 k _ hk
  · exact hA q (Nat.le_trans hS.1 hq)
theorem xj_out {A0 : Nat → Prop} {D : va_G} {cl : List vw_C} {X C : va_W} {H : Heap} (hP : va_P D cl (X ++ C) H) (hD : va_D A0 (X ++ C)) : ∀ (k : Nat) (x : Nat × va_E), X[k]? = some x → x.1 < H.size ∧ ¬ va_A C H.size x.1 := by
  intro k x hx
  have hx2 : (X ++ C)[k]? = some x := xq_al hx
  have hlt := (hP k x hx2).lt
  refine ⟨hlt, fun q => ?_⟩
  rcases q with ⟨j, e, hj⟩ | q
  · have h9 := hD.1 k (X.length + j) x _ hx2 (xq_at hj) rfl
    have h8 := (List.getElem?_eq_some_iff.mp hx).1
    omega
  · omega
theorem xj_join {A0 : Nat → Prop} {D : va_G} {cl : List vw_C} {X C C1 : va_W} {H H1 : Heap} (hP : va_P D cl (X ++ C) H) (hD : va_D A0 (X ++ C)) (hk : ∀ q : Nat, q < H.size → ¬ va_A C H.size q → H1[q]? = H[q]?) (hF : ∀ q, va_A C H.size q → A0 q) (hP1 : va_P D cl C1 H1) (hD1 : va_D (va_A C H.size) C1) : va_P D cl (X ++ C1) H1 ∧ va_D A0 (X ++ C1) := by
  have hX := xj_out hP hD
  refine ⟨va_P.app (fun k x hx => (hP k x (xq_al hx)).kept (hk _ (hX k x hx).1 (hX k x hx).2)) hP1, va_D.app ⟨?_, ?_⟩ (hD1.weaken (fun _ q _ h => hF q.1 h)) ?_⟩
  · exact fun i j p q hi hj e => hD.1 i j p q (xq_al hi) (xq_al hj) e
  · exact fun k q hk => hD.2 k q (xq_al hk)
  · exact fun i j p q hi hj e => (hX i p hi).2 (by rw [e]; exact hD1.2 j q hj)
theorem xK_int {D : va_G} {cl : List vw_C} {tys : List (ClassId × FieldType)} {U : State} {c1 c2 : ClassId} {k1 k2 : Nat} (h : va_K D cl tys U) (h1 : tys[k1]? = some (c1, .int)) (h2 : tys[k2]? = some (c2, .int)) : c1 = c2 := by
  have a : U.vm.findClass ("[" ++ FieldType.int.toString) = some c1 := (h.2 k1 _ h1).2
  have b : U.vm.findClass ("[" ++ FieldType.int.toString) = some c2 := (h.2 k2 _ h2).2
  exact Option.some.inj (a.symm.trans b)
theorem xK_long {D : va_G} {cl : List vw_C} {tys : List (ClassId × FieldType)} {U : State} {c1 c2 : ClassId} {k1 k2 : Nat} (h : va_K D cl tys U) (h1 : tys[k1]? = some (c1, .long)) (h2 : tys[k2]? = some (c2, .long)) : c1 = c2 := by
  have a : U.vm.findClass ("[" ++ FieldType.long.toString) = some c1 := (h.2 k1 _ h1).2
  have b : U.vm.findClass ("[" ++ FieldType.long.toString) = some c2 := (h.2 k2 _ h2).2
  exact Option.some.inj (a.symm.trans b)
theorem xK_arr {D : va_G} {cl : List vw_C} {tys : List (ClassId × FieldType)} {U : State} {c1 c2 : ClassId} {k1 k2 : Nat} {t9 : FieldType} (h : va_K D cl tys U) (h1 : tys[k1]? = some (c1, .array t9)) (h2 : tys[k2]? = some (c2, .array t9)) : c1 = c2 := by
  have a : U.vm.findClass ("[" ++ (FieldType.array t9).toString) = some c1 := (h.2 k1 _ h1).2
  have b : U.vm.findClass ("[" ++ (FieldType.array t9).toString) = some c2 := (h.2 k2 _ h2).2
  exact Option.some.inj (a.symm.trans b)
theorem xK_obj {D : va_G} {cl : List vw_C} {tys : List (ClassId × FieldType)} {U : State} {c1 c2 : ClassId} {k1 k2 : Nat} {C : String} (h : va_K D cl tys U) (h1 : tys[k1]? = some (c1, .object C)) (h2 : tys[k2]? = some (c2, .object C)) : c1 = c2 := by
  obtain ⟨-, -, -, -, -, a⟩ := (h.2 k1 _ h1).2
  obtain ⟨-, -, -, -, -, b⟩ := (h.2 k2 _ h2).2
  exact Option.some.inj (a.symm.trans b)
theorem xp_1 {α : Type} (x y c0 : α) (F M E C5 : List α) : List.Perm (((x :: y :: F) ++ (M ++ E)) ++ (c0 :: C5)) (((x :: (F ++ M)) ++ C5) ++ ([y] ++ (E ++ [c0]))) := by
  letI : DecidableEq α := fun a b => Classical.propDecidable (a = b)
  rw [List.perm_iff_count]
  intro a
  simp only [List.count_append, List.count_cons, List.count_nil]
  omega
theorem xp_2 {α : Type} (x y e c0 : α) (F M C5 : List α) : List.Perm (((x :: (F ++ M)) ++ C5) ++ [y, e, c0]) ((x :: y :: F) ++ ((M ++ (c0 :: C5)) ++ [e])) := by
  letI : DecidableEq α := fun a b => Classical.propDecidable (a = b)
  rw [List.perm_iff_count]
  intro a
  simp only [List.count_append, List.count_cons, List.count_nil]
  omega

def xF2 (a : Nat → Nat) (cI cJ cO : ClassId) (L : Nat → Int64) (I : Nat → Int32) (M : Nat → Nat → Int64) (J : Nat → Nat → Int32) : va_W := [(a 1, .inr (6, [.ref (a 10), .ref (a 11), .int (I 7)])), (a 10, .inl (cO, 4, .inr (.inr (.inr (.inr (fun i => if i < 4 then some (a (20 + i)) else none)))))), (a 11, .inl (cO, 4, .inr (.inr (.inr (.inr (fun i => if i < 4 then some (a (24 + i)) else none)))))), (a 20, .inl (cJ, 40, .inr (.inl (M 0)))), (a 21, .inl (cJ, 40, .inr (.inl (M 1)))), (a 22, .inl (cJ, 40, .inr (.inl (M 2)))), (a 23, .inl (cJ, 40, .inr (.inl (M 3)))), (a 24, .inl (cJ, 40, .inr (.inl (M 4)))), (a 25, .inl (cJ, 40, .inr (.inl (M 5)))), (a 26, .inl (cJ, 40, .inr (.inl (M 6)))), (a 27, .inl (cJ, 40, .inr (.inl (M 7)))), (a 2, .inr (2, [.ref (a 1), .long (L 2), .long (L 3), .long (L 4), .int (I 8)])), (a 3, .inr (4, [.ref (a 1), .long (L 5), .long (L 6), .long (L 7)])), (a 4, .inr (5, [.ref (a 12), .ref (a 13), .ref (a 14), .long (L 8), .int (I 9), .int (I 10), .int (I 11)])), (a 12, .inl (cI, 40, .inl (J 0))), (a 13, .inl (cI, 40, .inl (J 1))), (a 14, .inl (cI, 40, .inl (J 2))), (a 5, .inr (3, [.ref (a 15), .int (I 12)])), (a 15, .inl (cJ, 2000, .inr (.inl (M 8)))), (a 6, .inl (cJ, 6, .inr (.inl (M 9))))]
theorem xW_eq (h : Nat) (a : Nat → Nat) (e : Nat) (cI cJ cO cE : ClassId) (L : Nat → Int64) (I : Nat → Int32) (M : Nat → Nat → Int64) (J : Nat → Nat → Int32) (n cap : Nat) (fE : Nat → Option Nat) (sd : Nat → Nat → Nat) (si : Nat → Nat → Int32) (sa : Nat → Nat → Nat → Int32) (dl : Nat → Nat) : xW h a e cI cJ cO cE L I M J n cap fE sd si sa dl = ((h, .inr (9, [.ref (a 0), .ref (a 1), .ref (a 2), .ref (a 3), .ref (a 4), .ref (a 5), .ref (a 6), .long (L 0), .long (L 1), .int (I 0), .int (I 1), .int (I 2), .int (I 3), .int (I 4)])) :: (a 0, .inr (0, [.int (I 5), .ref e, .int (I 6)])) :: xF2 a cI cJ cO L I M J) ++ ((List.range (6 * n)).map (xP cI sd si sa dl) ++ xE n e cap cE fE) := rfl
def xsd (sd : Nat → Nat → Nat) (n q l0 l1 t1 l2 t2 : Nat) : Nat → Nat → Nat := fun s j => if s = n then (if j = 0 then q else if j = 1 then l0 else if j = 2 then l1 else if j = 3 then t1 else if j = 4 then l2 else t2) else sd s j
def xsi (si : Nat → Nat → Int32) (n : Nat) (p0 p1 p2 w : Int32) : Nat → Nat → Int32 := fun s j => if s = n then (if j = 0 then p0 else if j = 1 then p1 else if j = 2 then p2 else if j = 7 then w else if j = 23 then 1 else if j = 25 then 1 else if j = 34 then (-1) else 0) else si s j
def xsa (sa : Nat → Nat → Nat → Int32) (n : Nat) : Nat → Nat → Nat → Int32 := fun s j => if s = n then (fun _ => 0) else sa s j
def xdl (dl : Nat → Nat) (n dv : Nat) : Nat → Nat := fun s => if s = n then dv else dl s
theorem x_map6 {α : Type} (f : Nat → α) (n : Nat) : (List.range (6 * (n + 1))).map f = (List.range (6 * n)).map f ++ [f (6 * n + 0), f (6 * n + 1), f (6 * n + 2), f (6 * n + 3), f (6 * n + 4), f (6 * n + 5)] := by
  rw [show 6 * (n + 1) = ((((((6 * n + 0) + 1) + 1) + 1) + 1) + 1) + 1 by omega]
  simp only [List.range_succ, List.map_append, List.map_cons, List.map_nil, List.append_assoc, List.cons_append, List.nil_append, Nat.add_zero, Nat.add_assoc]
theorem xP_new (cI : ClassId) (sd : Nat → Nat → Nat) (si : Nat → Nat → Int32) (sa : Nat → Nat → Nat → Int32) (dl : Nat → Nat) (n q l0 l1 t1 l2 t2 dv : Nat) (p0 p1 p2 w : Int32) : (List.range (6 * (n + 1))).map (xP cI (xsd sd n q l0 l1 t1 l2 t2) (xsi si n p0 p1 p2 w) (xsa sa n) (xdl dl n dv)) = (List.range (6 * n)).map (xP cI sd si sa dl) ++ ((q, .inr (8, [.int p0, .int p1, .int p2, .ref l0, .ref l1, .ref l2, .int 0, .int w, .int 0, .int 0, .int 0, .int 0])) :: [(l0, .inl (cI, 8, .inl (fun _ => 0))), (l1, .inr (7, [.ref t1, .int 0, .int 0, .int 1, .int 0, .int 1])), (t1, .inl (cI, 10, .inl (fun _ => 0))), (l2, .inr (1, [.ref t2, .int 0, .int 0, .int 0, .int (-1)])), (t2, .inl (cI, dv, .inl (fun _ => 0)))]) := by
  rw [x_map6, xP_0, xP_1, xP_2, xP_3, xP_4, xP_5]
  congr 1
  · apply List.map_congr_left
    intro t ht
    have h9 : t < 6 * n := List.mem_range.mp ht
    have h8 : t / 6 ≠ n := by omega
    simp [xP, xsd, xsi, xsa, xdl, h8]
  · simp [xsd, xsi, xsa, xdl]
theorem xW_add (h : Nat) (a : Nat → Nat) (e : Nat) (cI cJ cO cE : ClassId) (L : Nat → Int64) (I : Nat → Int32) (M : Nat → Nat → Int64) (J : Nat → Nat → Int32) (n cap : Nat) (fE : Nat → Option Nat) (sd : Nat → Nat → Nat) (si : Nat → Nat → Int32) (sa : Nat → Nat → Nat → Int32) (dl : Nat → Nat) (q l0 l1 t1 l2 t2 dv e1 N : Nat) (g : Nat → Option Nat) (p0 p1 p2 w x5 : Int32) : ((h, .inr (9, [.ref (a 0), .ref (a 1), .ref (a 2), .ref (a 3), .ref (a 4), .ref (a 5), .ref (a 6), .long (L 0), .long (L 1), .int (I 0), .int (I 1), .int (I 2), .int (I 3), .int (I 4)])) :: (a 0, .inr (0, [.int x5, .ref e1, .int (nI (n + 1))])) :: xF2 a cI cJ cO L I M J) ++ (((List.range (6 * n)).map (xP cI sd si sa dl) ++ ((q, .inr (8, [.int p0, .int p1, .int p2, .ref l0, .ref l1, .ref l2, .int 0, .int w, .int 0, .int 0, .int 0, .int 0])) :: [(l0, .inl (cI, 8, .inl (fun _ => 0))), (l1, .inr (7, [.ref t1, .int 0, .int 0, .int 1, .int 0, .int 1])), (t1, .inl (cI, 10, .inl (fun _ => 0))), (l2, .inr (1, [.ref t2, .int 0, .int 0, .int 0, .int (-1)])), (t2, .inl (cI, dv, .inl (fun _ => 0)))])) ++ [(e1, .inl (cE, N, .inr (.inr (.inr (.inr g)))))]) = xW h a e1 cI cJ cO cE L (va_up (va_up I 5 x5) 6 (nI (n + 1))) M J (n + 1) N g (xsd sd n q l0 l1 t1 l2 t2) (xsi si n p0 p1 p2 w) (xsa sa n) (xdl dl n dv) := by
  rw [← xP_new]
  rw [xW_eq]
  rw [show xE (n + 1) e1 N cE g = [(e1, .inl (cE, N, .inr (.inr (.inr (.inr g)))))] from if_neg (by omega)]
  rfl
theorem xInv_add {n cap b : Nat} {fE : Nat → Option Nat} {sd : Nat → Nat → Nat} {dl : Nat → Nat} {I : Nat → Int32} {J : Nat → Nat → Int32} {si : Nat → Nat → Int32} {q l0 l1 t1 l2 t2 dv N : Nat} {g : Nat → Option Nat} {p0 p1 p2 w x5 : Int32} (h : InvX n cap fE sd dl b I J si) (hn : n < 40) (hN : n < N ∧ N < 100) (hg : (∀ i : Nat, i < n → g i = fE i) ∧ g n = some q) (hd : dv = 20 ∨ dv = 0) : InvX (n + 1) N g (xsd sd n q l0 l1 t1 l2 t2) (xdl dl n dv) b (va_up (va_up I 5 x5) 6 (nI (n + 1))) J (xsi si n p0 p1 p2 w) := by
  obtain ⟨⟨a1, a2, a3, a4, a5⟩, h2, h3, h4, h5, h6, h7, h8⟩ := h
  have e9 : (va_up (va_up I 5 x5) 6 (nI (n + 1))) 9 = I 9 := by rw [va_up_ne _ _ (by decide), va_up_ne _ _ (by decide)]
  have e12 : (va_up (va_up I 5 x5) 6 (nI (n + 1))) 12 = I 12 := by rw [va_up_ne _ _ (by decide), va_up_ne _ _ (by decide)]
  refine ⟨⟨by omega, by omega, hN.2, va_up_self _ _ _, fun s hs => ?_⟩, by rw [e9, e12]; exact h2, h3, fun s => ?_, fun s => ?_, fun s => ?_, fun s => ?_, fun s => ?_⟩
  · by_cases e : s = n
    · subst e; rw [hg.2]; simp [xsd]
    · rw [hg.1 s (by omega), a5 s (by omega)]; simp [xsd, e]
  · by_cases e : s = n
    · exact ⟨0, by omega, by simp [xsi, e]; rfl⟩
    · obtain ⟨x, hx, ex⟩ := h4 s; exact ⟨x, hx, by simp [xsi, e]; exact ex⟩
  · by_cases e : s = n
    · exact ⟨0, by omega, by simp [xsi, e]; rfl⟩
    · obtain ⟨x, hx, ex⟩ := h5 s; exact ⟨x, hx, by simp [xsi, e]; exact ex⟩
  · by_cases e : s = n
    · exact ⟨0, by omega, by simp [xsi, e]; rfl⟩
    · obtain ⟨x, hx, ex⟩ := h6 s; exact ⟨x, hx, by simp [xsi, e]; exact ex⟩
  · by_cases e : s = n
    · have ed : xdl dl n dv s = dv := by simp [xdl, e]
      rw [ed]
      exact ⟨hd, 0, by omega, by simp [xsi, e]; rfl⟩
    · have ed : xdl dl n dv s = dl s := by simp [xdl, e]
      rw [ed]
      obtain ⟨d1, x, hx, ex⟩ := h7 s; exact ⟨d1, x, hx, by simp [xsi, e]; exact ex⟩
  · by_cases e : s = n
    · exact ⟨0, Or.inr rfl, by simp [xsi, e]; rfl⟩
    · have ed : xdl dl n dv s = dl s := by simp [xdl, e]
      rw [ed]
      obtain ⟨x, hx, ex⟩ := h8 s; exact ⟨x, hx, by simp [xsi, e]; exact ex⟩

end
section
theorem dX1_init_0 : decode cX1_init 0 = .ok (.aload_n 0, 1) := by decide +kernel
theorem dX1_init_1 : decode cX1_init 1 = .ok (.invokespecial 3, 3) := by decide +kernel
theorem dX1_init_4 : decode cX1_init 4 = .ok (.aload_n 0, 1) := by decide +kernel
theorem dX1_init_5 : decode cX1_init 5 = .ok (.aload_n 1, 1) := by decide +kernel
theorem dX1_init_6 : decode cX1_init 6 = .ok (.putfield 9, 3) := by decide +kernel
theorem dX1_init_9 : decode cX1_init 9 = .ok (.return_, 1) := by decide +kernel
theorem dX2_init_0 : decode cX2_init 0 = .ok (.aload_n 0, 1) := by decide +kernel
theorem dX2_init_1 : decode cX2_init 1 = .ok (.invokespecial 3, 3) := by decide +kernel
theorem dX2_init_4 : decode cX2_init 4 = .ok (.aload_n 0, 1) := by decide +kernel
theorem dX2_init_5 : decode cX2_init 5 = .ok (.sipush 2000, 3) := by decide +kernel
theorem dX2_init_8 : decode cX2_init 8 = .ok (.newarray .long, 2) := by decide +kernel
theorem dX2_init_10 : decode cX2_init 10 = .ok (.putfield 9, 3) := by decide +kernel
theorem dX2_init_13 : decode cX2_init 13 = .ok (.return_, 1) := by decide +kernel
theorem dX3_init_0 : decode cX3_init 0 = .ok (.aload_n 0, 1) := by decide +kernel
theorem dX3_init_1 : decode cX3_init 1 = .ok (.invokespecial 3, 3) := by decide +kernel
theorem dX3_init_4 : decode cX3_init 4 = .ok (.aload_n 0, 1) := by decide +kernel
theorem dX3_init_5 : decode cX3_init 5 = .ok (.aload_n 1, 1) := by decide +kernel
theorem dX3_init_6 : decode cX3_init 6 = .ok (.putfield 9, 3) := by decide +kernel
theorem dX3_init_9 : decode cX3_init 9 = .ok (.return_, 1) := by decide +kernel
theorem dX4_init_0 : decode cX4_init 0 = .ok (.aload_n 0, 1) := by decide +kernel
theorem dX4_init_1 : decode cX4_init 1 = .ok (.invokespecial 3, 3) := by decide +kernel
theorem dX4_init_4 : decode cX4_init 4 = .ok (.aload_n 0, 1) := by decide +kernel
theorem dX4_init_5 : decode cX4_init 5 = .ok (.bipush 40, 2) := by decide +kernel
theorem dX4_init_7 : decode cX4_init 7 = .ok (.newarray .int, 2) := by decide +kernel
theorem dX4_init_9 : decode cX4_init 9 = .ok (.putfield 9, 3) := by decide +kernel
theorem dX4_init_12 : decode cX4_init 12 = .ok (.aload_n 0, 1) := by decide +kernel
theorem dX4_init_13 : decode cX4_init 13 = .ok (.bipush 40, 2) := by decide +kernel
theorem dX4_init_15 : decode cX4_init 15 = .ok (.newarray .int, 2) := by decide +kernel
theorem dX4_init_17 : decode cX4_init 17 = .ok (.putfield 15, 3) := by decide +kernel
theorem dX4_init_20 : decode cX4_init 20 = .ok (.aload_n 0, 1) := by decide +kernel
theorem dX4_init_21 : decode cX4_init 21 = .ok (.bipush 40, 2) := by decide +kernel
theorem dX4_init_23 : decode cX4_init 23 = .ok (.newarray .int, 2) := by decide +kernel
theorem dX4_init_25 : decode cX4_init 25 = .ok (.putfield 18, 3) := by decide +kernel
theorem dX4_init_28 : decode cX4_init 28 = .ok (.return_, 1) := by decide +kernel
theorem dX5_init_0 : decode cX5_init 0 = .ok (.aload_n 0, 1) := by decide +kernel
theorem dX5_init_1 : decode cX5_init 1 = .ok (.invokespecial 3, 3) := by decide +kernel
theorem dX5_init_4 : decode cX5_init 4 = .ok (.aload_n 0, 1) := by decide +kernel
theorem dX5_init_5 : decode cX5_init 5 = .ok (.iconst 4, 1) := by decide +kernel
theorem dX5_init_6 : decode cX5_init 6 = .ok (.bipush 40, 2) := by decide +kernel
theorem dX5_init_8 : decode cX5_init 8 = .ok (.multianewarray 9 2, 4) := by decide +kernel
theorem dX5_init_12 : decode cX5_init 12 = .ok (.putfield 11, 3) := by decide +kernel
theorem dX5_init_15 : decode cX5_init 15 = .ok (.aload_n 0, 1) := by decide +kernel
theorem dX5_init_16 : decode cX5_init 16 = .ok (.iconst 4, 1) := by decide +kernel
theorem dX5_init_17 : decode cX5_init 17 = .ok (.bipush 40, 2) := by decide +kernel
theorem dX5_init_19 : decode cX5_init 19 = .ok (.multianewarray 9 2, 4) := by decide +kernel
theorem dX5_init_23 : decode cX5_init 23 = .ok (.putfield 16, 3) := by decide +kernel
theorem dX5_init_26 : decode cX5_init 26 = .ok (.return_, 1) := by decide +kernel
theorem dX8_init_0 : decode cX8_init 0 = .ok (.aload_n 0, 1) := by decide +kernel
theorem dX8_init_1 : decode cX8_init 1 = .ok (.invokespecial 1, 3) := by decide +kernel
theorem dX8_init_4 : decode cX8_init 4 = .ok (.aload_n 0, 1) := by decide +kernel
theorem dX8_init_5 : decode cX8_init 5 = .ok (.new 7, 3) := by decide +kernel
theorem dX8_init_8 : decode cX8_init 8 = .ok (.dup, 1) := by decide +kernel
theorem dX8_init_9 : decode cX8_init 9 = .ok (.invokespecial 9, 3) := by decide +kernel
theorem dX8_init_12 : decode cX8_init 12 = .ok (.putfield 10, 3) := by decide +kernel
theorem dX8_init_15 : decode cX8_init 15 = .ok (.aload_n 0, 1) := by decide +kernel
theorem dX8_init_16 : decode cX8_init 16 = .ok (.new 16, 3) := by decide +kernel
theorem dX8_init_19 : decode cX8_init 19 = .ok (.dup, 1) := by decide +kernel
theorem dX8_init_20 : decode cX8_init 20 = .ok (.invokespecial 18, 3) := by decide +kernel
theorem dX8_init_23 : decode cX8_init 23 = .ok (.putfield 19, 3) := by decide +kernel
theorem dX8_init_26 : decode cX8_init 26 = .ok (.aload_n 0, 1) := by decide +kernel
theorem dX8_init_27 : decode cX8_init 27 = .ok (.new 23, 3) := by decide +kernel
theorem dX8_init_30 : decode cX8_init 30 = .ok (.dup, 1) := by decide +kernel
theorem dX8_init_31 : decode cX8_init 31 = .ok (.aload_n 0, 1) := by decide +kernel
theorem dX8_init_32 : decode cX8_init 32 = .ok (.getfield 19, 3) := by decide +kernel
theorem dX8_init_35 : decode cX8_init 35 = .ok (.invokespecial 25, 3) := by decide +kernel
theorem dX8_init_38 : decode cX8_init 38 = .ok (.putfield 28, 3) := by decide +kernel
theorem dX8_init_41 : decode cX8_init 41 = .ok (.aload_n 0, 1) := by decide +kernel
theorem dX8_init_42 : decode cX8_init 42 = .ok (.new 32, 3) := by decide +kernel
theorem dX8_init_45 : decode cX8_init 45 = .ok (.dup, 1) := by decide +kernel
theorem dX8_init_46 : decode cX8_init 46 = .ok (.aload_n 0, 1) := by decide +kernel
theorem dX8_init_47 : decode cX8_init 47 = .ok (.getfield 19, 3) := by decide +kernel
theorem dX8_init_50 : decode cX8_init 50 = .ok (.invokespecial 34, 3) := by decide +kernel
theorem dX8_init_53 : decode cX8_init 53 = .ok (.putfield 35, 3) := by decide +kernel
theorem dX8_init_56 : decode cX8_init 56 = .ok (.aload_n 0, 1) := by decide +kernel
theorem dX8_init_57 : decode cX8_init 57 = .ok (.new 39, 3) := by decide +kernel
theorem dX8_init_60 : decode cX8_init 60 = .ok (.dup, 1) := by decide +kernel
theorem dX8_init_61 : decode cX8_init 61 = .ok (.invokespecial 41, 3) := by decide +kernel
theorem dX8_init_64 : decode cX8_init 64 = .ok (.putfield 42, 3) := by decide +kernel
theorem dX8_init_67 : decode cX8_init 67 = .ok (.aload_n 0, 1) := by decide +kernel
theorem dX8_init_68 : decode cX8_init 68 = .ok (.new 46, 3) := by decide +kernel
theorem dX8_init_71 : decode cX8_init 71 = .ok (.dup, 1) := by decide +kernel
theorem dX8_init_72 : decode cX8_init 72 = .ok (.invokespecial 48, 3) := by decide +kernel
theorem dX8_init_75 : decode cX8_init 75 = .ok (.putfield 49, 3) := by decide +kernel
theorem dX8_init_78 : decode cX8_init 78 = .ok (.aload_n 0, 1) := by decide +kernel
theorem dX8_init_79 : decode cX8_init 79 = .ok (.bipush 6, 2) := by decide +kernel
theorem dX8_init_81 : decode cX8_init 81 = .ok (.newarray .long, 2) := by decide +kernel
theorem dX8_init_83 : decode cX8_init 83 = .ok (.putfield 53, 3) := by decide +kernel
theorem dX8_init_86 : decode cX8_init 86 = .ok (.return_, 1) := by decide +kernel
theorem dJxa1e45_init_da8c8_0 : decode cJxa1e45_init_da8c8 0 = .ok (.aload_n 0, 1) := by decide +kernel
theorem dJxa1e45_init_da8c8_1 : decode cJxa1e45_init_da8c8 1 = .ok (.invokespecial 1, 3) := by decide +kernel
theorem dJxa1e45_init_da8c8_4 : decode cJxa1e45_init_da8c8 4 = .ok (.return_, 1) := by decide +kernel
theorem dJxc12de_init_da8c8_0 : decode cJxc12de_init_da8c8 0 = .ok (.aload_n 0, 1) := by decide +kernel
theorem dJxc12de_init_da8c8_1 : decode cJxc12de_init_da8c8 1 = .ok (.invokespecial 1, 3) := by decide +kernel
theorem dJxc12de_init_da8c8_4 : decode cJxc12de_init_da8c8 4 = .ok (.aload_n 0, 1) := by decide +kernel
theorem dJxc12de_init_da8c8_5 : decode cJxc12de_init_da8c8 5 = .ok (.iconst 0, 1) := by decide +kernel
theorem dJxc12de_init_da8c8_6 : decode cJxc12de_init_da8c8 6 = .ok (.putfield 7, 3) := by decide +kernel
theorem dJxc12de_init_da8c8_9 : decode cJxc12de_init_da8c8 9 = .ok (.return_, 1) := by decide +kernel
theorem dJx4a65c_init_da8c8_0 : decode cJx4a65c_init_da8c8 0 = .ok (.aload_n 0, 1) := by decide +kernel
theorem dJx4a65c_init_da8c8_1 : decode cJx4a65c_init_da8c8 1 = .ok (.invokespecial 1, 3) := by decide +kernel
theorem dJx4a65c_init_da8c8_4 : decode cJx4a65c_init_da8c8 4 = .ok (.aload_n 0, 1) := by decide +kernel
theorem dJx4a65c_init_da8c8_5 : decode cJx4a65c_init_da8c8 5 = .ok (.getstatic 39, 3) := by decide +kernel
theorem dJx4a65c_init_da8c8_8 : decode cJx4a65c_init_da8c8 8 = .ok (.putfield 9, 3) := by decide +kernel
theorem dJx4a65c_init_da8c8_11 : decode cJx4a65c_init_da8c8 11 = .ok (.return_, 1) := by decide +kernel
def wq_s_ac : List Cond := [.code yJxa1e45_init_da8c8 cJxa1e45_init_da8c8 1 none, .methodLink RJxa1e45 1 objectInit, .instanceMethod objectInit, .code objectInit ⟨#[0xb1]⟩ 1 none]
set_option maxRecDepth 20000 in
theorem wi_s_ac : ∀ w ∈ wq_s_ac, w ∈ lw_tbl := (wix [98, 99, 86, 87] rfl)
set_option maxRecDepth 20000 in
theorem wg_s_ac : GoodIn wq_s_ac wq_s_ac := goodIn_sub (fun _ h => h) (by decide +kernel)
set_option maxHeartbeats 4000000 in
set_option maxRecDepth 100000 in
theorem c_s_ac (l : Launch) (dC : Nat → ClassId) (dI : Nat → Nat → Nat) (h0 : Nat) (sz : Nat) : Met l yJxa1e45_init_da8c8 wq_s_ac ({ frames := 1, cells := 0, slots := 0, locals := 28 }) (va_Pc [.ref h0] (fun U => U.heap.size = sz ∧ va_P (dC, dI) vwCl [] U.heap ∧ va_K (dC, dI) vwCl [] U ∧ va_D (fun _ => True) [] ∧ pw_N U)) (va_Qv (fun (_ : Unit) => True) (fun (_ : Unit) (t : State) => va_P (dC, dI) vwCl [] t.heap ∧ va_D (va_A [] sz) []) (va_A [] sz)) 0 0 (va_A [] sz) := by
  refine Met.ofW (cc := cJxa1e45_init_da8c8) (maxL := 1) (ret := none) (by decide) rfl ?_
  intro p e s m args below meth c s₁ B hml hv
  obtain ⟨rfl, hsz, hP, hK, hD0, hN⟩ := hv
  have hx := B.exec
  have hb := B.bytes
  have hr := B.returns
  have hts := atoms_spec (ws := wq_s_ac) B.pre
  have hown : s.vm.findClass RJxa1e45 = some m.cls := findClass_of_methodNamed B.named
  have hlocks := B.notSynchronized
  have hin : meth.name = "<init>" := (name_of_methodNamed B.named B.method).1
  subst hsz
  have hD := hD0.self (sz := s.heap.size)
  generalize hAe : va_A [] s.heap.size = A at hD ⊢
  have hA : ∀ q : Nat, s.heap.size ≤ q → A q := fun q h => by rw [← hAe]; exact Or.inr h
  have hS : va_S A s.heap s.heap [] := va_S.rf
  have hP : va_P (dC, dI) vwCl [] s.heap := hP
  have hl := lv_entry ([.ref h0]) (n := 1) (Nat.le_of_ble_eq_true rfl)
  rw [lg_entry_eq]
  generalize (lg_sl ([.ref h0]) ++ List.replicate (1 - (lg_sl ([.ref h0])).length) Slot.unset).toArray = ls at hl ⊢
  have hl : lv_has ls 1 [(0, .ref h0)] := hl
  refine lv_aload_n hx hb dJxa1e45_init_da8c8_0 rfl (lv_at hl 0 rfl) ?_
  refine W.objInit hx hb hown (hts (.methodLink RJxa1e45 1 objectInit) (by decide +kernel)) (hts (.instanceMethod objectInit) (by decide +kernel)) (hts (.code objectInit ⟨#[0xb1]⟩ 1 none) (by decide +kernel)) rfl (by rw [hml]; exact hl.1) rfl dJxa1e45_init_da8c8_1 (Nat.le_of_ble_eq_true rfl) (Nat.le_of_ble_eq_true rfl) ?_
  refine W.eq (g2 := F0 m 4 ls []) rfl ?_
  have hP9 := hP.sub (ws' := []) [] rfl
  have hD9 := hD.sub (ws' := []) [] (by decide) rfl
  exact W.vret hx hb hr (fun t ht hW => ⟨⟨(), rfl, trivial, by rw [ht]; exact hP9, hD9⟩, hS.F ht⟩) hS.2.2 dJxa1e45_init_da8c8_4
def wq_s_als : List Cond := ([.code yJxc12de_init_da8c8 cJxc12de_init_da8c8 1 none, .initialized RJxa1e45, .methodLink RJxc12de 1 yJxa1e45_init_da8c8, .instanceMethod yJxa1e45_init_da8c8, .fieldLink RJxc12de 7 "java/util/AbstractList" "modCount" "I"] : List Cond) ++ (wsJx4a65c0 ++ (wq_s_ac))
theorem in_s_als_Jx4a65c : ∀ w ∈ wsJx4a65c0, w ∈ wq_s_als := fun _ h => List.mem_append_right _ (List.mem_append_left _ (h))
set_option maxRecDepth 20000 in
theorem wi_s_als : ∀ w ∈ wq_s_als, w ∈ lw_tbl := List.forall_mem_append.mpr ⟨(wix [95, 61, 96, 97, 104] rfl), List.forall_mem_append.mpr ⟨inKJx4a65c, wi_s_ac⟩⟩
set_option maxRecDepth 20000 in
theorem wg_s_als : GoodIn wq_s_als wq_s_als := goodIn_sub (fun _ h => h) (by decide +kernel)
theorem wc_s_als_s_ac_1 : GoodIn wq_s_als wq_s_ac := (fun w h => ⟨List.mem_append_right _ (List.mem_append_right _ (h)), (wg_s_ac w h).2⟩)
set_option maxHeartbeats 4000000 in
set_option maxRecDepth 100000 in
theorem c_s_als (l : Launch) (dC : Nat → ClassId) (dI : Nat → Nat → Nat) (h0 : Nat) (sz : Nat) : Met l yJxc12de_init_da8c8 wq_s_als ({ frames := 2, cells := 0, slots := 0, locals := 48 }) (va_Pc [.ref h0] (fun U => U.heap.size = sz ∧ va_P (dC, dI) vwCl [(h0, .inr (0, [.int 0, .null, .int 0]))] U.heap ∧ va_K (dC, dI) vwCl [] U ∧ va_D (fun _ => True) [(h0, .inr (0, [.int 0, .null, .int 0]))] ∧ pw_N U)) (va_Qv (fun (_ : Unit) => True) (fun (_ : Unit) (t : State) => va_P (dC, dI) vwCl [(h0, .inr (0, [.int 0, .null, .int 0]))] t.heap ∧ va_D (va_A [(h0, .inr (0, [.int 0, .null, .int 0]))] sz) [(h0, .inr (0, [.int 0, .null, .int 0]))]) (va_A [(h0, .inr (0, [.int 0, .null, .int 0]))] sz)) 0 0 (va_A [(h0, .inr (0, [.int 0, .null, .int 0]))] sz) := by
  refine Met.ofW (cc := cJxc12de_init_da8c8) (maxL := 1) (ret := none) (by decide) rfl ?_
  intro p e s m args below meth c s₁ B hml hv
  obtain ⟨rfl, hsz, hP, hK, hD0, hN⟩ := hv
  have hx := B.exec
  have hb := B.bytes
  have hr := B.returns
  have hts := atoms_spec (ws := wq_s_als) B.pre
  have hown : s.vm.findClass RJxc12de = some m.cls := findClass_of_methodNamed B.named
  have hlocks := B.notSynchronized
  have hin : meth.name = "<init>" := (name_of_methodNamed B.named B.method).1
  subst hsz
  have hD := hD0.self (sz := s.heap.size)
  generalize hAe : va_A [(h0, .inr (0, [.int 0, .null, .int 0]))] s.heap.size = A at hD ⊢
  have hA : ∀ q : Nat, s.heap.size ≤ q → A q := fun q h => by rw [← hAe]; exact Or.inr h
  have hS : va_S A s.heap s.heap [] := va_S.rf
  have hP : va_P (dC, dI) vwCl [(h0, .inr (0, [.int 0, .null, .int 0]))] s.heap := hP
  have hl := lv_entry ([.ref h0]) (n := 1) (Nat.le_of_ble_eq_true rfl)
  rw [lg_entry_eq]
  generalize (lg_sl ([.ref h0]) ++ List.replicate (1 - (lg_sl ([.ref h0])).length) Slot.unset).toArray = ls at hl ⊢
  have hl : lv_has ls 1 [(0, .ref h0)] := hl
  refine lv_aload_n hx hb dJxc12de_init_da8c8_0 rfl (lv_at hl 0 rfl) ?_
  have hPc := hP.sub (ws' := []) [] rfl
  have hDc := hD.sub (ws' := []) [] (by decide) rfl
  have hKc := hK.sub (tys' := []) [] rfl
  have hFc := va_free (wc := []) hD hS hA [] rfl
  refine va_callv (va_runI (As := []) (rest := []) ⟨hx, hb, hml, hown, hts⟩ (c_s_ac l dC dI h0 s.heap.size) (cwI 0 hts wc_s_als_s_ac_1 rfl rfl rfl (hts (.initialized RJxa1e45) (by decide +kernel)) (hts (.methodLink RJxc12de 1 yJxa1e45_init_da8c8) (by decide +kernel)) (hts (.instanceMethod yJxa1e45_init_da8c8) (by decide +kernel)) rfl (by decide +kernel) ⟨Nat.le_of_ble_eq_true rfl, Nat.le_of_ble_eq_true rfl⟩) ⟨fun a U g mk q => by obtain ⟨q0, q1, qP, qK, qD, qN⟩ := q; exact ⟨q0, q1, qP, va_K.moved (u := U) (U := U.calling g mk a) (Vm.Alike.refl U.vm) qK, qD, pw_N.same (u := U) (U := U.calling g mk a) rfl qN⟩, fun U hU hW => ⟨rfl, by rw [hU], by rw [hU]; exact hPc, va_K.moved hW.alike hKc, hDc.weaken (fun _ _ _ _ => trivial), pw_N.warm hW hN⟩⟩ rfl rfl hl.1 rfl (lv_room (Nat.le_of_ble_eq_true rfl)) dJxc12de_init_da8c8_1 ⟨Nat.le_of_ble_eq_true rfl, Nat.le_of_ble_eq_true rfl⟩) hS (fun q _ h => hFc q h) hFc (fun u t H1 locs ht hvm hw hB hz1 hk1 hS => ?_)
  obtain ⟨hP1, hD1⟩ := hB
  rw [ht] at hP1
  obtain ⟨hP, hD⟩ := va_join (wr := [(h0, .inr (0, [.int 0, .null, .int 0]))]) (w1 := []) hP hD [] [0] rfl rfl (by decide) (by decide) hk1 hFc hP1 hD1
  generalize H1 = H at hP hS ⊢
  replace hP : va_P (dC, dI) vwCl [(h0, .inr (0, [.int 0, .null, .int 0]))] H := hP
  replace hD : va_D A [(h0, .inr (0, [.int 0, .null, .int 0]))] := hD
  try dsimp only at hw
  refine lv_aload_n hx hb dJxc12de_init_da8c8_4 rfl (lv_at hl 0 rfl) ?_
  refine lv_iconst (v := 0) hx hb dJxc12de_init_da8c8_5 (by decide) ?_
  refine va_put (D := (dC, dI)) (ci := 0) (v := .int 0) (ty := .int) (C := RJx4a65c) (T := TJx4a65c) (N := 3) hx hb hts in_s_als_Jx4a65c tyJx4a65c tyJx4a65c_ok nmJx4a65c hown hK hP hD hS 0 rfl rfl 0 (by decide) (hts (.fieldLink RJxc12de 7 "java/util/AbstractList" "modCount" "I") (by decide +kernel)) (fun _ h9 => h9) rfl (by decide +kernel) rfl rfl (Nat.le_of_ble_eq_true rfl) dJxc12de_init_da8c8_6 (fun H locs hP hD hS => ?_)
  replace hP : va_P (dC, dI) vwCl [(h0, .inr (0, [.int 0, .null, .int 0]))] H := hP
  replace hD : va_D A [(h0, .inr (0, [.int 0, .null, .int 0]))] := hD
  have hP9 := hP.sub (ws' := [(h0, .inr (0, [.int 0, .null, .int 0]))]) [0] rfl
  have hD9 := hD.sub (ws' := [(h0, .inr (0, [.int 0, .null, .int 0]))]) [0] (by decide) rfl
  exact W.vret hx hb hr (fun t ht hW => ⟨⟨(), rfl, trivial, by rw [ht]; exact hP9, hD9⟩, hS.F ht⟩) hS.2.2 dJxc12de_init_da8c8_9
def wq_s_al : List Cond := ([.code yJx4a65c_init_da8c8 cJx4a65c_init_da8c8 1 none, .initialized RJxc12de, .methodLink RJx4a65c 1 yJxc12de_init_da8c8, .instanceMethod yJxc12de_init_da8c8, .fieldLink RJx4a65c 39 "java/util/ArrayList" "DEFAULTCAPACITY_EMPTY_ELEMENTDATA" "[Ljava/lang/Object;", .fieldLink RJx4a65c 9 "java/util/ArrayList" "elementData" "[Ljava/lang/Object;"] : List Cond) ++ (wsJx4a65c0 ++ (wq_s_als))
theorem in_s_al_Jx4a65c : ∀ w ∈ wsJx4a65c0, w ∈ wq_s_al := fun _ h => List.mem_append_right _ (List.mem_append_left _ (h))
set_option maxRecDepth 20000 in
theorem wi_s_al : ∀ w ∈ wq_s_al, w ∈ lw_tbl := List.forall_mem_append.mpr ⟨(wix [92, 62, 93, 94, 100, 102] rfl), List.forall_mem_append.mpr ⟨inKJx4a65c, wi_s_als⟩⟩
set_option maxRecDepth 20000 in
theorem wg_s_al : GoodIn wq_s_al wq_s_al := goodIn_sub (fun _ h => h) (by decide +kernel)
theorem wc_s_al_s_als_1 : GoodIn wq_s_al wq_s_als := (fun w h => ⟨List.mem_append_right _ (List.mem_append_right _ (h)), (wg_s_als w h).2⟩)
set_option maxHeartbeats 4000000 in
set_option maxRecDepth 100000 in
theorem c_s_al (l : Launch) (dC : Nat → ClassId) (dI : Nat → Nat → Nat) (h0 : Nat) (z : Nat) (sz : Nat) : Met l yJx4a65c_init_da8c8 wq_s_al ({ frames := 3, cells := 0, slots := 0, locals := 68 }) (va_Pc [.ref h0] (fun U => U.heap.size = sz ∧ va_P (dC, dI) vwCl [(h0, .inr (0, [.int 0, .null, .int 0]))] U.heap ∧ va_K (dC, dI) vwCl [] U ∧ va_D (fun _ => True) [(h0, .inr (0, [.int 0, .null, .int 0]))] ∧ pw_N U ∧ va_Z "java/util/ArrayList" "DEFAULTCAPACITY_EMPTY_ELEMENTDATA" "[Ljava/lang/Object;" (.ref z) (va_A [(h0, .inr (0, [.int 0, .null, .int 0]))] sz) U U.heap)) (va_Qv (fun (_ : Unit) => True) (fun (_ : Unit) (t : State) => va_P (dC, dI) vwCl [(h0, .inr (0, [.int 0, .ref z, .int 0]))] t.heap ∧ va_D (va_A [(h0, .inr (0, [.int 0, .null, .int 0]))] sz) [(h0, .inr (0, [.int 0, .ref z, .int 0]))]) (va_A [(h0, .inr (0, [.int 0, .null, .int 0]))] sz)) 0 0 (va_A [(h0, .inr (0, [.int 0, .null, .int 0]))] sz) := by
  refine Met.ofW (cc := cJx4a65c_init_da8c8) (maxL := 1) (ret := none) (by decide) rfl ?_
  intro p e s m args below meth c s₁ B hml hv
  obtain ⟨rfl, hsz, hP, hK, hD0, hN, hZ⟩ := hv
  have hx := B.exec
  have hb := B.bytes
  have hr := B.returns
  have hts := atoms_spec (ws := wq_s_al) B.pre
  have hown : s.vm.findClass RJx4a65c = some m.cls := findClass_of_methodNamed B.named
  have hlocks := B.notSynchronized
  have hin : meth.name = "<init>" := (name_of_methodNamed B.named B.method).1
  subst hsz
  have hD := hD0.self (sz := s.heap.size)
  generalize hAe : va_A [(h0, .inr (0, [.int 0, .null, .int 0]))] s.heap.size = A at hD hZ ⊢
  have hA : ∀ q : Nat, s.heap.size ≤ q → A q := fun q h => by rw [← hAe]; exact Or.inr h
  have hS : va_S A s.heap s.heap [] := va_S.rf
  have hP : va_P (dC, dI) vwCl [(h0, .inr (0, [.int 0, .null, .int 0]))] s.heap := hP
  have hl := lv_entry ([.ref h0]) (n := 1) (Nat.le_of_ble_eq_true rfl)
  rw [lg_entry_eq]
  generalize (lg_sl ([.ref h0]) ++ List.replicate (1 - (lg_sl ([.ref h0])).length) Slot.unset).toArray = ls at hl ⊢
  have hl : lv_has ls 1 [(0, .ref h0)] := hl
  refine lv_aload_n hx hb dJx4a65c_init_da8c8_0 rfl (lv_at hl 0 rfl) ?_
  have hPc := hP.sub (ws' := [(h0, .inr (0, [.int 0, .null, .int 0]))]) [0] rfl
  have hDc := hD.sub (ws' := [(h0, .inr (0, [.int 0, .null, .int 0]))]) [0] (by decide) rfl
  have hKc := hK.sub (tys' := []) [] rfl
  have hFc := va_free (wc := [(h0, .inr (0, [.int 0, .null, .int 0]))]) hD hS hA [0] rfl
  refine va_callv (va_runI (As := []) (rest := []) ⟨hx, hb, hml, hown, hts⟩ (c_s_als l dC dI h0 s.heap.size) (cwI 0 hts wc_s_al_s_als_1 rfl rfl rfl (hts (.initialized RJxc12de) (by decide +kernel)) (hts (.methodLink RJx4a65c 1 yJxc12de_init_da8c8) (by decide +kernel)) (hts (.instanceMethod yJxc12de_init_da8c8) (by decide +kernel)) rfl (by decide +kernel) ⟨Nat.le_of_ble_eq_true rfl, Nat.le_of_ble_eq_true rfl⟩) ⟨fun a U g mk q => by obtain ⟨q0, q1, qP, qK, qD, qN⟩ := q; exact ⟨q0, q1, qP, va_K.moved (u := U) (U := U.calling g mk a) (Vm.Alike.refl U.vm) qK, qD, pw_N.same (u := U) (U := U.calling g mk a) rfl qN⟩, fun U hU hW => ⟨rfl, by rw [hU], by rw [hU]; exact hPc, va_K.moved hW.alike hKc, hDc.weaken (fun _ _ _ _ => trivial), pw_N.warm hW hN⟩⟩ rfl rfl hl.1 rfl (lv_room (Nat.le_of_ble_eq_true rfl)) dJx4a65c_init_da8c8_1 ⟨Nat.le_of_ble_eq_true rfl, Nat.le_of_ble_eq_true rfl⟩) hS (fun q _ h => hFc q h) hFc (fun u t H1 locs ht hvm hw hB hz1 hk1 hS => ?_)
  obtain ⟨hP1, hD1⟩ := hB
  rw [ht] at hP1
  obtain ⟨hP, hD⟩ := va_join (wr := []) (w1 := [(h0, .inr (0, [.int 0, .null, .int 0]))]) hP hD [0] [] rfl rfl (by decide) (by decide) hk1 hFc hP1 hD1
  generalize H1 = H at hP hS ⊢
  replace hP : va_P (dC, dI) vwCl [(h0, .inr (0, [.int 0, .null, .int 0]))] H := hP
  replace hD : va_D A [(h0, .inr (0, [.int 0, .null, .int 0]))] := hD
  try dsimp only at hw
  refine lv_aload_n hx hb dJx4a65c_init_da8c8_4 rfl (lv_at hl 0 rfl) ?_
  refine va_gets hx hb hZ hS hown (hts (.fieldLink RJx4a65c 39 "java/util/ArrayList" "DEFAULTCAPACITY_EMPTY_ELEMENTDATA" "[Ljava/lang/Object;") (by decide +kernel)) (fun _ h9 => h9) dJx4a65c_init_da8c8_5 ?_
  refine va_put (D := (dC, dI)) (ci := 0) (v := .ref z) (ty := .array (.object "java/lang/Object")) (C := RJx4a65c) (T := TJx4a65c) (N := 3) hx hb hts in_s_al_Jx4a65c tyJx4a65c tyJx4a65c_ok nmJx4a65c hown hK hP hD hS 0 rfl rfl 1 (by decide) (hts (.fieldLink RJx4a65c 9 "java/util/ArrayList" "elementData" "[Ljava/lang/Object;") (by decide +kernel)) (fun _ h9 => h9) rfl (by decide +kernel) rfl rfl (Nat.le_of_ble_eq_true rfl) dJx4a65c_init_da8c8_8 (fun H locs hP hD hS => ?_)
  replace hP : va_P (dC, dI) vwCl [(h0, .inr (0, [.int 0, .ref z, .int 0]))] H := hP
  replace hD : va_D A [(h0, .inr (0, [.int 0, .ref z, .int 0]))] := hD
  have hP9 := hP.sub (ws' := [(h0, .inr (0, [.int 0, .ref z, .int 0]))]) [0] rfl
  have hD9 := hD.sub (ws' := [(h0, .inr (0, [.int 0, .ref z, .int 0]))]) [0] (by decide) rfl
  exact W.vret hx hb hr (fun t ht hW => ⟨⟨(), rfl, trivial, by rw [ht]; exact hP9, hD9⟩, hS.F ht⟩) hS.2.2 dJx4a65c_init_da8c8_11
def wq_s_draft : List Cond := ([.code yX1_init cX1_init 2 none, .methodLink RX1 3 objectInit, .instanceMethod objectInit, .code objectInit ⟨#[0xb1]⟩ 1 none, .fieldLink RX1 9 "ServiceTree$Draft" "relations" "LServiceTree$Relations;"] : List Cond) ++ (wsX10)
theorem in_s_draft_X1 : ∀ w ∈ wsX10, w ∈ wq_s_draft := fun _ h => List.mem_append_right _ (h)
set_option maxRecDepth 20000 in
theorem wi_s_draft : ∀ w ∈ wq_s_draft, w ∈ lw_tbl := List.forall_mem_append.mpr ⟨(wix [138, 139, 86, 87, 140] rfl), inKX1⟩
set_option maxRecDepth 20000 in
theorem wg_s_draft : GoodIn wq_s_draft wq_s_draft := goodIn_sub (fun _ h => h) (by decide +kernel)
set_option maxHeartbeats 4000000 in
set_option maxRecDepth 100000 in
theorem c_s_draft (l : Launch) (dC : Nat → ClassId) (dI : Nat → Nat → Nat) (h0 : Nat) (h1 : Nat) (sz : Nat) : Met l yX1_init wq_s_draft ({ frames := 1, cells := 0, slots := 0, locals := 28 }) (va_Pc [.ref h0, .ref h1] (fun U => U.heap.size = sz ∧ va_P (dC, dI) vwCl [(h0, .inr (2, [.null, .long 0, .long 0, .long 0, .int 0]))] U.heap ∧ va_K (dC, dI) vwCl [] U ∧ va_D (fun _ => True) [(h0, .inr (2, [.null, .long 0, .long 0, .long 0, .int 0]))] ∧ pw_N U)) (va_Qv (fun (_ : Unit) => True) (fun (_ : Unit) (t : State) => va_P (dC, dI) vwCl [(h0, .inr (2, [.ref h1, .long 0, .long 0, .long 0, .int 0]))] t.heap ∧ va_D (va_A [(h0, .inr (2, [.null, .long 0, .long 0, .long 0, .int 0]))] sz) [(h0, .inr (2, [.ref h1, .long 0, .long 0, .long 0, .int 0]))]) (va_A [(h0, .inr (2, [.null, .long 0, .long 0, .long 0, .int 0]))] sz)) 0 0 (va_A [(h0, .inr (2, [.null, .long 0, .long 0, .long 0, .int 0]))] sz) := by
  refine Met.ofW (cc := cX1_init) (maxL := 2) (ret := none) (by decide) rfl ?_
  intro p e s m args below meth c s₁ B hml hv
  obtain ⟨rfl, hsz, hP, hK, hD0, hN⟩ := hv
  have hx := B.exec
  have hb := B.bytes
  have hr := B.returns
  have hts := atoms_spec (ws := wq_s_draft) B.pre
  have hown : s.vm.findClass RX1 = some m.cls := findClass_of_methodNamed B.named
  have hlocks := B.notSynchronized
  have hin : meth.name = "<init>" := (name_of_methodNamed B.named B.method).1
  subst hsz
  have hD := hD0.self (sz := s.heap.size)
  generalize hAe : va_A [(h0, .inr (2, [.null, .long 0, .long 0, .long 0, .int 0]))] s.heap.size = A at hD ⊢
  have hA : ∀ q : Nat, s.heap.size ≤ q → A q := fun q h => by rw [← hAe]; exact Or.inr h
  have hS : va_S A s.heap s.heap [] := va_S.rf
  have hP : va_P (dC, dI) vwCl [(h0, .inr (2, [.null, .long 0, .long 0, .long 0, .int 0]))] s.heap := hP
  have hl := lv_entry ([.ref h0, .ref h1]) (n := 2) (Nat.le_of_ble_eq_true rfl)
  rw [lg_entry_eq]
  generalize (lg_sl ([.ref h0, .ref h1]) ++ List.replicate (2 - (lg_sl ([.ref h0, .ref h1])).length) Slot.unset).toArray = ls at hl ⊢
  have hl : lv_has ls 2 [(0, .ref h0), (1, .ref h1)] := hl
  refine lv_aload_n hx hb dX1_init_0 rfl (lv_at hl 0 rfl) ?_
  refine W.objInit hx hb hown (hts (.methodLink RX1 3 objectInit) (by decide +kernel)) (hts (.instanceMethod objectInit) (by decide +kernel)) (hts (.code objectInit ⟨#[0xb1]⟩ 1 none) (by decide +kernel)) rfl (by rw [hml]; exact hl.1) rfl dX1_init_1 (Nat.le_of_ble_eq_true rfl) (Nat.le_of_ble_eq_true rfl) ?_
  refine W.eq (g2 := F0 m 4 ls []) rfl ?_
  refine lv_aload_n hx hb dX1_init_4 rfl (lv_at hl 0 rfl) ?_
  refine lv_aload_n hx hb dX1_init_5 rfl (lv_at hl 1 rfl) ?_
  refine va_putF (D := (dC, dI)) (ci := 2) (v := .ref h1) (ty := .object "ServiceTree$Relations") (C := RX1) (T := TX1) (N := 5) hx hb hts in_s_draft_X1 tyX1 tyX1_ok nmX1 hown hK hP hD hS 0 rfl rfl 0 (by decide) (hts (.fieldLink RX1 9 "ServiceTree$Draft" "relations" "LServiceTree$Relations;") (by decide +kernel)) (fun _ h9 => h9) rfl hin rfl (by decide +kernel) rfl rfl (Nat.le_of_ble_eq_true rfl) dX1_init_6 (fun H locs hP hD hS => ?_)
  replace hP : va_P (dC, dI) vwCl [(h0, .inr (2, [.ref h1, .long 0, .long 0, .long 0, .int 0]))] H := hP
  replace hD : va_D A [(h0, .inr (2, [.ref h1, .long 0, .long 0, .long 0, .int 0]))] := hD
  have hP9 := hP.sub (ws' := [(h0, .inr (2, [.ref h1, .long 0, .long 0, .long 0, .int 0]))]) [0] rfl
  have hD9 := hD.sub (ws' := [(h0, .inr (2, [.ref h1, .long 0, .long 0, .long 0, .int 0]))]) [0] (by decide) rfl
  exact W.vret hx hb hr (fun t ht hW => ⟨⟨(), rfl, trivial, by rw [ht]; exact hP9, hD9⟩, hS.F ht⟩) hS.2.2 dX1_init_9
def wq_s_jobs : List Cond := ([.code yX3_init cX3_init 2 none, .methodLink RX3 3 objectInit, .instanceMethod objectInit, .code objectInit ⟨#[0xb1]⟩ 1 none, .fieldLink RX3 9 "ServiceTree$Jobs" "relations" "LServiceTree$Relations;"] : List Cond) ++ (wsX30)
theorem in_s_jobs_X3 : ∀ w ∈ wsX30, w ∈ wq_s_jobs := fun _ h => List.mem_append_right _ (h)
set_option maxRecDepth 20000 in
theorem wi_s_jobs : ∀ w ∈ wq_s_jobs, w ∈ lw_tbl := List.forall_mem_append.mpr ⟨(wix [163, 164, 86, 87, 165] rfl), inKX3⟩
set_option maxRecDepth 20000 in
theorem wg_s_jobs : GoodIn wq_s_jobs wq_s_jobs := goodIn_sub (fun _ h => h) (by decide +kernel)
set_option maxHeartbeats 4000000 in
set_option maxRecDepth 100000 in
theorem c_s_jobs (l : Launch) (dC : Nat → ClassId) (dI : Nat → Nat → Nat) (h0 : Nat) (h1 : Nat) (sz : Nat) : Met l yX3_init wq_s_jobs ({ frames := 1, cells := 0, slots := 0, locals := 28 }) (va_Pc [.ref h0, .ref h1] (fun U => U.heap.size = sz ∧ va_P (dC, dI) vwCl [(h0, .inr (4, [.null, .long 0, .long 0, .long 0]))] U.heap ∧ va_K (dC, dI) vwCl [] U ∧ va_D (fun _ => True) [(h0, .inr (4, [.null, .long 0, .long 0, .long 0]))] ∧ pw_N U)) (va_Qv (fun (_ : Unit) => True) (fun (_ : Unit) (t : State) => va_P (dC, dI) vwCl [(h0, .inr (4, [.ref h1, .long 0, .long 0, .long 0]))] t.heap ∧ va_D (va_A [(h0, .inr (4, [.null, .long 0, .long 0, .long 0]))] sz) [(h0, .inr (4, [.ref h1, .long 0, .long 0, .long 0]))]) (va_A [(h0, .inr (4, [.null, .long 0, .long 0, .long 0]))] sz)) 0 0 (va_A [(h0, .inr (4, [.null, .long 0, .long 0, .long 0]))] sz) := by
  refine Met.ofW (cc := cX3_init) (maxL := 2) (ret := none) (by decide) rfl ?_
  intro p e s m args below meth c s₁ B hml hv
  obtain ⟨rfl, hsz, hP, hK, hD0, hN⟩ := hv
  have hx := B.exec
  have hb := B.bytes
  have hr := B.returns
  have hts := atoms_spec (ws := wq_s_jobs) B.pre
  have hown : s.vm.findClass RX3 = some m.cls := findClass_of_methodNamed B.named
  have hlocks := B.notSynchronized
  have hin : meth.name = "<init>" := (name_of_methodNamed B.named B.method).1
  subst hsz
  have hD := hD0.self (sz := s.heap.size)
  generalize hAe : va_A [(h0, .inr (4, [.null, .long 0, .long 0, .long 0]))] s.heap.size = A at hD ⊢
  have hA : ∀ q : Nat, s.heap.size ≤ q → A q := fun q h => by rw [← hAe]; exact Or.inr h
  have hS : va_S A s.heap s.heap [] := va_S.rf
  have hP : va_P (dC, dI) vwCl [(h0, .inr (4, [.null, .long 0, .long 0, .long 0]))] s.heap := hP
  have hl := lv_entry ([.ref h0, .ref h1]) (n := 2) (Nat.le_of_ble_eq_true rfl)
  rw [lg_entry_eq]
  generalize (lg_sl ([.ref h0, .ref h1]) ++ List.replicate (2 - (lg_sl ([.ref h0, .ref h1])).length) Slot.unset).toArray = ls at hl ⊢
  have hl : lv_has ls 2 [(0, .ref h0), (1, .ref h1)] := hl
  refine lv_aload_n hx hb dX3_init_0 rfl (lv_at hl 0 rfl) ?_
  refine W.objInit hx hb hown (hts (.methodLink RX3 3 objectInit) (by decide +kernel)) (hts (.instanceMethod objectInit) (by decide +kernel)) (hts (.code objectInit ⟨#[0xb1]⟩ 1 none) (by decide +kernel)) rfl (by rw [hml]; exact hl.1) rfl dX3_init_1 (Nat.le_of_ble_eq_true rfl) (Nat.le_of_ble_eq_true rfl) ?_
  refine W.eq (g2 := F0 m 4 ls []) rfl ?_
  refine lv_aload_n hx hb dX3_init_4 rfl (lv_at hl 0 rfl) ?_
  refine lv_aload_n hx hb dX3_init_5 rfl (lv_at hl 1 rfl) ?_
  refine va_putF (D := (dC, dI)) (ci := 4) (v := .ref h1) (ty := .object "ServiceTree$Relations") (C := RX3) (T := TX3) (N := 4) hx hb hts in_s_jobs_X3 tyX3 tyX3_ok nmX3 hown hK hP hD hS 0 rfl rfl 0 (by decide) (hts (.fieldLink RX3 9 "ServiceTree$Jobs" "relations" "LServiceTree$Relations;") (by decide +kernel)) (fun _ h9 => h9) rfl hin rfl (by decide +kernel) rfl rfl (Nat.le_of_ble_eq_true rfl) dX3_init_6 (fun H locs hP hD hS => ?_)
  replace hP : va_P (dC, dI) vwCl [(h0, .inr (4, [.ref h1, .long 0, .long 0, .long 0]))] H := hP
  replace hD : va_D A [(h0, .inr (4, [.ref h1, .long 0, .long 0, .long 0]))] := hD
  have hP9 := hP.sub (ws' := [(h0, .inr (4, [.ref h1, .long 0, .long 0, .long 0]))]) [0] rfl
  have hD9 := hD.sub (ws' := [(h0, .inr (4, [.ref h1, .long 0, .long 0, .long 0]))]) [0] (by decide) rfl
  exact W.vret hx hb hr (fun t ht hW => ⟨⟨(), rfl, trivial, by rw [ht]; exact hP9, hD9⟩, hS.F ht⟩) hS.2.2 dX3_init_9
def wq_s_plan : List Cond := ([.code yX4_init cX4_init 1 none, .methodLink RX4 3 objectInit, .instanceMethod objectInit, .code objectInit ⟨#[0xb1]⟩ 1 none, .arrayClass .int, .fieldLink RX4 9 "ServiceTree$Plan" "sorted" "[I", .fieldLink RX4 15 "ServiceTree$Plan" "begins" "[I", .fieldLink RX4 18 "ServiceTree$Plan" "ends" "[I"] : List Cond) ++ (wsX40)
theorem in_s_plan_X4 : ∀ w ∈ wsX40, w ∈ wq_s_plan := fun _ h => List.mem_append_right _ (h)
set_option maxRecDepth 20000 in
theorem wi_s_plan : ∀ w ∈ wq_s_plan, w ∈ lw_tbl := List.forall_mem_append.mpr ⟨(wix [183, 184, 86, 87, 209, 185, 186, 187] rfl), inKX4⟩
set_option maxRecDepth 20000 in
theorem wg_s_plan : GoodIn wq_s_plan wq_s_plan := goodIn_sub (fun _ h => h) (by decide +kernel)
set_option maxHeartbeats 4000000 in
set_option maxRecDepth 100000 in
theorem c_s_plan (l : Launch) (dC : Nat → ClassId) (dI : Nat → Nat → Nat) (h0 : Nat) (sz : Nat) : Met l yX4_init wq_s_plan ({ frames := 1, cells := 3, slots := 120, locals := 28 }) (va_Pc [.ref h0] (fun U => U.heap.size = sz ∧ va_P (dC, dI) vwCl [(h0, .inr (5, [.null, .null, .null, .long 0, .int 0, .int 0, .int 0]))] U.heap ∧ va_K (dC, dI) vwCl [] U ∧ va_D (fun _ => True) [(h0, .inr (5, [.null, .null, .null, .long 0, .int 0, .int 0, .int 0]))] ∧ pw_N U)) (va_Qv (fun (_ : Unit) => True) (fun (_ : Unit) (t : State) => ∃ (b0 : Nat), ∃ (b1 : Nat), ∃ (b2 : Nat), ∃ (kb0 : ClassId), ∃ (kb1 : ClassId), ∃ (kb2 : ClassId), va_P (dC, dI) vwCl [(h0, .inr (5, [.ref b0, .ref b1, .ref b2, .long 0, .int 0, .int 0, .int 0])), (b0, .inl (kb0, 40, .inl (fun _ => 0))), (b1, .inl (kb1, 40, .inl (fun _ => 0))), (b2, .inl (kb2, 40, .inl (fun _ => 0)))] t.heap ∧ va_K (dC, dI) vwCl [(kb0, .int), (kb1, .int), (kb2, .int)] t ∧ va_D (va_A [(h0, .inr (5, [.null, .null, .null, .long 0, .int 0, .int 0, .int 0]))] sz) [(h0, .inr (5, [.ref b0, .ref b1, .ref b2, .long 0, .int 0, .int 0, .int 0])), (b0, .inl (kb0, 40, .inl (fun _ => 0))), (b1, .inl (kb1, 40, .inl (fun _ => 0))), (b2, .inl (kb2, 40, .inl (fun _ => 0)))]) (va_A [(h0, .inr (5, [.null, .null, .null, .long 0, .int 0, .int 0, .int 0]))] sz)) 3 120 (va_A [(h0, .inr (5, [.null, .null, .null, .long 0, .int 0, .int 0, .int 0]))] sz) := by
  refine Met.ofW (cc := cX4_init) (maxL := 1) (ret := none) (by decide) rfl ?_
  intro p e s m args below meth c s₁ B hml hv
  obtain ⟨rfl, hsz, hP, hK, hD0, hN⟩ := hv
  have hx := B.exec
  have hb := B.bytes
  have hr := B.returns
  have hts := atoms_spec (ws := wq_s_plan) B.pre
  have hown : s.vm.findClass RX4 = some m.cls := findClass_of_methodNamed B.named
  have hlocks := B.notSynchronized
  have hin : meth.name = "<init>" := (name_of_methodNamed B.named B.method).1
  subst hsz
  have hD := hD0.self (sz := s.heap.size)
  generalize hAe : va_A [(h0, .inr (5, [.null, .null, .null, .long 0, .int 0, .int 0, .int 0]))] s.heap.size = A at hD ⊢
  have hA : ∀ q : Nat, s.heap.size ≤ q → A q := fun q h => by rw [← hAe]; exact Or.inr h
  have hS : va_S A s.heap s.heap [] := va_S.rf
  have hP : va_P (dC, dI) vwCl [(h0, .inr (5, [.null, .null, .null, .long 0, .int 0, .int 0, .int 0]))] s.heap := hP
  have hl := lv_entry ([.ref h0]) (n := 1) (Nat.le_of_ble_eq_true rfl)
  rw [lg_entry_eq]
  generalize (lg_sl ([.ref h0]) ++ List.replicate (1 - (lg_sl ([.ref h0])).length) Slot.unset).toArray = ls at hl ⊢
  have hl : lv_has ls 1 [(0, .ref h0)] := hl
  refine lv_aload_n hx hb dX4_init_0 rfl (lv_at hl 0 rfl) ?_
  refine W.objInit hx hb hown (hts (.methodLink RX4 3 objectInit) (by decide +kernel)) (hts (.instanceMethod objectInit) (by decide +kernel)) (hts (.code objectInit ⟨#[0xb1]⟩ 1 none) (by decide +kernel)) rfl (by rw [hml]; exact hl.1) rfl dX4_init_1 (Nat.le_of_ble_eq_true rfl) (Nat.le_of_ble_eq_true rfl) ?_
  refine W.eq (g2 := F0 m 4 ls []) rfl ?_
  refine lv_aload_n hx hb dX4_init_4 rfl (lv_at hl 0 rfl) ?_
  refine lv_bipush (v := 40) hx hb dX4_init_5 (by decide) ?_
  refine va_newa (atype := .int) (ty := .int) (a0 := (40, .inl (fun _ => 0))) (N' := 40) hx hb (hts (.arrayClass .int) (by decide +kernel)) rfl hK hP hD hS hA (fun _ => rfl) (by decide) (by decide) (by decide) (Nat.le_of_ble_eq_true rfl) (Nat.le_of_ble_eq_true rfl) dX4_init_7 (fun q_1 cA_2 H hK hP hD hS => ?_)
  have hK : va_K (dC, dI) vwCl [(cA_2, .int)] s := hK
  replace hP : va_P (dC, dI) vwCl [(h0, .inr (5, [.null, .null, .null, .long 0, .int 0, .int 0, .int 0])), (q_1, .inl (cA_2, 40, .inl (fun _ => 0)))] H := hP
  replace hD : va_D A [(h0, .inr (5, [.null, .null, .null, .long 0, .int 0, .int 0, .int 0])), (q_1, .inl (cA_2, 40, .inl (fun _ => 0)))] := hD
  refine W.widen (k := 1) (n := 40) (by omega) (by omega) ?_
  refine va_putF (D := (dC, dI)) (ci := 5) (v := .ref q_1) (ty := .array .int) (C := RX4) (T := TX4) (N := 7) hx hb hts in_s_plan_X4 tyX4 tyX4_ok nmX4 hown hK hP hD hS 0 rfl rfl 0 (by decide) (hts (.fieldLink RX4 9 "ServiceTree$Plan" "sorted" "[I") (by decide +kernel)) (fun _ h9 => h9) rfl hin rfl (by decide +kernel) rfl rfl (Nat.le_of_ble_eq_true rfl) dX4_init_9 (fun H locs hP hD hS => ?_)
  replace hP : va_P (dC, dI) vwCl [(h0, .inr (5, [.ref q_1, .null, .null, .long 0, .int 0, .int 0, .int 0])), (q_1, .inl (cA_2, 40, .inl (fun _ => 0)))] H := hP
  replace hD : va_D A [(h0, .inr (5, [.ref q_1, .null, .null, .long 0, .int 0, .int 0, .int 0])), (q_1, .inl (cA_2, 40, .inl (fun _ => 0)))] := hD
  refine lv_aload_n hx hb dX4_init_12 rfl (lv_at hl 0 rfl) ?_
  refine lv_bipush (v := 40) hx hb dX4_init_13 (by decide) ?_
  refine va_newa (atype := .int) (ty := .int) (a0 := (40, .inl (fun _ => 0))) (N' := 40) hx hb (hts (.arrayClass .int) (by decide +kernel)) rfl hK hP hD hS hA (fun _ => rfl) (by decide) (by decide) (by decide) (Nat.le_of_ble_eq_true rfl) (Nat.le_of_ble_eq_true rfl) dX4_init_15 (fun q_3 cA_4 H hK hP hD hS => ?_)
  have hK : va_K (dC, dI) vwCl [(cA_2, .int), (cA_4, .int)] s := hK
  replace hP : va_P (dC, dI) vwCl [(h0, .inr (5, [.ref q_1, .null, .null, .long 0, .int 0, .int 0, .int 0])), (q_1, .inl (cA_2, 40, .inl (fun _ => 0))), (q_3, .inl (cA_4, 40, .inl (fun _ => 0)))] H := hP
  replace hD : va_D A [(h0, .inr (5, [.ref q_1, .null, .null, .long 0, .int 0, .int 0, .int 0])), (q_1, .inl (cA_2, 40, .inl (fun _ => 0))), (q_3, .inl (cA_4, 40, .inl (fun _ => 0)))] := hD
  refine W.widen (k := 2) (n := 80) (by omega) (by omega) ?_
  refine va_putF (D := (dC, dI)) (ci := 5) (v := .ref q_3) (ty := .array .int) (C := RX4) (T := TX4) (N := 7) hx hb hts in_s_plan_X4 tyX4 tyX4_ok nmX4 hown hK hP hD hS 0 rfl rfl 1 (by decide) (hts (.fieldLink RX4 15 "ServiceTree$Plan" "begins" "[I") (by decide +kernel)) (fun _ h9 => h9) rfl hin rfl (by decide +kernel) rfl rfl (Nat.le_of_ble_eq_true rfl) dX4_init_17 (fun H locs hP hD hS => ?_)
  replace hP : va_P (dC, dI) vwCl [(h0, .inr (5, [.ref q_1, .ref q_3, .null, .long 0, .int 0, .int 0, .int 0])), (q_1, .inl (cA_2, 40, .inl (fun _ => 0))), (q_3, .inl (cA_4, 40, .inl (fun _ => 0)))] H := hP
  replace hD : va_D A [(h0, .inr (5, [.ref q_1, .ref q_3, .null, .long 0, .int 0, .int 0, .int 0])), (q_1, .inl (cA_2, 40, .inl (fun _ => 0))), (q_3, .inl (cA_4, 40, .inl (fun _ => 0)))] := hD
  refine lv_aload_n hx hb dX4_init_20 rfl (lv_at hl 0 rfl) ?_
  refine lv_bipush (v := 40) hx hb dX4_init_21 (by decide) ?_
  refine va_newa (atype := .int) (ty := .int) (a0 := (40, .inl (fun _ => 0))) (N' := 40) hx hb (hts (.arrayClass .int) (by decide +kernel)) rfl hK hP hD hS hA (fun _ => rfl) (by decide) (by decide) (by decide) (Nat.le_of_ble_eq_true rfl) (Nat.le_of_ble_eq_true rfl) dX4_init_23 (fun q_5 cA_6 H hK hP hD hS => ?_)
  have hK : va_K (dC, dI) vwCl [(cA_2, .int), (cA_4, .int), (cA_6, .int)] s := hK
  replace hP : va_P (dC, dI) vwCl [(h0, .inr (5, [.ref q_1, .ref q_3, .null, .long 0, .int 0, .int 0, .int 0])), (q_1, .inl (cA_2, 40, .inl (fun _ => 0))), (q_3, .inl (cA_4, 40, .inl (fun _ => 0))), (q_5, .inl (cA_6, 40, .inl (fun _ => 0)))] H := hP
  replace hD : va_D A [(h0, .inr (5, [.ref q_1, .ref q_3, .null, .long 0, .int 0, .int 0, .int 0])), (q_1, .inl (cA_2, 40, .inl (fun _ => 0))), (q_3, .inl (cA_4, 40, .inl (fun _ => 0))), (q_5, .inl (cA_6, 40, .inl (fun _ => 0)))] := hD
  refine W.widen (k := 3) (n := 120) (by omega) (by omega) ?_
  refine va_putF (D := (dC, dI)) (ci := 5) (v := .ref q_5) (ty := .array .int) (C := RX4) (T := TX4) (N := 7) hx hb hts in_s_plan_X4 tyX4 tyX4_ok nmX4 hown hK hP hD hS 0 rfl rfl 2 (by decide) (hts (.fieldLink RX4 18 "ServiceTree$Plan" "ends" "[I") (by decide +kernel)) (fun _ h9 => h9) rfl hin rfl (by decide +kernel) rfl rfl (Nat.le_of_ble_eq_true rfl) dX4_init_25 (fun H locs hP hD hS => ?_)
  replace hP : va_P (dC, dI) vwCl [(h0, .inr (5, [.ref q_1, .ref q_3, .ref q_5, .long 0, .int 0, .int 0, .int 0])), (q_1, .inl (cA_2, 40, .inl (fun _ => 0))), (q_3, .inl (cA_4, 40, .inl (fun _ => 0))), (q_5, .inl (cA_6, 40, .inl (fun _ => 0)))] H := hP
  replace hD : va_D A [(h0, .inr (5, [.ref q_1, .ref q_3, .ref q_5, .long 0, .int 0, .int 0, .int 0])), (q_1, .inl (cA_2, 40, .inl (fun _ => 0))), (q_3, .inl (cA_4, 40, .inl (fun _ => 0))), (q_5, .inl (cA_6, 40, .inl (fun _ => 0)))] := hD
  have hP9 := hP.sub (ws' := [(h0, .inr (5, [.ref q_1, .ref q_3, .ref q_5, .long 0, .int 0, .int 0, .int 0])), (q_1, .inl (cA_2, 40, .inl (fun _ => 0))), (q_3, .inl (cA_4, 40, .inl (fun _ => 0))), (q_5, .inl (cA_6, 40, .inl (fun _ => 0)))]) [0, 1, 2, 3] rfl
  have hD9 := hD.sub (ws' := [(h0, .inr (5, [.ref q_1, .ref q_3, .ref q_5, .long 0, .int 0, .int 0, .int 0])), (q_1, .inl (cA_2, 40, .inl (fun _ => 0))), (q_3, .inl (cA_4, 40, .inl (fun _ => 0))), (q_5, .inl (cA_6, 40, .inl (fun _ => 0)))]) [0, 1, 2, 3] (by decide) rfl
  have hK9 := hK.sub (tys' := [(cA_2, .int), (cA_4, .int), (cA_6, .int)]) [0, 1, 2] rfl
  exact W.vret hx hb hr (fun t ht hW => ⟨⟨(), rfl, trivial, q_1, q_3, q_5, cA_2, cA_4, cA_6, by rw [ht]; exact hP9, va_K.moved hW.alike hK9, hD9⟩, hS.F ht⟩) hS.2.2 dX4_init_28
def wq_s_hist : List Cond := ([.code yX2_init cX2_init 1 none, .methodLink RX2 3 objectInit, .instanceMethod objectInit, .code objectInit ⟨#[0xb1]⟩ 1 none, .arrayClass .long, .fieldLink RX2 9 "ServiceTree$History" "kept" "[J"] : List Cond) ++ (wsX20)
theorem in_s_hist_X2 : ∀ w ∈ wsX20, w ∈ wq_s_hist := fun _ h => List.mem_append_right _ (h)
set_option maxRecDepth 20000 in
theorem wi_s_hist : ∀ w ∈ wq_s_hist, w ∈ lw_tbl := List.forall_mem_append.mpr ⟨(wix [214, 215, 86, 87, 133, 216] rfl), inKX2⟩
set_option maxRecDepth 20000 in
theorem wg_s_hist : GoodIn wq_s_hist wq_s_hist := goodIn_sub (fun _ h => h) (by decide +kernel)
set_option maxHeartbeats 4000000 in
set_option maxRecDepth 100000 in
theorem c_s_hist (l : Launch) (dC : Nat → ClassId) (dI : Nat → Nat → Nat) (h0 : Nat) (sz : Nat) : Met l yX2_init wq_s_hist ({ frames := 1, cells := 1, slots := 2000, locals := 28 }) (va_Pc [.ref h0] (fun U => U.heap.size = sz ∧ va_P (dC, dI) vwCl [(h0, .inr (3, [.null, .int 0]))] U.heap ∧ va_K (dC, dI) vwCl [] U ∧ va_D (fun _ => True) [(h0, .inr (3, [.null, .int 0]))] ∧ pw_N U)) (va_Qv (fun (_ : Unit) => True) (fun (_ : Unit) (t : State) => ∃ (hb : Nat), ∃ (kh : ClassId), va_P (dC, dI) vwCl [(h0, .inr (3, [.ref hb, .int 0])), (hb, .inl (kh, 2000, .inr (.inl (fun _ => 0))))] t.heap ∧ va_K (dC, dI) vwCl [(kh, .long)] t ∧ va_D (va_A [(h0, .inr (3, [.null, .int 0]))] sz) [(h0, .inr (3, [.ref hb, .int 0])), (hb, .inl (kh, 2000, .inr (.inl (fun _ => 0))))]) (va_A [(h0, .inr (3, [.null, .int 0]))] sz)) 1 2000 (va_A [(h0, .inr (3, [.null, .int 0]))] sz) := by
  refine Met.ofW (cc := cX2_init) (maxL := 1) (ret := none) (by decide) rfl ?_
  intro p e s m args below meth c s₁ B hml hv
  obtain ⟨rfl, hsz, hP, hK, hD0, hN⟩ := hv
  have hx := B.exec
  have hb := B.bytes
  have hr := B.returns
  have hts := atoms_spec (ws := wq_s_hist) B.pre
  have hown : s.vm.findClass RX2 = some m.cls := findClass_of_methodNamed B.named
  have hlocks := B.notSynchronized
  have hin : meth.name = "<init>" := (name_of_methodNamed B.named B.method).1
  subst hsz
  have hD := hD0.self (sz := s.heap.size)
  generalize hAe : va_A [(h0, .inr (3, [.null, .int 0]))] s.heap.size = A at hD ⊢
  have hA : ∀ q : Nat, s.heap.size ≤ q → A q := fun q h => by rw [← hAe]; exact Or.inr h
  have hS : va_S A s.heap s.heap [] := va_S.rf
  have hP : va_P (dC, dI) vwCl [(h0, .inr (3, [.null, .int 0]))] s.heap := hP
  have hl := lv_entry ([.ref h0]) (n := 1) (Nat.le_of_ble_eq_true rfl)
  rw [lg_entry_eq]
  generalize (lg_sl ([.ref h0]) ++ List.replicate (1 - (lg_sl ([.ref h0])).length) Slot.unset).toArray = ls at hl ⊢
  have hl : lv_has ls 1 [(0, .ref h0)] := hl
  refine lv_aload_n hx hb dX2_init_0 rfl (lv_at hl 0 rfl) ?_
  refine W.objInit hx hb hown (hts (.methodLink RX2 3 objectInit) (by decide +kernel)) (hts (.instanceMethod objectInit) (by decide +kernel)) (hts (.code objectInit ⟨#[0xb1]⟩ 1 none) (by decide +kernel)) rfl (by rw [hml]; exact hl.1) rfl dX2_init_1 (Nat.le_of_ble_eq_true rfl) (Nat.le_of_ble_eq_true rfl) ?_
  refine W.eq (g2 := F0 m 4 ls []) rfl ?_
  refine lv_aload_n hx hb dX2_init_4 rfl (lv_at hl 0 rfl) ?_
  refine lv_sipush (v := 2000) hx hb dX2_init_5 (by decide) ?_
  refine va_newa (atype := .long) (ty := .long) (a0 := (2000, .inr (.inl (fun _ => 0)))) (N' := 2000) hx hb (hts (.arrayClass .long) (by decide +kernel)) rfl hK hP hD hS hA (fun _ => rfl) (by decide) (by decide) (by decide) (Nat.le_of_ble_eq_true rfl) (Nat.le_of_ble_eq_true rfl) dX2_init_8 (fun q_1 cA_2 H hK hP hD hS => ?_)
  have hK : va_K (dC, dI) vwCl [(cA_2, .long)] s := hK
  replace hP : va_P (dC, dI) vwCl [(h0, .inr (3, [.null, .int 0])), (q_1, .inl (cA_2, 2000, .inr (.inl (fun _ => 0))))] H := hP
  replace hD : va_D A [(h0, .inr (3, [.null, .int 0])), (q_1, .inl (cA_2, 2000, .inr (.inl (fun _ => 0))))] := hD
  refine W.widen (k := 1) (n := 2000) (by omega) (by omega) ?_
  refine va_putF (D := (dC, dI)) (ci := 3) (v := .ref q_1) (ty := .array .long) (C := RX2) (T := TX2) (N := 2) hx hb hts in_s_hist_X2 tyX2 tyX2_ok nmX2 hown hK hP hD hS 0 rfl rfl 0 (by decide) (hts (.fieldLink RX2 9 "ServiceTree$History" "kept" "[J") (by decide +kernel)) (fun _ h9 => h9) rfl hin rfl (by decide +kernel) rfl rfl (Nat.le_of_ble_eq_true rfl) dX2_init_10 (fun H locs hP hD hS => ?_)
  replace hP : va_P (dC, dI) vwCl [(h0, .inr (3, [.ref q_1, .int 0])), (q_1, .inl (cA_2, 2000, .inr (.inl (fun _ => 0))))] H := hP
  replace hD : va_D A [(h0, .inr (3, [.ref q_1, .int 0])), (q_1, .inl (cA_2, 2000, .inr (.inl (fun _ => 0))))] := hD
  have hP9 := hP.sub (ws' := [(h0, .inr (3, [.ref q_1, .int 0])), (q_1, .inl (cA_2, 2000, .inr (.inl (fun _ => 0))))]) [0, 1] rfl
  have hD9 := hD.sub (ws' := [(h0, .inr (3, [.ref q_1, .int 0])), (q_1, .inl (cA_2, 2000, .inr (.inl (fun _ => 0))))]) [0, 1] (by decide) rfl
  have hK9 := hK.sub (tys' := [(cA_2, .long)]) [0] rfl
  exact W.vret hx hb hr (fun t ht hW => ⟨⟨(), rfl, trivial, q_1, cA_2, by rw [ht]; exact hP9, va_K.moved hW.alike hK9, hD9⟩, hS.F ht⟩) hS.2.2 dX2_init_13
def wq_s_rel : List Cond := ([.code yX5_init cX5_init 1 none, .methodLink RX5 3 objectInit, .instanceMethod objectInit, .code objectInit ⟨#[0xb1]⟩ 1 none, .arrayClass .long, .classLink RX5 9 "[[J", .fieldLink RX5 11 "ServiceTree$Relations" "froms" "[[J", .fieldLink RX5 16 "ServiceTree$Relations" "tos" "[[J"] : List Cond) ++ (wsX50)
theorem in_s_rel_X5 : ∀ w ∈ wsX50, w ∈ wq_s_rel := fun _ h => List.mem_append_right _ (h)
set_option maxRecDepth 20000 in
theorem wi_s_rel : ∀ w ∈ wq_s_rel, w ∈ lw_tbl := List.forall_mem_append.mpr ⟨(wix [118, 119, 86, 87, 133, 120, 122, 123] rfl), inKX5⟩
set_option maxRecDepth 20000 in
theorem wg_s_rel : GoodIn wq_s_rel wq_s_rel := goodIn_sub (fun _ h => h) (by decide +kernel)
set_option maxHeartbeats 4000000 in
set_option maxRecDepth 100000 in
theorem c_s_rel (l : Launch) (dC : Nat → ClassId) (dI : Nat → Nat → Nat) (h0 : Nat) (sz : Nat) : Met l yX5_init wq_s_rel ({ frames := 1, cells := 10, slots := 328, locals := 28 }) (va_Pc [.ref h0] (fun U => U.heap.size = sz ∧ va_P (dC, dI) vwCl [(h0, .inr (6, [.null, .null, .int 0]))] U.heap ∧ va_K (dC, dI) vwCl [] U ∧ va_D (fun _ => True) [(h0, .inr (6, [.null, .null, .int 0]))] ∧ pw_N U ∧ va_AOA .long U)) (va_Qv (fun (_ : Unit) => True) (fun (_ : Unit) (t : State) => ∃ (g0 : Nat), ∃ (g1 : Nat), ∃ (rr : Nat → Nat), ∃ (rq : Nat → Nat), ∃ (cO : ClassId), ∃ (cP : ClassId), ∃ (cR : ClassId), va_P (dC, dI) vwCl [(h0, .inr (6, [.ref g0, .ref g1, .int 0])), (g0, .inl (cO, 4, .inr (.inr (.inr (.inr (fun i => if i < 4 then some (rr i) else none)))))), (g1, .inl (cP, 4, .inr (.inr (.inr (.inr (fun i => if i < 4 then some (rq i) else none)))))), (rr 0, .inl (cR, 40, .inr (.inl (fun _ => 0)))), (rr 1, .inl (cR, 40, .inr (.inl (fun _ => 0)))), (rr 2, .inl (cR, 40, .inr (.inl (fun _ => 0)))), (rr 3, .inl (cR, 40, .inr (.inl (fun _ => 0)))), (rq 0, .inl (cR, 40, .inr (.inl (fun _ => 0)))), (rq 1, .inl (cR, 40, .inr (.inl (fun _ => 0)))), (rq 2, .inl (cR, 40, .inr (.inl (fun _ => 0)))), (rq 3, .inl (cR, 40, .inr (.inl (fun _ => 0))))] t.heap ∧ va_K (dC, dI) vwCl [(cO, .array .long), (cP, .array .long), (cR, .long)] t ∧ va_D (va_A [(h0, .inr (6, [.null, .null, .int 0]))] sz) [(h0, .inr (6, [.ref g0, .ref g1, .int 0])), (g0, .inl (cO, 4, .inr (.inr (.inr (.inr (fun i => if i < 4 then some (rr i) else none)))))), (g1, .inl (cP, 4, .inr (.inr (.inr (.inr (fun i => if i < 4 then some (rq i) else none)))))), (rr 0, .inl (cR, 40, .inr (.inl (fun _ => 0)))), (rr 1, .inl (cR, 40, .inr (.inl (fun _ => 0)))), (rr 2, .inl (cR, 40, .inr (.inl (fun _ => 0)))), (rr 3, .inl (cR, 40, .inr (.inl (fun _ => 0)))), (rq 0, .inl (cR, 40, .inr (.inl (fun _ => 0)))), (rq 1, .inl (cR, 40, .inr (.inl (fun _ => 0)))), (rq 2, .inl (cR, 40, .inr (.inl (fun _ => 0)))), (rq 3, .inl (cR, 40, .inr (.inl (fun _ => 0))))]) (va_A [(h0, .inr (6, [.null, .null, .int 0]))] sz)) 10 328 (va_A [(h0, .inr (6, [.null, .null, .int 0]))] sz) := by
  refine Met.ofW (cc := cX5_init) (maxL := 1) (ret := none) (by decide) rfl ?_
  intro p e s m args below meth c s₁ B hml hv
  obtain ⟨rfl, hsz, hP, hK, hD0, hN, hM⟩ := hv
  have hx := B.exec
  have hb := B.bytes
  have hr := B.returns
  have hts := atoms_spec (ws := wq_s_rel) B.pre
  have hown : s.vm.findClass RX5 = some m.cls := findClass_of_methodNamed B.named
  have hlocks := B.notSynchronized
  have hin : meth.name = "<init>" := (name_of_methodNamed B.named B.method).1
  subst hsz
  have hD := hD0.self (sz := s.heap.size)
  generalize hAe : va_A [(h0, .inr (6, [.null, .null, .int 0]))] s.heap.size = A at hD ⊢
  have hA : ∀ q : Nat, s.heap.size ≤ q → A q := fun q h => by rw [← hAe]; exact Or.inr h
  have hS : va_S A s.heap s.heap [] := va_S.rf
  have hP : va_P (dC, dI) vwCl [(h0, .inr (6, [.null, .null, .int 0]))] s.heap := hP
  have hl := lv_entry ([.ref h0]) (n := 1) (Nat.le_of_ble_eq_true rfl)
  rw [lg_entry_eq]
  generalize (lg_sl ([.ref h0]) ++ List.replicate (1 - (lg_sl ([.ref h0])).length) Slot.unset).toArray = ls at hl ⊢
  have hl : lv_has ls 1 [(0, .ref h0)] := hl
  refine lv_aload_n hx hb dX5_init_0 rfl (lv_at hl 0 rfl) ?_
  refine W.objInit hx hb hown (hts (.methodLink RX5 3 objectInit) (by decide +kernel)) (hts (.instanceMethod objectInit) (by decide +kernel)) (hts (.code objectInit ⟨#[0xb1]⟩ 1 none) (by decide +kernel)) rfl (by rw [hml]; exact hl.1) rfl dX5_init_1 (Nat.le_of_ble_eq_true rfl) (Nat.le_of_ble_eq_true rfl) ?_
  refine W.eq (g2 := F0 m 4 ls []) rfl ?_
  refine lv_aload_n hx hb dX5_init_4 rfl (lv_at hl 0 rfl) ?_
  refine lv_iconst (v := 4) hx hb dX5_init_5 (by decide) ?_
  refine lv_bipush (v := 40) hx hb dX5_init_6 (by decide) ?_
  obtain ⟨cy, kY, compY, hcy, hkY, hkindY⟩ := Cond.arrayClass_spec (hts (.arrayClass .long) (by decide +kernel))
  have hcl9 : (Cond.classLink RX5 9 ("[" ++ (FieldType.array .long).toString)).before #[Value.ref h0] s = true := by rw [show "[" ++ (FieldType.array .long).toString = "[[J" by decide +kernel]; exact hts (.classLink RX5 9 "[[J") (by decide +kernel)
  refine va_mna (X := [(h0, .inr (6, [.null, .null, .int 0]))]) (L := []) (f := fun _ => .inr (0, [])) (own := RX5) (index := 9) (ty := .long) (cy := cy) (n := 4) (k := 40) (N' := 4) (K' := 40) (z := (40, .inr (.inl (fun _ => 0)))) hx hb hown hcl9 hM (hts (.arrayClass .long) (by decide +kernel)) hcy hK hP hD hS hA (by decide) (by decide) (by decide) (by decide) (by decide) (by decide) (by decide) rfl rfl (Nat.le_of_ble_eq_true rfl) (Nat.le_of_ble_eq_true rfl) (fun c9 => arrV_new c9 40 (.long 0)) dX5_init_8 (fun q_1 rr_2 cA_3 H hinj9 hnl9 hK hP hD hS => ?_)
  have er_4 : vr_up (fun _ => (.inr (0, []) : va_E)) ((List.range 4).map rr_2) (.inl (cy, (40, .inr (.inl (fun _ => 0))))) (rr_2 0) = .inl (cy, (40, .inr (.inl (fun _ => 0)))) := vr_up_in (List.mem_map.mpr ⟨0, List.mem_range.mpr (by decide), rfl⟩)
  have er_5 : vr_up (fun _ => (.inr (0, []) : va_E)) ((List.range 4).map rr_2) (.inl (cy, (40, .inr (.inl (fun _ => 0))))) (rr_2 1) = .inl (cy, (40, .inr (.inl (fun _ => 0)))) := vr_up_in (List.mem_map.mpr ⟨1, List.mem_range.mpr (by decide), rfl⟩)
  have er_6 : vr_up (fun _ => (.inr (0, []) : va_E)) ((List.range 4).map rr_2) (.inl (cy, (40, .inr (.inl (fun _ => 0))))) (rr_2 2) = .inl (cy, (40, .inr (.inl (fun _ => 0)))) := vr_up_in (List.mem_map.mpr ⟨2, List.mem_range.mpr (by decide), rfl⟩)
  have er_7 : vr_up (fun _ => (.inr (0, []) : va_E)) ((List.range 4).map rr_2) (.inl (cy, (40, .inr (.inl (fun _ => 0))))) (rr_2 3) = .inl (cy, (40, .inr (.inl (fun _ => 0)))) := vr_up_in (List.mem_map.mpr ⟨3, List.mem_range.mpr (by decide), rfl⟩)
  replace hP := hP.sub (ws' := [(h0, .inr (6, [.null, .null, .int 0])), (q_1, .inl (cA_3, 4, .inr (.inr (.inr (.inr (fun i => if i < 4 then some (rr_2 i) else none)))))), (rr_2 0, vr_up (fun _ => .inr (0, [])) ((List.range 4).map rr_2) (.inl (cy, (40, .inr (.inl (fun _ => 0))))) (rr_2 0)), (rr_2 1, vr_up (fun _ => .inr (0, [])) ((List.range 4).map rr_2) (.inl (cy, (40, .inr (.inl (fun _ => 0))))) (rr_2 1)), (rr_2 2, vr_up (fun _ => .inr (0, [])) ((List.range 4).map rr_2) (.inl (cy, (40, .inr (.inl (fun _ => 0))))) (rr_2 2)), (rr_2 3, vr_up (fun _ => .inr (0, [])) ((List.range 4).map rr_2) (.inl (cy, (40, .inr (.inl (fun _ => 0))))) (rr_2 3))]) [0, 1, 2, 3, 4, 5] rfl
  replace hD := hD.sub (ws' := [(h0, .inr (6, [.null, .null, .int 0])), (q_1, .inl (cA_3, 4, .inr (.inr (.inr (.inr (fun i => if i < 4 then some (rr_2 i) else none)))))), (rr_2 0, vr_up (fun _ => .inr (0, [])) ((List.range 4).map rr_2) (.inl (cy, (40, .inr (.inl (fun _ => 0))))) (rr_2 0)), (rr_2 1, vr_up (fun _ => .inr (0, [])) ((List.range 4).map rr_2) (.inl (cy, (40, .inr (.inl (fun _ => 0))))) (rr_2 1)), (rr_2 2, vr_up (fun _ => .inr (0, [])) ((List.range 4).map rr_2) (.inl (cy, (40, .inr (.inl (fun _ => 0))))) (rr_2 2)), (rr_2 3, vr_up (fun _ => .inr (0, [])) ((List.range 4).map rr_2) (.inl (cy, (40, .inr (.inl (fun _ => 0))))) (rr_2 3))]) [0, 1, 2, 3, 4, 5] (by decide) rfl
  rw [er_4, er_5, er_6, er_7] at hP hD
  have hKy : va_K (dC, dI) vwCl [(cy, .long)] s := ⟨hK.1, fun k q hk => by
    have h0 : k < 1 := (List.getElem?_eq_some_iff.mp hk).1
    rw [show k = 0 by omega] at hk
    cases hk
    exact ⟨fun N9 z9 => ⟨(fun q hq => by cases hq), kY, hkY, compY, hkindY⟩, hcy⟩⟩
  replace hK : va_K (dC, dI) vwCl [(cA_3, .array .long), (cy, .long)] s := hK.app hKy
  replace hP : va_P (dC, dI) vwCl [(h0, .inr (6, [.null, .null, .int 0])), (q_1, .inl (cA_3, 4, .inr (.inr (.inr (.inr (fun i => if i < 4 then some (rr_2 i) else none)))))), (rr_2 0, .inl (cy, 40, .inr (.inl (fun _ => 0)))), (rr_2 1, .inl (cy, 40, .inr (.inl (fun _ => 0)))), (rr_2 2, .inl (cy, 40, .inr (.inl (fun _ => 0)))), (rr_2 3, .inl (cy, 40, .inr (.inl (fun _ => 0))))] H := hP
  replace hD : va_D A [(h0, .inr (6, [.null, .null, .int 0])), (q_1, .inl (cA_3, 4, .inr (.inr (.inr (.inr (fun i => if i < 4 then some (rr_2 i) else none)))))), (rr_2 0, .inl (cy, 40, .inr (.inl (fun _ => 0)))), (rr_2 1, .inl (cy, 40, .inr (.inl (fun _ => 0)))), (rr_2 2, .inl (cy, 40, .inr (.inl (fun _ => 0)))), (rr_2 3, .inl (cy, 40, .inr (.inl (fun _ => 0))))] := hD
  refine W.widen (k := 5) (n := 164) (by omega) (by omega) ?_
  refine va_putF (D := (dC, dI)) (ci := 6) (v := .ref q_1) (ty := .array (.array .long)) (C := RX5) (T := TX5) (N := 3) hx hb hts in_s_rel_X5 tyX5 tyX5_ok nmX5 hown hK hP hD hS 0 rfl rfl 0 (by decide) (hts (.fieldLink RX5 11 "ServiceTree$Relations" "froms" "[[J") (by decide +kernel)) (fun _ h9 => h9) rfl hin rfl (by decide +kernel) rfl rfl (Nat.le_of_ble_eq_true rfl) dX5_init_12 (fun H locs hP hD hS => ?_)
  replace hP : va_P (dC, dI) vwCl [(h0, .inr (6, [.ref q_1, .null, .int 0])), (q_1, .inl (cA_3, 4, .inr (.inr (.inr (.inr (fun i => if i < 4 then some (rr_2 i) else none)))))), (rr_2 0, .inl (cy, 40, .inr (.inl (fun _ => 0)))), (rr_2 1, .inl (cy, 40, .inr (.inl (fun _ => 0)))), (rr_2 2, .inl (cy, 40, .inr (.inl (fun _ => 0)))), (rr_2 3, .inl (cy, 40, .inr (.inl (fun _ => 0))))] H := hP
  replace hD : va_D A [(h0, .inr (6, [.ref q_1, .null, .int 0])), (q_1, .inl (cA_3, 4, .inr (.inr (.inr (.inr (fun i => if i < 4 then some (rr_2 i) else none)))))), (rr_2 0, .inl (cy, 40, .inr (.inl (fun _ => 0)))), (rr_2 1, .inl (cy, 40, .inr (.inl (fun _ => 0)))), (rr_2 2, .inl (cy, 40, .inr (.inl (fun _ => 0)))), (rr_2 3, .inl (cy, 40, .inr (.inl (fun _ => 0))))] := hD
  refine lv_aload_n hx hb dX5_init_15 rfl (lv_at hl 0 rfl) ?_
  refine lv_iconst (v := 4) hx hb dX5_init_16 (by decide) ?_
  refine lv_bipush (v := 40) hx hb dX5_init_17 (by decide) ?_
  refine va_mna (X := [(h0, .inr (6, [.ref q_1, .null, .int 0])), (q_1, .inl (cA_3, 4, .inr (.inr (.inr (.inr (fun i => if i < 4 then some (rr_2 i) else none)))))), (rr_2 0, .inl (cy, 40, .inr (.inl (fun _ => 0)))), (rr_2 1, .inl (cy, 40, .inr (.inl (fun _ => 0)))), (rr_2 2, .inl (cy, 40, .inr (.inl (fun _ => 0)))), (rr_2 3, .inl (cy, 40, .inr (.inl (fun _ => 0))))]) (L := []) (f := fun _ => .inr (0, [])) (own := RX5) (index := 9) (ty := .long) (cy := cy) (n := 4) (k := 40) (N' := 4) (K' := 40) (z := (40, .inr (.inl (fun _ => 0)))) hx hb hown hcl9 hM (hts (.arrayClass .long) (by decide +kernel)) hcy hK hP hD hS hA (by decide) (by decide) (by decide) (by decide) (by decide) (by decide) (by decide) rfl rfl (Nat.le_of_ble_eq_true rfl) (Nat.le_of_ble_eq_true rfl) (fun c9 => arrV_new c9 40 (.long 0)) dX5_init_19 (fun q_8 rr_9 cA_10 H hinj9 hnl9 hK hP hD hS => ?_)
  have er_11 : vr_up (fun _ => (.inr (0, []) : va_E)) ((List.range 4).map rr_9) (.inl (cy, (40, .inr (.inl (fun _ => 0))))) (rr_9 0) = .inl (cy, (40, .inr (.inl (fun _ => 0)))) := vr_up_in (List.mem_map.mpr ⟨0, List.mem_range.mpr (by decide), rfl⟩)
  have er_12 : vr_up (fun _ => (.inr (0, []) : va_E)) ((List.range 4).map rr_9) (.inl (cy, (40, .inr (.inl (fun _ => 0))))) (rr_9 1) = .inl (cy, (40, .inr (.inl (fun _ => 0)))) := vr_up_in (List.mem_map.mpr ⟨1, List.mem_range.mpr (by decide), rfl⟩)
  have er_13 : vr_up (fun _ => (.inr (0, []) : va_E)) ((List.range 4).map rr_9) (.inl (cy, (40, .inr (.inl (fun _ => 0))))) (rr_9 2) = .inl (cy, (40, .inr (.inl (fun _ => 0)))) := vr_up_in (List.mem_map.mpr ⟨2, List.mem_range.mpr (by decide), rfl⟩)
  have er_14 : vr_up (fun _ => (.inr (0, []) : va_E)) ((List.range 4).map rr_9) (.inl (cy, (40, .inr (.inl (fun _ => 0))))) (rr_9 3) = .inl (cy, (40, .inr (.inl (fun _ => 0)))) := vr_up_in (List.mem_map.mpr ⟨3, List.mem_range.mpr (by decide), rfl⟩)
  replace hP := hP.sub (ws' := [(h0, .inr (6, [.ref q_1, .null, .int 0])), (q_1, .inl (cA_3, 4, .inr (.inr (.inr (.inr (fun i => if i < 4 then some (rr_2 i) else none)))))), (rr_2 0, .inl (cy, 40, .inr (.inl (fun _ => 0)))), (rr_2 1, .inl (cy, 40, .inr (.inl (fun _ => 0)))), (rr_2 2, .inl (cy, 40, .inr (.inl (fun _ => 0)))), (rr_2 3, .inl (cy, 40, .inr (.inl (fun _ => 0)))), (q_8, .inl (cA_10, 4, .inr (.inr (.inr (.inr (fun i => if i < 4 then some (rr_9 i) else none)))))), (rr_9 0, vr_up (fun _ => .inr (0, [])) ((List.range 4).map rr_9) (.inl (cy, (40, .inr (.inl (fun _ => 0))))) (rr_9 0)), (rr_9 1, vr_up (fun _ => .inr (0, [])) ((List.range 4).map rr_9) (.inl (cy, (40, .inr (.inl (fun _ => 0))))) (rr_9 1)), (rr_9 2, vr_up (fun _ => .inr (0, [])) ((List.range 4).map rr_9) (.inl (cy, (40, .inr (.inl (fun _ => 0))))) (rr_9 2)), (rr_9 3, vr_up (fun _ => .inr (0, [])) ((List.range 4).map rr_9) (.inl (cy, (40, .inr (.inl (fun _ => 0))))) (rr_9 3))]) [0, 1, 2, 3, 4, 5, 6, 7, 8, 9, 10] rfl
  replace hD := hD.sub (ws' := [(h0, .inr (6, [.ref q_1, .null, .int 0])), (q_1, .inl (cA_3, 4, .inr (.inr (.inr (.inr (fun i => if i < 4 then some (rr_2 i) else none)))))), (rr_2 0, .inl (cy, 40, .inr (.inl (fun _ => 0)))), (rr_2 1, .inl (cy, 40, .inr (.inl (fun _ => 0)))), (rr_2 2, .inl (cy, 40, .inr (.inl (fun _ => 0)))), (rr_2 3, .inl (cy, 40, .inr (.inl (fun _ => 0)))), (q_8, .inl (cA_10, 4, .inr (.inr (.inr (.inr (fun i => if i < 4 then some (rr_9 i) else none)))))), (rr_9 0, vr_up (fun _ => .inr (0, [])) ((List.range 4).map rr_9) (.inl (cy, (40, .inr (.inl (fun _ => 0))))) (rr_9 0)), (rr_9 1, vr_up (fun _ => .inr (0, [])) ((List.range 4).map rr_9) (.inl (cy, (40, .inr (.inl (fun _ => 0))))) (rr_9 1)), (rr_9 2, vr_up (fun _ => .inr (0, [])) ((List.range 4).map rr_9) (.inl (cy, (40, .inr (.inl (fun _ => 0))))) (rr_9 2)), (rr_9 3, vr_up (fun _ => .inr (0, [])) ((List.range 4).map rr_9) (.inl (cy, (40, .inr (.inl (fun _ => 0))))) (rr_9 3))]) [0, 1, 2, 3, 4, 5, 6, 7, 8, 9, 10] (by decide) rfl
  rw [er_11, er_12, er_13, er_14] at hP hD
  replace hK : va_K (dC, dI) vwCl [(cA_3, .array .long), (cy, .long), (cA_10, .array .long)] s := hK
  replace hP : va_P (dC, dI) vwCl [(h0, .inr (6, [.ref q_1, .null, .int 0])), (q_1, .inl (cA_3, 4, .inr (.inr (.inr (.inr (fun i => if i < 4 then some (rr_2 i) else none)))))), (rr_2 0, .inl (cy, 40, .inr (.inl (fun _ => 0)))), (rr_2 1, .inl (cy, 40, .inr (.inl (fun _ => 0)))), (rr_2 2, .inl (cy, 40, .inr (.inl (fun _ => 0)))), (rr_2 3, .inl (cy, 40, .inr (.inl (fun _ => 0)))), (q_8, .inl (cA_10, 4, .inr (.inr (.inr (.inr (fun i => if i < 4 then some (rr_9 i) else none)))))), (rr_9 0, .inl (cy, 40, .inr (.inl (fun _ => 0)))), (rr_9 1, .inl (cy, 40, .inr (.inl (fun _ => 0)))), (rr_9 2, .inl (cy, 40, .inr (.inl (fun _ => 0)))), (rr_9 3, .inl (cy, 40, .inr (.inl (fun _ => 0))))] H := hP
  replace hD : va_D A [(h0, .inr (6, [.ref q_1, .null, .int 0])), (q_1, .inl (cA_3, 4, .inr (.inr (.inr (.inr (fun i => if i < 4 then some (rr_2 i) else none)))))), (rr_2 0, .inl (cy, 40, .inr (.inl (fun _ => 0)))), (rr_2 1, .inl (cy, 40, .inr (.inl (fun _ => 0)))), (rr_2 2, .inl (cy, 40, .inr (.inl (fun _ => 0)))), (rr_2 3, .inl (cy, 40, .inr (.inl (fun _ => 0)))), (q_8, .inl (cA_10, 4, .inr (.inr (.inr (.inr (fun i => if i < 4 then some (rr_9 i) else none)))))), (rr_9 0, .inl (cy, 40, .inr (.inl (fun _ => 0)))), (rr_9 1, .inl (cy, 40, .inr (.inl (fun _ => 0)))), (rr_9 2, .inl (cy, 40, .inr (.inl (fun _ => 0)))), (rr_9 3, .inl (cy, 40, .inr (.inl (fun _ => 0))))] := hD
  refine W.widen (k := 10) (n := 328) (by omega) (by omega) ?_
  refine va_putF (D := (dC, dI)) (ci := 6) (v := .ref q_8) (ty := .array (.array .long)) (C := RX5) (T := TX5) (N := 3) hx hb hts in_s_rel_X5 tyX5 tyX5_ok nmX5 hown hK hP hD hS 0 rfl rfl 1 (by decide) (hts (.fieldLink RX5 16 "ServiceTree$Relations" "tos" "[[J") (by decide +kernel)) (fun _ h9 => h9) rfl hin rfl (by decide +kernel) rfl rfl (Nat.le_of_ble_eq_true rfl) dX5_init_23 (fun H locs hP hD hS => ?_)
  replace hP : va_P (dC, dI) vwCl [(h0, .inr (6, [.ref q_1, .ref q_8, .int 0])), (q_1, .inl (cA_3, 4, .inr (.inr (.inr (.inr (fun i => if i < 4 then some (rr_2 i) else none)))))), (rr_2 0, .inl (cy, 40, .inr (.inl (fun _ => 0)))), (rr_2 1, .inl (cy, 40, .inr (.inl (fun _ => 0)))), (rr_2 2, .inl (cy, 40, .inr (.inl (fun _ => 0)))), (rr_2 3, .inl (cy, 40, .inr (.inl (fun _ => 0)))), (q_8, .inl (cA_10, 4, .inr (.inr (.inr (.inr (fun i => if i < 4 then some (rr_9 i) else none)))))), (rr_9 0, .inl (cy, 40, .inr (.inl (fun _ => 0)))), (rr_9 1, .inl (cy, 40, .inr (.inl (fun _ => 0)))), (rr_9 2, .inl (cy, 40, .inr (.inl (fun _ => 0)))), (rr_9 3, .inl (cy, 40, .inr (.inl (fun _ => 0))))] H := hP
  replace hD : va_D A [(h0, .inr (6, [.ref q_1, .ref q_8, .int 0])), (q_1, .inl (cA_3, 4, .inr (.inr (.inr (.inr (fun i => if i < 4 then some (rr_2 i) else none)))))), (rr_2 0, .inl (cy, 40, .inr (.inl (fun _ => 0)))), (rr_2 1, .inl (cy, 40, .inr (.inl (fun _ => 0)))), (rr_2 2, .inl (cy, 40, .inr (.inl (fun _ => 0)))), (rr_2 3, .inl (cy, 40, .inr (.inl (fun _ => 0)))), (q_8, .inl (cA_10, 4, .inr (.inr (.inr (.inr (fun i => if i < 4 then some (rr_9 i) else none)))))), (rr_9 0, .inl (cy, 40, .inr (.inl (fun _ => 0)))), (rr_9 1, .inl (cy, 40, .inr (.inl (fun _ => 0)))), (rr_9 2, .inl (cy, 40, .inr (.inl (fun _ => 0)))), (rr_9 3, .inl (cy, 40, .inr (.inl (fun _ => 0))))] := hD
  have hP9 := hP.sub (ws' := [(h0, .inr (6, [.ref q_1, .ref q_8, .int 0])), (q_1, .inl (cA_3, 4, .inr (.inr (.inr (.inr (fun i => if i < 4 then some (rr_2 i) else none)))))), (q_8, .inl (cA_10, 4, .inr (.inr (.inr (.inr (fun i => if i < 4 then some (rr_9 i) else none)))))), (rr_2 0, .inl (cy, 40, .inr (.inl (fun _ => 0)))), (rr_2 1, .inl (cy, 40, .inr (.inl (fun _ => 0)))), (rr_2 2, .inl (cy, 40, .inr (.inl (fun _ => 0)))), (rr_2 3, .inl (cy, 40, .inr (.inl (fun _ => 0)))), (rr_9 0, .inl (cy, 40, .inr (.inl (fun _ => 0)))), (rr_9 1, .inl (cy, 40, .inr (.inl (fun _ => 0)))), (rr_9 2, .inl (cy, 40, .inr (.inl (fun _ => 0)))), (rr_9 3, .inl (cy, 40, .inr (.inl (fun _ => 0))))]) [0, 1, 6, 2, 3, 4, 5, 7, 8, 9, 10] rfl
  have hD9 := hD.sub (ws' := [(h0, .inr (6, [.ref q_1, .ref q_8, .int 0])), (q_1, .inl (cA_3, 4, .inr (.inr (.inr (.inr (fun i => if i < 4 then some (rr_2 i) else none)))))), (q_8, .inl (cA_10, 4, .inr (.inr (.inr (.inr (fun i => if i < 4 then some (rr_9 i) else none)))))), (rr_2 0, .inl (cy, 40, .inr (.inl (fun _ => 0)))), (rr_2 1, .inl (cy, 40, .inr (.inl (fun _ => 0)))), (rr_2 2, .inl (cy, 40, .inr (.inl (fun _ => 0)))), (rr_2 3, .inl (cy, 40, .inr (.inl (fun _ => 0)))), (rr_9 0, .inl (cy, 40, .inr (.inl (fun _ => 0)))), (rr_9 1, .inl (cy, 40, .inr (.inl (fun _ => 0)))), (rr_9 2, .inl (cy, 40, .inr (.inl (fun _ => 0)))), (rr_9 3, .inl (cy, 40, .inr (.inl (fun _ => 0))))]) [0, 1, 6, 2, 3, 4, 5, 7, 8, 9, 10] (by decide) rfl
  have hK9 := hK.sub (tys' := [(cA_3, .array .long), (cA_10, .array .long), (cy, .long)]) [0, 2, 1] rfl
  exact W.vret hx hb hr (fun t ht hW => ⟨⟨(), rfl, trivial, q_1, q_8, rr_2, rr_9, cA_3, cA_10, cy, by rw [ht]; exact hP9, va_K.moved hW.alike hK9, hD9⟩, hS.F ht⟩) hS.2.2 dX5_init_26
def wq_s_tree : List Cond := ([.code yX8_init cX8_init 1 none, .methodLink RX8 1 objectInit, .instanceMethod objectInit, .code objectInit ⟨#[0xb1]⟩ 1 none, .classLink RX8 7 RJx4a65c, .instantiable RJx4a65c 3, .initialized RJx4a65c, .methodLink RX8 9 yJx4a65c_init_da8c8, .instanceMethod yJx4a65c_init_da8c8, .fieldLink RX8 10 "ServiceTree" "services" "Ljava/util/ArrayList;", .classLink RX8 16 RX5, .instantiable RX5 3, .initialized RX5, .instanceMethod yX5_init, .fieldLink RX8 19 "ServiceTree" "relations" "LServiceTree$Relations;", .classLink RX8 23 RX1, .instantiable RX1 5, .initialized RX1, .methodLink RX8 25 yX1_init, .instanceMethod yX1_init, .fieldLink RX8 28 "ServiceTree" "draft" "LServiceTree$Draft;", .classLink RX8 32 RX3, .instantiable RX3 4, .initialized RX3, .methodLink RX8 34 yX3_init, .instanceMethod yX3_init, .fieldLink RX8 35 "ServiceTree" "jobs" "LServiceTree$Jobs;", .classLink RX8 39 RX4, .instantiable RX4 7, .initialized RX4, .instanceMethod yX4_init, .fieldLink RX8 42 "ServiceTree" "latestPlan" "LServiceTree$Plan;", .classLink RX8 46 RX2, .instantiable RX2 2, .initialized RX2, .instanceMethod yX2_init, .fieldLink RX8 49 "ServiceTree" "history" "LServiceTree$History;", .arrayClass .long, .fieldLink RX8 53 "ServiceTree" "inState" "[J"] : List Cond) ++ (wsJx4a65c0 ++ (wsX10 ++ (wsX20 ++ (wsX30 ++ (wsX40 ++ (wsX50 ++ (wsX80 ++ (wq_s_al ++ (wq_s_rel ++ (wq_s_draft ++ (wq_s_jobs ++ (wq_s_plan ++ (wq_s_hist)))))))))))))
theorem in_s_tree_Jx4a65c : ∀ w ∈ wsJx4a65c0, w ∈ wq_s_tree := fun _ h => List.mem_append_right _ (List.mem_append_left _ (h))
theorem in_s_tree_X1 : ∀ w ∈ wsX10, w ∈ wq_s_tree := fun _ h => List.mem_append_right _ (List.mem_append_right _ (List.mem_append_left _ (h)))
theorem in_s_tree_X2 : ∀ w ∈ wsX20, w ∈ wq_s_tree := fun _ h => List.mem_append_right _ (List.mem_append_right _ (List.mem_append_right _ (List.mem_append_left _ (h))))
theorem in_s_tree_X3 : ∀ w ∈ wsX30, w ∈ wq_s_tree := fun _ h => List.mem_append_right _ (List.mem_append_right _ (List.mem_append_right _ (List.mem_append_right _ (List.mem_append_left _ (h)))))
theorem in_s_tree_X4 : ∀ w ∈ wsX40, w ∈ wq_s_tree := fun _ h => List.mem_append_right _ (List.mem_append_right _ (List.mem_append_right _ (List.mem_append_right _ (List.mem_append_right _ (List.mem_append_left _ (h))))))
theorem in_s_tree_X5 : ∀ w ∈ wsX50, w ∈ wq_s_tree := fun _ h => List.mem_append_right _ (List.mem_append_right _ (List.mem_append_right _ (List.mem_append_right _ (List.mem_append_right _ (List.mem_append_right _ (List.mem_append_left _ (h)))))))
theorem in_s_tree_X8 : ∀ w ∈ wsX80, w ∈ wq_s_tree := fun _ h => List.mem_append_right _ (List.mem_append_right _ (List.mem_append_right _ (List.mem_append_right _ (List.mem_append_right _ (List.mem_append_right _ (List.mem_append_right _ (List.mem_append_left _ (h))))))))
set_option maxRecDepth 20000 in
theorem wi_s_tree : ∀ w ∈ wq_s_tree, w ∈ lw_tbl := List.forall_mem_append.mpr ⟨(wix [84, 85, 86, 87, 88, 89, 63, 90, 91, 224, 114, 115, 64, 117, 225, 134, 135, 65, 136, 137, 226, 159, 160, 66, 161, 162, 227, 179, 180, 67, 182, 228, 210, 211, 68, 213, 229, 133, 230] rfl), List.forall_mem_append.mpr ⟨inKJx4a65c, List.forall_mem_append.mpr ⟨inKX1, List.forall_mem_append.mpr ⟨inKX2, List.forall_mem_append.mpr ⟨inKX3, List.forall_mem_append.mpr ⟨inKX4, List.forall_mem_append.mpr ⟨inKX5, List.forall_mem_append.mpr ⟨inKX8, List.forall_mem_append.mpr ⟨wi_s_al, List.forall_mem_append.mpr ⟨wi_s_rel, List.forall_mem_append.mpr ⟨wi_s_draft, List.forall_mem_append.mpr ⟨wi_s_jobs, List.forall_mem_append.mpr ⟨wi_s_plan, wi_s_hist⟩⟩⟩⟩⟩⟩⟩⟩⟩⟩⟩⟩⟩
set_option maxRecDepth 20000 in
theorem wg_s_tree : GoodIn wq_s_tree wq_s_tree := goodIn_sub (fun _ h => h) (by decide +kernel)
theorem wc_s_tree_s_al_9 : GoodIn wq_s_tree wq_s_al := (fun w h => ⟨List.mem_append_right _ (List.mem_append_right _ (List.mem_append_right _ (List.mem_append_right _ (List.mem_append_right _ (List.mem_append_right _ (List.mem_append_right _ (List.mem_append_right _ (List.mem_append_left _ (h))))))))), (wg_s_al w h).2⟩)
theorem wc_s_tree_s_rel_18 : GoodIn wq_s_tree wq_s_rel := (fun w h => ⟨List.mem_append_right _ (List.mem_append_right _ (List.mem_append_right _ (List.mem_append_right _ (List.mem_append_right _ (List.mem_append_right _ (List.mem_append_right _ (List.mem_append_right _ (List.mem_append_right _ (List.mem_append_left _ (h)))))))))), (wg_s_rel w h).2⟩)
theorem wc_s_tree_s_draft_25 : GoodIn wq_s_tree wq_s_draft := (fun w h => ⟨List.mem_append_right _ (List.mem_append_right _ (List.mem_append_right _ (List.mem_append_right _ (List.mem_append_right _ (List.mem_append_right _ (List.mem_append_right _ (List.mem_append_right _ (List.mem_append_right _ (List.mem_append_right _ (List.mem_append_left _ (h))))))))))), (wg_s_draft w h).2⟩)
theorem wc_s_tree_s_jobs_34 : GoodIn wq_s_tree wq_s_jobs := (fun w h => ⟨List.mem_append_right _ (List.mem_append_right _ (List.mem_append_right _ (List.mem_append_right _ (List.mem_append_right _ (List.mem_append_right _ (List.mem_append_right _ (List.mem_append_right _ (List.mem_append_right _ (List.mem_append_right _ (List.mem_append_right _ (List.mem_append_left _ (h)))))))))))), (wg_s_jobs w h).2⟩)
theorem wc_s_tree_s_plan_41 : GoodIn wq_s_tree wq_s_plan := (fun w h => ⟨List.mem_append_right _ (List.mem_append_right _ (List.mem_append_right _ (List.mem_append_right _ (List.mem_append_right _ (List.mem_append_right _ (List.mem_append_right _ (List.mem_append_right _ (List.mem_append_right _ (List.mem_append_right _ (List.mem_append_right _ (List.mem_append_right _ (List.mem_append_left _ (h))))))))))))), (wg_s_plan w h).2⟩)
theorem wc_s_tree_s_hist_48 : GoodIn wq_s_tree wq_s_hist := (fun w h => ⟨List.mem_append_right _ (List.mem_append_right _ (List.mem_append_right _ (List.mem_append_right _ (List.mem_append_right _ (List.mem_append_right _ (List.mem_append_right _ (List.mem_append_right _ (List.mem_append_right _ (List.mem_append_right _ (List.mem_append_right _ (List.mem_append_right _ (List.mem_append_right _ (h))))))))))))), (wg_s_hist w h).2⟩)
set_option maxHeartbeats 4000000 in
set_option maxRecDepth 100000 in
theorem c_s_tree (l : Launch) (dC : Nat → ClassId) (dI : Nat → Nat → Nat) (h0 : Nat) (z : Nat) (sz : Nat) : Met l yX8_init wq_s_tree ({ frames := 4, cells := 21, slots := 2478, locals := 88 }) (va_Pc [.ref h0] (fun U => U.heap.size = sz ∧ va_P (dC, dI) vwCl [(h0, .inr (9, [.null, .null, .null, .null, .null, .null, .null, .long 0, .long 0, .int 0, .int 0, .int 0, .int 0, .int 0]))] U.heap ∧ va_K (dC, dI) vwCl [] U ∧ va_D (fun _ => True) [(h0, .inr (9, [.null, .null, .null, .null, .null, .null, .null, .long 0, .long 0, .int 0, .int 0, .int 0, .int 0, .int 0]))] ∧ pw_N U ∧ va_Z "java/util/ArrayList" "DEFAULTCAPACITY_EMPTY_ELEMENTDATA" "[Ljava/lang/Object;" (.ref z) (va_A [(h0, .inr (9, [.null, .null, .null, .null, .null, .null, .null, .long 0, .long 0, .int 0, .int 0, .int 0, .int 0, .int 0]))] sz) U U.heap ∧ va_AOA .long U)) (va_Qv (fun (_ : Unit) => True) (fun (_ : Unit) (t : State) => ∃ (a : Nat → Nat), ∃ (g0 : Nat), ∃ (g1 : Nat), ∃ (rr : Nat → Nat), ∃ (rq : Nat → Nat), ∃ (cO : ClassId), ∃ (cP : ClassId), ∃ (cR : ClassId), ∃ (b0 : Nat), ∃ (b1 : Nat), ∃ (b2 : Nat), ∃ (kb0 : ClassId), ∃ (kb1 : ClassId), ∃ (kb2 : ClassId), ∃ (hb : Nat), ∃ (kh : ClassId), ∃ (ki : ClassId), va_P (dC, dI) vwCl [(h0, .inr (9, [.ref (a 0), .ref (a 1), .ref (a 2), .ref (a 3), .ref (a 4), .ref (a 5), .ref (a 6), .long 0, .long 0, .int 0, .int 0, .int 0, .int 0, .int 0])), (a 0, .inr (0, [.int 0, .ref z, .int 0])), (a 1, .inr (6, [.ref g0, .ref g1, .int 0])), (g0, .inl (cO, 4, .inr (.inr (.inr (.inr (fun i => if i < 4 then some (rr i) else none)))))), (g1, .inl (cP, 4, .inr (.inr (.inr (.inr (fun i => if i < 4 then some (rq i) else none)))))), (rr 0, .inl (cR, 40, .inr (.inl (fun _ => 0)))), (rr 1, .inl (cR, 40, .inr (.inl (fun _ => 0)))), (rr 2, .inl (cR, 40, .inr (.inl (fun _ => 0)))), (rr 3, .inl (cR, 40, .inr (.inl (fun _ => 0)))), (rq 0, .inl (cR, 40, .inr (.inl (fun _ => 0)))), (rq 1, .inl (cR, 40, .inr (.inl (fun _ => 0)))), (rq 2, .inl (cR, 40, .inr (.inl (fun _ => 0)))), (rq 3, .inl (cR, 40, .inr (.inl (fun _ => 0)))), (a 2, .inr (2, [.ref (a 1), .long 0, .long 0, .long 0, .int 0])), (a 3, .inr (4, [.ref (a 1), .long 0, .long 0, .long 0])), (a 4, .inr (5, [.ref b0, .ref b1, .ref b2, .long 0, .int 0, .int 0, .int 0])), (b0, .inl (kb0, 40, .inl (fun _ => 0))), (b1, .inl (kb1, 40, .inl (fun _ => 0))), (b2, .inl (kb2, 40, .inl (fun _ => 0))), (a 5, .inr (3, [.ref hb, .int 0])), (hb, .inl (kh, 2000, .inr (.inl (fun _ => 0)))), (a 6, .inl (ki, 6, .inr (.inl (fun _ => 0))))] t.heap ∧ va_K (dC, dI) vwCl [(cO, .array .long), (cP, .array .long), (cR, .long), (kb0, .int), (kb1, .int), (kb2, .int), (kh, .long), (ki, .long)] t ∧ va_D (va_A [(h0, .inr (9, [.null, .null, .null, .null, .null, .null, .null, .long 0, .long 0, .int 0, .int 0, .int 0, .int 0, .int 0]))] sz) [(h0, .inr (9, [.ref (a 0), .ref (a 1), .ref (a 2), .ref (a 3), .ref (a 4), .ref (a 5), .ref (a 6), .long 0, .long 0, .int 0, .int 0, .int 0, .int 0, .int 0])), (a 0, .inr (0, [.int 0, .ref z, .int 0])), (a 1, .inr (6, [.ref g0, .ref g1, .int 0])), (g0, .inl (cO, 4, .inr (.inr (.inr (.inr (fun i => if i < 4 then some (rr i) else none)))))), (g1, .inl (cP, 4, .inr (.inr (.inr (.inr (fun i => if i < 4 then some (rq i) else none)))))), (rr 0, .inl (cR, 40, .inr (.inl (fun _ => 0)))), (rr 1, .inl (cR, 40, .inr (.inl (fun _ => 0)))), (rr 2, .inl (cR, 40, .inr (.inl (fun _ => 0)))), (rr 3, .inl (cR, 40, .inr (.inl (fun _ => 0)))), (rq 0, .inl (cR, 40, .inr (.inl (fun _ => 0)))), (rq 1, .inl (cR, 40, .inr (.inl (fun _ => 0)))), (rq 2, .inl (cR, 40, .inr (.inl (fun _ => 0)))), (rq 3, .inl (cR, 40, .inr (.inl (fun _ => 0)))), (a 2, .inr (2, [.ref (a 1), .long 0, .long 0, .long 0, .int 0])), (a 3, .inr (4, [.ref (a 1), .long 0, .long 0, .long 0])), (a 4, .inr (5, [.ref b0, .ref b1, .ref b2, .long 0, .int 0, .int 0, .int 0])), (b0, .inl (kb0, 40, .inl (fun _ => 0))), (b1, .inl (kb1, 40, .inl (fun _ => 0))), (b2, .inl (kb2, 40, .inl (fun _ => 0))), (a 5, .inr (3, [.ref hb, .int 0])), (hb, .inl (kh, 2000, .inr (.inl (fun _ => 0)))), (a 6, .inl (ki, 6, .inr (.inl (fun _ => 0))))]) (va_A [(h0, .inr (9, [.null, .null, .null, .null, .null, .null, .null, .long 0, .long 0, .int 0, .int 0, .int 0, .int 0, .int 0]))] sz)) 21 2478 (va_A [(h0, .inr (9, [.null, .null, .null, .null, .null, .null, .null, .long 0, .long 0, .int 0, .int 0, .int 0, .int 0, .int 0]))] sz) := by
  refine Met.ofW (cc := cX8_init) (maxL := 1) (ret := none) (by decide) rfl ?_
  intro p e s m args below meth c s₁ B hml hv
  obtain ⟨rfl, hsz, hP, hK, hD0, hN, hZ, hM⟩ := hv
  have hx := B.exec
  have hb := B.bytes
  have hr := B.returns
  have hts := atoms_spec (ws := wq_s_tree) B.pre
  have hown : s.vm.findClass RX8 = some m.cls := findClass_of_methodNamed B.named
  have hlocks := B.notSynchronized
  have hin : meth.name = "<init>" := (name_of_methodNamed B.named B.method).1
  subst hsz
  have hD := hD0.self (sz := s.heap.size)
  generalize hAe : va_A [(h0, .inr (9, [.null, .null, .null, .null, .null, .null, .null, .long 0, .long 0, .int 0, .int 0, .int 0, .int 0, .int 0]))] s.heap.size = A at hD hZ ⊢
  have hA : ∀ q : Nat, s.heap.size ≤ q → A q := fun q h => by rw [← hAe]; exact Or.inr h
  have hS : va_S A s.heap s.heap [] := va_S.rf
  have hP : va_P (dC, dI) vwCl [(h0, .inr (9, [.null, .null, .null, .null, .null, .null, .null, .long 0, .long 0, .int 0, .int 0, .int 0, .int 0, .int 0]))] s.heap := hP
  have hl := lv_entry ([.ref h0]) (n := 1) (Nat.le_of_ble_eq_true rfl)
  rw [lg_entry_eq]
  generalize (lg_sl ([.ref h0]) ++ List.replicate (1 - (lg_sl ([.ref h0])).length) Slot.unset).toArray = ls at hl ⊢
  have hl : lv_has ls 1 [(0, .ref h0)] := hl
  refine lv_aload_n hx hb dX8_init_0 rfl (lv_at hl 0 rfl) ?_
  refine W.objInit hx hb hown (hts (.methodLink RX8 1 objectInit) (by decide +kernel)) (hts (.instanceMethod objectInit) (by decide +kernel)) (hts (.code objectInit ⟨#[0xb1]⟩ 1 none) (by decide +kernel)) rfl (by rw [hml]; exact hl.1) rfl dX8_init_1 (Nat.le_of_ble_eq_true rfl) (Nat.le_of_ble_eq_true rfl) ?_
  refine W.eq (g2 := F0 m 4 ls []) rfl ?_
  refine lv_aload_n hx hb dX8_init_4 rfl (lv_at hl 0 rfl) ?_
  refine va_new (ci := 0) (fs := [.int 0, .null, .int 0]) (C := RJx4a65c) (T := TJx4a65c) (N := 3) hx hb hts in_s_tree_Jx4a65c tyJx4a65c tyJx4a65c_ok hown (hts (.classLink RX8 7 RJx4a65c) (by decide +kernel)) (hts (.instantiable RJx4a65c 3) (by decide +kernel)) (hts (.initialized RJx4a65c) (by decide +kernel)) hK hP hD hS hA rfl (fun j hj => dfJx4a65c j hj) (Nat.le_of_ble_eq_true rfl) (Nat.le_of_ble_eq_true rfl) dX8_init_5 (fun q_1 H hP hD hS => ?_)
  replace hP : va_P (dC, dI) vwCl [(h0, .inr (9, [.null, .null, .null, .null, .null, .null, .null, .long 0, .long 0, .int 0, .int 0, .int 0, .int 0, .int 0])), (q_1, .inr (0, [.int 0, .null, .int 0]))] H := hP
  replace hD : va_D A [(h0, .inr (9, [.null, .null, .null, .null, .null, .null, .null, .long 0, .long 0, .int 0, .int 0, .int 0, .int 0, .int 0])), (q_1, .inr (0, [.int 0, .null, .int 0]))] := hD
  refine W.widen (k := 1) (n := 3) (by omega) (by omega) ?_
  refine lv_dup hx hb dX8_init_8 rfl ?_
  have hPc := hP.sub (ws' := [(q_1, .inr (0, [.int 0, .null, .int 0]))]) [1] rfl
  have hDc := hD.sub (ws' := [(q_1, .inr (0, [.int 0, .null, .int 0]))]) [1] (by decide) rfl
  have hKc := hK.sub (tys' := []) [] rfl
  have hFc := va_free (wc := [(q_1, .inr (0, [.int 0, .null, .int 0]))]) hD hS hA [1] rfl
  refine va_callv (va_runI (As := []) (rest := [.ref q_1, .ref h0]) ⟨hx, hb, hml, hown, hts⟩ (c_s_al l dC dI q_1 z H.size) (cwI 0 hts wc_s_tree_s_al_9 rfl rfl rfl (hts (.initialized RJx4a65c) (by decide +kernel)) (hts (.methodLink RX8 9 yJx4a65c_init_da8c8) (by decide +kernel)) (hts (.instanceMethod yJx4a65c_init_da8c8) (by decide +kernel)) rfl (by decide +kernel) ⟨Nat.le_of_ble_eq_true rfl, Nat.le_of_ble_eq_true rfl⟩) ⟨fun a U g mk q => by obtain ⟨q0, q1, qP, qK, qD, qN, qZ⟩ := q; exact ⟨q0, q1, qP, va_K.moved (u := U) (U := U.calling g mk a) (Vm.Alike.refl U.vm) qK, qD, pw_N.same (u := U) (U := U.calling g mk a) rfl qN, va_Z.moved (u := U) (U := U.calling g mk a) (Vm.Alike.refl U.vm) qZ⟩, fun U hU hW => ⟨rfl, by rw [hU], by rw [hU]; exact hPc, va_K.moved hW.alike hKc, hDc.weaken (fun _ _ _ _ => trivial), pw_N.warm hW hN, by rw [hU]; exact va_Z.moved hW.alike ((hZ.kept (fun a h1 h2 => hS.2.1 a h1 h2)).narrow hFc)⟩⟩ rfl rfl hl.1 rfl (lv_room (Nat.le_of_ble_eq_true rfl)) dX8_init_9 ⟨Nat.le_of_ble_eq_true rfl, Nat.le_of_ble_eq_true rfl⟩) hS (fun q _ h => hFc q h) hFc (fun u t H1 locs ht hvm hw hB hz1 hk1 hS => ?_)
  obtain ⟨hP1, hD1⟩ := hB
  rw [ht] at hP1
  obtain ⟨hP, hD⟩ := va_join (wr := [(h0, .inr (9, [.null, .null, .null, .null, .null, .null, .null, .long 0, .long 0, .int 0, .int 0, .int 0, .int 0, .int 0]))]) (w1 := [(q_1, .inr (0, [.int 0, .ref z, .int 0]))]) hP hD [1] [0] rfl rfl (by decide) (by decide) hk1 hFc hP1 hD1
  generalize H1 = H at hP hS ⊢
  replace hP : va_P (dC, dI) vwCl [(h0, .inr (9, [.null, .null, .null, .null, .null, .null, .null, .long 0, .long 0, .int 0, .int 0, .int 0, .int 0, .int 0])), (q_1, .inr (0, [.int 0, .ref z, .int 0]))] H := hP
  replace hD : va_D A [(h0, .inr (9, [.null, .null, .null, .null, .null, .null, .null, .long 0, .long 0, .int 0, .int 0, .int 0, .int 0, .int 0])), (q_1, .inr (0, [.int 0, .ref z, .int 0]))] := hD
  try dsimp only at hw
  refine va_putF (D := (dC, dI)) (ci := 9) (v := .ref q_1) (ty := .object "java/util/ArrayList") (C := RX8) (T := TX8) (N := 14) hx hb hts in_s_tree_X8 tyX8 tyX8_ok nmX8 hown hK hP hD hS 0 rfl rfl 0 (by decide) (hts (.fieldLink RX8 10 "ServiceTree" "services" "Ljava/util/ArrayList;") (by decide +kernel)) (fun _ h9 => h9) rfl hin rfl (by decide +kernel) rfl rfl (Nat.le_of_ble_eq_true rfl) dX8_init_12 (fun H locs hP hD hS => ?_)
  replace hP : va_P (dC, dI) vwCl [(h0, .inr (9, [.ref q_1, .null, .null, .null, .null, .null, .null, .long 0, .long 0, .int 0, .int 0, .int 0, .int 0, .int 0])), (q_1, .inr (0, [.int 0, .ref z, .int 0]))] H := hP
  replace hD : va_D A [(h0, .inr (9, [.ref q_1, .null, .null, .null, .null, .null, .null, .long 0, .long 0, .int 0, .int 0, .int 0, .int 0, .int 0])), (q_1, .inr (0, [.int 0, .ref z, .int 0]))] := hD
  refine lv_aload_n hx hb dX8_init_15 rfl (lv_at hl 0 rfl) ?_
  refine va_new (ci := 6) (fs := [.null, .null, .int 0]) (C := RX5) (T := TX5) (N := 3) hx hb hts in_s_tree_X5 tyX5 tyX5_ok hown (hts (.classLink RX8 16 RX5) (by decide +kernel)) (hts (.instantiable RX5 3) (by decide +kernel)) (hts (.initialized RX5) (by decide +kernel)) hK hP hD hS hA rfl (fun j hj => dfX5 j hj) (Nat.le_of_ble_eq_true rfl) (Nat.le_of_ble_eq_true rfl) dX8_init_16 (fun q_3 H hP hD hS => ?_)
  replace hP : va_P (dC, dI) vwCl [(h0, .inr (9, [.ref q_1, .null, .null, .null, .null, .null, .null, .long 0, .long 0, .int 0, .int 0, .int 0, .int 0, .int 0])), (q_1, .inr (0, [.int 0, .ref z, .int 0])), (q_3, .inr (6, [.null, .null, .int 0]))] H := hP
  replace hD : va_D A [(h0, .inr (9, [.ref q_1, .null, .null, .null, .null, .null, .null, .long 0, .long 0, .int 0, .int 0, .int 0, .int 0, .int 0])), (q_1, .inr (0, [.int 0, .ref z, .int 0])), (q_3, .inr (6, [.null, .null, .int 0]))] := hD
  refine W.widen (k := 2) (n := 6) (by omega) (by omega) ?_
  refine lv_dup hx hb dX8_init_19 rfl ?_
  have hPc := hP.sub (ws' := [(q_3, .inr (6, [.null, .null, .int 0]))]) [2] rfl
  have hDc := hD.sub (ws' := [(q_3, .inr (6, [.null, .null, .int 0]))]) [2] (by decide) rfl
  have hKc := hK.sub (tys' := []) [] rfl
  have hFc := va_free (wc := [(q_3, .inr (6, [.null, .null, .int 0]))]) hD hS hA [2] rfl
  refine va_callv (va_runIN (As := []) (rest := [.ref q_3, .ref h0]) ⟨hx, hb, hml, hown, hts⟩ (c_s_rel l dC dI q_3 H.size) ⟨va_cnB 0 hts wc_s_tree_s_rel_18 rfl rfl rfl (hN (.methodLinkNest RX8 18 yX5_init "ServiceTree") (by decide +kernel)) (hts (.initialized RX5) (by decide +kernel)) (by decide +kernel) ⟨Nat.le_of_ble_eq_true rfl, Nat.le_of_ble_eq_true rfl⟩, rfl, hts (.instanceMethod yX5_init) (by decide +kernel)⟩ ⟨fun a U g mk q => by obtain ⟨q0, q1, qP, qK, qD, qN, qM⟩ := q; exact ⟨q0, q1, qP, va_K.moved (u := U) (U := U.calling g mk a) (Vm.Alike.refl U.vm) qK, qD, pw_N.same (u := U) (U := U.calling g mk a) rfl qN, va_AOA.moved (u := U) (U := U.calling g mk a) (Vm.Alike.refl U.vm) qM⟩, fun U hU hW => ⟨rfl, by rw [hU], by rw [hU]; exact hPc, va_K.moved hW.alike hKc, hDc.weaken (fun _ _ _ _ => trivial), pw_N.warm hW hN, va_AOA.moved hW.alike hM⟩⟩ rfl rfl hl.1 rfl (lv_room (Nat.le_of_ble_eq_true rfl)) dX8_init_20 ⟨Nat.le_of_ble_eq_true rfl, Nat.le_of_ble_eq_true rfl⟩) hS (fun q _ h => hFc q h) hFc (fun u t H1 locs ht hvm hw hB hz1 hk1 hS => ?_)
  obtain ⟨g0_5, g1_6, rr_7, rq_8, cO_9, cP_10, cR_11, hP1, hK1, hD1⟩ := hB
  rw [ht] at hP1
  obtain ⟨hP, hD⟩ := va_join (wr := [(h0, .inr (9, [.ref q_1, .null, .null, .null, .null, .null, .null, .long 0, .long 0, .int 0, .int 0, .int 0, .int 0, .int 0])), (q_1, .inr (0, [.int 0, .ref z, .int 0]))]) (w1 := [(q_3, .inr (6, [.ref g0_5, .ref g1_6, .int 0])), (g0_5, .inl (cO_9, 4, .inr (.inr (.inr (.inr (fun i => if i < 4 then some (rr_7 i) else none)))))), (g1_6, .inl (cP_10, 4, .inr (.inr (.inr (.inr (fun i => if i < 4 then some (rq_8 i) else none)))))), (rr_7 0, .inl (cR_11, 40, .inr (.inl (fun _ => 0)))), (rr_7 1, .inl (cR_11, 40, .inr (.inl (fun _ => 0)))), (rr_7 2, .inl (cR_11, 40, .inr (.inl (fun _ => 0)))), (rr_7 3, .inl (cR_11, 40, .inr (.inl (fun _ => 0)))), (rq_8 0, .inl (cR_11, 40, .inr (.inl (fun _ => 0)))), (rq_8 1, .inl (cR_11, 40, .inr (.inl (fun _ => 0)))), (rq_8 2, .inl (cR_11, 40, .inr (.inl (fun _ => 0)))), (rq_8 3, .inl (cR_11, 40, .inr (.inl (fun _ => 0))))]) hP hD [2] [0, 1] rfl rfl (by decide) (by decide) hk1 hFc hP1 hD1
  generalize H1 = H at hP hS ⊢
  replace hP : va_P (dC, dI) vwCl [(h0, .inr (9, [.ref q_1, .null, .null, .null, .null, .null, .null, .long 0, .long 0, .int 0, .int 0, .int 0, .int 0, .int 0])), (q_1, .inr (0, [.int 0, .ref z, .int 0])), (q_3, .inr (6, [.ref g0_5, .ref g1_6, .int 0])), (g0_5, .inl (cO_9, 4, .inr (.inr (.inr (.inr (fun i => if i < 4 then some (rr_7 i) else none)))))), (g1_6, .inl (cP_10, 4, .inr (.inr (.inr (.inr (fun i => if i < 4 then some (rq_8 i) else none)))))), (rr_7 0, .inl (cR_11, 40, .inr (.inl (fun _ => 0)))), (rr_7 1, .inl (cR_11, 40, .inr (.inl (fun _ => 0)))), (rr_7 2, .inl (cR_11, 40, .inr (.inl (fun _ => 0)))), (rr_7 3, .inl (cR_11, 40, .inr (.inl (fun _ => 0)))), (rq_8 0, .inl (cR_11, 40, .inr (.inl (fun _ => 0)))), (rq_8 1, .inl (cR_11, 40, .inr (.inl (fun _ => 0)))), (rq_8 2, .inl (cR_11, 40, .inr (.inl (fun _ => 0)))), (rq_8 3, .inl (cR_11, 40, .inr (.inl (fun _ => 0))))] H := hP
  replace hD : va_D A [(h0, .inr (9, [.ref q_1, .null, .null, .null, .null, .null, .null, .long 0, .long 0, .int 0, .int 0, .int 0, .int 0, .int 0])), (q_1, .inr (0, [.int 0, .ref z, .int 0])), (q_3, .inr (6, [.ref g0_5, .ref g1_6, .int 0])), (g0_5, .inl (cO_9, 4, .inr (.inr (.inr (.inr (fun i => if i < 4 then some (rr_7 i) else none)))))), (g1_6, .inl (cP_10, 4, .inr (.inr (.inr (.inr (fun i => if i < 4 then some (rq_8 i) else none)))))), (rr_7 0, .inl (cR_11, 40, .inr (.inl (fun _ => 0)))), (rr_7 1, .inl (cR_11, 40, .inr (.inl (fun _ => 0)))), (rr_7 2, .inl (cR_11, 40, .inr (.inl (fun _ => 0)))), (rr_7 3, .inl (cR_11, 40, .inr (.inl (fun _ => 0)))), (rq_8 0, .inl (cR_11, 40, .inr (.inl (fun _ => 0)))), (rq_8 1, .inl (cR_11, 40, .inr (.inl (fun _ => 0)))), (rq_8 2, .inl (cR_11, 40, .inr (.inl (fun _ => 0)))), (rq_8 3, .inl (cR_11, 40, .inr (.inl (fun _ => 0))))] := hD
  have hK := hK.app (va_K.moved hvm.symm hK1)
  have hK : va_K (dC, dI) vwCl [(cO_9, .array .long), (cP_10, .array .long), (cR_11, .long)] s := hK
  refine W.widen (k := 12) (n := 334) (by omega) (by omega) ?_
  try dsimp only at hw
  refine va_putF (D := (dC, dI)) (ci := 9) (v := .ref q_3) (ty := .object "ServiceTree$Relations") (C := RX8) (T := TX8) (N := 14) hx hb hts in_s_tree_X8 tyX8 tyX8_ok nmX8 hown hK hP hD hS 0 rfl rfl 1 (by decide) (hts (.fieldLink RX8 19 "ServiceTree" "relations" "LServiceTree$Relations;") (by decide +kernel)) (fun _ h9 => h9) rfl hin rfl (by decide +kernel) rfl rfl (Nat.le_of_ble_eq_true rfl) dX8_init_23 (fun H locs hP hD hS => ?_)
  replace hP : va_P (dC, dI) vwCl [(h0, .inr (9, [.ref q_1, .ref q_3, .null, .null, .null, .null, .null, .long 0, .long 0, .int 0, .int 0, .int 0, .int 0, .int 0])), (q_1, .inr (0, [.int 0, .ref z, .int 0])), (q_3, .inr (6, [.ref g0_5, .ref g1_6, .int 0])), (g0_5, .inl (cO_9, 4, .inr (.inr (.inr (.inr (fun i => if i < 4 then some (rr_7 i) else none)))))), (g1_6, .inl (cP_10, 4, .inr (.inr (.inr (.inr (fun i => if i < 4 then some (rq_8 i) else none)))))), (rr_7 0, .inl (cR_11, 40, .inr (.inl (fun _ => 0)))), (rr_7 1, .inl (cR_11, 40, .inr (.inl (fun _ => 0)))), (rr_7 2, .inl (cR_11, 40, .inr (.inl (fun _ => 0)))), (rr_7 3, .inl (cR_11, 40, .inr (.inl (fun _ => 0)))), (rq_8 0, .inl (cR_11, 40, .inr (.inl (fun _ => 0)))), (rq_8 1, .inl (cR_11, 40, .inr (.inl (fun _ => 0)))), (rq_8 2, .inl (cR_11, 40, .inr (.inl (fun _ => 0)))), (rq_8 3, .inl (cR_11, 40, .inr (.inl (fun _ => 0))))] H := hP
  replace hD : va_D A [(h0, .inr (9, [.ref q_1, .ref q_3, .null, .null, .null, .null, .null, .long 0, .long 0, .int 0, .int 0, .int 0, .int 0, .int 0])), (q_1, .inr (0, [.int 0, .ref z, .int 0])), (q_3, .inr (6, [.ref g0_5, .ref g1_6, .int 0])), (g0_5, .inl (cO_9, 4, .inr (.inr (.inr (.inr (fun i => if i < 4 then some (rr_7 i) else none)))))), (g1_6, .inl (cP_10, 4, .inr (.inr (.inr (.inr (fun i => if i < 4 then some (rq_8 i) else none)))))), (rr_7 0, .inl (cR_11, 40, .inr (.inl (fun _ => 0)))), (rr_7 1, .inl (cR_11, 40, .inr (.inl (fun _ => 0)))), (rr_7 2, .inl (cR_11, 40, .inr (.inl (fun _ => 0)))), (rr_7 3, .inl (cR_11, 40, .inr (.inl (fun _ => 0)))), (rq_8 0, .inl (cR_11, 40, .inr (.inl (fun _ => 0)))), (rq_8 1, .inl (cR_11, 40, .inr (.inl (fun _ => 0)))), (rq_8 2, .inl (cR_11, 40, .inr (.inl (fun _ => 0)))), (rq_8 3, .inl (cR_11, 40, .inr (.inl (fun _ => 0))))] := hD
  refine lv_aload_n hx hb dX8_init_26 rfl (lv_at hl 0 rfl) ?_
  refine va_new (ci := 2) (fs := [.null, .long 0, .long 0, .long 0, .int 0]) (C := RX1) (T := TX1) (N := 5) hx hb hts in_s_tree_X1 tyX1 tyX1_ok hown (hts (.classLink RX8 23 RX1) (by decide +kernel)) (hts (.instantiable RX1 5) (by decide +kernel)) (hts (.initialized RX1) (by decide +kernel)) hK hP hD hS hA rfl (fun j hj => dfX1 j hj) (Nat.le_of_ble_eq_true rfl) (Nat.le_of_ble_eq_true rfl) dX8_init_27 (fun q_12 H hP hD hS => ?_)
  replace hP : va_P (dC, dI) vwCl [(h0, .inr (9, [.ref q_1, .ref q_3, .null, .null, .null, .null, .null, .long 0, .long 0, .int 0, .int 0, .int 0, .int 0, .int 0])), (q_1, .inr (0, [.int 0, .ref z, .int 0])), (q_3, .inr (6, [.ref g0_5, .ref g1_6, .int 0])), (g0_5, .inl (cO_9, 4, .inr (.inr (.inr (.inr (fun i => if i < 4 then some (rr_7 i) else none)))))), (g1_6, .inl (cP_10, 4, .inr (.inr (.inr (.inr (fun i => if i < 4 then some (rq_8 i) else none)))))), (rr_7 0, .inl (cR_11, 40, .inr (.inl (fun _ => 0)))), (rr_7 1, .inl (cR_11, 40, .inr (.inl (fun _ => 0)))), (rr_7 2, .inl (cR_11, 40, .inr (.inl (fun _ => 0)))), (rr_7 3, .inl (cR_11, 40, .inr (.inl (fun _ => 0)))), (rq_8 0, .inl (cR_11, 40, .inr (.inl (fun _ => 0)))), (rq_8 1, .inl (cR_11, 40, .inr (.inl (fun _ => 0)))), (rq_8 2, .inl (cR_11, 40, .inr (.inl (fun _ => 0)))), (rq_8 3, .inl (cR_11, 40, .inr (.inl (fun _ => 0)))), (q_12, .inr (2, [.null, .long 0, .long 0, .long 0, .int 0]))] H := hP
  replace hD : va_D A [(h0, .inr (9, [.ref q_1, .ref q_3, .null, .null, .null, .null, .null, .long 0, .long 0, .int 0, .int 0, .int 0, .int 0, .int 0])), (q_1, .inr (0, [.int 0, .ref z, .int 0])), (q_3, .inr (6, [.ref g0_5, .ref g1_6, .int 0])), (g0_5, .inl (cO_9, 4, .inr (.inr (.inr (.inr (fun i => if i < 4 then some (rr_7 i) else none)))))), (g1_6, .inl (cP_10, 4, .inr (.inr (.inr (.inr (fun i => if i < 4 then some (rq_8 i) else none)))))), (rr_7 0, .inl (cR_11, 40, .inr (.inl (fun _ => 0)))), (rr_7 1, .inl (cR_11, 40, .inr (.inl (fun _ => 0)))), (rr_7 2, .inl (cR_11, 40, .inr (.inl (fun _ => 0)))), (rr_7 3, .inl (cR_11, 40, .inr (.inl (fun _ => 0)))), (rq_8 0, .inl (cR_11, 40, .inr (.inl (fun _ => 0)))), (rq_8 1, .inl (cR_11, 40, .inr (.inl (fun _ => 0)))), (rq_8 2, .inl (cR_11, 40, .inr (.inl (fun _ => 0)))), (rq_8 3, .inl (cR_11, 40, .inr (.inl (fun _ => 0)))), (q_12, .inr (2, [.null, .long 0, .long 0, .long 0, .int 0]))] := hD
  refine W.widen (k := 13) (n := 339) (by omega) (by omega) ?_
  refine lv_dup hx hb dX8_init_30 rfl ?_
  refine lv_aload_n hx hb dX8_init_31 rfl (lv_at hl 0 rfl) ?_
  refine va_get (D := (dC, dI)) (ci := 9) (v := .ref q_3) (C := RX8) (T := TX8) (N := 14) hx hb hts in_s_tree_X8 hown hK hP 0 rfl rfl 1 (by decide) (hts (.fieldLink RX8 19 "ServiceTree" "relations" "LServiceTree$Relations;") (by decide +kernel)) (fun _ h9 => h9) rfl dX8_init_32 ?_
  have hPc := hP.sub (ws' := [(q_12, .inr (2, [.null, .long 0, .long 0, .long 0, .int 0]))]) [13] rfl
  have hDc := hD.sub (ws' := [(q_12, .inr (2, [.null, .long 0, .long 0, .long 0, .int 0]))]) [13] (by decide) rfl
  have hKc := hK.sub (tys' := []) [] rfl
  have hFc := va_free (wc := [(q_12, .inr (2, [.null, .long 0, .long 0, .long 0, .int 0]))]) hD hS hA [13] rfl
  refine va_callv (va_runI (As := [.ref q_3]) (rest := [.ref q_12, .ref h0]) ⟨hx, hb, hml, hown, hts⟩ (c_s_draft l dC dI q_12 q_3 H.size) (cwI 1 hts wc_s_tree_s_draft_25 rfl rfl rfl (hts (.initialized RX1) (by decide +kernel)) (hts (.methodLink RX8 25 yX1_init) (by decide +kernel)) (hts (.instanceMethod yX1_init) (by decide +kernel)) rfl (by decide +kernel) ⟨Nat.le_of_ble_eq_true rfl, Nat.le_of_ble_eq_true rfl⟩) ⟨fun a U g mk q => by obtain ⟨q0, q1, qP, qK, qD, qN⟩ := q; exact ⟨q0, q1, qP, va_K.moved (u := U) (U := U.calling g mk a) (Vm.Alike.refl U.vm) qK, qD, pw_N.same (u := U) (U := U.calling g mk a) rfl qN⟩, fun U hU hW => ⟨rfl, by rw [hU], by rw [hU]; exact hPc, va_K.moved hW.alike hKc, hDc.weaken (fun _ _ _ _ => trivial), pw_N.warm hW hN⟩⟩ rfl rfl hl.1 rfl (lv_room (Nat.le_of_ble_eq_true rfl)) dX8_init_35 ⟨Nat.le_of_ble_eq_true rfl, Nat.le_of_ble_eq_true rfl⟩) hS (fun q _ h => hFc q h) hFc (fun u t H1 locs ht hvm hw hB hz1 hk1 hS => ?_)
  obtain ⟨hP1, hD1⟩ := hB
  rw [ht] at hP1
  obtain ⟨hP, hD⟩ := va_join (wr := [(h0, .inr (9, [.ref q_1, .ref q_3, .null, .null, .null, .null, .null, .long 0, .long 0, .int 0, .int 0, .int 0, .int 0, .int 0])), (q_1, .inr (0, [.int 0, .ref z, .int 0])), (q_3, .inr (6, [.ref g0_5, .ref g1_6, .int 0])), (g0_5, .inl (cO_9, 4, .inr (.inr (.inr (.inr (fun i => if i < 4 then some (rr_7 i) else none)))))), (g1_6, .inl (cP_10, 4, .inr (.inr (.inr (.inr (fun i => if i < 4 then some (rq_8 i) else none)))))), (rr_7 0, .inl (cR_11, 40, .inr (.inl (fun _ => 0)))), (rr_7 1, .inl (cR_11, 40, .inr (.inl (fun _ => 0)))), (rr_7 2, .inl (cR_11, 40, .inr (.inl (fun _ => 0)))), (rr_7 3, .inl (cR_11, 40, .inr (.inl (fun _ => 0)))), (rq_8 0, .inl (cR_11, 40, .inr (.inl (fun _ => 0)))), (rq_8 1, .inl (cR_11, 40, .inr (.inl (fun _ => 0)))), (rq_8 2, .inl (cR_11, 40, .inr (.inl (fun _ => 0)))), (rq_8 3, .inl (cR_11, 40, .inr (.inl (fun _ => 0))))]) (w1 := [(q_12, .inr (2, [.ref q_3, .long 0, .long 0, .long 0, .int 0]))]) hP hD [13] [0, 1, 2, 3, 4, 5, 6, 7, 8, 9, 10, 11, 12] rfl rfl (by decide) (by decide) hk1 hFc hP1 hD1
  generalize H1 = H at hP hS ⊢
  replace hP : va_P (dC, dI) vwCl [(h0, .inr (9, [.ref q_1, .ref q_3, .null, .null, .null, .null, .null, .long 0, .long 0, .int 0, .int 0, .int 0, .int 0, .int 0])), (q_1, .inr (0, [.int 0, .ref z, .int 0])), (q_3, .inr (6, [.ref g0_5, .ref g1_6, .int 0])), (g0_5, .inl (cO_9, 4, .inr (.inr (.inr (.inr (fun i => if i < 4 then some (rr_7 i) else none)))))), (g1_6, .inl (cP_10, 4, .inr (.inr (.inr (.inr (fun i => if i < 4 then some (rq_8 i) else none)))))), (rr_7 0, .inl (cR_11, 40, .inr (.inl (fun _ => 0)))), (rr_7 1, .inl (cR_11, 40, .inr (.inl (fun _ => 0)))), (rr_7 2, .inl (cR_11, 40, .inr (.inl (fun _ => 0)))), (rr_7 3, .inl (cR_11, 40, .inr (.inl (fun _ => 0)))), (rq_8 0, .inl (cR_11, 40, .inr (.inl (fun _ => 0)))), (rq_8 1, .inl (cR_11, 40, .inr (.inl (fun _ => 0)))), (rq_8 2, .inl (cR_11, 40, .inr (.inl (fun _ => 0)))), (rq_8 3, .inl (cR_11, 40, .inr (.inl (fun _ => 0)))), (q_12, .inr (2, [.ref q_3, .long 0, .long 0, .long 0, .int 0]))] H := hP
  replace hD : va_D A [(h0, .inr (9, [.ref q_1, .ref q_3, .null, .null, .null, .null, .null, .long 0, .long 0, .int 0, .int 0, .int 0, .int 0, .int 0])), (q_1, .inr (0, [.int 0, .ref z, .int 0])), (q_3, .inr (6, [.ref g0_5, .ref g1_6, .int 0])), (g0_5, .inl (cO_9, 4, .inr (.inr (.inr (.inr (fun i => if i < 4 then some (rr_7 i) else none)))))), (g1_6, .inl (cP_10, 4, .inr (.inr (.inr (.inr (fun i => if i < 4 then some (rq_8 i) else none)))))), (rr_7 0, .inl (cR_11, 40, .inr (.inl (fun _ => 0)))), (rr_7 1, .inl (cR_11, 40, .inr (.inl (fun _ => 0)))), (rr_7 2, .inl (cR_11, 40, .inr (.inl (fun _ => 0)))), (rr_7 3, .inl (cR_11, 40, .inr (.inl (fun _ => 0)))), (rq_8 0, .inl (cR_11, 40, .inr (.inl (fun _ => 0)))), (rq_8 1, .inl (cR_11, 40, .inr (.inl (fun _ => 0)))), (rq_8 2, .inl (cR_11, 40, .inr (.inl (fun _ => 0)))), (rq_8 3, .inl (cR_11, 40, .inr (.inl (fun _ => 0)))), (q_12, .inr (2, [.ref q_3, .long 0, .long 0, .long 0, .int 0]))] := hD
  try dsimp only at hw
  refine va_putF (D := (dC, dI)) (ci := 9) (v := .ref q_12) (ty := .object "ServiceTree$Draft") (C := RX8) (T := TX8) (N := 14) hx hb hts in_s_tree_X8 tyX8 tyX8_ok nmX8 hown hK hP hD hS 0 rfl rfl 2 (by decide) (hts (.fieldLink RX8 28 "ServiceTree" "draft" "LServiceTree$Draft;") (by decide +kernel)) (fun _ h9 => h9) rfl hin rfl (by decide +kernel) rfl rfl (Nat.le_of_ble_eq_true rfl) dX8_init_38 (fun H locs hP hD hS => ?_)
  replace hP : va_P (dC, dI) vwCl [(h0, .inr (9, [.ref q_1, .ref q_3, .ref q_12, .null, .null, .null, .null, .long 0, .long 0, .int 0, .int 0, .int 0, .int 0, .int 0])), (q_1, .inr (0, [.int 0, .ref z, .int 0])), (q_3, .inr (6, [.ref g0_5, .ref g1_6, .int 0])), (g0_5, .inl (cO_9, 4, .inr (.inr (.inr (.inr (fun i => if i < 4 then some (rr_7 i) else none)))))), (g1_6, .inl (cP_10, 4, .inr (.inr (.inr (.inr (fun i => if i < 4 then some (rq_8 i) else none)))))), (rr_7 0, .inl (cR_11, 40, .inr (.inl (fun _ => 0)))), (rr_7 1, .inl (cR_11, 40, .inr (.inl (fun _ => 0)))), (rr_7 2, .inl (cR_11, 40, .inr (.inl (fun _ => 0)))), (rr_7 3, .inl (cR_11, 40, .inr (.inl (fun _ => 0)))), (rq_8 0, .inl (cR_11, 40, .inr (.inl (fun _ => 0)))), (rq_8 1, .inl (cR_11, 40, .inr (.inl (fun _ => 0)))), (rq_8 2, .inl (cR_11, 40, .inr (.inl (fun _ => 0)))), (rq_8 3, .inl (cR_11, 40, .inr (.inl (fun _ => 0)))), (q_12, .inr (2, [.ref q_3, .long 0, .long 0, .long 0, .int 0]))] H := hP
  replace hD : va_D A [(h0, .inr (9, [.ref q_1, .ref q_3, .ref q_12, .null, .null, .null, .null, .long 0, .long 0, .int 0, .int 0, .int 0, .int 0, .int 0])), (q_1, .inr (0, [.int 0, .ref z, .int 0])), (q_3, .inr (6, [.ref g0_5, .ref g1_6, .int 0])), (g0_5, .inl (cO_9, 4, .inr (.inr (.inr (.inr (fun i => if i < 4 then some (rr_7 i) else none)))))), (g1_6, .inl (cP_10, 4, .inr (.inr (.inr (.inr (fun i => if i < 4 then some (rq_8 i) else none)))))), (rr_7 0, .inl (cR_11, 40, .inr (.inl (fun _ => 0)))), (rr_7 1, .inl (cR_11, 40, .inr (.inl (fun _ => 0)))), (rr_7 2, .inl (cR_11, 40, .inr (.inl (fun _ => 0)))), (rr_7 3, .inl (cR_11, 40, .inr (.inl (fun _ => 0)))), (rq_8 0, .inl (cR_11, 40, .inr (.inl (fun _ => 0)))), (rq_8 1, .inl (cR_11, 40, .inr (.inl (fun _ => 0)))), (rq_8 2, .inl (cR_11, 40, .inr (.inl (fun _ => 0)))), (rq_8 3, .inl (cR_11, 40, .inr (.inl (fun _ => 0)))), (q_12, .inr (2, [.ref q_3, .long 0, .long 0, .long 0, .int 0]))] := hD
  refine lv_aload_n hx hb dX8_init_41 rfl (lv_at hl 0 rfl) ?_
  refine va_new (ci := 4) (fs := [.null, .long 0, .long 0, .long 0]) (C := RX3) (T := TX3) (N := 4) hx hb hts in_s_tree_X3 tyX3 tyX3_ok hown (hts (.classLink RX8 32 RX3) (by decide +kernel)) (hts (.instantiable RX3 4) (by decide +kernel)) (hts (.initialized RX3) (by decide +kernel)) hK hP hD hS hA rfl (fun j hj => dfX3 j hj) (Nat.le_of_ble_eq_true rfl) (Nat.le_of_ble_eq_true rfl) dX8_init_42 (fun q_14 H hP hD hS => ?_)
  replace hP : va_P (dC, dI) vwCl [(h0, .inr (9, [.ref q_1, .ref q_3, .ref q_12, .null, .null, .null, .null, .long 0, .long 0, .int 0, .int 0, .int 0, .int 0, .int 0])), (q_1, .inr (0, [.int 0, .ref z, .int 0])), (q_3, .inr (6, [.ref g0_5, .ref g1_6, .int 0])), (g0_5, .inl (cO_9, 4, .inr (.inr (.inr (.inr (fun i => if i < 4 then some (rr_7 i) else none)))))), (g1_6, .inl (cP_10, 4, .inr (.inr (.inr (.inr (fun i => if i < 4 then some (rq_8 i) else none)))))), (rr_7 0, .inl (cR_11, 40, .inr (.inl (fun _ => 0)))), (rr_7 1, .inl (cR_11, 40, .inr (.inl (fun _ => 0)))), (rr_7 2, .inl (cR_11, 40, .inr (.inl (fun _ => 0)))), (rr_7 3, .inl (cR_11, 40, .inr (.inl (fun _ => 0)))), (rq_8 0, .inl (cR_11, 40, .inr (.inl (fun _ => 0)))), (rq_8 1, .inl (cR_11, 40, .inr (.inl (fun _ => 0)))), (rq_8 2, .inl (cR_11, 40, .inr (.inl (fun _ => 0)))), (rq_8 3, .inl (cR_11, 40, .inr (.inl (fun _ => 0)))), (q_12, .inr (2, [.ref q_3, .long 0, .long 0, .long 0, .int 0])), (q_14, .inr (4, [.null, .long 0, .long 0, .long 0]))] H := hP
  replace hD : va_D A [(h0, .inr (9, [.ref q_1, .ref q_3, .ref q_12, .null, .null, .null, .null, .long 0, .long 0, .int 0, .int 0, .int 0, .int 0, .int 0])), (q_1, .inr (0, [.int 0, .ref z, .int 0])), (q_3, .inr (6, [.ref g0_5, .ref g1_6, .int 0])), (g0_5, .inl (cO_9, 4, .inr (.inr (.inr (.inr (fun i => if i < 4 then some (rr_7 i) else none)))))), (g1_6, .inl (cP_10, 4, .inr (.inr (.inr (.inr (fun i => if i < 4 then some (rq_8 i) else none)))))), (rr_7 0, .inl (cR_11, 40, .inr (.inl (fun _ => 0)))), (rr_7 1, .inl (cR_11, 40, .inr (.inl (fun _ => 0)))), (rr_7 2, .inl (cR_11, 40, .inr (.inl (fun _ => 0)))), (rr_7 3, .inl (cR_11, 40, .inr (.inl (fun _ => 0)))), (rq_8 0, .inl (cR_11, 40, .inr (.inl (fun _ => 0)))), (rq_8 1, .inl (cR_11, 40, .inr (.inl (fun _ => 0)))), (rq_8 2, .inl (cR_11, 40, .inr (.inl (fun _ => 0)))), (rq_8 3, .inl (cR_11, 40, .inr (.inl (fun _ => 0)))), (q_12, .inr (2, [.ref q_3, .long 0, .long 0, .long 0, .int 0])), (q_14, .inr (4, [.null, .long 0, .long 0, .long 0]))] := hD
  refine W.widen (k := 14) (n := 343) (by omega) (by omega) ?_
  refine lv_dup hx hb dX8_init_45 rfl ?_
  refine lv_aload_n hx hb dX8_init_46 rfl (lv_at hl 0 rfl) ?_
  refine va_get (D := (dC, dI)) (ci := 9) (v := .ref q_3) (C := RX8) (T := TX8) (N := 14) hx hb hts in_s_tree_X8 hown hK hP 0 rfl rfl 1 (by decide) (hts (.fieldLink RX8 19 "ServiceTree" "relations" "LServiceTree$Relations;") (by decide +kernel)) (fun _ h9 => h9) rfl dX8_init_47 ?_
  have hPc := hP.sub (ws' := [(q_14, .inr (4, [.null, .long 0, .long 0, .long 0]))]) [14] rfl
  have hDc := hD.sub (ws' := [(q_14, .inr (4, [.null, .long 0, .long 0, .long 0]))]) [14] (by decide) rfl
  have hKc := hK.sub (tys' := []) [] rfl
  have hFc := va_free (wc := [(q_14, .inr (4, [.null, .long 0, .long 0, .long 0]))]) hD hS hA [14] rfl
  refine va_callv (va_runI (As := [.ref q_3]) (rest := [.ref q_14, .ref h0]) ⟨hx, hb, hml, hown, hts⟩ (c_s_jobs l dC dI q_14 q_3 H.size) (cwI 1 hts wc_s_tree_s_jobs_34 rfl rfl rfl (hts (.initialized RX3) (by decide +kernel)) (hts (.methodLink RX8 34 yX3_init) (by decide +kernel)) (hts (.instanceMethod yX3_init) (by decide +kernel)) rfl (by decide +kernel) ⟨Nat.le_of_ble_eq_true rfl, Nat.le_of_ble_eq_true rfl⟩) ⟨fun a U g mk q => by obtain ⟨q0, q1, qP, qK, qD, qN⟩ := q; exact ⟨q0, q1, qP, va_K.moved (u := U) (U := U.calling g mk a) (Vm.Alike.refl U.vm) qK, qD, pw_N.same (u := U) (U := U.calling g mk a) rfl qN⟩, fun U hU hW => ⟨rfl, by rw [hU], by rw [hU]; exact hPc, va_K.moved hW.alike hKc, hDc.weaken (fun _ _ _ _ => trivial), pw_N.warm hW hN⟩⟩ rfl rfl hl.1 rfl (lv_room (Nat.le_of_ble_eq_true rfl)) dX8_init_50 ⟨Nat.le_of_ble_eq_true rfl, Nat.le_of_ble_eq_true rfl⟩) hS (fun q _ h => hFc q h) hFc (fun u t H1 locs ht hvm hw hB hz1 hk1 hS => ?_)
  obtain ⟨hP1, hD1⟩ := hB
  rw [ht] at hP1
  obtain ⟨hP, hD⟩ := va_join (wr := [(h0, .inr (9, [.ref q_1, .ref q_3, .ref q_12, .null, .null, .null, .null, .long 0, .long 0, .int 0, .int 0, .int 0, .int 0, .int 0])), (q_1, .inr (0, [.int 0, .ref z, .int 0])), (q_3, .inr (6, [.ref g0_5, .ref g1_6, .int 0])), (g0_5, .inl (cO_9, 4, .inr (.inr (.inr (.inr (fun i => if i < 4 then some (rr_7 i) else none)))))), (g1_6, .inl (cP_10, 4, .inr (.inr (.inr (.inr (fun i => if i < 4 then some (rq_8 i) else none)))))), (rr_7 0, .inl (cR_11, 40, .inr (.inl (fun _ => 0)))), (rr_7 1, .inl (cR_11, 40, .inr (.inl (fun _ => 0)))), (rr_7 2, .inl (cR_11, 40, .inr (.inl (fun _ => 0)))), (rr_7 3, .inl (cR_11, 40, .inr (.inl (fun _ => 0)))), (rq_8 0, .inl (cR_11, 40, .inr (.inl (fun _ => 0)))), (rq_8 1, .inl (cR_11, 40, .inr (.inl (fun _ => 0)))), (rq_8 2, .inl (cR_11, 40, .inr (.inl (fun _ => 0)))), (rq_8 3, .inl (cR_11, 40, .inr (.inl (fun _ => 0)))), (q_12, .inr (2, [.ref q_3, .long 0, .long 0, .long 0, .int 0]))]) (w1 := [(q_14, .inr (4, [.ref q_3, .long 0, .long 0, .long 0]))]) hP hD [14] [0, 1, 2, 3, 4, 5, 6, 7, 8, 9, 10, 11, 12, 13] rfl rfl (by decide) (by decide) hk1 hFc hP1 hD1
  generalize H1 = H at hP hS ⊢
  replace hP : va_P (dC, dI) vwCl [(h0, .inr (9, [.ref q_1, .ref q_3, .ref q_12, .null, .null, .null, .null, .long 0, .long 0, .int 0, .int 0, .int 0, .int 0, .int 0])), (q_1, .inr (0, [.int 0, .ref z, .int 0])), (q_3, .inr (6, [.ref g0_5, .ref g1_6, .int 0])), (g0_5, .inl (cO_9, 4, .inr (.inr (.inr (.inr (fun i => if i < 4 then some (rr_7 i) else none)))))), (g1_6, .inl (cP_10, 4, .inr (.inr (.inr (.inr (fun i => if i < 4 then some (rq_8 i) else none)))))), (rr_7 0, .inl (cR_11, 40, .inr (.inl (fun _ => 0)))), (rr_7 1, .inl (cR_11, 40, .inr (.inl (fun _ => 0)))), (rr_7 2, .inl (cR_11, 40, .inr (.inl (fun _ => 0)))), (rr_7 3, .inl (cR_11, 40, .inr (.inl (fun _ => 0)))), (rq_8 0, .inl (cR_11, 40, .inr (.inl (fun _ => 0)))), (rq_8 1, .inl (cR_11, 40, .inr (.inl (fun _ => 0)))), (rq_8 2, .inl (cR_11, 40, .inr (.inl (fun _ => 0)))), (rq_8 3, .inl (cR_11, 40, .inr (.inl (fun _ => 0)))), (q_12, .inr (2, [.ref q_3, .long 0, .long 0, .long 0, .int 0])), (q_14, .inr (4, [.ref q_3, .long 0, .long 0, .long 0]))] H := hP
  replace hD : va_D A [(h0, .inr (9, [.ref q_1, .ref q_3, .ref q_12, .null, .null, .null, .null, .long 0, .long 0, .int 0, .int 0, .int 0, .int 0, .int 0])), (q_1, .inr (0, [.int 0, .ref z, .int 0])), (q_3, .inr (6, [.ref g0_5, .ref g1_6, .int 0])), (g0_5, .inl (cO_9, 4, .inr (.inr (.inr (.inr (fun i => if i < 4 then some (rr_7 i) else none)))))), (g1_6, .inl (cP_10, 4, .inr (.inr (.inr (.inr (fun i => if i < 4 then some (rq_8 i) else none)))))), (rr_7 0, .inl (cR_11, 40, .inr (.inl (fun _ => 0)))), (rr_7 1, .inl (cR_11, 40, .inr (.inl (fun _ => 0)))), (rr_7 2, .inl (cR_11, 40, .inr (.inl (fun _ => 0)))), (rr_7 3, .inl (cR_11, 40, .inr (.inl (fun _ => 0)))), (rq_8 0, .inl (cR_11, 40, .inr (.inl (fun _ => 0)))), (rq_8 1, .inl (cR_11, 40, .inr (.inl (fun _ => 0)))), (rq_8 2, .inl (cR_11, 40, .inr (.inl (fun _ => 0)))), (rq_8 3, .inl (cR_11, 40, .inr (.inl (fun _ => 0)))), (q_12, .inr (2, [.ref q_3, .long 0, .long 0, .long 0, .int 0])), (q_14, .inr (4, [.ref q_3, .long 0, .long 0, .long 0]))] := hD
  try dsimp only at hw
  refine va_putF (D := (dC, dI)) (ci := 9) (v := .ref q_14) (ty := .object "ServiceTree$Jobs") (C := RX8) (T := TX8) (N := 14) hx hb hts in_s_tree_X8 tyX8 tyX8_ok nmX8 hown hK hP hD hS 0 rfl rfl 3 (by decide) (hts (.fieldLink RX8 35 "ServiceTree" "jobs" "LServiceTree$Jobs;") (by decide +kernel)) (fun _ h9 => h9) rfl hin rfl (by decide +kernel) rfl rfl (Nat.le_of_ble_eq_true rfl) dX8_init_53 (fun H locs hP hD hS => ?_)
  replace hP : va_P (dC, dI) vwCl [(h0, .inr (9, [.ref q_1, .ref q_3, .ref q_12, .ref q_14, .null, .null, .null, .long 0, .long 0, .int 0, .int 0, .int 0, .int 0, .int 0])), (q_1, .inr (0, [.int 0, .ref z, .int 0])), (q_3, .inr (6, [.ref g0_5, .ref g1_6, .int 0])), (g0_5, .inl (cO_9, 4, .inr (.inr (.inr (.inr (fun i => if i < 4 then some (rr_7 i) else none)))))), (g1_6, .inl (cP_10, 4, .inr (.inr (.inr (.inr (fun i => if i < 4 then some (rq_8 i) else none)))))), (rr_7 0, .inl (cR_11, 40, .inr (.inl (fun _ => 0)))), (rr_7 1, .inl (cR_11, 40, .inr (.inl (fun _ => 0)))), (rr_7 2, .inl (cR_11, 40, .inr (.inl (fun _ => 0)))), (rr_7 3, .inl (cR_11, 40, .inr (.inl (fun _ => 0)))), (rq_8 0, .inl (cR_11, 40, .inr (.inl (fun _ => 0)))), (rq_8 1, .inl (cR_11, 40, .inr (.inl (fun _ => 0)))), (rq_8 2, .inl (cR_11, 40, .inr (.inl (fun _ => 0)))), (rq_8 3, .inl (cR_11, 40, .inr (.inl (fun _ => 0)))), (q_12, .inr (2, [.ref q_3, .long 0, .long 0, .long 0, .int 0])), (q_14, .inr (4, [.ref q_3, .long 0, .long 0, .long 0]))] H := hP
  replace hD : va_D A [(h0, .inr (9, [.ref q_1, .ref q_3, .ref q_12, .ref q_14, .null, .null, .null, .long 0, .long 0, .int 0, .int 0, .int 0, .int 0, .int 0])), (q_1, .inr (0, [.int 0, .ref z, .int 0])), (q_3, .inr (6, [.ref g0_5, .ref g1_6, .int 0])), (g0_5, .inl (cO_9, 4, .inr (.inr (.inr (.inr (fun i => if i < 4 then some (rr_7 i) else none)))))), (g1_6, .inl (cP_10, 4, .inr (.inr (.inr (.inr (fun i => if i < 4 then some (rq_8 i) else none)))))), (rr_7 0, .inl (cR_11, 40, .inr (.inl (fun _ => 0)))), (rr_7 1, .inl (cR_11, 40, .inr (.inl (fun _ => 0)))), (rr_7 2, .inl (cR_11, 40, .inr (.inl (fun _ => 0)))), (rr_7 3, .inl (cR_11, 40, .inr (.inl (fun _ => 0)))), (rq_8 0, .inl (cR_11, 40, .inr (.inl (fun _ => 0)))), (rq_8 1, .inl (cR_11, 40, .inr (.inl (fun _ => 0)))), (rq_8 2, .inl (cR_11, 40, .inr (.inl (fun _ => 0)))), (rq_8 3, .inl (cR_11, 40, .inr (.inl (fun _ => 0)))), (q_12, .inr (2, [.ref q_3, .long 0, .long 0, .long 0, .int 0])), (q_14, .inr (4, [.ref q_3, .long 0, .long 0, .long 0]))] := hD
  refine lv_aload_n hx hb dX8_init_56 rfl (lv_at hl 0 rfl) ?_
  refine va_new (ci := 5) (fs := [.null, .null, .null, .long 0, .int 0, .int 0, .int 0]) (C := RX4) (T := TX4) (N := 7) hx hb hts in_s_tree_X4 tyX4 tyX4_ok hown (hts (.classLink RX8 39 RX4) (by decide +kernel)) (hts (.instantiable RX4 7) (by decide +kernel)) (hts (.initialized RX4) (by decide +kernel)) hK hP hD hS hA rfl (fun j hj => dfX4 j hj) (Nat.le_of_ble_eq_true rfl) (Nat.le_of_ble_eq_true rfl) dX8_init_57 (fun q_16 H hP hD hS => ?_)
  replace hP : va_P (dC, dI) vwCl [(h0, .inr (9, [.ref q_1, .ref q_3, .ref q_12, .ref q_14, .null, .null, .null, .long 0, .long 0, .int 0, .int 0, .int 0, .int 0, .int 0])), (q_1, .inr (0, [.int 0, .ref z, .int 0])), (q_3, .inr (6, [.ref g0_5, .ref g1_6, .int 0])), (g0_5, .inl (cO_9, 4, .inr (.inr (.inr (.inr (fun i => if i < 4 then some (rr_7 i) else none)))))), (g1_6, .inl (cP_10, 4, .inr (.inr (.inr (.inr (fun i => if i < 4 then some (rq_8 i) else none)))))), (rr_7 0, .inl (cR_11, 40, .inr (.inl (fun _ => 0)))), (rr_7 1, .inl (cR_11, 40, .inr (.inl (fun _ => 0)))), (rr_7 2, .inl (cR_11, 40, .inr (.inl (fun _ => 0)))), (rr_7 3, .inl (cR_11, 40, .inr (.inl (fun _ => 0)))), (rq_8 0, .inl (cR_11, 40, .inr (.inl (fun _ => 0)))), (rq_8 1, .inl (cR_11, 40, .inr (.inl (fun _ => 0)))), (rq_8 2, .inl (cR_11, 40, .inr (.inl (fun _ => 0)))), (rq_8 3, .inl (cR_11, 40, .inr (.inl (fun _ => 0)))), (q_12, .inr (2, [.ref q_3, .long 0, .long 0, .long 0, .int 0])), (q_14, .inr (4, [.ref q_3, .long 0, .long 0, .long 0])), (q_16, .inr (5, [.null, .null, .null, .long 0, .int 0, .int 0, .int 0]))] H := hP
  replace hD : va_D A [(h0, .inr (9, [.ref q_1, .ref q_3, .ref q_12, .ref q_14, .null, .null, .null, .long 0, .long 0, .int 0, .int 0, .int 0, .int 0, .int 0])), (q_1, .inr (0, [.int 0, .ref z, .int 0])), (q_3, .inr (6, [.ref g0_5, .ref g1_6, .int 0])), (g0_5, .inl (cO_9, 4, .inr (.inr (.inr (.inr (fun i => if i < 4 then some (rr_7 i) else none)))))), (g1_6, .inl (cP_10, 4, .inr (.inr (.inr (.inr (fun i => if i < 4 then some (rq_8 i) else none)))))), (rr_7 0, .inl (cR_11, 40, .inr (.inl (fun _ => 0)))), (rr_7 1, .inl (cR_11, 40, .inr (.inl (fun _ => 0)))), (rr_7 2, .inl (cR_11, 40, .inr (.inl (fun _ => 0)))), (rr_7 3, .inl (cR_11, 40, .inr (.inl (fun _ => 0)))), (rq_8 0, .inl (cR_11, 40, .inr (.inl (fun _ => 0)))), (rq_8 1, .inl (cR_11, 40, .inr (.inl (fun _ => 0)))), (rq_8 2, .inl (cR_11, 40, .inr (.inl (fun _ => 0)))), (rq_8 3, .inl (cR_11, 40, .inr (.inl (fun _ => 0)))), (q_12, .inr (2, [.ref q_3, .long 0, .long 0, .long 0, .int 0])), (q_14, .inr (4, [.ref q_3, .long 0, .long 0, .long 0])), (q_16, .inr (5, [.null, .null, .null, .long 0, .int 0, .int 0, .int 0]))] := hD
  refine W.widen (k := 15) (n := 350) (by omega) (by omega) ?_
  refine lv_dup hx hb dX8_init_60 rfl ?_
  have hPc := hP.sub (ws' := [(q_16, .inr (5, [.null, .null, .null, .long 0, .int 0, .int 0, .int 0]))]) [15] rfl
  have hDc := hD.sub (ws' := [(q_16, .inr (5, [.null, .null, .null, .long 0, .int 0, .int 0, .int 0]))]) [15] (by decide) rfl
  have hKc := hK.sub (tys' := []) [] rfl
  have hFc := va_free (wc := [(q_16, .inr (5, [.null, .null, .null, .long 0, .int 0, .int 0, .int 0]))]) hD hS hA [15] rfl
  refine va_callv (va_runIN (As := []) (rest := [.ref q_16, .ref h0]) ⟨hx, hb, hml, hown, hts⟩ (c_s_plan l dC dI q_16 H.size) ⟨va_cnB 0 hts wc_s_tree_s_plan_41 rfl rfl rfl (hN (.methodLinkNest RX8 41 yX4_init "ServiceTree") (by decide +kernel)) (hts (.initialized RX4) (by decide +kernel)) (by decide +kernel) ⟨Nat.le_of_ble_eq_true rfl, Nat.le_of_ble_eq_true rfl⟩, rfl, hts (.instanceMethod yX4_init) (by decide +kernel)⟩ ⟨fun a U g mk q => by obtain ⟨q0, q1, qP, qK, qD, qN⟩ := q; exact ⟨q0, q1, qP, va_K.moved (u := U) (U := U.calling g mk a) (Vm.Alike.refl U.vm) qK, qD, pw_N.same (u := U) (U := U.calling g mk a) rfl qN⟩, fun U hU hW => ⟨rfl, by rw [hU], by rw [hU]; exact hPc, va_K.moved hW.alike hKc, hDc.weaken (fun _ _ _ _ => trivial), pw_N.warm hW hN⟩⟩ rfl rfl hl.1 rfl (lv_room (Nat.le_of_ble_eq_true rfl)) dX8_init_61 ⟨Nat.le_of_ble_eq_true rfl, Nat.le_of_ble_eq_true rfl⟩) hS (fun q _ h => hFc q h) hFc (fun u t H1 locs ht hvm hw hB hz1 hk1 hS => ?_)
  obtain ⟨b0_18, b1_19, b2_20, kb0_21, kb1_22, kb2_23, hP1, hK1, hD1⟩ := hB
  rw [ht] at hP1
  obtain ⟨hP, hD⟩ := va_join (wr := [(h0, .inr (9, [.ref q_1, .ref q_3, .ref q_12, .ref q_14, .null, .null, .null, .long 0, .long 0, .int 0, .int 0, .int 0, .int 0, .int 0])), (q_1, .inr (0, [.int 0, .ref z, .int 0])), (q_3, .inr (6, [.ref g0_5, .ref g1_6, .int 0])), (g0_5, .inl (cO_9, 4, .inr (.inr (.inr (.inr (fun i => if i < 4 then some (rr_7 i) else none)))))), (g1_6, .inl (cP_10, 4, .inr (.inr (.inr (.inr (fun i => if i < 4 then some (rq_8 i) else none)))))), (rr_7 0, .inl (cR_11, 40, .inr (.inl (fun _ => 0)))), (rr_7 1, .inl (cR_11, 40, .inr (.inl (fun _ => 0)))), (rr_7 2, .inl (cR_11, 40, .inr (.inl (fun _ => 0)))), (rr_7 3, .inl (cR_11, 40, .inr (.inl (fun _ => 0)))), (rq_8 0, .inl (cR_11, 40, .inr (.inl (fun _ => 0)))), (rq_8 1, .inl (cR_11, 40, .inr (.inl (fun _ => 0)))), (rq_8 2, .inl (cR_11, 40, .inr (.inl (fun _ => 0)))), (rq_8 3, .inl (cR_11, 40, .inr (.inl (fun _ => 0)))), (q_12, .inr (2, [.ref q_3, .long 0, .long 0, .long 0, .int 0])), (q_14, .inr (4, [.ref q_3, .long 0, .long 0, .long 0]))]) (w1 := [(q_16, .inr (5, [.ref b0_18, .ref b1_19, .ref b2_20, .long 0, .int 0, .int 0, .int 0])), (b0_18, .inl (kb0_21, 40, .inl (fun _ => 0))), (b1_19, .inl (kb1_22, 40, .inl (fun _ => 0))), (b2_20, .inl (kb2_23, 40, .inl (fun _ => 0)))]) hP hD [15] [0, 1, 2, 3, 4, 5, 6, 7, 8, 9, 10, 11, 12, 13, 14] rfl rfl (by decide) (by decide) hk1 hFc hP1 hD1
  generalize H1 = H at hP hS ⊢
  replace hP : va_P (dC, dI) vwCl [(h0, .inr (9, [.ref q_1, .ref q_3, .ref q_12, .ref q_14, .null, .null, .null, .long 0, .long 0, .int 0, .int 0, .int 0, .int 0, .int 0])), (q_1, .inr (0, [.int 0, .ref z, .int 0])), (q_3, .inr (6, [.ref g0_5, .ref g1_6, .int 0])), (g0_5, .inl (cO_9, 4, .inr (.inr (.inr (.inr (fun i => if i < 4 then some (rr_7 i) else none)))))), (g1_6, .inl (cP_10, 4, .inr (.inr (.inr (.inr (fun i => if i < 4 then some (rq_8 i) else none)))))), (rr_7 0, .inl (cR_11, 40, .inr (.inl (fun _ => 0)))), (rr_7 1, .inl (cR_11, 40, .inr (.inl (fun _ => 0)))), (rr_7 2, .inl (cR_11, 40, .inr (.inl (fun _ => 0)))), (rr_7 3, .inl (cR_11, 40, .inr (.inl (fun _ => 0)))), (rq_8 0, .inl (cR_11, 40, .inr (.inl (fun _ => 0)))), (rq_8 1, .inl (cR_11, 40, .inr (.inl (fun _ => 0)))), (rq_8 2, .inl (cR_11, 40, .inr (.inl (fun _ => 0)))), (rq_8 3, .inl (cR_11, 40, .inr (.inl (fun _ => 0)))), (q_12, .inr (2, [.ref q_3, .long 0, .long 0, .long 0, .int 0])), (q_14, .inr (4, [.ref q_3, .long 0, .long 0, .long 0])), (q_16, .inr (5, [.ref b0_18, .ref b1_19, .ref b2_20, .long 0, .int 0, .int 0, .int 0])), (b0_18, .inl (kb0_21, 40, .inl (fun _ => 0))), (b1_19, .inl (kb1_22, 40, .inl (fun _ => 0))), (b2_20, .inl (kb2_23, 40, .inl (fun _ => 0)))] H := hP
  replace hD : va_D A [(h0, .inr (9, [.ref q_1, .ref q_3, .ref q_12, .ref q_14, .null, .null, .null, .long 0, .long 0, .int 0, .int 0, .int 0, .int 0, .int 0])), (q_1, .inr (0, [.int 0, .ref z, .int 0])), (q_3, .inr (6, [.ref g0_5, .ref g1_6, .int 0])), (g0_5, .inl (cO_9, 4, .inr (.inr (.inr (.inr (fun i => if i < 4 then some (rr_7 i) else none)))))), (g1_6, .inl (cP_10, 4, .inr (.inr (.inr (.inr (fun i => if i < 4 then some (rq_8 i) else none)))))), (rr_7 0, .inl (cR_11, 40, .inr (.inl (fun _ => 0)))), (rr_7 1, .inl (cR_11, 40, .inr (.inl (fun _ => 0)))), (rr_7 2, .inl (cR_11, 40, .inr (.inl (fun _ => 0)))), (rr_7 3, .inl (cR_11, 40, .inr (.inl (fun _ => 0)))), (rq_8 0, .inl (cR_11, 40, .inr (.inl (fun _ => 0)))), (rq_8 1, .inl (cR_11, 40, .inr (.inl (fun _ => 0)))), (rq_8 2, .inl (cR_11, 40, .inr (.inl (fun _ => 0)))), (rq_8 3, .inl (cR_11, 40, .inr (.inl (fun _ => 0)))), (q_12, .inr (2, [.ref q_3, .long 0, .long 0, .long 0, .int 0])), (q_14, .inr (4, [.ref q_3, .long 0, .long 0, .long 0])), (q_16, .inr (5, [.ref b0_18, .ref b1_19, .ref b2_20, .long 0, .int 0, .int 0, .int 0])), (b0_18, .inl (kb0_21, 40, .inl (fun _ => 0))), (b1_19, .inl (kb1_22, 40, .inl (fun _ => 0))), (b2_20, .inl (kb2_23, 40, .inl (fun _ => 0)))] := hD
  have hK := hK.app (va_K.moved hvm.symm hK1)
  have hK : va_K (dC, dI) vwCl [(cO_9, .array .long), (cP_10, .array .long), (cR_11, .long), (kb0_21, .int), (kb1_22, .int), (kb2_23, .int)] s := hK
  refine W.widen (k := 18) (n := 470) (by omega) (by omega) ?_
  try dsimp only at hw
  refine va_putF (D := (dC, dI)) (ci := 9) (v := .ref q_16) (ty := .object "ServiceTree$Plan") (C := RX8) (T := TX8) (N := 14) hx hb hts in_s_tree_X8 tyX8 tyX8_ok nmX8 hown hK hP hD hS 0 rfl rfl 4 (by decide) (hts (.fieldLink RX8 42 "ServiceTree" "latestPlan" "LServiceTree$Plan;") (by decide +kernel)) (fun _ h9 => h9) rfl hin rfl (by decide +kernel) rfl rfl (Nat.le_of_ble_eq_true rfl) dX8_init_64 (fun H locs hP hD hS => ?_)
  replace hP : va_P (dC, dI) vwCl [(h0, .inr (9, [.ref q_1, .ref q_3, .ref q_12, .ref q_14, .ref q_16, .null, .null, .long 0, .long 0, .int 0, .int 0, .int 0, .int 0, .int 0])), (q_1, .inr (0, [.int 0, .ref z, .int 0])), (q_3, .inr (6, [.ref g0_5, .ref g1_6, .int 0])), (g0_5, .inl (cO_9, 4, .inr (.inr (.inr (.inr (fun i => if i < 4 then some (rr_7 i) else none)))))), (g1_6, .inl (cP_10, 4, .inr (.inr (.inr (.inr (fun i => if i < 4 then some (rq_8 i) else none)))))), (rr_7 0, .inl (cR_11, 40, .inr (.inl (fun _ => 0)))), (rr_7 1, .inl (cR_11, 40, .inr (.inl (fun _ => 0)))), (rr_7 2, .inl (cR_11, 40, .inr (.inl (fun _ => 0)))), (rr_7 3, .inl (cR_11, 40, .inr (.inl (fun _ => 0)))), (rq_8 0, .inl (cR_11, 40, .inr (.inl (fun _ => 0)))), (rq_8 1, .inl (cR_11, 40, .inr (.inl (fun _ => 0)))), (rq_8 2, .inl (cR_11, 40, .inr (.inl (fun _ => 0)))), (rq_8 3, .inl (cR_11, 40, .inr (.inl (fun _ => 0)))), (q_12, .inr (2, [.ref q_3, .long 0, .long 0, .long 0, .int 0])), (q_14, .inr (4, [.ref q_3, .long 0, .long 0, .long 0])), (q_16, .inr (5, [.ref b0_18, .ref b1_19, .ref b2_20, .long 0, .int 0, .int 0, .int 0])), (b0_18, .inl (kb0_21, 40, .inl (fun _ => 0))), (b1_19, .inl (kb1_22, 40, .inl (fun _ => 0))), (b2_20, .inl (kb2_23, 40, .inl (fun _ => 0)))] H := hP
  replace hD : va_D A [(h0, .inr (9, [.ref q_1, .ref q_3, .ref q_12, .ref q_14, .ref q_16, .null, .null, .long 0, .long 0, .int 0, .int 0, .int 0, .int 0, .int 0])), (q_1, .inr (0, [.int 0, .ref z, .int 0])), (q_3, .inr (6, [.ref g0_5, .ref g1_6, .int 0])), (g0_5, .inl (cO_9, 4, .inr (.inr (.inr (.inr (fun i => if i < 4 then some (rr_7 i) else none)))))), (g1_6, .inl (cP_10, 4, .inr (.inr (.inr (.inr (fun i => if i < 4 then some (rq_8 i) else none)))))), (rr_7 0, .inl (cR_11, 40, .inr (.inl (fun _ => 0)))), (rr_7 1, .inl (cR_11, 40, .inr (.inl (fun _ => 0)))), (rr_7 2, .inl (cR_11, 40, .inr (.inl (fun _ => 0)))), (rr_7 3, .inl (cR_11, 40, .inr (.inl (fun _ => 0)))), (rq_8 0, .inl (cR_11, 40, .inr (.inl (fun _ => 0)))), (rq_8 1, .inl (cR_11, 40, .inr (.inl (fun _ => 0)))), (rq_8 2, .inl (cR_11, 40, .inr (.inl (fun _ => 0)))), (rq_8 3, .inl (cR_11, 40, .inr (.inl (fun _ => 0)))), (q_12, .inr (2, [.ref q_3, .long 0, .long 0, .long 0, .int 0])), (q_14, .inr (4, [.ref q_3, .long 0, .long 0, .long 0])), (q_16, .inr (5, [.ref b0_18, .ref b1_19, .ref b2_20, .long 0, .int 0, .int 0, .int 0])), (b0_18, .inl (kb0_21, 40, .inl (fun _ => 0))), (b1_19, .inl (kb1_22, 40, .inl (fun _ => 0))), (b2_20, .inl (kb2_23, 40, .inl (fun _ => 0)))] := hD
  refine lv_aload_n hx hb dX8_init_67 rfl (lv_at hl 0 rfl) ?_
  refine va_new (ci := 3) (fs := [.null, .int 0]) (C := RX2) (T := TX2) (N := 2) hx hb hts in_s_tree_X2 tyX2 tyX2_ok hown (hts (.classLink RX8 46 RX2) (by decide +kernel)) (hts (.instantiable RX2 2) (by decide +kernel)) (hts (.initialized RX2) (by decide +kernel)) hK hP hD hS hA rfl (fun j hj => dfX2 j hj) (Nat.le_of_ble_eq_true rfl) (Nat.le_of_ble_eq_true rfl) dX8_init_68 (fun q_24 H hP hD hS => ?_)
  replace hP : va_P (dC, dI) vwCl [(h0, .inr (9, [.ref q_1, .ref q_3, .ref q_12, .ref q_14, .ref q_16, .null, .null, .long 0, .long 0, .int 0, .int 0, .int 0, .int 0, .int 0])), (q_1, .inr (0, [.int 0, .ref z, .int 0])), (q_3, .inr (6, [.ref g0_5, .ref g1_6, .int 0])), (g0_5, .inl (cO_9, 4, .inr (.inr (.inr (.inr (fun i => if i < 4 then some (rr_7 i) else none)))))), (g1_6, .inl (cP_10, 4, .inr (.inr (.inr (.inr (fun i => if i < 4 then some (rq_8 i) else none)))))), (rr_7 0, .inl (cR_11, 40, .inr (.inl (fun _ => 0)))), (rr_7 1, .inl (cR_11, 40, .inr (.inl (fun _ => 0)))), (rr_7 2, .inl (cR_11, 40, .inr (.inl (fun _ => 0)))), (rr_7 3, .inl (cR_11, 40, .inr (.inl (fun _ => 0)))), (rq_8 0, .inl (cR_11, 40, .inr (.inl (fun _ => 0)))), (rq_8 1, .inl (cR_11, 40, .inr (.inl (fun _ => 0)))), (rq_8 2, .inl (cR_11, 40, .inr (.inl (fun _ => 0)))), (rq_8 3, .inl (cR_11, 40, .inr (.inl (fun _ => 0)))), (q_12, .inr (2, [.ref q_3, .long 0, .long 0, .long 0, .int 0])), (q_14, .inr (4, [.ref q_3, .long 0, .long 0, .long 0])), (q_16, .inr (5, [.ref b0_18, .ref b1_19, .ref b2_20, .long 0, .int 0, .int 0, .int 0])), (b0_18, .inl (kb0_21, 40, .inl (fun _ => 0))), (b1_19, .inl (kb1_22, 40, .inl (fun _ => 0))), (b2_20, .inl (kb2_23, 40, .inl (fun _ => 0))), (q_24, .inr (3, [.null, .int 0]))] H := hP
  replace hD : va_D A [(h0, .inr (9, [.ref q_1, .ref q_3, .ref q_12, .ref q_14, .ref q_16, .null, .null, .long 0, .long 0, .int 0, .int 0, .int 0, .int 0, .int 0])), (q_1, .inr (0, [.int 0, .ref z, .int 0])), (q_3, .inr (6, [.ref g0_5, .ref g1_6, .int 0])), (g0_5, .inl (cO_9, 4, .inr (.inr (.inr (.inr (fun i => if i < 4 then some (rr_7 i) else none)))))), (g1_6, .inl (cP_10, 4, .inr (.inr (.inr (.inr (fun i => if i < 4 then some (rq_8 i) else none)))))), (rr_7 0, .inl (cR_11, 40, .inr (.inl (fun _ => 0)))), (rr_7 1, .inl (cR_11, 40, .inr (.inl (fun _ => 0)))), (rr_7 2, .inl (cR_11, 40, .inr (.inl (fun _ => 0)))), (rr_7 3, .inl (cR_11, 40, .inr (.inl (fun _ => 0)))), (rq_8 0, .inl (cR_11, 40, .inr (.inl (fun _ => 0)))), (rq_8 1, .inl (cR_11, 40, .inr (.inl (fun _ => 0)))), (rq_8 2, .inl (cR_11, 40, .inr (.inl (fun _ => 0)))), (rq_8 3, .inl (cR_11, 40, .inr (.inl (fun _ => 0)))), (q_12, .inr (2, [.ref q_3, .long 0, .long 0, .long 0, .int 0])), (q_14, .inr (4, [.ref q_3, .long 0, .long 0, .long 0])), (q_16, .inr (5, [.ref b0_18, .ref b1_19, .ref b2_20, .long 0, .int 0, .int 0, .int 0])), (b0_18, .inl (kb0_21, 40, .inl (fun _ => 0))), (b1_19, .inl (kb1_22, 40, .inl (fun _ => 0))), (b2_20, .inl (kb2_23, 40, .inl (fun _ => 0))), (q_24, .inr (3, [.null, .int 0]))] := hD
  refine W.widen (k := 19) (n := 472) (by omega) (by omega) ?_
  refine lv_dup hx hb dX8_init_71 rfl ?_
  have hPc := hP.sub (ws' := [(q_24, .inr (3, [.null, .int 0]))]) [19] rfl
  have hDc := hD.sub (ws' := [(q_24, .inr (3, [.null, .int 0]))]) [19] (by decide) rfl
  have hKc := hK.sub (tys' := []) [] rfl
  have hFc := va_free (wc := [(q_24, .inr (3, [.null, .int 0]))]) hD hS hA [19] rfl
  refine va_callv (va_runIN (As := []) (rest := [.ref q_24, .ref h0]) ⟨hx, hb, hml, hown, hts⟩ (c_s_hist l dC dI q_24 H.size) ⟨va_cnB 0 hts wc_s_tree_s_hist_48 rfl rfl rfl (hN (.methodLinkNest RX8 48 yX2_init "ServiceTree") (by decide +kernel)) (hts (.initialized RX2) (by decide +kernel)) (by decide +kernel) ⟨Nat.le_of_ble_eq_true rfl, Nat.le_of_ble_eq_true rfl⟩, rfl, hts (.instanceMethod yX2_init) (by decide +kernel)⟩ ⟨fun a U g mk q => by obtain ⟨q0, q1, qP, qK, qD, qN⟩ := q; exact ⟨q0, q1, qP, va_K.moved (u := U) (U := U.calling g mk a) (Vm.Alike.refl U.vm) qK, qD, pw_N.same (u := U) (U := U.calling g mk a) rfl qN⟩, fun U hU hW => ⟨rfl, by rw [hU], by rw [hU]; exact hPc, va_K.moved hW.alike hKc, hDc.weaken (fun _ _ _ _ => trivial), pw_N.warm hW hN⟩⟩ rfl rfl hl.1 rfl (lv_room (Nat.le_of_ble_eq_true rfl)) dX8_init_72 ⟨Nat.le_of_ble_eq_true rfl, Nat.le_of_ble_eq_true rfl⟩) hS (fun q _ h => hFc q h) hFc (fun u t H1 locs ht hvm hw hB hz1 hk1 hS => ?_)
  obtain ⟨hb_26, kh_27, hP1, hK1, hD1⟩ := hB
  rw [ht] at hP1
  obtain ⟨hP, hD⟩ := va_join (wr := [(h0, .inr (9, [.ref q_1, .ref q_3, .ref q_12, .ref q_14, .ref q_16, .null, .null, .long 0, .long 0, .int 0, .int 0, .int 0, .int 0, .int 0])), (q_1, .inr (0, [.int 0, .ref z, .int 0])), (q_3, .inr (6, [.ref g0_5, .ref g1_6, .int 0])), (g0_5, .inl (cO_9, 4, .inr (.inr (.inr (.inr (fun i => if i < 4 then some (rr_7 i) else none)))))), (g1_6, .inl (cP_10, 4, .inr (.inr (.inr (.inr (fun i => if i < 4 then some (rq_8 i) else none)))))), (rr_7 0, .inl (cR_11, 40, .inr (.inl (fun _ => 0)))), (rr_7 1, .inl (cR_11, 40, .inr (.inl (fun _ => 0)))), (rr_7 2, .inl (cR_11, 40, .inr (.inl (fun _ => 0)))), (rr_7 3, .inl (cR_11, 40, .inr (.inl (fun _ => 0)))), (rq_8 0, .inl (cR_11, 40, .inr (.inl (fun _ => 0)))), (rq_8 1, .inl (cR_11, 40, .inr (.inl (fun _ => 0)))), (rq_8 2, .inl (cR_11, 40, .inr (.inl (fun _ => 0)))), (rq_8 3, .inl (cR_11, 40, .inr (.inl (fun _ => 0)))), (q_12, .inr (2, [.ref q_3, .long 0, .long 0, .long 0, .int 0])), (q_14, .inr (4, [.ref q_3, .long 0, .long 0, .long 0])), (q_16, .inr (5, [.ref b0_18, .ref b1_19, .ref b2_20, .long 0, .int 0, .int 0, .int 0])), (b0_18, .inl (kb0_21, 40, .inl (fun _ => 0))), (b1_19, .inl (kb1_22, 40, .inl (fun _ => 0))), (b2_20, .inl (kb2_23, 40, .inl (fun _ => 0)))]) (w1 := [(q_24, .inr (3, [.ref hb_26, .int 0])), (hb_26, .inl (kh_27, 2000, .inr (.inl (fun _ => 0))))]) hP hD [19] [0, 1, 2, 3, 4, 5, 6, 7, 8, 9, 10, 11, 12, 13, 14, 15, 16, 17, 18] rfl rfl (by decide) (by decide) hk1 hFc hP1 hD1
  generalize H1 = H at hP hS ⊢
  replace hP : va_P (dC, dI) vwCl [(h0, .inr (9, [.ref q_1, .ref q_3, .ref q_12, .ref q_14, .ref q_16, .null, .null, .long 0, .long 0, .int 0, .int 0, .int 0, .int 0, .int 0])), (q_1, .inr (0, [.int 0, .ref z, .int 0])), (q_3, .inr (6, [.ref g0_5, .ref g1_6, .int 0])), (g0_5, .inl (cO_9, 4, .inr (.inr (.inr (.inr (fun i => if i < 4 then some (rr_7 i) else none)))))), (g1_6, .inl (cP_10, 4, .inr (.inr (.inr (.inr (fun i => if i < 4 then some (rq_8 i) else none)))))), (rr_7 0, .inl (cR_11, 40, .inr (.inl (fun _ => 0)))), (rr_7 1, .inl (cR_11, 40, .inr (.inl (fun _ => 0)))), (rr_7 2, .inl (cR_11, 40, .inr (.inl (fun _ => 0)))), (rr_7 3, .inl (cR_11, 40, .inr (.inl (fun _ => 0)))), (rq_8 0, .inl (cR_11, 40, .inr (.inl (fun _ => 0)))), (rq_8 1, .inl (cR_11, 40, .inr (.inl (fun _ => 0)))), (rq_8 2, .inl (cR_11, 40, .inr (.inl (fun _ => 0)))), (rq_8 3, .inl (cR_11, 40, .inr (.inl (fun _ => 0)))), (q_12, .inr (2, [.ref q_3, .long 0, .long 0, .long 0, .int 0])), (q_14, .inr (4, [.ref q_3, .long 0, .long 0, .long 0])), (q_16, .inr (5, [.ref b0_18, .ref b1_19, .ref b2_20, .long 0, .int 0, .int 0, .int 0])), (b0_18, .inl (kb0_21, 40, .inl (fun _ => 0))), (b1_19, .inl (kb1_22, 40, .inl (fun _ => 0))), (b2_20, .inl (kb2_23, 40, .inl (fun _ => 0))), (q_24, .inr (3, [.ref hb_26, .int 0])), (hb_26, .inl (kh_27, 2000, .inr (.inl (fun _ => 0))))] H := hP
  replace hD : va_D A [(h0, .inr (9, [.ref q_1, .ref q_3, .ref q_12, .ref q_14, .ref q_16, .null, .null, .long 0, .long 0, .int 0, .int 0, .int 0, .int 0, .int 0])), (q_1, .inr (0, [.int 0, .ref z, .int 0])), (q_3, .inr (6, [.ref g0_5, .ref g1_6, .int 0])), (g0_5, .inl (cO_9, 4, .inr (.inr (.inr (.inr (fun i => if i < 4 then some (rr_7 i) else none)))))), (g1_6, .inl (cP_10, 4, .inr (.inr (.inr (.inr (fun i => if i < 4 then some (rq_8 i) else none)))))), (rr_7 0, .inl (cR_11, 40, .inr (.inl (fun _ => 0)))), (rr_7 1, .inl (cR_11, 40, .inr (.inl (fun _ => 0)))), (rr_7 2, .inl (cR_11, 40, .inr (.inl (fun _ => 0)))), (rr_7 3, .inl (cR_11, 40, .inr (.inl (fun _ => 0)))), (rq_8 0, .inl (cR_11, 40, .inr (.inl (fun _ => 0)))), (rq_8 1, .inl (cR_11, 40, .inr (.inl (fun _ => 0)))), (rq_8 2, .inl (cR_11, 40, .inr (.inl (fun _ => 0)))), (rq_8 3, .inl (cR_11, 40, .inr (.inl (fun _ => 0)))), (q_12, .inr (2, [.ref q_3, .long 0, .long 0, .long 0, .int 0])), (q_14, .inr (4, [.ref q_3, .long 0, .long 0, .long 0])), (q_16, .inr (5, [.ref b0_18, .ref b1_19, .ref b2_20, .long 0, .int 0, .int 0, .int 0])), (b0_18, .inl (kb0_21, 40, .inl (fun _ => 0))), (b1_19, .inl (kb1_22, 40, .inl (fun _ => 0))), (b2_20, .inl (kb2_23, 40, .inl (fun _ => 0))), (q_24, .inr (3, [.ref hb_26, .int 0])), (hb_26, .inl (kh_27, 2000, .inr (.inl (fun _ => 0))))] := hD
  have hK := hK.app (va_K.moved hvm.symm hK1)
  have hK : va_K (dC, dI) vwCl [(cO_9, .array .long), (cP_10, .array .long), (cR_11, .long), (kb0_21, .int), (kb1_22, .int), (kb2_23, .int), (kh_27, .long)] s := hK
  refine W.widen (k := 20) (n := 2472) (by omega) (by omega) ?_
  try dsimp only at hw
  refine va_putF (D := (dC, dI)) (ci := 9) (v := .ref q_24) (ty := .object "ServiceTree$History") (C := RX8) (T := TX8) (N := 14) hx hb hts in_s_tree_X8 tyX8 tyX8_ok nmX8 hown hK hP hD hS 0 rfl rfl 5 (by decide) (hts (.fieldLink RX8 49 "ServiceTree" "history" "LServiceTree$History;") (by decide +kernel)) (fun _ h9 => h9) rfl hin rfl (by decide +kernel) rfl rfl (Nat.le_of_ble_eq_true rfl) dX8_init_75 (fun H locs hP hD hS => ?_)
  replace hP : va_P (dC, dI) vwCl [(h0, .inr (9, [.ref q_1, .ref q_3, .ref q_12, .ref q_14, .ref q_16, .ref q_24, .null, .long 0, .long 0, .int 0, .int 0, .int 0, .int 0, .int 0])), (q_1, .inr (0, [.int 0, .ref z, .int 0])), (q_3, .inr (6, [.ref g0_5, .ref g1_6, .int 0])), (g0_5, .inl (cO_9, 4, .inr (.inr (.inr (.inr (fun i => if i < 4 then some (rr_7 i) else none)))))), (g1_6, .inl (cP_10, 4, .inr (.inr (.inr (.inr (fun i => if i < 4 then some (rq_8 i) else none)))))), (rr_7 0, .inl (cR_11, 40, .inr (.inl (fun _ => 0)))), (rr_7 1, .inl (cR_11, 40, .inr (.inl (fun _ => 0)))), (rr_7 2, .inl (cR_11, 40, .inr (.inl (fun _ => 0)))), (rr_7 3, .inl (cR_11, 40, .inr (.inl (fun _ => 0)))), (rq_8 0, .inl (cR_11, 40, .inr (.inl (fun _ => 0)))), (rq_8 1, .inl (cR_11, 40, .inr (.inl (fun _ => 0)))), (rq_8 2, .inl (cR_11, 40, .inr (.inl (fun _ => 0)))), (rq_8 3, .inl (cR_11, 40, .inr (.inl (fun _ => 0)))), (q_12, .inr (2, [.ref q_3, .long 0, .long 0, .long 0, .int 0])), (q_14, .inr (4, [.ref q_3, .long 0, .long 0, .long 0])), (q_16, .inr (5, [.ref b0_18, .ref b1_19, .ref b2_20, .long 0, .int 0, .int 0, .int 0])), (b0_18, .inl (kb0_21, 40, .inl (fun _ => 0))), (b1_19, .inl (kb1_22, 40, .inl (fun _ => 0))), (b2_20, .inl (kb2_23, 40, .inl (fun _ => 0))), (q_24, .inr (3, [.ref hb_26, .int 0])), (hb_26, .inl (kh_27, 2000, .inr (.inl (fun _ => 0))))] H := hP
  replace hD : va_D A [(h0, .inr (9, [.ref q_1, .ref q_3, .ref q_12, .ref q_14, .ref q_16, .ref q_24, .null, .long 0, .long 0, .int 0, .int 0, .int 0, .int 0, .int 0])), (q_1, .inr (0, [.int 0, .ref z, .int 0])), (q_3, .inr (6, [.ref g0_5, .ref g1_6, .int 0])), (g0_5, .inl (cO_9, 4, .inr (.inr (.inr (.inr (fun i => if i < 4 then some (rr_7 i) else none)))))), (g1_6, .inl (cP_10, 4, .inr (.inr (.inr (.inr (fun i => if i < 4 then some (rq_8 i) else none)))))), (rr_7 0, .inl (cR_11, 40, .inr (.inl (fun _ => 0)))), (rr_7 1, .inl (cR_11, 40, .inr (.inl (fun _ => 0)))), (rr_7 2, .inl (cR_11, 40, .inr (.inl (fun _ => 0)))), (rr_7 3, .inl (cR_11, 40, .inr (.inl (fun _ => 0)))), (rq_8 0, .inl (cR_11, 40, .inr (.inl (fun _ => 0)))), (rq_8 1, .inl (cR_11, 40, .inr (.inl (fun _ => 0)))), (rq_8 2, .inl (cR_11, 40, .inr (.inl (fun _ => 0)))), (rq_8 3, .inl (cR_11, 40, .inr (.inl (fun _ => 0)))), (q_12, .inr (2, [.ref q_3, .long 0, .long 0, .long 0, .int 0])), (q_14, .inr (4, [.ref q_3, .long 0, .long 0, .long 0])), (q_16, .inr (5, [.ref b0_18, .ref b1_19, .ref b2_20, .long 0, .int 0, .int 0, .int 0])), (b0_18, .inl (kb0_21, 40, .inl (fun _ => 0))), (b1_19, .inl (kb1_22, 40, .inl (fun _ => 0))), (b2_20, .inl (kb2_23, 40, .inl (fun _ => 0))), (q_24, .inr (3, [.ref hb_26, .int 0])), (hb_26, .inl (kh_27, 2000, .inr (.inl (fun _ => 0))))] := hD
  refine lv_aload_n hx hb dX8_init_78 rfl (lv_at hl 0 rfl) ?_
  refine lv_bipush (v := 6) hx hb dX8_init_79 (by decide) ?_
  refine va_newa (atype := .long) (ty := .long) (a0 := (6, .inr (.inl (fun _ => 0)))) (N' := 6) hx hb (hts (.arrayClass .long) (by decide +kernel)) rfl hK hP hD hS hA (fun _ => rfl) (by decide) (by decide) (by decide) (Nat.le_of_ble_eq_true rfl) (Nat.le_of_ble_eq_true rfl) dX8_init_81 (fun q_28 cA_29 H hK hP hD hS => ?_)
  have hK : va_K (dC, dI) vwCl [(cO_9, .array .long), (cP_10, .array .long), (cR_11, .long), (kb0_21, .int), (kb1_22, .int), (kb2_23, .int), (kh_27, .long), (cA_29, .long)] s := hK
  replace hP : va_P (dC, dI) vwCl [(h0, .inr (9, [.ref q_1, .ref q_3, .ref q_12, .ref q_14, .ref q_16, .ref q_24, .null, .long 0, .long 0, .int 0, .int 0, .int 0, .int 0, .int 0])), (q_1, .inr (0, [.int 0, .ref z, .int 0])), (q_3, .inr (6, [.ref g0_5, .ref g1_6, .int 0])), (g0_5, .inl (cO_9, 4, .inr (.inr (.inr (.inr (fun i => if i < 4 then some (rr_7 i) else none)))))), (g1_6, .inl (cP_10, 4, .inr (.inr (.inr (.inr (fun i => if i < 4 then some (rq_8 i) else none)))))), (rr_7 0, .inl (cR_11, 40, .inr (.inl (fun _ => 0)))), (rr_7 1, .inl (cR_11, 40, .inr (.inl (fun _ => 0)))), (rr_7 2, .inl (cR_11, 40, .inr (.inl (fun _ => 0)))), (rr_7 3, .inl (cR_11, 40, .inr (.inl (fun _ => 0)))), (rq_8 0, .inl (cR_11, 40, .inr (.inl (fun _ => 0)))), (rq_8 1, .inl (cR_11, 40, .inr (.inl (fun _ => 0)))), (rq_8 2, .inl (cR_11, 40, .inr (.inl (fun _ => 0)))), (rq_8 3, .inl (cR_11, 40, .inr (.inl (fun _ => 0)))), (q_12, .inr (2, [.ref q_3, .long 0, .long 0, .long 0, .int 0])), (q_14, .inr (4, [.ref q_3, .long 0, .long 0, .long 0])), (q_16, .inr (5, [.ref b0_18, .ref b1_19, .ref b2_20, .long 0, .int 0, .int 0, .int 0])), (b0_18, .inl (kb0_21, 40, .inl (fun _ => 0))), (b1_19, .inl (kb1_22, 40, .inl (fun _ => 0))), (b2_20, .inl (kb2_23, 40, .inl (fun _ => 0))), (q_24, .inr (3, [.ref hb_26, .int 0])), (hb_26, .inl (kh_27, 2000, .inr (.inl (fun _ => 0)))), (q_28, .inl (cA_29, 6, .inr (.inl (fun _ => 0))))] H := hP
  replace hD : va_D A [(h0, .inr (9, [.ref q_1, .ref q_3, .ref q_12, .ref q_14, .ref q_16, .ref q_24, .null, .long 0, .long 0, .int 0, .int 0, .int 0, .int 0, .int 0])), (q_1, .inr (0, [.int 0, .ref z, .int 0])), (q_3, .inr (6, [.ref g0_5, .ref g1_6, .int 0])), (g0_5, .inl (cO_9, 4, .inr (.inr (.inr (.inr (fun i => if i < 4 then some (rr_7 i) else none)))))), (g1_6, .inl (cP_10, 4, .inr (.inr (.inr (.inr (fun i => if i < 4 then some (rq_8 i) else none)))))), (rr_7 0, .inl (cR_11, 40, .inr (.inl (fun _ => 0)))), (rr_7 1, .inl (cR_11, 40, .inr (.inl (fun _ => 0)))), (rr_7 2, .inl (cR_11, 40, .inr (.inl (fun _ => 0)))), (rr_7 3, .inl (cR_11, 40, .inr (.inl (fun _ => 0)))), (rq_8 0, .inl (cR_11, 40, .inr (.inl (fun _ => 0)))), (rq_8 1, .inl (cR_11, 40, .inr (.inl (fun _ => 0)))), (rq_8 2, .inl (cR_11, 40, .inr (.inl (fun _ => 0)))), (rq_8 3, .inl (cR_11, 40, .inr (.inl (fun _ => 0)))), (q_12, .inr (2, [.ref q_3, .long 0, .long 0, .long 0, .int 0])), (q_14, .inr (4, [.ref q_3, .long 0, .long 0, .long 0])), (q_16, .inr (5, [.ref b0_18, .ref b1_19, .ref b2_20, .long 0, .int 0, .int 0, .int 0])), (b0_18, .inl (kb0_21, 40, .inl (fun _ => 0))), (b1_19, .inl (kb1_22, 40, .inl (fun _ => 0))), (b2_20, .inl (kb2_23, 40, .inl (fun _ => 0))), (q_24, .inr (3, [.ref hb_26, .int 0])), (hb_26, .inl (kh_27, 2000, .inr (.inl (fun _ => 0)))), (q_28, .inl (cA_29, 6, .inr (.inl (fun _ => 0))))] := hD
  refine W.widen (k := 21) (n := 2478) (by omega) (by omega) ?_
  refine va_putF (D := (dC, dI)) (ci := 9) (v := .ref q_28) (ty := .array .long) (C := RX8) (T := TX8) (N := 14) hx hb hts in_s_tree_X8 tyX8 tyX8_ok nmX8 hown hK hP hD hS 0 rfl rfl 6 (by decide) (hts (.fieldLink RX8 53 "ServiceTree" "inState" "[J") (by decide +kernel)) (fun _ h9 => h9) rfl hin rfl (by decide +kernel) rfl rfl (Nat.le_of_ble_eq_true rfl) dX8_init_83 (fun H locs hP hD hS => ?_)
  replace hP : va_P (dC, dI) vwCl [(h0, .inr (9, [.ref q_1, .ref q_3, .ref q_12, .ref q_14, .ref q_16, .ref q_24, .ref q_28, .long 0, .long 0, .int 0, .int 0, .int 0, .int 0, .int 0])), (q_1, .inr (0, [.int 0, .ref z, .int 0])), (q_3, .inr (6, [.ref g0_5, .ref g1_6, .int 0])), (g0_5, .inl (cO_9, 4, .inr (.inr (.inr (.inr (fun i => if i < 4 then some (rr_7 i) else none)))))), (g1_6, .inl (cP_10, 4, .inr (.inr (.inr (.inr (fun i => if i < 4 then some (rq_8 i) else none)))))), (rr_7 0, .inl (cR_11, 40, .inr (.inl (fun _ => 0)))), (rr_7 1, .inl (cR_11, 40, .inr (.inl (fun _ => 0)))), (rr_7 2, .inl (cR_11, 40, .inr (.inl (fun _ => 0)))), (rr_7 3, .inl (cR_11, 40, .inr (.inl (fun _ => 0)))), (rq_8 0, .inl (cR_11, 40, .inr (.inl (fun _ => 0)))), (rq_8 1, .inl (cR_11, 40, .inr (.inl (fun _ => 0)))), (rq_8 2, .inl (cR_11, 40, .inr (.inl (fun _ => 0)))), (rq_8 3, .inl (cR_11, 40, .inr (.inl (fun _ => 0)))), (q_12, .inr (2, [.ref q_3, .long 0, .long 0, .long 0, .int 0])), (q_14, .inr (4, [.ref q_3, .long 0, .long 0, .long 0])), (q_16, .inr (5, [.ref b0_18, .ref b1_19, .ref b2_20, .long 0, .int 0, .int 0, .int 0])), (b0_18, .inl (kb0_21, 40, .inl (fun _ => 0))), (b1_19, .inl (kb1_22, 40, .inl (fun _ => 0))), (b2_20, .inl (kb2_23, 40, .inl (fun _ => 0))), (q_24, .inr (3, [.ref hb_26, .int 0])), (hb_26, .inl (kh_27, 2000, .inr (.inl (fun _ => 0)))), (q_28, .inl (cA_29, 6, .inr (.inl (fun _ => 0))))] H := hP
  replace hD : va_D A [(h0, .inr (9, [.ref q_1, .ref q_3, .ref q_12, .ref q_14, .ref q_16, .ref q_24, .ref q_28, .long 0, .long 0, .int 0, .int 0, .int 0, .int 0, .int 0])), (q_1, .inr (0, [.int 0, .ref z, .int 0])), (q_3, .inr (6, [.ref g0_5, .ref g1_6, .int 0])), (g0_5, .inl (cO_9, 4, .inr (.inr (.inr (.inr (fun i => if i < 4 then some (rr_7 i) else none)))))), (g1_6, .inl (cP_10, 4, .inr (.inr (.inr (.inr (fun i => if i < 4 then some (rq_8 i) else none)))))), (rr_7 0, .inl (cR_11, 40, .inr (.inl (fun _ => 0)))), (rr_7 1, .inl (cR_11, 40, .inr (.inl (fun _ => 0)))), (rr_7 2, .inl (cR_11, 40, .inr (.inl (fun _ => 0)))), (rr_7 3, .inl (cR_11, 40, .inr (.inl (fun _ => 0)))), (rq_8 0, .inl (cR_11, 40, .inr (.inl (fun _ => 0)))), (rq_8 1, .inl (cR_11, 40, .inr (.inl (fun _ => 0)))), (rq_8 2, .inl (cR_11, 40, .inr (.inl (fun _ => 0)))), (rq_8 3, .inl (cR_11, 40, .inr (.inl (fun _ => 0)))), (q_12, .inr (2, [.ref q_3, .long 0, .long 0, .long 0, .int 0])), (q_14, .inr (4, [.ref q_3, .long 0, .long 0, .long 0])), (q_16, .inr (5, [.ref b0_18, .ref b1_19, .ref b2_20, .long 0, .int 0, .int 0, .int 0])), (b0_18, .inl (kb0_21, 40, .inl (fun _ => 0))), (b1_19, .inl (kb1_22, 40, .inl (fun _ => 0))), (b2_20, .inl (kb2_23, 40, .inl (fun _ => 0))), (q_24, .inr (3, [.ref hb_26, .int 0])), (hb_26, .inl (kh_27, 2000, .inr (.inl (fun _ => 0)))), (q_28, .inl (cA_29, 6, .inr (.inl (fun _ => 0))))] := hD
  have hP9 := hP.sub (ws' := [(h0, .inr (9, [.ref q_1, .ref q_3, .ref q_12, .ref q_14, .ref q_16, .ref q_24, .ref q_28, .long 0, .long 0, .int 0, .int 0, .int 0, .int 0, .int 0])), (q_1, .inr (0, [.int 0, .ref z, .int 0])), (q_3, .inr (6, [.ref g0_5, .ref g1_6, .int 0])), (g0_5, .inl (cO_9, 4, .inr (.inr (.inr (.inr (fun i => if i < 4 then some (rr_7 i) else none)))))), (g1_6, .inl (cP_10, 4, .inr (.inr (.inr (.inr (fun i => if i < 4 then some (rq_8 i) else none)))))), (rr_7 0, .inl (cR_11, 40, .inr (.inl (fun _ => 0)))), (rr_7 1, .inl (cR_11, 40, .inr (.inl (fun _ => 0)))), (rr_7 2, .inl (cR_11, 40, .inr (.inl (fun _ => 0)))), (rr_7 3, .inl (cR_11, 40, .inr (.inl (fun _ => 0)))), (rq_8 0, .inl (cR_11, 40, .inr (.inl (fun _ => 0)))), (rq_8 1, .inl (cR_11, 40, .inr (.inl (fun _ => 0)))), (rq_8 2, .inl (cR_11, 40, .inr (.inl (fun _ => 0)))), (rq_8 3, .inl (cR_11, 40, .inr (.inl (fun _ => 0)))), (q_12, .inr (2, [.ref q_3, .long 0, .long 0, .long 0, .int 0])), (q_14, .inr (4, [.ref q_3, .long 0, .long 0, .long 0])), (q_16, .inr (5, [.ref b0_18, .ref b1_19, .ref b2_20, .long 0, .int 0, .int 0, .int 0])), (b0_18, .inl (kb0_21, 40, .inl (fun _ => 0))), (b1_19, .inl (kb1_22, 40, .inl (fun _ => 0))), (b2_20, .inl (kb2_23, 40, .inl (fun _ => 0))), (q_24, .inr (3, [.ref hb_26, .int 0])), (hb_26, .inl (kh_27, 2000, .inr (.inl (fun _ => 0)))), (q_28, .inl (cA_29, 6, .inr (.inl (fun _ => 0))))]) [0, 1, 2, 3, 4, 5, 6, 7, 8, 9, 10, 11, 12, 13, 14, 15, 16, 17, 18, 19, 20, 21] rfl
  have hD9 := hD.sub (ws' := [(h0, .inr (9, [.ref q_1, .ref q_3, .ref q_12, .ref q_14, .ref q_16, .ref q_24, .ref q_28, .long 0, .long 0, .int 0, .int 0, .int 0, .int 0, .int 0])), (q_1, .inr (0, [.int 0, .ref z, .int 0])), (q_3, .inr (6, [.ref g0_5, .ref g1_6, .int 0])), (g0_5, .inl (cO_9, 4, .inr (.inr (.inr (.inr (fun i => if i < 4 then some (rr_7 i) else none)))))), (g1_6, .inl (cP_10, 4, .inr (.inr (.inr (.inr (fun i => if i < 4 then some (rq_8 i) else none)))))), (rr_7 0, .inl (cR_11, 40, .inr (.inl (fun _ => 0)))), (rr_7 1, .inl (cR_11, 40, .inr (.inl (fun _ => 0)))), (rr_7 2, .inl (cR_11, 40, .inr (.inl (fun _ => 0)))), (rr_7 3, .inl (cR_11, 40, .inr (.inl (fun _ => 0)))), (rq_8 0, .inl (cR_11, 40, .inr (.inl (fun _ => 0)))), (rq_8 1, .inl (cR_11, 40, .inr (.inl (fun _ => 0)))), (rq_8 2, .inl (cR_11, 40, .inr (.inl (fun _ => 0)))), (rq_8 3, .inl (cR_11, 40, .inr (.inl (fun _ => 0)))), (q_12, .inr (2, [.ref q_3, .long 0, .long 0, .long 0, .int 0])), (q_14, .inr (4, [.ref q_3, .long 0, .long 0, .long 0])), (q_16, .inr (5, [.ref b0_18, .ref b1_19, .ref b2_20, .long 0, .int 0, .int 0, .int 0])), (b0_18, .inl (kb0_21, 40, .inl (fun _ => 0))), (b1_19, .inl (kb1_22, 40, .inl (fun _ => 0))), (b2_20, .inl (kb2_23, 40, .inl (fun _ => 0))), (q_24, .inr (3, [.ref hb_26, .int 0])), (hb_26, .inl (kh_27, 2000, .inr (.inl (fun _ => 0)))), (q_28, .inl (cA_29, 6, .inr (.inl (fun _ => 0))))]) [0, 1, 2, 3, 4, 5, 6, 7, 8, 9, 10, 11, 12, 13, 14, 15, 16, 17, 18, 19, 20, 21] (by decide) rfl
  have hK9 := hK.sub (tys' := [(cO_9, .array .long), (cP_10, .array .long), (cR_11, .long), (kb0_21, .int), (kb1_22, .int), (kb2_23, .int), (kh_27, .long), (cA_29, .long)]) [0, 1, 2, 3, 4, 5, 6, 7] rfl
  exact W.vret hx hb hr (fun t ht hW => ⟨⟨(), rfl, trivial, (fun k => [q_1, q_3, q_12, q_14, q_16, q_24, q_28].getD k 0), g0_5, g1_6, rr_7, rq_8, cO_9, cP_10, cR_11, b0_18, b1_19, b2_20, kb0_21, kb1_22, kb2_23, hb_26, kh_27, cA_29, by rw [ht]; exact hP9, va_K.moved hW.alike hK9, hD9⟩, hS.F ht⟩) hS.2.2 dX8_init_86

end
