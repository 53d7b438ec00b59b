def mF (a : Nat → Nat) (V : Nat → Int32) : List Value := [.ref (a 0), .ref (a 1), .ref (a 2), .ref (a 3), .ref (a 4), .ref (a 5), .ref (a 6), .ref (a 7), .ref (a 8), .ref (a 9), .ref (a 10), .ref (a 11), .ref (a 12), .ref (a 13), .ref (a 14), .ref (a 15), .ref (a 16), .ref (a 17), .ref (a 18), .ref (a 19), .int (V 20), .int (V 21), .int (V 22), .int (V 23), .int (V 24), .ref (a 25), .ref (a 26), .ref (a 27), .ref (a 28), .ref (a 29), .ref (a 30), .ref (a 31), .ref (a 32), .int (V 33), .ref (a 34), .ref (a 35), .ref (a 36), .ref (a 37), .int (V 38), .int (V 39), .ref (a 40), .ref (a 41), .ref (a 42), .ref (a 43), .ref (a 44), .int (V 45)]
def mW (h : Nat) (a : Nat → Nat) (k : Nat → ClassId) (F : Nat → Nat → Int32) (V : Nat → Int32) : va_W := [(h, .inr (10, mF a V)), (a 0, .inl (k 0, 40, .inl (F 0))), (a 1, .inl (k 1, 40, .inl (F 1))), (a 2, .inl (k 2, 40, .inl (F 2))), (a 3, .inl (k 3, 320, .inl (F 3))), (a 4, .inl (k 4, 40, .inl (F 4))), (a 5, .inl (k 5, 40, .inl (F 5))), (a 6, .inl (k 6, 40, .inl (F 6))), (a 7, .inl (k 7, 40, .inl (F 7))), (a 8, .inl (k 8, 40, .inl (F 8))), (a 9, .inl (k 9, 40, .inl (F 9))), (a 10, .inl (k 10, 40, .inl (F 10))), (a 11, .inl (k 11, 40, .inl (F 11))), (a 12, .inl (k 12, 40, .inl (F 12))), (a 13, .inl (k 13, 400, .inl (F 13))), (a 14, .inl (k 14, 40, .inl (F 14))), (a 15, .inl (k 15, 40, .inl (F 15))), (a 16, .inl (k 16, 40, .inl (F 16))), (a 17, .inl (k 17, 800, .inl (F 17))), (a 18, .inl (k 18, 40, .inl (F 18))), (a 19, .inl (k 19, 6400, .inl (F 19))), (a 25, .inl (k 25, 40, .inl (F 25))), (a 26, .inl (k 26, 40, .inl (F 26))), (a 27, .inl (k 27, 40, .inl (F 27))), (a 28, .inl (k 28, 40, .inl (F 28))), (a 29, .inl (k 29, 40, .inl (F 29))), (a 30, .inl (k 30, 40, .inl (F 30))), (a 31, .inl (k 31, 1600, .inl (F 31))), (a 32, .inl (k 32, 40, .inl (F 32))), (a 34, .inl (k 34, 40, .inl (F 34))), (a 35, .inl (k 35, 40, .inl (F 35))), (a 36, .inl (k 36, 40, .inl (F 36))), (a 37, .inl (k 37, 40, .inl (F 37))), (a 40, .inl (k 40, 40, .inl (F 40))), (a 41, .inl (k 41, 40, .inl (F 41))), (a 42, .inl (k 42, 2000, .inl (F 42))), (a 43, .inl (k 43, 2000, .inl (F 43))), (a 44, .inl (k 44, 2000, .inl (F 44)))]
set_option maxHeartbeats 1000000 in
theorem mW_set_0 (h : Nat) (a : Nat → Nat) (k : Nat → ClassId) (F : Nat → Nat → Int32) (V : Nat → Int32) (g : Nat → Int32) : (mW h a k F V).set 1 (a 0, .inl (k 0, 40, .inl g)) = mW h a k (va_up F 0 g) V := by simp [mW, va_up]
set_option maxHeartbeats 1000000 in
theorem mW_set_1 (h : Nat) (a : Nat → Nat) (k : Nat → ClassId) (F : Nat → Nat → Int32) (V : Nat → Int32) (g : Nat → Int32) : (mW h a k F V).set 2 (a 1, .inl (k 1, 40, .inl g)) = mW h a k (va_up F 1 g) V := by simp [mW, va_up]
set_option maxHeartbeats 1000000 in
theorem mW_set_2 (h : Nat) (a : Nat → Nat) (k : Nat → ClassId) (F : Nat → Nat → Int32) (V : Nat → Int32) (g : Nat → Int32) : (mW h a k F V).set 3 (a 2, .inl (k 2, 40, .inl g)) = mW h a k (va_up F 2 g) V := by simp [mW, va_up]
set_option maxHeartbeats 1000000 in
theorem mW_set_3 (h : Nat) (a : Nat → Nat) (k : Nat → ClassId) (F : Nat → Nat → Int32) (V : Nat → Int32) (g : Nat → Int32) : (mW h a k F V).set 4 (a 3, .inl (k 3, 320, .inl g)) = mW h a k (va_up F 3 g) V := by simp [mW, va_up]
set_option maxHeartbeats 1000000 in
theorem mW_set_4 (h : Nat) (a : Nat → Nat) (k : Nat → ClassId) (F : Nat → Nat → Int32) (V : Nat → Int32) (g : Nat → Int32) : (mW h a k F V).set 5 (a 4, .inl (k 4, 40, .inl g)) = mW h a k (va_up F 4 g) V := by simp [mW, va_up]
set_option maxHeartbeats 1000000 in
theorem mW_set_5 (h : Nat) (a : Nat → Nat) (k : Nat → ClassId) (F : Nat → Nat → Int32) (V : Nat → Int32) (g : Nat → Int32) : (mW h a k F V).set 6 (a 5, .inl (k 5, 40, .inl g)) = mW h a k (va_up F 5 g) V := by simp [mW, va_up]
set_option maxHeartbeats 1000000 in
theorem mW_set_6 (h : Nat) (a : Nat → Nat) (k : Nat → ClassId) (F : Nat → Nat → Int32) (V : Nat → Int32) (g : Nat → Int32) : (mW h a k F V).set 7 (a 6, .inl (k 6, 40, .inl g)) = mW h a k (va_up F 6 g) V := by simp [mW, va_up]
set_option maxHeartbeats 1000000 in
theorem mW_set_7 (h : Nat) (a : Nat → Nat) (k : Nat → ClassId) (F : Nat → Nat → Int32) (V : Nat → Int32) (g : Nat → Int32) : (mW h a k F V).set 8 (a 7, .inl (k 7, 40, .inl g)) = mW h a k (va_up F 7 g) V := by simp [mW, va_up]
set_option maxHeartbeats 1000000 in
theorem mW_set_8 (h : Nat) (a : Nat → Nat) (k : Nat → ClassId) (F : Nat → Nat → Int32) (V : Nat → Int32) (g : Nat → Int32) : (mW h a k F V).set 9 (a 8, .inl (k 8, 40, .inl g)) = mW h a k (va_up F 8 g) V := by simp [mW, va_up]
set_option maxHeartbeats 1000000 in
theorem mW_set_9 (h : Nat) (a : Nat → Nat) (k : Nat → ClassId) (F : Nat → Nat → Int32) (V : Nat → Int32) (g : Nat → Int32) : (mW h a k F V).set 10 (a 9, .inl (k 9, 40, .inl g)) = mW h a k (va_up F 9 g) V := by simp [mW, va_up]
set_option maxHeartbeats 1000000 in
theorem mW_set_10 (h : Nat) (a : Nat → Nat) (k : Nat → ClassId) (F : Nat → Nat → Int32) (V : Nat → Int32) (g : Nat → Int32) : (mW h a k F V).set 11 (a 10, .inl (k 10, 40, .inl g)) = mW h a k (va_up F 10 g) V := by simp [mW, va_up]
set_option maxHeartbeats 1000000 in
theorem mW_set_11 (h : Nat) (a : Nat → Nat) (k : Nat → ClassId) (F : Nat → Nat → Int32) (V : Nat → Int32) (g : Nat → Int32) : (mW h a k F V).set 12 (a 11, .inl (k 11, 40, .inl g)) = mW h a k (va_up F 11 g) V := by simp [mW, va_up]
set_option maxHeartbeats 1000000 in
theorem mW_set_12 (h : Nat) (a : Nat → Nat) (k : Nat → ClassId) (F : Nat → Nat → Int32) (V : Nat → Int32) (g : Nat → Int32) : (mW h a k F V).set 13 (a 12, .inl (k 12, 40, .inl g)) = mW h a k (va_up F 12 g) V := by simp [mW, va_up]
set_option maxHeartbeats 1000000 in
theorem mW_set_13 (h : Nat) (a : Nat → Nat) (k : Nat → ClassId) (F : Nat → Nat → Int32) (V : Nat → Int32) (g : Nat → Int32) : (mW h a k F V).set 14 (a 13, .inl (k 13, 400, .inl g)) = mW h a k (va_up F 13 g) V := by simp [mW, va_up]
set_option maxHeartbeats 1000000 in
theorem mW_set_14 (h : Nat) (a : Nat → Nat) (k : Nat → ClassId) (F : Nat → Nat → Int32) (V : Nat → Int32) (g : Nat → Int32) : (mW h a k F V).set 15 (a 14, .inl (k 14, 40, .inl g)) = mW h a k (va_up F 14 g) V := by simp [mW, va_up]
set_option maxHeartbeats 1000000 in
theorem mW_set_15 (h : Nat) (a : Nat → Nat) (k : Nat → ClassId) (F : Nat → Nat → Int32) (V : Nat → Int32) (g : Nat → Int32) : (mW h a k F V).set 16 (a 15, .inl (k 15, 40, .inl g)) = mW h a k (va_up F 15 g) V := by simp [mW, va_up]
set_option maxHeartbeats 1000000 in
theorem mW_set_16 (h : Nat) (a : Nat → Nat) (k : Nat → ClassId) (F : Nat → Nat → Int32) (V : Nat → Int32) (g : Nat → Int32) : (mW h a k F V).set 17 (a 16, .inl (k 16, 40, .inl g)) = mW h a k (va_up F 16 g) V := by simp [mW, va_up]
set_option maxHeartbeats 1000000 in
theorem mW_set_17 (h : Nat) (a : Nat → Nat) (k : Nat → ClassId) (F : Nat → Nat → Int32) (V : Nat → Int32) (g : Nat → Int32) : (mW h a k F V).set 18 (a 17, .inl (k 17, 800, .inl g)) = mW h a k (va_up F 17 g) V := by simp [mW, va_up]
set_option maxHeartbeats 1000000 in
theorem mW_set_18 (h : Nat) (a : Nat → Nat) (k : Nat → ClassId) (F : Nat → Nat → Int32) (V : Nat → Int32) (g : Nat → Int32) : (mW h a k F V).set 19 (a 18, .inl (k 18, 40, .inl g)) = mW h a k (va_up F 18 g) V := by simp [mW, va_up]
set_option maxHeartbeats 1000000 in
theorem mW_set_19 (h : Nat) (a : Nat → Nat) (k : Nat → ClassId) (F : Nat → Nat → Int32) (V : Nat → Int32) (g : Nat → Int32) : (mW h a k F V).set 20 (a 19, .inl (k 19, 6400, .inl g)) = mW h a k (va_up F 19 g) V := by simp [mW, va_up]
set_option maxHeartbeats 1000000 in
theorem mW_set_25 (h : Nat) (a : Nat → Nat) (k : Nat → ClassId) (F : Nat → Nat → Int32) (V : Nat → Int32) (g : Nat → Int32) : (mW h a k F V).set 21 (a 25, .inl (k 25, 40, .inl g)) = mW h a k (va_up F 25 g) V := by simp [mW, va_up]
set_option maxHeartbeats 1000000 in
theorem mW_set_26 (h : Nat) (a : Nat → Nat) (k : Nat → ClassId) (F : Nat → Nat → Int32) (V : Nat → Int32) (g : Nat → Int32) : (mW h a k F V).set 22 (a 26, .inl (k 26, 40, .inl g)) = mW h a k (va_up F 26 g) V := by simp [mW, va_up]
set_option maxHeartbeats 1000000 in
theorem mW_set_27 (h : Nat) (a : Nat → Nat) (k : Nat → ClassId) (F : Nat → Nat → Int32) (V : Nat → Int32) (g : Nat → Int32) : (mW h a k F V).set 23 (a 27, .inl (k 27, 40, .inl g)) = mW h a k (va_up F 27 g) V := by simp [mW, va_up]
set_option maxHeartbeats 1000000 in
theorem mW_set_28 (h : Nat) (a : Nat → Nat) (k : Nat → ClassId) (F : Nat → Nat → Int32) (V : Nat → Int32) (g : Nat → Int32) : (mW h a k F V).set 24 (a 28, .inl (k 28, 40, .inl g)) = mW h a k (va_up F 28 g) V := by simp [mW, va_up]
set_option maxHeartbeats 1000000 in
theorem mW_set_29 (h : Nat) (a : Nat → Nat) (k : Nat → ClassId) (F : Nat → Nat → Int32) (V : Nat → Int32) (g : Nat → Int32) : (mW h a k F V).set 25 (a 29, .inl (k 29, 40, .inl g)) = mW h a k (va_up F 29 g) V := by simp [mW, va_up]
set_option maxHeartbeats 1000000 in
theorem mW_set_30 (h : Nat) (a : Nat → Nat) (k : Nat → ClassId) (F : Nat → Nat → Int32) (V : Nat → Int32) (g : Nat → Int32) : (mW h a k F V).set 26 (a 30, .inl (k 30, 40, .inl g)) = mW h a k (va_up F 30 g) V := by simp [mW, va_up]
set_option maxHeartbeats 1000000 in
theorem mW_set_31 (h : Nat) (a : Nat → Nat) (k : Nat → ClassId) (F : Nat → Nat → Int32) (V : Nat → Int32) (g : Nat → Int32) : (mW h a k F V).set 27 (a 31, .inl (k 31, 1600, .inl g)) = mW h a k (va_up F 31 g) V := by simp [mW, va_up]
set_option maxHeartbeats 1000000 in
theorem mW_set_32 (h : Nat) (a : Nat → Nat) (k : Nat → ClassId) (F : Nat → Nat → Int32) (V : Nat → Int32) (g : Nat → Int32) : (mW h a k F V).set 28 (a 32, .inl (k 32, 40, .inl g)) = mW h a k (va_up F 32 g) V := by simp [mW, va_up]
set_option maxHeartbeats 1000000 in
theorem mW_set_34 (h : Nat) (a : Nat → Nat) (k : Nat → ClassId) (F : Nat → Nat → Int32) (V : Nat → Int32) (g : Nat → Int32) : (mW h a k F V).set 29 (a 34, .inl (k 34, 40, .inl g)) = mW h a k (va_up F 34 g) V := by simp [mW, va_up]
set_option maxHeartbeats 1000000 in
theorem mW_set_35 (h : Nat) (a : Nat → Nat) (k : Nat → ClassId) (F : Nat → Nat → Int32) (V : Nat → Int32) (g : Nat → Int32) : (mW h a k F V).set 30 (a 35, .inl (k 35, 40, .inl g)) = mW h a k (va_up F 35 g) V := by simp [mW, va_up]
set_option maxHeartbeats 1000000 in
theorem mW_set_36 (h : Nat) (a : Nat → Nat) (k : Nat → ClassId) (F : Nat → Nat → Int32) (V : Nat → Int32) (g : Nat → Int32) : (mW h a k F V).set 31 (a 36, .inl (k 36, 40, .inl g)) = mW h a k (va_up F 36 g) V := by simp [mW, va_up]
set_option maxHeartbeats 1000000 in
theorem mW_set_37 (h : Nat) (a : Nat → Nat) (k : Nat → ClassId) (F : Nat → Nat → Int32) (V : Nat → Int32) (g : Nat → Int32) : (mW h a k F V).set 32 (a 37, .inl (k 37, 40, .inl g)) = mW h a k (va_up F 37 g) V := by simp [mW, va_up]
set_option maxHeartbeats 1000000 in
theorem mW_set_40 (h : Nat) (a : Nat → Nat) (k : Nat → ClassId) (F : Nat → Nat → Int32) (V : Nat → Int32) (g : Nat → Int32) : (mW h a k F V).set 33 (a 40, .inl (k 40, 40, .inl g)) = mW h a k (va_up F 40 g) V := by simp [mW, va_up]
set_option maxHeartbeats 1000000 in
theorem mW_set_41 (h : Nat) (a : Nat → Nat) (k : Nat → ClassId) (F : Nat → Nat → Int32) (V : Nat → Int32) (g : Nat → Int32) : (mW h a k F V).set 34 (a 41, .inl (k 41, 40, .inl g)) = mW h a k (va_up F 41 g) V := by simp [mW, va_up]
set_option maxHeartbeats 1000000 in
theorem mW_set_42 (h : Nat) (a : Nat → Nat) (k : Nat → ClassId) (F : Nat → Nat → Int32) (V : Nat → Int32) (g : Nat → Int32) : (mW h a k F V).set 35 (a 42, .inl (k 42, 2000, .inl g)) = mW h a k (va_up F 42 g) V := by simp [mW, va_up]
set_option maxHeartbeats 1000000 in
theorem mW_set_43 (h : Nat) (a : Nat → Nat) (k : Nat → ClassId) (F : Nat → Nat → Int32) (V : Nat → Int32) (g : Nat → Int32) : (mW h a k F V).set 36 (a 43, .inl (k 43, 2000, .inl g)) = mW h a k (va_up F 43 g) V := by simp [mW, va_up]
set_option maxHeartbeats 1000000 in
theorem mW_set_44 (h : Nat) (a : Nat → Nat) (k : Nat → ClassId) (F : Nat → Nat → Int32) (V : Nat → Int32) (g : Nat → Int32) : (mW h a k F V).set 37 (a 44, .inl (k 44, 2000, .inl g)) = mW h a k (va_up F 44 g) V := by simp [mW, va_up]
set_option maxHeartbeats 1000000 in
theorem mW_put_20 (h : Nat) (a : Nat → Nat) (k : Nat → ClassId) (F : Nat → Nat → Int32) (V : Nat → Int32) (x : Int32) : (mW h a k F V).set 0 (h, .inr (10, (mF a V).set 20 (.int x))) = mW h a k F (va_up V 20 x) := by simp [mW, mF, va_up]
set_option maxHeartbeats 1000000 in
theorem mW_put_21 (h : Nat) (a : Nat → Nat) (k : Nat → ClassId) (F : Nat → Nat → Int32) (V : Nat → Int32) (x : Int32) : (mW h a k F V).set 0 (h, .inr (10, (mF a V).set 21 (.int x))) = mW h a k F (va_up V 21 x) := by simp [mW, mF, va_up]
set_option maxHeartbeats 1000000 in
theorem mW_put_22 (h : Nat) (a : Nat → Nat) (k : Nat → ClassId) (F : Nat → Nat → Int32) (V : Nat → Int32) (x : Int32) : (mW h a k F V).set 0 (h, .inr (10, (mF a V).set 22 (.int x))) = mW h a k F (va_up V 22 x) := by simp [mW, mF, va_up]
set_option maxHeartbeats 1000000 in
theorem mW_put_23 (h : Nat) (a : Nat → Nat) (k : Nat → ClassId) (F : Nat → Nat → Int32) (V : Nat → Int32) (x : Int32) : (mW h a k F V).set 0 (h, .inr (10, (mF a V).set 23 (.int x))) = mW h a k F (va_up V 23 x) := by simp [mW, mF, va_up]
set_option maxHeartbeats 1000000 in
theorem mW_put_24 (h : Nat) (a : Nat → Nat) (k : Nat → ClassId) (F : Nat → Nat → Int32) (V : Nat → Int32) (x : Int32) : (mW h a k F V).set 0 (h, .inr (10, (mF a V).set 24 (.int x))) = mW h a k F (va_up V 24 x) := by simp [mW, mF, va_up]
set_option maxHeartbeats 1000000 in
theorem mW_put_33 (h : Nat) (a : Nat → Nat) (k : Nat → ClassId) (F : Nat → Nat → Int32) (V : Nat → Int32) (x : Int32) : (mW h a k F V).set 0 (h, .inr (10, (mF a V).set 33 (.int x))) = mW h a k F (va_up V 33 x) := by simp [mW, mF, va_up]
set_option maxHeartbeats 1000000 in
theorem mW_put_38 (h : Nat) (a : Nat → Nat) (k : Nat → ClassId) (F : Nat → Nat → Int32) (V : Nat → Int32) (x : Int32) : (mW h a k F V).set 0 (h, .inr (10, (mF a V).set 38 (.int x))) = mW h a k F (va_up V 38 x) := by simp [mW, mF, va_up]
set_option maxHeartbeats 1000000 in
theorem mW_put_39 (h : Nat) (a : Nat → Nat) (k : Nat → ClassId) (F : Nat → Nat → Int32) (V : Nat → Int32) (x : Int32) : (mW h a k F V).set 0 (h, .inr (10, (mF a V).set 39 (.int x))) = mW h a k F (va_up V 39 x) := by simp [mW, mF, va_up]
set_option maxHeartbeats 1000000 in
theorem mW_put_45 (h : Nat) (a : Nat → Nat) (k : Nat → ClassId) (F : Nat → Nat → Int32) (V : Nat → Int32) (x : Int32) : (mW h a k F V).set 0 (h, .inr (10, (mF a V).set 45 (.int x))) = mW h a k F (va_up V 45 x) := by simp [mW, mF, va_up]
def mT (k : Nat → ClassId) : List (ClassId × FieldType) := [(k 0, .int), (k 1, .int), (k 2, .int), (k 3, .int), (k 4, .int), (k 5, .int), (k 6, .int), (k 7, .int), (k 8, .int), (k 9, .int), (k 10, .int), (k 11, .boolean), (k 12, .int), (k 13, .int), (k 14, .int), (k 15, .int), (k 16, .int), (k 17, .int), (k 18, .int), (k 19, .boolean), (k 25, .int), (k 26, .boolean), (k 27, .boolean), (k 28, .boolean), (k 29, .boolean), (k 30, .int), (k 31, .boolean), (k 32, .int), (k 34, .int), (k 35, .int), (k 36, .int), (k 37, .int), (k 40, .int), (k 41, .int), (k 42, .int), (k 43, .int), (k 44, .int)]
/-- what holds of the model between any two of its steps; b: a bound of the changes so far -/
def InvM (n b : Nat) (F : Nat → Nat → Int32) (V : Nat → Int32) : Prop := n ≤ 40 ∧ V 21 = nI n ∧ (∃ p : Nat, p ≤ 40 ∧ V 38 = nI p) ∧ (∃ c : Nat, c ≤ b ∧ V 45 = nI c) ∧ (∀ j : Nat, ∃ x : Nat, x ≤ b ∧ F 9 j = nI x) ∧ (∀ j : Nat, ∃ x : Nat, x ≤ 10 ∧ F 14 j = nI x) ∧ (∀ j : Nat, ∃ x : Nat, x ≤ 20 ∧ F 18 j = nI x) ∧ (∀ j : Nat, F 19 j = 0 ∨ F 19 j = 1)
/-- what most methods leave as it is: kinds, lives, the tick -/
def FrM (F : Nat → Nat → Int32) (V : Nat → Int32) (F' : Nat → Nat → Int32) (V' : Nat → Int32) : Prop := True
def StM (n b : Nat) (F : Nat → Nat → Int32) (V : Nat → Int32) (F' : Nat → Nat → Int32) (V' : Nat → Int32) : Prop := InvM n b F' V' ∧ FrM F V F' V'
theorem InvM.mono {n b b' : Nat} {F : Nat → Nat → Int32} {V : Nat → Int32} (h : InvM n b F V) (hb : b ≤ b') : InvM n b' F V := by
  obtain ⟨h1, h2, h3, ⟨c, hc, ec⟩, h5, h6, h7, h8⟩ := h
  exact ⟨h1, h2, h3, ⟨c, by omega, ec⟩, fun j => by obtain ⟨x, hx, ex⟩ := h5 j; exact ⟨x, by omega, ex⟩, h6, h7, h8⟩
theorem StM.rf {n b : Nat} {F : Nat → Nat → Int32} {V : Nat → Int32} (h : InvM n b F V) : StM n b F V F V := ⟨h, trivial⟩
theorem StM.mono {n b b' : Nat} {F F' : Nat → Nat → Int32} {V V' : Nat → Int32} (h : StM n b F V F' V') (hb : b ≤ b') : StM n b' F V F' V' := ⟨h.1.mono hb, h.2⟩
theorem StM.trans {n b b' : Nat} {F F' F2 : Nat → Nat → Int32} {V V' V2 : Nat → Int32} (h : StM n b F V F' V') (g : StM n b' F' V' F2 V2) : StM n b' F V F2 V2 := ⟨g.1, trivial⟩
theorem StM.keep {n b : Nat} {F F' F2 : Nat → Nat → Int32} {V V' V2 : Nat → Int32} (h : StM n b F V F' V') (e0 : F2 0 = F' 0) (e3 : F2 3 = F' 3) (e9 : F2 9 = F' 9) (e14 : F2 14 = F' 14) (e18 : F2 18 = F' 18) (e19 : F2 19 = F' 19) (v21 : V2 21 = V' 21) (v22 : V2 22 = V' 22) (v38 : V2 38 = V' 38) (v45 : V2 45 = V' 45) : StM n b F V F2 V2 := by
  obtain ⟨⟨h1, h2, h3, h4, h5, h6, h7, h8⟩, -⟩ := h
  exact ⟨⟨h1, v21.trans h2, by rw [v38]; exact h3, by rw [v45]; exact h4, by rw [e9]; exact h5, by rw [e14]; exact h6, by rw [e18]; exact h7, by rw [e19]; exact h8⟩, trivial⟩
theorem mw_up {α : Type} {f g : Nat → α} {k : Nat} {v : α} {WR : List Nat} (hk : k ∈ WR) (h : ∀ j : Nat, j ∉ WR → f j = g j) : ∀ j : Nat, j ∉ WR → va_up f k v j = g j := by
  intro j hj
  have e : j ≠ k := fun e => hj (by rw [e]; exact hk)
  unfold va_up
  rw [if_neg e]
  exact h j hj
theorem mw_tr {α : Type} {f g f2 : Nat → α} {W1 WR : List Nat} (hs : ∀ j : Nat, j ∈ W1 → j ∈ WR) (h1 : ∀ j : Nat, j ∉ W1 → f2 j = f j) (h : ∀ j : Nat, j ∉ WR → f j = g j) : ∀ j : Nat, j ∉ WR → f2 j = g j := fun j hj => (h1 j (fun q => hj (hs j q))).trans (h j hj)
/-- how many of the first k are 0 -/
def zc (f : Nat → Int32) : Nat → Nat
  | 0 => 0
  | k + 1 => zc f k + (if f k = 0 then 1 else 0)
theorem zc_le (f : Nat → Int32) : ∀ k : Nat, zc f k ≤ k
  | 0 => Nat.le_refl 0
  | k + 1 => by
    have := zc_le f k
    show zc f k + (if f k = 0 then 1 else 0) ≤ k + 1
    split <;> omega
theorem zc_un {f : Nat → Int32} {i : Nat} {x : Int32} : ∀ k : Nat, k ≤ i → zc (upd f i x) k = zc f k
  | 0, _ => rfl
  | k + 1, h => by
    show zc (upd f i x) k + (if upd f i x k = 0 then 1 else 0) = zc f k + (if f k = 0 then 1 else 0)
    rw [zc_un k (by omega), pk_un (show k ≠ i by omega)]
theorem zc_lt {f : Nat → Int32} {i : Nat} {x : Int32} (h0 : f i = 0) (hx : ¬ x = 0) : ∀ k : Nat, i < k → zc (upd f i x) k < zc f k
  | 0, h => absurd h (by omega)
  | k + 1, h => by
    show zc (upd f i x) k + (if upd f i x k = 0 then 1 else 0) < zc f k + (if f k = 0 then 1 else 0)
    by_cases e : i = k
    · subst e
      rw [zc_un i (Nat.le_refl i), pk_us, if_neg hx, if_pos h0]
      omega
    · have := zc_lt h0 hx k (by omega)
      rw [pk_un (show k ≠ i by omega)]
      omega
/-- 0 where it isn't v -/
def nz (v : Int32) (f : Nat → Int32) : Nat → Int32 := fun j => if f j = v then 1 else 0
theorem nz_upd {v : Int32} {f : Nat → Int32} {i : Nat} : nz v (upd f i v) = upd (nz v f) i 1 := by
  funext j
  by_cases e : j = i
  · subst e; simp [nz, upd]
  · simp [nz, upd, e]
theorem nz_lt {v : Int32} {f : Nat → Int32} {i k : Nat} (h : ¬ f i = v) (hi : i < k) : zc (nz v (upd f i v)) k < zc (nz v f) k := by
  rw [nz_upd]
  exact zc_lt (by simp [nz, h]) (by decide) k hi
/-- 0 where it is 1 or 2 -/
def nu (f : Nat → Int32) : Nat → Int32 := fun j => if f j = 1 ∨ f j = 2 then 0 else 1
theorem nu_lt {f : Nat → Int32} {i k : Nat} {x : Int32} (h : f i = 1 ∨ f i = 2) (hx : ¬ (x = 1 ∨ x = 2)) (hi : i < k) : zc (nu (upd f i x)) k < zc (nu f) k := by
  have e : nu (upd f i x) = upd (nu f) i 1 := by
    funext j
    by_cases e : j = i
    · subst e; simp [nu, upd, hx]
    · simp [nu, upd, e]
  rw [e]
  exact zc_lt (by simp [nu, h]) (by decide) k hi
theorem rng_upd {B : Nat} {f : Nat → Int32} {i x : Nat} (h : ∀ j : Nat, ∃ y : Nat, y ≤ B ∧ f j = nI y) (hx : x ≤ B) : ∀ j : Nat, ∃ y : Nat, y ≤ B ∧ upd f i (nI x) j = nI y := by
  intro j
  by_cases e : j = i
  · subst e; exact ⟨x, hx, pk_us⟩
  · obtain ⟨y, hy, ey⟩ := h j; exact ⟨y, hy, (pk_un e).trans ey⟩
theorem InvM.setF {n b : Nat} {F : Nat → Nat → Int32} {V : Nat → Int32} {j : Nat} {g : Nat → Int32} (h : InvM n b F V) (hj : j ≠ 9 ∧ j ≠ 14 ∧ j ≠ 18 ∧ j ≠ 19) : InvM n b (va_up F j g) V := by
  obtain ⟨h1, h2, h3, h4, h5, h6, h7, h8⟩ := h
  have e9 : va_up F j g 9 = F 9 := va_up_ne F g hj.1.symm
  have e14 : va_up F j g 14 = F 14 := va_up_ne F g hj.2.1.symm
  have e18 : va_up F j g 18 = F 18 := va_up_ne F g hj.2.2.1.symm
  have e19 : va_up F j g 19 = F 19 := va_up_ne F g hj.2.2.2.symm
  exact ⟨h1, h2, h3, h4, by rw [e9]; exact h5, by rw [e14]; exact h6, by rw [e18]; exact h7, by rw [e19]; exact h8⟩
theorem InvM.setV {n b : Nat} {F : Nat → Nat → Int32} {V : Nat → Int32} {j : Nat} {x : Int32} (h : InvM n b F V) (hj : j ≠ 21 ∧ j ≠ 38 ∧ j ≠ 45) : InvM n b F (va_up V j x) := by
  obtain ⟨h1, h2, h3, h4, h5, h6, h7, h8⟩ := h
  have e21 : va_up V j x 21 = V 21 := va_up_ne V x hj.1.symm
  have e38 : va_up V j x 38 = V 38 := va_up_ne V x hj.2.1.symm
  have e45 : va_up V j x 45 = V 45 := va_up_ne V x hj.2.2.symm
  exact ⟨h1, e21.trans h2, by rw [e38]; exact h3, by rw [e45]; exact h4, h5, h6, h7, h8⟩
theorem InvM.set9 {n b : Nat} {F : Nat → Nat → Int32} {V : Nat → Int32} {i x : Nat} (h : InvM n b F V) (hx : x ≤ b) : InvM n b (va_up F 9 (upd (F 9) i (nI x))) V := by
  obtain ⟨h1, h2, h3, h4, h5, h6, h7, h8⟩ := h
  exact ⟨h1, h2, h3, h4, by rw [va_up_self]; exact rng_upd h5 hx, by rw [va_up_ne F _ (by decide)]; exact h6, by rw [va_up_ne F _ (by decide)]; exact h7, by rw [va_up_ne F _ (by decide)]; exact h8⟩
theorem InvM.set14 {n b : Nat} {F : Nat → Nat → Int32} {V : Nat → Int32} {i x : Nat} (h : InvM n b F V) (hx : x ≤ 10) : InvM n b (va_up F 14 (upd (F 14) i (nI x))) V := by
  obtain ⟨h1, h2, h3, h4, h5, h6, h7, h8⟩ := h
  exact ⟨h1, h2, h3, h4, by rw [va_up_ne F _ (by decide)]; exact h5, by rw [va_up_self]; exact rng_upd h6 hx, by rw [va_up_ne F _ (by decide)]; exact h7, by rw [va_up_ne F _ (by decide)]; exact h8⟩
theorem InvM.set18 {n b : Nat} {F : Nat → Nat → Int32} {V : Nat → Int32} {i x : Nat} (h : InvM n b F V) (hx : x ≤ 20) : InvM n b (va_up F 18 (upd (F 18) i (nI x))) V := by
  obtain ⟨h1, h2, h3, h4, h5, h6, h7, h8⟩ := h
  exact ⟨h1, h2, h3, h4, by rw [va_up_ne F _ (by decide)]; exact h5, by rw [va_up_ne F _ (by decide)]; exact h6, by rw [va_up_self]; exact rng_upd h7 hx, by rw [va_up_ne F _ (by decide)]; exact h8⟩
theorem InvM.set19 {n b : Nat} {F : Nat → Nat → Int32} {V : Nat → Int32} {i : Nat} {x : Int32} (h : InvM n b F V) (hx : x = 0 ∨ x = 1) : InvM n b (va_up F 19 (upd (F 19) i x)) V := by
  obtain ⟨h1, h2, h3, h4, h5, h6, h7, h8⟩ := h
  refine ⟨h1, h2, h3, h4, by rw [va_up_ne F _ (by decide)]; exact h5, by rw [va_up_ne F _ (by decide)]; exact h6, by rw [va_up_ne F _ (by decide)]; exact h7, ?_⟩
  rw [va_up_self]
  intro j
  by_cases e : j = i
  · subst e; rw [pk_us]; exact hx
  · rw [pk_un e]; exact h8 j
theorem InvM.put45 {n b : Nat} {F : Nat → Nat → Int32} {V : Nat → Int32} {x : Nat} (h : InvM n b F V) (hx : x ≤ b) : InvM n b F (va_up V 45 (nI x)) := by
  obtain ⟨h1, h2, h3, h4, h5, h6, h7, h8⟩ := h
  exact ⟨h1, (va_up_ne V _ (by decide)).trans h2, by rw [va_up_ne V _ (by decide)]; exact h3, ⟨x, hx, va_up_self V 45 _⟩, h5, h6, h7, h8⟩
theorem InvM.put38 {n b : Nat} {F : Nat → Nat → Int32} {V : Nat → Int32} {x : Nat} (h : InvM n b F V) (hx : x ≤ 40) : InvM n b F (va_up V 38 (nI x)) := by
  obtain ⟨h1, h2, h3, h4, h5, h6, h7, h8⟩ := h
  exact ⟨h1, (va_up_ne V _ (by decide)).trans h2, ⟨x, hx, va_up_self V 38 _⟩, by rw [va_up_ne V _ (by decide)]; exact h4, h5, h6, h7, h8⟩
theorem InvM.put21 {n b : Nat} {F : Nat → Nat → Int32} {V : Nat → Int32} (h : InvM n b F V) (hn : n < 40) : InvM (n + 1) b F (va_up V 21 (nI (n + 1))) := by
  obtain ⟨h1, h2, h3, h4, h5, h6, h7, h8⟩ := h
  exact ⟨hn, va_up_self V 21 _, by rw [va_up_ne V _ (by decide)]; exact h3, by rw [va_up_ne V _ (by decide)]; exact h4, h5, h6, h7, h8⟩
theorem mw_nb {x : Int32} (h : x = 0 ∨ x = 1) : narrow .boolean (.int x) = .int x := by rcases h with rfl | rfl <;> rfl
theorem mw_o {x : Int32} (h0 : ¬ x < 0) (h1 : ¬ 3 < x) : ∃ j : Nat, j < 4 ∧ x = nI j := by
  obtain ⟨j, hj, e⟩ := nI_of2 (x := x) (M := 3) (n := 3) (by decide) h0 (Int32.not_lt.mp h1)
  exact ⟨j, by omega, e⟩
section MWQ
variable {p : Program} {l : Launch} {e : Env} {R : Room} {s : State} {m : MethodId} {args : Array Value} {below : List Frame} {meth : Method} {c : Code} {H : Heap} {locs : List Loc} {cells slots : Nat} {Q : State → Prop}
theorem mw_Q {g : JFrame} (h : ∀ Q0 : State → Prop, Q0 = Q → W p l e R s m args below meth c H locs cells slots Q0 g) : W p l e R s m args below meth c H locs cells slots Q g := h _ rfl
end MWQ
theorem mw_free {A0 : Nat → Prop} {ws : va_W} {H0 H : Heap} {locs : List Loc} (hD : va_D A0 ws) (hS : va_S A0 H0 H locs) (hA : ∀ q, H0.size ≤ q → A0 q) : ∀ q, va_A ws H.size q → A0 q := by
  intro q h
  rcases h with ⟨k, e, h⟩ | h
  · exact hD.2 k (q, e) h
  · exact hA q (Nat.le_trans hS.1 h)
theorem mw_nI {x : Int32} {n : Nat} (hn : n < 2147483648) (h0 : ¬ x < 0) (h1 : ¬ nI n ≤ x) : ∃ j : Nat, j < n ∧ x = nI j := by
  rcases pk_ix x hn with h | h | h
  · exact absurd h h0
  · exact absurd h h1
  · exact h

