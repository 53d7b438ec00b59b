def jb {α β : Type} (r : α) (k : α → β) : β := k r
theorem jb_gen {α β : Type} {r : α} {k : α → β} {R : β} (h : R = jb r k) : ∃ K : α, K = r ∧ R = k K := ⟨r, rfl, h⟩
def bnd {α β : Type} (a : α) (k : α → β) : β := k a
theorem bnd_s {α β : Type} {a x : α} {k : α → β} {R : β} (h : R = bnd a k) (e : x = a) : R = k x := by rw [h, e]; rfl
theorem ite_t {α : Type} {c : Prop} [Decidable c] {A B R : α} (h : R = ite c A B) (hc : c) : R = A := by rw [h, if_pos hc]
theorem ite_f {α : Type} {c : Prop} [Decidable c] {A B R : α} (h : R = ite c A B) (hc : ¬ c) : R = B := by rw [h, if_neg hc]
theorem lp_gen {α β : Type} {f : α → β} {k : α} {R : β} (h : R = f k) : ∃ K : α, K = k ∧ R = f K := ⟨k, rfl, h⟩
def bn2 {α0 α1 β : Type} (a : α0 × α1) (k : α0 → α1 → β) : β := k (a.1) (a.2)
theorem bn2_s {α0 α1 β : Type} {a : α0 × α1} {x0 : α0} {x1 : α1} {k : α0 → α1 → β} {R : β} (h : R = bn2 a k) (e : (x0, x1) = a) : R = k x0 x1 := by rw [h, ← e]; rfl
def bn3 {α0 α1 α2 β : Type} (a : α0 × α1 × α2) (k : α0 → α1 → α2 → β) : β := k (a.1) (a.2.1) (a.2.2)
theorem bn3_s {α0 α1 α2 β : Type} {a : α0 × α1 × α2} {x0 : α0} {x1 : α1} {x2 : α2} {k : α0 → α1 → α2 → β} {R : β} (h : R = bn3 a k) (e : (x0, x1, x2) = a) : R = k x0 x1 x2 := by rw [h, ← e]; rfl
def bn4 {α0 α1 α2 α3 β : Type} (a : α0 × α1 × α2 × α3) (k : α0 → α1 → α2 → α3 → β) : β := k (a.1) (a.2.1) (a.2.2.1) (a.2.2.2)
theorem bn4_s {α0 α1 α2 α3 β : Type} {a : α0 × α1 × α2 × α3} {x0 : α0} {x1 : α1} {x2 : α2} {x3 : α3} {k : α0 → α1 → α2 → α3 → β} {R : β} (h : R = bn4 a k) (e : (x0, x1, x2, x3) = a) : R = k x0 x1 x2 x3 := by rw [h, ← e]; rfl
def bn5 {α0 α1 α2 α3 α4 β : Type} (a : α0 × α1 × α2 × α3 × α4) (k : α0 → α1 → α2 → α3 → α4 → β) : β := k (a.1) (a.2.1) (a.2.2.1) (a.2.2.2.1) (a.2.2.2.2)
theorem bn5_s {α0 α1 α2 α3 α4 β : Type} {a : α0 × α1 × α2 × α3 × α4} {x0 : α0} {x1 : α1} {x2 : α2} {x3 : α3} {x4 : α4} {k : α0 → α1 → α2 → α3 → α4 → β} {R : β} (h : R = bn5 a k) (e : (x0, x1, x2, x3, x4) = a) : R = k x0 x1 x2 x3 x4 := by rw [h, ← e]; rfl
def bn6 {α0 α1 α2 α3 α4 α5 β : Type} (a : α0 × α1 × α2 × α3 × α4 × α5) (k : α0 → α1 → α2 → α3 → α4 → α5 → β) : β := k (a.1) (a.2.1) (a.2.2.1) (a.2.2.2.1) (a.2.2.2.2.1) (a.2.2.2.2.2)
theorem bn6_s {α0 α1 α2 α3 α4 α5 β : Type} {a : α0 × α1 × α2 × α3 × α4 × α5} {x0 : α0} {x1 : α1} {x2 : α2} {x3 : α3} {x4 : α4} {x5 : α5} {k : α0 → α1 → α2 → α3 → α4 → α5 → β} {R : β} (h : R = bn6 a k) (e : (x0, x1, x2, x3, x4, x5) = a) : R = k x0 x1 x2 x3 x4 x5 := by rw [h, ← e]; rfl
def bn7 {α0 α1 α2 α3 α4 α5 α6 β : Type} (a : α0 × α1 × α2 × α3 × α4 × α5 × α6) (k : α0 → α1 → α2 → α3 → α4 → α5 → α6 → β) : β := k (a.1) (a.2.1) (a.2.2.1) (a.2.2.2.1) (a.2.2.2.2.1) (a.2.2.2.2.2.1) (a.2.2.2.2.2.2)
theorem bn7_s {α0 α1 α2 α3 α4 α5 α6 β : Type} {a : α0 × α1 × α2 × α3 × α4 × α5 × α6} {x0 : α0} {x1 : α1} {x2 : α2} {x3 : α3} {x4 : α4} {x5 : α5} {x6 : α6} {k : α0 → α1 → α2 → α3 → α4 → α5 → α6 → β} {R : β} (h : R = bn7 a k) (e : (x0, x1, x2, x3, x4, x5, x6) = a) : R = k x0 x1 x2 x3 x4 x5 x6 := by rw [h, ← e]; rfl
theorem lp_app1 {α0 β : Type} {k K : α0 → β} {R : β} {x0 : α0} (h : K = k) (hE : R = K x0) : R = k x0 := by rw [hE, h]
theorem lp_app2 {α0 α1 β : Type} {k K : α0 → α1 → β} {R : β} {x0 : α0} {x1 : α1} (h : K = k) (hE : R = K x0 x1) : R = k x0 x1 := by rw [hE, h]
theorem lp_app3 {α0 α1 α2 β : Type} {k K : α0 → α1 → α2 → β} {R : β} {x0 : α0} {x1 : α1} {x2 : α2} (h : K = k) (hE : R = K x0 x1 x2) : R = k x0 x1 x2 := by rw [hE, h]
theorem lp_app4 {α0 α1 α2 α3 β : Type} {k K : α0 → α1 → α2 → α3 → β} {R : β} {x0 : α0} {x1 : α1} {x2 : α2} {x3 : α3} (h : K = k) (hE : R = K x0 x1 x2 x3) : R = k x0 x1 x2 x3 := by rw [hE, h]
theorem lp_app5 {α0 α1 α2 α3 α4 β : Type} {k K : α0 → α1 → α2 → α3 → α4 → β} {R : β} {x0 : α0} {x1 : α1} {x2 : α2} {x3 : α3} {x4 : α4} (h : K = k) (hE : R = K x0 x1 x2 x3 x4) : R = k x0 x1 x2 x3 x4 := by rw [hE, h]
theorem lp_app6 {α0 α1 α2 α3 α4 α5 β : Type} {k K : α0 → α1 → α2 → α3 → α4 → α5 → β} {R : β} {x0 : α0} {x1 : α1} {x2 : α2} {x3 : α3} {x4 : α4} {x5 : α5} (h : K = k) (hE : R = K x0 x1 x2 x3 x4 x5) : R = k x0 x1 x2 x3 x4 x5 := by rw [hE, h]
theorem lp_app7 {α0 α1 α2 α3 α4 α5 α6 β : Type} {k K : α0 → α1 → α2 → α3 → α4 → α5 → α6 → β} {R : β} {x0 : α0} {x1 : α1} {x2 : α2} {x3 : α3} {x4 : α4} {x5 : α5} {x6 : α6} (h : K = k) (hE : R = K x0 x1 x2 x3 x4 x5 x6) : R = k x0 x1 x2 x3 x4 x5 x6 := by rw [hE, h]
theorem lp_app8 {α0 α1 α2 α3 α4 α5 α6 α7 β : Type} {k K : α0 → α1 → α2 → α3 → α4 → α5 → α6 → α7 → β} {R : β} {x0 : α0} {x1 : α1} {x2 : α2} {x3 : α3} {x4 : α4} {x5 : α5} {x6 : α6} {x7 : α7} (h : K = k) (hE : R = K x0 x1 x2 x3 x4 x5 x6 x7) : R = k x0 x1 x2 x3 x4 x5 x6 x7 := by rw [hE, h]
theorem lp_app9 {α0 α1 α2 α3 α4 α5 α6 α7 α8 β : Type} {k K : α0 → α1 → α2 → α3 → α4 → α5 → α6 → α7 → α8 → β} {R : β} {x0 : α0} {x1 : α1} {x2 : α2} {x3 : α3} {x4 : α4} {x5 : α5} {x6 : α6} {x7 : α7} {x8 : α8} (h : K = k) (hE : R = K x0 x1 x2 x3 x4 x5 x6 x7 x8) : R = k x0 x1 x2 x3 x4 x5 x6 x7 x8 := by rw [hE, h]
theorem xw_pred {x : Int32} {z : Nat} (hz : z ≤ 1000) (h : x < nI z) : x ≤ nI z - 1 := by
  have e : (nI z - 1).toInt = (z : Int) - 1 := pk_sub_toInt (a := z) (b := 1) (by omega) (by omega)
  rw [Int32.le_iff_toInt_le, e]
  rw [Int32.lt_iff_toInt_lt, nI_toInt (by omega)] at h
  omega
