/-! THE CLAIM OUT OF ONE WALK OF THE LAW'S BODY. Your part is whole_start (and what it stands on); all else here is the same for every law, but numbers. -/
def R_law : String := "ServiceTreeLaw"
def lw_P (b : Addr) (xs : List Int32) (args : Array Value) (s : State) : Prop := args = #[.ref b] ∧ s.IntsAt b xs ∧ xs.length ≤ 2560 ∧ (Jvm.Cond.and given_1 narrow_1).before args s = true
def lw_Q (_ : Array Value) (s : State) (o : Outcome) (t : State) : Prop := o = .returned (some (.int 1)) ∧ Framed s o t [] 600000 7302250
def lw_Z (below : List Frame) (a : Array Value) (s : State) : State → Prop := fun t => ∃ o, t.status = .running ∧ Ended t below o ∧ lw_Q a s o t
/-- the law's own end, with 1 on the stack, nothing written that was there before, its room as the claim has it -/
theorem lw_ret {p : Program} {l : Launch} {e : Env} {s : State} {m : MethodId} {below : List Frame} {meth : Method} {c : Code} {b : Nat} (hx : p.tables.exec = Jvm.exec) (hb : c.code = code) (hr : meth.sig.returnType = ret) (hlocks : meth.locks = false) {pc : Nat} {H : Heap} {ls : Array Slot} (hdg : decode code pc = .ok (.ireturn, 1)) : W p l e room_1 s m #[Value.ref b] below meth c H [] 600000 7302250 (lw_Z below #[Value.ref b] s) (F0 m pc ls [.int 1]) := by
  intro T hT X
  obtain ⟨fs, hret, hrun, hended, hW, hframe⟩ := X.leave (v := some (.int 1)) (hlocks := hlocks) (fun h => by rw [hr] at h; cases h)
  have hmeth' : T.vm.method? m = some meth := X.method'
  refine ⟨T.setFrames fs, ?_, .returned (some (.int 1)), hrun, hended, rfl, ⟨_, rfl⟩, hW, hframe⟩
  jvm_step X.here [X.here.top, hx, hb, hdg, hmeth', hr, ret, narrow_b1]
  (try refine ⟨rfl, ?_⟩); (try refine ⟨rfl, ?_⟩)
  first | (intro acts; rw [hret _ acts rfl rfl rfl]) | rw [hret _ _ rfl rfl rfl]
  exact Steps.refl _
/-- what holds at the law's entry: the machine, the code, the tables' words (any of lw_tbl by 'hts w (by decide +kernel)'), the script of L ints xs at the cell b, what the Statement gives of the start (any of its parts by flat_of_before) -/
def lw_At (p : Program) (s : State) (m : MethodId) (meth : Method) (c : Code) (b L : Nat) (xs : Nat → Int32) : Prop :=
  p.tables.exec = Jvm.exec ∧ c.code = code ∧ meth.sig.returnType = ret ∧ c.maxLocals = 4 ∧ s.vm.findClass R_law = some m.cls ∧ (∀ w ∈ lw_tbl, w.before #[Value.ref b] s = true) ∧ va_X b L xs s s.heap ∧ b < s.heap.size ∧ meth.locks = false ∧ (Jvm.Cond.and given_1 narrow_1).before #[Value.ref b] s = true
def xa (aa rr rq : Nat → Nat) (g0 g1 b0 b1 b2 hb : Nat) : Nat → Nat := fun k => if k < 10 then aa k else if k < 20 then (if k = 10 then g0 else if k = 11 then g1 else if k = 12 then b0 else if k = 13 then b1 else if k = 14 then b2 else hb) else if k < 24 then rr (k - 20) else rq (k - 24)
theorem xa_r (aa rr rq : Nat → Nat) (g0 g1 b0 b1 b2 hb : Nat) : (fun i => if i < 4 then some (xa aa rr rq g0 g1 b0 b1 b2 hb (20 + i)) else none) = fun i => if i < 4 then some (rr i) else none := by
  funext i
  by_cases h : i < 4
  · rw [if_pos h, if_pos h]
    unfold xa
    rw [if_neg (by omega), if_neg (by omega), if_pos (by omega), Nat.add_sub_cancel_left]
  · rw [if_neg h, if_neg h]
theorem xa_q (aa rr rq : Nat → Nat) (g0 g1 b0 b1 b2 hb : Nat) : (fun i => if i < 4 then some (xa aa rr rq g0 g1 b0 b1 b2 hb (24 + i)) else none) = fun i => if i < 4 then some (rq i) else none := by
  funext i
  by_cases h : i < 4
  · rw [if_pos h, if_pos h]
    unfold xa
    rw [if_neg (by omega), if_neg (by omega), if_neg (by omega), Nat.add_sub_cancel_left]
  · rw [if_neg h, if_neg h]
theorem xW_start (q1 z : Nat) (cI cJ cO cE : ClassId) (aa rr rq : Nat → Nat) (g0 g1 b0 b1 b2 hb : Nat) : [(q1, .inr (9, [.ref (aa 0), .ref (aa 1), .ref (aa 2), .ref (aa 3), .ref (aa 4), .ref (aa 5), .ref (aa 6), .long 0, .long 0, .int 0, .int 0, .int 0, .int 0, .int 0])), (aa 0, .inr (0, [.int 0, .ref z, .int 0])), (aa 1, .inr (6, [.ref g0, .ref g1, .int 0])), (g0, .inl (cO, 4, .inr (.inr (.inr (.inr (fun i => if i < 4 then some (rr i) else none)))))), (g1, .inl (cO, 4, .inr (.inr (.inr (.inr (fun i => if i < 4 then some (rq i) else none)))))), (rr 0, .inl (cJ, 40, .inr (.inl (fun _ => 0)))), (rr 1, .inl (cJ, 40, .inr (.inl (fun _ => 0)))), (rr 2, .inl (cJ, 40, .inr (.inl (fun _ => 0)))), (rr 3, .inl (cJ, 40, .inr (.inl (fun _ => 0)))), (rq 0, .inl (cJ, 40, .inr (.inl (fun _ => 0)))), (rq 1, .inl (cJ, 40, .inr (.inl (fun _ => 0)))), (rq 2, .inl (cJ, 40, .inr (.inl (fun _ => 0)))), (rq 3, .inl (cJ, 40, .inr (.inl (fun _ => 0)))), (aa 2, .inr (2, [.ref (aa 1), .long 0, .long 0, .long 0, .int 0])), (aa 3, .inr (4, [.ref (aa 1), .long 0, .long 0, .long 0])), (aa 4, .inr (5, [.ref b0, .ref b1, .ref b2, .long 0, .int 0, .int 0, .int 0])), (b0, .inl (cI, 40, .inl (fun _ => 0))), (b1, .inl (cI, 40, .inl (fun _ => 0))), (b2, .inl (cI, 40, .inl (fun _ => 0))), (aa 5, .inr (3, [.ref hb, .int 0])), (hb, .inl (cJ, 2000, .inr (.inl (fun _ => 0)))), (aa 6, .inl (cJ, 6, .inr (.inl (fun _ => 0))))] = xW q1 (xa aa rr rq g0 g1 b0 b1 b2 hb) z cI cJ cO cE (fun _ => 0) (fun _ => 0) (fun _ _ => 0) (fun _ _ => 0) 0 0 (fun _ => none) (fun _ _ => 0) (fun _ _ => 0) (fun _ _ _ => 0) (fun _ => 0) := by
  unfold xW xFix
  rw [xa_r, xa_q]
  rfl
theorem InvX_start : InvX 0 0 (fun _ => none) (fun _ _ => 0) (fun _ => 0) 0 (fun _ => 0) (fun _ _ => 0) (fun _ _ => 0) :=
  ⟨⟨by omega, by omega, by omega, rfl, fun s hs => absurd hs (by omega)⟩, ⟨⟨0, by omega, rfl⟩, ⟨0, by omega, rfl⟩⟩, fun _ => ⟨0, by omega, rfl⟩, fun _ => ⟨0, by omega, rfl⟩, fun _ => ⟨0, by omega, rfl⟩, fun _ => ⟨0, by omega, rfl⟩, fun _ => ⟨Or.inr rfl, 0, by omega, rfl⟩, fun _ => ⟨0, Or.inr rfl, rfl⟩⟩
def mV0 : Nat → Int32 := fun j => if j = 39 then (-1) else 0
theorem InvM_start : InvM 0 0 (fun _ _ => 0) mV0 :=
  ⟨by omega, rfl, ⟨0, by omega, rfl⟩, ⟨0, by omega, rfl⟩, fun _ => ⟨0, by omega, rfl⟩, fun _ => ⟨0, by omega, rfl⟩, fun _ => ⟨0, by omega, rfl⟩, fun _ => Or.inl rfl⟩
theorem xK_AO {s : State} (h : va_AO "java/lang/Object" s) : ∃ cE : ClassId, ArrOfT s cE (.object "java/lang/Object") ∧ va_RA s cE (.object "java/lang/Object") := by
  obtain ⟨comp, c, k, h1, h2, h3, h4, h5⟩ := Cond.arrayOver_spec h
  exact ⟨c, fun N z => ⟨(fun k h => by cases h), k, h3, comp, h4⟩, k, comp, h3, h4, h1, h5⟩
def lwA (s : State) : Nat → Prop := fun q => s.heap.size ≤ q
def lwC (p : Program) (s : State) (m : MethodId) (c : Code) (b L : Nat) (xs : Nat → Int32) (dC : Nat → ClassId) (dI : Nat → Nat → Nat) (cI cJ cO cE : ClassId) (k2 : Nat → ClassId) (z mi : Nat) : Prop := p.tables.exec = Jvm.exec ∧ c.code = code ∧ c.maxLocals = 4 ∧ s.vm.findClass RL = some m.cls ∧ (∀ w ∈ lw_tbl, w.before #[Value.ref b] s = true) ∧ va_X b L xs s s.heap ∧ b < s.heap.size ∧ va_K (dC, dI) vwCl (xT cI cJ cO cE) s ∧ va_K (dC, dI) vwCl (mT k2) s ∧ pw_N s ∧ va_Z "java/util/ArrayList" "DEFAULTCAPACITY_EMPTY_ELEMENTDATA" "[Ljava/lang/Object;" (.ref z) (lwA s) s s.heap ∧ va_T (.object "java/lang/Object") z 0 (fun _ => .null) (lwA s) s s.heap ∧ va_AO "java/lang/Object" s ∧ va_Mi "[Ljava/lang/Object;" mi s ∧ va_Dc s
def LI (z j ev n cap : Nat) (fE : Nat → Option Nat) (sd : Nat → Nat → Nat) (dl : Nat → Nat) (I : Nat → Int32) (J : Nat → Nat → Int32) (si : Nat → Nat → Int32) (sa : Nat → Nat → Nat → Int32) (F : Nat → Nat → Int32) (V : Nat → Int32) : Prop := InvX n cap fE sd dl (402000 * j) I J si ∧ InvM n (402000 * j) F V ∧ (n = 0 → ev = z) ∧ ((∀ s9 : Nat, s9 < n → si s9 0 = F 0 s9) ∧ (∀ s9 i9 : Nat, s9 < n → i9 < 8 → sa s9 1 i9 = F 3 (8 * s9 + i9)) ∧ (∀ k9 : Nat, 8 * n ≤ k9 → F 3 k9 = 0))
def LK (p : Program) (l : Launch) (e : Env) (s : State) (m : MethodId) (below : List Frame) (meth : Method) (c : Code) (b : Nat) (dC : Nat → ClassId) (dI : Nat → Nat → Nat) (h : Nat) (a : Nat → Nat) (cI cJ cO cE : ClassId) (h2 : Nat) (a2 : Nat → Nat) (k2 : Nat → ClassId) (z j : Nat) : Prop := ∀ (ev : Nat) (n : Nat) (cap : Nat) (fE : Nat → Option Nat) (sd : Nat → Nat → Nat) (Lc : Nat → Int64) (I : Nat → Int32) (M : Nat → Nat → Int64) (J : Nat → Nat → Int32) (si : Nat → Nat → Int32) (sa : Nat → Nat → Nat → Int32) (dl : Nat → Nat) (F : Nat → Nat → Int32) (V : Nat → Int32) (H : Heap) (locs : List Loc) (ls : Array Slot), LI z (j) ev n cap fE sd dl I J si sa F V → va_P (dC, dI) vwCl (xW h a ev cI cJ cO cE Lc I M J n cap fE sd si sa dl ++ mW h2 a2 k2 F V) H → va_D (lwA s) (xW h a ev cI cJ cO cE Lc I M J n cap fE sd si sa dl ++ mW h2 a2 k2 F V) → va_S (lwA s) s.heap H locs → lv_has ls 4 [(3, .int (nI (5 * j))), (2, .ref h2), (1, .ref h), (0, .ref b)] → W p l e room_1 s m #[Value.ref b] below meth c H locs (60 + 7 * j) (19218 + 261 * j) (lw_Z below #[Value.ref b] s) (F0 m 18 ls [])
def xlE (n : Nat) (si : Nat → Nat → Int32) (sa : Nat → Nat → Nat → Int32) (F : Nat → Nat → Int32) : Prop := (∀ s9 : Nat, s9 < n → si s9 0 = F 0 s9) ∧ (∀ s9 i9 : Nat, s9 < n → i9 < 8 → sa s9 1 i9 = F 3 (8 * s9 + i9)) ∧ (∀ k9 : Nat, 8 * n ≤ k9 → F 3 k9 = 0)
theorem xl_new {n : Nat} {si si1 : Nat → Nat → Int32} {sa sa1 : Nat → Nat → Nat → Int32} {F F1 : Nat → Nat → Int32} {p0 : Int32} (h : xlE n si sa F) (h40 : n < 40) (hfs : ∀ s9 q9 : Nat, s9 ≠ n → si1 s9 q9 = si s9 q9) (hfa : ∀ s9 q9 : Nat, s9 ≠ n → sa1 s9 q9 = sa s9 q9) (hk0 : si1 n 0 = p0) (hl0 : ∀ i : Nat, sa1 n 1 i = 0) (h3 : F1 3 = F 3) (h0 : F1 0 = upd (F 0) (nI n).toNatClampNeg p0) : xlE (n + 1) si1 sa1 F1 := by
  rw [nI_clamp (by omega)] at h0
  refine ⟨fun s9 h9 => ?_, fun s9 i9 h9 h8 => ?_, fun k9 h9 => ?_⟩
  · rw [h0]
    by_cases e : s9 = n
    · rw [e, hk0]; exact pk_us.symm
    · rw [hfs s9 0 e, pk_un e]; exact h.1 s9 (by omega)
  · rw [h3]
    by_cases e : s9 = n
    · rw [e, hl0]; exact (h.2.2 _ (by omega)).symm
    · rw [hfa s9 1 e]; exact h.2.1 s9 i9 (by omega) h8
  · rw [h3]; exact h.2.2 k9 (by omega)
theorem xl_life {n : Nat} {si : Nat → Nat → Int32} {sa sa1 : Nat → Nat → Nat → Int32} {F F1 : Nat → Nat → Int32} {r r2 p0 p1 p2 : Int32} (h : xlE n si sa F) (hn : n < 1000) (h0 : (¬ (0 ≤ p0 ∧ p0 < nI n ∧ 0 ≤ p1 ∧ p1 ≤ 7 ∧ 0 ≤ p2 ∧ p2 ≤ 1000) ∧ r = -1 ∧ sa1 = sa) ∨ ∃ sv iv : Nat, sv < n ∧ iv < 8 ∧ p0 = nI sv ∧ p1 = nI iv ∧ (0 ≤ p2 ∧ p2 ≤ 1000) ∧ ((si sv 0 = 3 ∧ r = -2 ∧ sa1 = sa) ∨ (si sv 0 ≠ 3 ∧ r = sa sv 1 iv ∧ sa1 = up2 sa sv 1 (upd (sa sv 1) iv p2)))) (h1 : (¬ (0 ≤ p0 ∧ p0 < nI n ∧ 0 ≤ p1 ∧ p1 ≤ 7 ∧ 0 ≤ p2 ∧ p2 ≤ 1000) ∧ r2 = -1 ∧ F1 = F) ∨ ∃ sv iv : Nat, sv < n ∧ iv < 8 ∧ p0 = nI sv ∧ p1 = nI iv ∧ (0 ≤ p2 ∧ p2 ≤ 1000) ∧ ((F 0 sv = 3 ∧ r2 = -2 ∧ F1 = F) ∨ (F 0 sv ≠ 3 ∧ r2 = F 3 (8 * sv + iv) ∧ F1 = va_up F 3 (upd (F 3) (8 * sv + iv) p2)))) (hF0 : F1 0 = F 0) : xlE n si sa1 F1 := by
  rcases h0 with ⟨hc, er, ea⟩ | ⟨sv, iv, hs, hi, e1, e2, hv, hr⟩
  · rcases h1 with ⟨hc2, er2, eF⟩ | ⟨sv2, iv2, hs2, hi2, e12, e22, hv2, hr2⟩
    · rw [ea, eF]; exact h
    · exact absurd (⟨by rw [e12]; exact nI_pos' (by omega), by rw [e12]; exact nI_lt hs2 (by omega), by rw [e22]; exact nI_pos' (by omega), by rw [e22]; exact nI_le (b := 7) (by omega) (by omega), hv2⟩) hc
  · rcases h1 with ⟨hc2, er2, eF⟩ | ⟨sv2, iv2, hs2, hi2, e12, e22, hv2, hr2⟩
    · exact absurd (⟨by rw [e1]; exact nI_pos' (by omega), by rw [e1]; exact nI_lt hs (by omega), by rw [e2]; exact nI_pos' (by omega), by rw [e2]; exact nI_le (b := 7) (by omega) (by omega), hv⟩) hc2
    · have es : sv2 = sv := (nI_eq (by omega) (by omega)).mp (e12.symm.trans e1)
      have ei : iv2 = iv := (nI_eq (by omega) (by omega)).mp (e22.symm.trans e2)
      rw [es, ei] at hr2
      rw [← h.1 sv hs] at hr2
      rcases hr with ⟨a1, a2, ea⟩ | ⟨a1, a2, ea⟩ <;> rcases hr2 with ⟨b1, b2, eF⟩ | ⟨b1, b2, eF⟩
      · rw [ea, eF]; exact h
      · exact absurd a1 b1
      · exact absurd b1 a1
      · refine ⟨fun s9 h9 => by rw [hF0]; exact h.1 s9 h9, fun s9 i9 h9 h8 => ?_, fun k9 h9 => ?_⟩
        · rw [ea, eF, va_up_self]
          by_cases e : s9 = sv
          · subst e
            have e5 : up2 sa s9 1 (upd (sa s9 1) iv p2) s9 1 = upd (sa s9 1) iv p2 := by simp [up2]
            rw [e5]
            by_cases q : i9 = iv
            · rw [q, pk_us, pk_us]
            · rw [pk_un q, pk_un (by omega)]; exact h.2.1 s9 i9 h9 h8
          · have e5 : up2 sa sv 1 (upd (sa sv 1) iv p2) s9 1 = sa s9 1 := by simp [up2, e]
            rw [e5, pk_un (by omega)]; exact h.2.1 s9 i9 h9 h8
        · rw [eF, va_up_self, pk_un (by omega)]; exact h.2.2 k9 h9
