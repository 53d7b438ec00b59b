/-! words that are carried along, not linked by a list; numbers -/
def pw_L : List Cond := [.fieldLinkNest RX7 76 "ServiceTree$Restarts" "delay" "I" "ServiceTree", .fieldLinkNest RX8 90 "ServiceTree$Service" "kind" "I" "ServiceTree", .fieldLinkNest RX8 93 "ServiceTree$Service" "lives" "[I" "ServiceTree", .fieldLinkNest RX8 97 "ServiceTree$Service" "restarts" "LServiceTree$Restarts;" "ServiceTree", .fieldLinkNest RX8 121 "ServiceTree$Relations" "size" "I" "ServiceTree", .fieldLinkNest RX8 142 "ServiceTree$Service" "door" "LServiceTree$Door;" "ServiceTree", .fieldLinkNest RX8 162 "ServiceTree$Service" "state" "I" "ServiceTree", .fieldLinkNest RX8 165 "ServiceTree$Service" "since" "I" "ServiceTree", .fieldLinkNest RX8 168 "ServiceTree$Service" "starts" "I" "ServiceTree", .fieldLinkNest RX8 171 "ServiceTree$Service" "failures" "I" "ServiceTree", .fieldLinkNest RX8 174 "ServiceTree$Service" "ended" "Z" "ServiceTree", .fieldLinkNest RX8 182 "ServiceTree$Door" "size" "I" "ServiceTree", .fieldLinkNest RX8 183 "ServiceTree$Door" "read" "I" "ServiceTree", .fieldLinkNest RX8 186 "ServiceTree$Door" "lastRead" "I" "ServiceTree", .fieldLinkNest RX8 210 "ServiceTree$Plan" "laidOut" "Z" "ServiceTree", .fieldLinkNest RX8 213 "ServiceTree$Plan" "lastEnd" "I" "ServiceTree", .fieldLinkNest RX8 219 "ServiceTree$History" "size" "I" "ServiceTree", .fieldLinkNest RX8 244 "ServiceTree$Draft" "ringSize" "I" "ServiceTree", .fieldLinkNest RX8 247 "ServiceTree$Draft" "starts" "J" "ServiceTree", .fieldLinkNest RX8 253 "ServiceTree$Draft" "stops" "J" "ServiceTree", .fieldLinkNest RX8 280 "ServiceTree$Service" "startTicks" "I" "ServiceTree", .fieldLinkNest RX8 286 "ServiceTree$Service" "stopTicks" "I" "ServiceTree", .fieldLinkNest RX8 292 "ServiceTree$Jobs" "starts" "J" "ServiceTree", .fieldLinkNest RX8 342 "ServiceTree$Service" "life" "I" "ServiceTree", .methodLinkNest RX1 19 yX8_only "ServiceTree", .methodLinkNest RX1 76 yX8_holds "ServiceTree", .methodLinkNest RX3 25 yX8_holds "ServiceTree", .methodLinkNest RX3 38 yX8_only "ServiceTree", .methodLinkNest RX4 46 yX8_holds "ServiceTree", .methodLinkNest RX4 50 yX8_within "ServiceTree", .methodLinkNest RX5 19 yX8_holds "ServiceTree", .methodLinkNest RX5 34 yX8_only "ServiceTree", .methodLinkNest RX7 17 yX6_init "ServiceTree", .methodLinkNest RX8 18 yX5_init "ServiceTree", .methodLinkNest RX8 41 yX4_init "ServiceTree", .methodLinkNest RX8 48 yX2_init "ServiceTree", .castable RX7 "java/lang/Object"]
def pw_N (U : State) : Prop := ∀ w ∈ pw_L, va_Nw w U
theorem pw_on : ∀ w ∈ pw_L, w.onTables = true := by decide +kernel
theorem pw_N.same {u U : State} (e : u.vm = U.vm) (h : pw_N u) : pw_N U := fun w hw => va_Nw.same (pw_on w hw) e (h w hw)
set_option maxRecDepth 20000 in
theorem pw_N.warm {s U : State} (hW : s.WarmedH U.vm) (h : pw_N s) : pw_N U := List.forall_mem_cons.mpr ⟨va_Nw.warmF hW (h _ (List.mem_of_getElem? (i := 0) rfl)), List.forall_mem_cons.mpr ⟨va_Nw.warmF hW (h _ (List.mem_of_getElem? (i := 1) rfl)), List.forall_mem_cons.mpr ⟨va_Nw.warmF hW (h _ (List.mem_of_getElem? (i := 2) rfl)), List.forall_mem_cons.mpr ⟨va_Nw.warmF hW (h _ (List.mem_of_getElem? (i := 3) rfl)), List.forall_mem_cons.mpr ⟨va_Nw.warmF hW (h _ (List.mem_of_getElem? (i := 4) rfl)), List.forall_mem_cons.mpr ⟨va_Nw.warmF hW (h _ (List.mem_of_getElem? (i := 5) rfl)), List.forall_mem_cons.mpr ⟨va_Nw.warmF hW (h _ (List.mem_of_getElem? (i := 6) rfl)), List.forall_mem_cons.mpr ⟨va_Nw.warmF hW (h _ (List.mem_of_getElem? (i := 7) rfl)), List.forall_mem_cons.mpr ⟨va_Nw.warmF hW (h _ (List.mem_of_getElem? (i := 8) rfl)), List.forall_mem_cons.mpr ⟨va_Nw.warmF hW (h _ (List.mem_of_getElem? (i := 9) rfl)), List.forall_mem_cons.mpr ⟨va_Nw.warmF hW (h _ (List.mem_of_getElem? (i := 10) rfl)), List.forall_mem_cons.mpr ⟨va_Nw.warmF hW (h _ (List.mem_of_getElem? (i := 11) rfl)), List.forall_mem_cons.mpr ⟨va_Nw.warmF hW (h _ (List.mem_of_getElem? (i := 12) rfl)), List.forall_mem_cons.mpr ⟨va_Nw.warmF hW (h _ (List.mem_of_getElem? (i := 13) rfl)), List.forall_mem_cons.mpr ⟨va_Nw.warmF hW (h _ (List.mem_of_getElem? (i := 14) rfl)), List.forall_mem_cons.mpr ⟨va_Nw.warmF hW (h _ (List.mem_of_getElem? (i := 15) rfl)), List.forall_mem_cons.mpr ⟨va_Nw.warmF hW (h _ (List.mem_of_getElem? (i := 16) rfl)), List.forall_mem_cons.mpr ⟨va_Nw.warmF hW (h _ (List.mem_of_getElem? (i := 17) rfl)), List.forall_mem_cons.mpr ⟨va_Nw.warmF hW (h _ (List.mem_of_getElem? (i := 18) rfl)), List.forall_mem_cons.mpr ⟨va_Nw.warmF hW (h _ (List.mem_of_getElem? (i := 19) rfl)), List.forall_mem_cons.mpr ⟨va_Nw.warmF hW (h _ (List.mem_of_getElem? (i := 20) rfl)), List.forall_mem_cons.mpr ⟨va_Nw.warmF hW (h _ (List.mem_of_getElem? (i := 21) rfl)), List.forall_mem_cons.mpr ⟨va_Nw.warmF hW (h _ (List.mem_of_getElem? (i := 22) rfl)), List.forall_mem_cons.mpr ⟨va_Nw.warmF hW (h _ (List.mem_of_getElem? (i := 23) rfl)), List.forall_mem_cons.mpr ⟨va_Nw.warmM hW (h _ (List.mem_of_getElem? (i := 24) rfl)), List.forall_mem_cons.mpr ⟨va_Nw.warmM hW (h _ (List.mem_of_getElem? (i := 25) rfl)), List.forall_mem_cons.mpr ⟨va_Nw.warmM hW (h _ (List.mem_of_getElem? (i := 26) rfl)), List.forall_mem_cons.mpr ⟨va_Nw.warmM hW (h _ (List.mem_of_getElem? (i := 27) rfl)), List.forall_mem_cons.mpr ⟨va_Nw.warmM hW (h _ (List.mem_of_getElem? (i := 28) rfl)), List.forall_mem_cons.mpr ⟨va_Nw.warmM hW (h _ (List.mem_of_getElem? (i := 29) rfl)), List.forall_mem_cons.mpr ⟨va_Nw.warmM hW (h _ (List.mem_of_getElem? (i := 30) rfl)), List.forall_mem_cons.mpr ⟨va_Nw.warmM hW (h _ (List.mem_of_getElem? (i := 31) rfl)), List.forall_mem_cons.mpr ⟨va_Nw.warmM hW (h _ (List.mem_of_getElem? (i := 32) rfl)), List.forall_mem_cons.mpr ⟨va_Nw.warmM hW (h _ (List.mem_of_getElem? (i := 33) rfl)), List.forall_mem_cons.mpr ⟨va_Nw.warmM hW (h _ (List.mem_of_getElem? (i := 34) rfl)), List.forall_mem_cons.mpr ⟨va_Nw.warmM hW (h _ (List.mem_of_getElem? (i := 35) rfl)), List.forall_mem_cons.mpr ⟨va_Nw.warmC hW (h _ (List.mem_of_getElem? (i := 36) rfl)), fun _ h => absurd h List.not_mem_nil⟩⟩⟩⟩⟩⟩⟩⟩⟩⟩⟩⟩⟩⟩⟩⟩⟩⟩⟩⟩⟩⟩⟩⟩⟩⟩⟩⟩⟩⟩⟩⟩⟩⟩⟩⟩⟩
set_option maxRecDepth 20000 in
theorem pw_in : ∀ w ∈ pw_L, w ∈ lw_tbl := by decide +kernel
theorem p1_le {a b : Int32} : a ≤ b ↔ a.toInt ≤ b.toInt := Int32.le_iff_toInt_le
theorem p1_lt {a b : Int32} : a < b ↔ a.toInt < b.toInt := Int32.lt_iff_toInt_lt
theorem p1_eq {a b : Int32} : a = b ↔ a.toInt = b.toInt := Int32.toInt_inj.symm
theorem p1_m6 : (-6 : Int32).toInt = -6 := by decide
theorem p1_m1 : (-1 : Int32).toInt = -1 := by decide
theorem p1_0 : (0 : Int32).toInt = 0 := by decide
theorem p1_1 : (1 : Int32).toInt = 1 := by decide
theorem p1_2 : (2 : Int32).toInt = 2 := by decide
theorem p1_3 : (3 : Int32).toInt = 3 := by decide
theorem p1_4 : (4 : Int32).toInt = 4 := by decide
theorem p1_5 : (5 : Int32).toInt = 5 := by decide
theorem p1_6 : (6 : Int32).toInt = 6 := by decide
theorem p1_7 : (7 : Int32).toInt = 7 := by decide
theorem p1_8 : (8 : Int32).toInt = 8 := by decide
theorem p1_9 : (9 : Int32).toInt = 9 := by decide
theorem p1_10 : (10 : Int32).toInt = 10 := by decide
theorem p1_11 : (11 : Int32).toInt = 11 := by decide
theorem p1_12 : (12 : Int32).toInt = 12 := by decide
theorem p1_13 : (13 : Int32).toInt = 13 := by decide
theorem p1_14 : (14 : Int32).toInt = 14 := by decide
theorem p1_15 : (15 : Int32).toInt = 15 := by decide
theorem p1_16 : (16 : Int32).toInt = 16 := by decide
theorem p1_17 : (17 : Int32).toInt = 17 := by decide
theorem p1_18 : (18 : Int32).toInt = 18 := by decide
theorem p1_19 : (19 : Int32).toInt = 19 := by decide
theorem p1_20 : (20 : Int32).toInt = 20 := by decide
theorem p1_40 : (40 : Int32).toInt = 40 := by decide
theorem p1_50 : (50 : Int32).toInt = 50 := by decide
theorem p1_200 : (200 : Int32).toInt = 200 := by decide
theorem p1_1000 : (1000 : Int32).toInt = 1000 := by decide
theorem p1_sh0 (y : UInt64) : ((0 : Int64).toUInt64 >>> y).toInt64 = 0 := by
  rw [show (0 : Int64).toUInt64 = 0 from rfl, UInt64.zero_shiftRight]
  rfl
theorem va_AOA.moved {ty : FieldType} {u U : State} (hvm : u.vm.Alike U.vm) (h : va_AOA ty u) : va_AOA ty U := by
  have h0 : (Cond.arrayOver (.array ty)).before #[] u = true := h
  unfold Cond.before Cond.holds at h0
  simp only [Cond.value, beq_iff_eq] at h0
  cases hc : u.vm.findClass (FieldType.array ty).toString with
  | none => simp [hc] at h0
  | some comp =>
    simp only [hc, Option.bind_some, Option.bind_eq_some_iff, Option.map_eq_some_iff] at h0
    obtain ⟨c, hi, k, hk, hb⟩ := h0
    obtain ⟨k', hk', he⟩ := hvm.2.2 _ _ hk
    have hi2 : (U.vm.classes.findIdx? fun (x : Class) => match x.kind with | .array component _ => component == comp | _ => false) = some c := by
      refine (va_idx_bare U.vm comp).symm.trans ?_
      have eb : U.vm.bare = u.vm.bare := by first | exact hvm.bare_eq | exact hvm.bare_eq.symm
      rw [eb]
      exact (va_idx_bare u.vm comp).trans hi
    have f1 : U.vm.findClass (FieldType.array ty).toString = some comp := by rw [hvm.findClass]; exact hc
    cases hkind : k.kind with
    | array component t2 =>
      rw [hkind] at hb
      simp at hb
      have hkind2 : k'.kind = .array component (.array ty) := by rw [he]; show k.kind = _; rw [hkind, hb.1]
      have f2 : U.vm.findClass ("[" ++ (FieldType.array ty).toString) = some c := by rw [hvm.findClass]; exact hb.2
      show (Cond.arrayOver (.array ty)).before #[] U = true
      unfold Cond.before Cond.holds
      simp only [Cond.value]
      rw [f1, Option.bind_some]
      refine (congrArg (fun o : Option Nat => (o.bind (fun c => (U.vm.classes[c]?).map fun (k : Class) => match k.kind with | .array _ ty2 => decide (ty2 = FieldType.array ty) && decide (U.vm.findClass ("[" ++ (FieldType.array ty).toString) = some c) | _ => false) == some true)) hi2).trans ?_
      simp [hk', hkind2, f2]
    | _ => rw [hkind] at hb; simp at hb
section P1A
variable {p : Program} {l : Launch} {e : Env} {R : Room} {s : State} {m : MethodId} {args : Array Value} {below : List Frame} {meth : Method} {c : Code} {H : Heap} {locs : List Loc} {cells slots : Nat} {Q : State → Prop}
variable {cc : ByteArray} {pc : Nat} {ls : Array Slot} {rest : List Value} {D : va_G} {cl : List vw_C} {a : Nat} {tys : List (ClassId × FieldType)} {ws : va_W}
theorem p1_aldA (hexec : p.tables.exec = Jvm.exec) (hb : c.code = cc) (hK : va_K D cl tys s) (hP : va_P D cl ws H) (q0 t0 : Nat) {cA : ClassId} {ty : FieldType} {n : Nat} {f : Nat → Option Nat} (ha : ws[q0]? = some (a, .inl (cA, n, .inr (.inr (.inr (.inr f)))))) (ht : tys[t0]? = some (cA, .array ty)) {i : Int32} (hin : vp_in i n) (hdg : decode cc pc = .ok (.aaload, 1))
    (kk : W p l e R s m args below meth c H locs cells slots Q (F0 m (pc + 1) ls (va_rf (f i.toNatClampNeg) :: rest))) : W p l e R s m args below meth c H locs cells slots Q (F0 m pc ls (.int i :: .ref a :: rest)) := by
  have hlt : i.toNatClampNeg < n := Nat.not_le.mp fun q => hin (Or.inr q)
  exact W.aald (v := va_rf (f i.toNatClampNeg)) (ty := .array ty) hexec hb (hP q0 _ ha) ((hK.2 t0 _ ht).1 n (fun j => va_rf (f j))) rfl (fun q => by cases q) (by show ¬ (i < 0 ∨ (arrV _ _ _).slots.size ≤ _); rw [arrV_size]; exact hin) (by show (arrV _ _ _).slots[_]? = _; rw [arrV_read _ _ hlt]) rfl rfl hdg kk
theorem p1_gen {g : JFrame} (h : ∀ (H : Heap) (locs : List Loc), H = s.heap → locs = [] → W p l e R s m args below meth c H locs cells slots Q g) : W p l e R s m args below meth c s.heap [] cells slots Q g := h _ _ rfl rfl
theorem p1_topr {v v' : Value} (h : v' = v) (k : W p l e R s m args below meth c H locs cells slots Q (F0 m pc ls (v :: rest))) : W p l e R s m args below meth c H locs cells slots Q (F0 m pc ls (v' :: rest)) := h ▸ k
end P1A
theorem dfJx4a65c (j : Nat) (hj : j < 3) : defaultValue (tyJx4a65c j) = vp_V [.int 0, .null, .int 0] j := by
  match j, hj with
  | 0, _ => rfl
  | 1, _ => rfl
  | 2, _ => rfl
  | n + 3, h => exact absurd h (by omega)
theorem dfX0 (j : Nat) (hj : j < 5) : defaultValue (tyX0 j) = vp_V [.null, .int 0, .int 0, .int 0, .int 0] j := by
  match j, hj with
  | 0, _ => rfl
  | 1, _ => rfl
  | 2, _ => rfl
  | 3, _ => rfl
  | 4, _ => rfl
  | n + 5, h => exact absurd h (by omega)
theorem dfX1 (j : Nat) (hj : j < 5) : defaultValue (tyX1 j) = vp_V [.null, .long 0, .long 0, .long 0, .int 0] j := by
  match j, hj with
  | 0, _ => rfl
  | 1, _ => rfl
  | 2, _ => rfl
  | 3, _ => rfl
  | 4, _ => rfl
  | n + 5, h => exact absurd h (by omega)
theorem dfX2 (j : Nat) (hj : j < 2) : defaultValue (tyX2 j) = vp_V [.null, .int 0] j := by
  match j, hj with
  | 0, _ => rfl
  | 1, _ => rfl
  | n + 2, h => exact absurd h (by omega)
theorem dfX3 (j : Nat) (hj : j < 4) : defaultValue (tyX3 j) = vp_V [.null, .long 0, .long 0, .long 0] j := by
  match j, hj with
  | 0, _ => rfl
  | 1, _ => rfl
  | 2, _ => rfl
  | 3, _ => rfl
  | n + 4, h => exact absurd h (by omega)
theorem dfX4 (j : Nat) (hj : j < 7) : defaultValue (tyX4 j) = vp_V [.null, .null, .null, .long 0, .int 0, .int 0, .int 0] j := by
  match j, hj with
  | 0, _ => rfl
  | 1, _ => rfl
  | 2, _ => rfl
  | 3, _ => rfl
  | 4, _ => rfl
  | 5, _ => rfl
  | 6, _ => rfl
  | n + 7, h => exact absurd h (by omega)
theorem dfX5 (j : Nat) (hj : j < 3) : defaultValue (tyX5 j) = vp_V [.null, .null, .int 0] j := by
  match j, hj with
  | 0, _ => rfl
  | 1, _ => rfl
  | 2, _ => rfl
  | n + 3, h => exact absurd h (by omega)
theorem dfX6 (j : Nat) (hj : j < 6) : defaultValue (tyX6 j) = vp_V [.null, .int 0, .int 0, .int 0, .int 0, .int 0] j := by
  match j, hj with
  | 0, _ => rfl
  | 1, _ => rfl
  | 2, _ => rfl
  | 3, _ => rfl
  | 4, _ => rfl
  | 5, _ => rfl
  | n + 6, h => exact absurd h (by omega)
theorem dfX7 (j : Nat) (hj : j < 12) : defaultValue (tyX7 j) = vp_V [.int 0, .int 0, .int 0, .null, .null, .null, .int 0, .int 0, .int 0, .int 0, .int 0, .int 0] j := by
  match j, hj with
  | 0, _ => rfl
  | 1, _ => rfl
  | 2, _ => rfl
  | 3, _ => rfl
  | 4, _ => rfl
  | 5, _ => rfl
  | 6, _ => rfl
  | 7, _ => rfl
  | 8, _ => rfl
  | 9, _ => rfl
  | 10, _ => rfl
  | 11, _ => rfl
  | n + 12, h => exact absurd h (by omega)
theorem dfX8 (j : Nat) (hj : j < 14) : defaultValue (tyX8 j) = vp_V [.null, .null, .null, .null, .null, .null, .null, .long 0, .long 0, .int 0, .int 0, .int 0, .int 0, .int 0] j := by
  match j, hj with
  | 0, _ => rfl
  | 1, _ => rfl
  | 2, _ => rfl
  | 3, _ => rfl
  | 4, _ => rfl
  | 5, _ => rfl
  | 6, _ => rfl
  | 7, _ => rfl
  | 8, _ => rfl
  | 9, _ => rfl
  | 10, _ => rfl
  | 11, _ => rfl
  | 12, _ => rfl
  | 13, _ => rfl
  | n + 14, h => exact absurd h (by omega)
theorem dfX9 (j : Nat) (hj : j < 46) : defaultValue (tyX9 j) = vp_V [.null, .null, .null, .null, .null, .null, .null, .null, .null, .null, .null, .null, .null, .null, .null, .null, .null, .null, .null, .null, .int 0, .int 0, .int 0, .int 0, .int 0, .null, .null, .null, .null, .null, .null, .null, .null, .int 0, .null, .null, .null, .null, .int 0, .int 0, .null, .null, .null, .null, .null, .int 0] j := by
  match j, hj with
  | 0, _ => rfl
  | 1, _ => rfl
  | 2, _ => rfl
  | 3, _ => rfl
  | 4, _ => rfl
  | 5, _ => rfl
  | 6, _ => rfl
  | 7, _ => rfl
  | 8, _ => rfl
  | 9, _ => rfl
  | 10, _ => rfl
  | 11, _ => rfl
  | 12, _ => rfl
  | 13, _ => rfl
  | 14, _ => rfl
  | 15, _ => rfl
  | 16, _ => rfl
  | 17, _ => rfl
  | 18, _ => rfl
  | 19, _ => rfl
  | 20, _ => rfl
  | 21, _ => rfl
  | 22, _ => rfl
  | 23, _ => rfl
  | 24, _ => rfl
  | 25, _ => rfl
  | 26, _ => rfl
  | 27, _ => rfl
  | 28, _ => rfl
  | 29, _ => rfl
  | 30, _ => rfl
  | 31, _ => rfl
  | 32, _ => rfl
  | 33, _ => rfl
  | 34, _ => rfl
  | 35, _ => rfl
  | 36, _ => rfl
  | 37, _ => rfl
  | 38, _ => rfl
  | 39, _ => rfl
  | 40, _ => rfl
  | 41, _ => rfl
  | 42, _ => rfl
  | 43, _ => rfl
  | 44, _ => rfl
  | 45, _ => rfl
  | n + 46, h => exact absurd h (by omega)
