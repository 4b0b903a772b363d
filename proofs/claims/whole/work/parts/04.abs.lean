/-! THE ABSTRACT LAYER. A heap of numbered places (0 .. 47: what the two constructors make; 60 ..: constants; 68: the script), of which only the ints (h.1) and longs (h.2) change. Values carry place numbers for references; 'emb' turns them into addresses. 'Aw' is a walk inside a method's body, 'Rn' a method's contract: both speak of no machine. -/
abbrev Hp : Type := (Nat → Nat → Int32) × (Nat → Nat → Int64)
abbrev En : Type := va_G × (Nat → Nat) × (Nat → ClassId)
abbrev MY : Type := MethodName × ByteArray × Nat × Option FieldType
abbrev KQT : Type := En → (Nat → Prop) → State → Array Value → List Frame → Method → Nat → Nat → (State → Prop) → Prop
def gt : List Cond := lw_tbl.filter goodWord
def wsY (Y : MY) : List Cond := .code Y.1 Y.2.1 Y.2.2.1 Y.2.2.2 :: gt
def rmD (d : Nat) : Room := { frames := d, cells := 0, slots := 0, locals := 38 * d }
/-- objects: the class's number in vwCl, the kinds of its fields (0 an int, 1 a long, q + 2 a reference to place q) -/
def oL : Nat → Option (Nat × List Nat)
  | 0 => some (7, [3, 12, 14, 19, 28, 30, 32, 0, 0, 0, 0, 0, 0])
  | 1 => some (1, [4, 5, 6, 7, 8, 9, 10, 11, 0, 0, 0, 0])
  | 10 => some (3, [13, 0, 0, 0, 0, 0, 0])
  | 12 => some (4, [15, 16, 17, 18, 0])
  | 18 => some (5, [24, 0, 0, 0])
  | 19 => some (5, [25, 0, 0, 0])
  | 20 => some (5, [26, 0, 0, 0])
  | 21 => some (5, [27, 0, 0, 0])
  | 26 => some (0, [29])
  | 28 => some (6, [31, 0, 0, 0, 1])
  | 30 => some (2, [1, 1, 1, 1, 0])
  | 31 => some (8, [34, 35, 36, 37, 0, 0, 0, 38, 0, 0, 0, 39, 40, 41, 42, 43, 0, 44, 45, 46, 0, 47, 48, 49])
  | _ => none
/-- arrays: what they hold (0 ints, 1 longs, 2 booleans, 3 sheets), how many -/
def aL : Nat → Option (Nat × Nat)
  | 2 => some (0, 100)
  | 3 => some (0, 10)
  | 4 => some (0, 10)
  | 5 => some (0, 10)
  | 6 => some (0, 10)
  | 7 => some (0, 10)
  | 8 => some (0, 10)
  | 9 => some (0, 10)
  | 11 => some (0, 7)
  | 13 => some (0, 5005)
  | 14 => some (0, 5005)
  | 15 => some (0, 1024)
  | 16 => some (0, 70)
  | 17 => some (3, 4)
  | 22 => some (0, 60)
  | 23 => some (0, 60)
  | 24 => some (0, 60)
  | 25 => some (0, 60)
  | 27 => some (1, 13)
  | 29 => some (0, 61)
  | 32 => some (0, 4)
  | 33 => some (0, 4)
  | 34 => some (0, 240)
  | 35 => some (0, 60)
  | 36 => some (0, 100)
  | 37 => some (0, 10)
  | 38 => some (0, 10)
  | 39 => some (0, 10)
  | 40 => some (0, 10)
  | 41 => some (0, 10)
  | 42 => some (0, 7)
  | 43 => some (0, 5005)
  | 44 => some (0, 5005)
  | 45 => some (2, 1024)
  | 46 => some (0, 10)
  | 47 => some (1, 13)
  | _ => none
def emb (E : En) : Value → Value
  | .ref k => .ref (E.2.1 k)
  | v => v
def fv (E : En) (h : Hp) (p k : Nat) : Nat → Value
  | 0 => .int (h.1 p k)
  | 1 => .long (h.2 p k)
  | q + 2 => .ref (E.2.1 q)
def fsO (E : En) (h : Hp) (p : Nat) (ks : List Nat) : List Value := (List.range ks.length).map fun k => fv E h p k (ks.getD k 0)
def arO (E : En) (h : Hp) (p : Nat) : Nat → ((Nat → Int32) ⊕ (Nat → Int64) ⊕ (Nat → UInt32) ⊕ (Nat → UInt64) ⊕ (Nat → Option Nat))
  | 1 => .inr (.inl (h.2 p))
  | 3 => .inr (.inr (.inr (.inr (fun j => some (E.2.1 (18 + j))))))
  | _ => .inl (h.1 p)
def cel (E : En) (h : Hp) (p : Nat) : va_E := match oL p with
  | some (ci, ks) => .inr (ci, fsO E h p ks)
  | none => match aL p with
    | some (t, n) => .inl (E.2.2 t, n, arO E h p t)
    | none => .inl (0, 0, .inl (fun _ => 0))
def wsH (E : En) (h : Hp) : va_W := (List.range 48).map fun p => (E.2.1 p, cel E h p)
def tyE (E : En) : List (ClassId × FieldType) := [(E.2.2 0, .int), (E.2.2 1, .long), (E.2.2 2, .boolean), (E.2.2 3, .object "ToldFigures$Sheet")]
def pI (h : Hp) (p k : Nat) (x : Int32) : Hp := (fun q => if q = p then upd (h.1 q) k x else h.1 q, h.2)
def pL (h : Hp) (p k : Nat) (x : Int64) : Hp := (h.1, fun q => if q = p then vp_updL (h.2 q) k x else h.2 q)
theorem wsH_at (E : En) (h : Hp) {p : Nat} (hp : p < 48) : (wsH E h)[p]? = some (E.2.1 p, cel E h p) := by
  simp [wsH, hp]
theorem oL_lt {p : Nat} {x : Nat × List Nat} (h : oL p = some x) : p < 48 := by
  by_cases hp : p < 48
  · exact hp
  · exfalso
    unfold oL at h
    split at h <;> first | omega | cases h
theorem aL_lt {p : Nat} {x : Nat × Nat} (h : aL p = some x) : p < 48 := by
  by_cases hp : p < 48
  · exact hp
  · exfalso
    unfold aL at h
    split at h <;> first | omega | cases h
theorem aL_oL {p : Nat} {x : Nat × Nat} (h : aL p = some x) : oL p = none := by
  unfold aL at h
  split at h <;> first | rfl | cases h
theorem cel_o (E : En) (h : Hp) {p ci : Nat} {ks : List Nat} (ho : oL p = some (ci, ks)) : cel E h p = .inr (ci, fsO E h p ks) := by
  simp [cel, ho]
theorem cel_a (E : En) (h : Hp) {p t n : Nat} (ha : aL p = some (t, n)) : cel E h p = .inl (E.2.2 t, n, arO E h p t) := by
  simp [cel, ha, aL_oL ha]
theorem wsH_upd {E : En} {h h' : Hp} {p : Nat} {e : va_E} (h1 : cel E h' p = e) (h2 : ∀ q, q ≠ p → cel E h' q = cel E h q) : (wsH E h).set p (E.2.1 p, e) = wsH E h' := by
  apply List.ext_getElem?
  intro i
  by_cases hi : i = p
  · subst hi
    by_cases hl : i < 48
    · simp [wsH, hl, h1]
    · simp [wsH, hl]
  · rw [List.getElem?_set_ne (fun q => hi q.symm)]
    by_cases hl : i < 48
    · simp [wsH, hl, h2 i hi]
    · simp [wsH, hl]
theorem pI_same (h : Hp) (p k : Nat) (x : Int32) : (pI h p k x).1 p = upd (h.1 p) k x := by simp [pI]
theorem pI_ne (h : Hp) {p q : Nat} (k : Nat) (x : Int32) (hq : q ≠ p) : (pI h p k x).1 q = h.1 q := by simp [pI, hq]
theorem pL_same (h : Hp) (p k : Nat) (x : Int64) : (pL h p k x).2 p = vp_updL (h.2 p) k x := by simp [pL]
theorem pL_ne (h : Hp) {p q : Nat} (k : Nat) (x : Int64) (hq : q ≠ p) : (pL h p k x).2 q = h.2 q := by simp [pL, hq]
theorem cel_pI (E : En) (h : Hp) {p q : Nat} (k : Nat) (x : Int32) (hq : q ≠ p) : cel E (pI h p k x) q = cel E h q := by
  have e1 := pI_ne h k x hq
  have e2 : (pI h p k x).2 = h.2 := rfl
  have ef : ∀ ks, fsO E (pI h p k x) q ks = fsO E h q ks := by
    intro ks
    unfold fsO
    apply List.map_congr_left
    intro j _
    cases (ks.getD j 0) with
    | zero => simp [fv, e1]
    | succ n => cases n <;> simp [fv, e2]
  have ea : ∀ t, arO E (pI h p k x) q t = arO E h q t := by
    intro t
    unfold arO
    split <;> simp [e1, e2]
  simp [cel, ef, ea]
theorem cel_pL (E : En) (h : Hp) {p q : Nat} (k : Nat) (x : Int64) (hq : q ≠ p) : cel E (pL h p k x) q = cel E h q := by
  have e1 := pL_ne h k x hq
  have e2 : (pL h p k x).1 = h.1 := rfl
  have ef : ∀ ks, fsO E (pL h p k x) q ks = fsO E h q ks := by
    intro ks
    unfold fsO
    apply List.map_congr_left
    intro j _
    cases (ks.getD j 0) with
    | zero => simp [fv, e2]
    | succ n => cases n <;> simp [fv, e1]
  have ea : ∀ t, arO E (pL h p k x) q t = arO E h q t := by
    intro t
    unfold arO
    split <;> simp [e1, e2]
  simp [cel, ef, ea]
theorem fsO_at (E : En) (h : Hp) (p : Nat) {ks : List Nat} {k kd : Nat} (hk : ks[k]? = some kd) : (fsO E h p ks)[k]? = some (fv E h p k kd) := by
  obtain ⟨hl, e⟩ := List.getElem?_eq_some_iff.mp hk
  subst e
  simp [fsO, hl]
theorem fsO_len (E : En) (h : Hp) (p : Nat) (ks : List Nat) : (fsO E h p ks).length = ks.length := by simp [fsO]
theorem fsO_pI (E : En) (h : Hp) (p : Nat) {ks : List Nat} {k : Nat} (x : Int32) (hk : ks[k]? = some 0) : (fsO E h p ks).set k (.int x) = fsO E (pI h p k x) p ks := by
  have hl : k < ks.length := (List.getElem?_eq_some_iff.mp hk).1
  apply List.ext_getElem?
  intro i
  by_cases hi : i = k
  · subst hi
    rw [fsO_at E _ p hk, List.getElem?_set_self (by rw [fsO_len]; exact hl)]
    simp [fv, pI_same, upd]
  · rw [List.getElem?_set_ne (fun q => hi q.symm)]
    cases hki : ks[i]? with
    | none =>
      have h1 : ks.length ≤ i := List.getElem?_eq_none_iff.mp hki
      rw [List.getElem?_eq_none (by rw [fsO_len]; exact h1), List.getElem?_eq_none (by rw [fsO_len]; exact h1)]
    | some kd =>
      rw [fsO_at E _ p hki, fsO_at E _ p hki]
      cases kd with
      | zero => simp [fv, pI_same, upd, hi]
      | succ n => cases n <;> simp [fv, pI]
theorem fsO_pL (E : En) (h : Hp) (p : Nat) {ks : List Nat} {k : Nat} (x : Int64) (hk : ks[k]? = some 1) : (fsO E h p ks).set k (.long x) = fsO E (pL h p k x) p ks := by
  have hl : k < ks.length := (List.getElem?_eq_some_iff.mp hk).1
  apply List.ext_getElem?
  intro i
  by_cases hi : i = k
  · subst hi
    rw [fsO_at E _ p hk, List.getElem?_set_self (by rw [fsO_len]; exact hl)]
    simp [fv, pL_same, vp_updL]
  · rw [List.getElem?_set_ne (fun q => hi q.symm)]
    cases hki : ks[i]? with
    | none =>
      have h1 : ks.length ≤ i := List.getElem?_eq_none_iff.mp hki
      rw [List.getElem?_eq_none (by rw [fsO_len]; exact h1), List.getElem?_eq_none (by rw [fsO_len]; exact h1)]
    | some kd =>
      rw [fsO_at E _ p hki, fsO_at E _ p hki]
      cases kd with
      | zero => simp [fv, pL]
      | succ n => cases n <;> simp [fv, pL_same, vp_updL, hi]
/-- the addresses: apart, and among those that may change -/
def EO (E : En) (A : Nat → Prop) : Prop := (∀ p q, p < 48 → q < 48 → E.2.1 p = E.2.1 q → p = q) ∧ ∀ p, p < 48 → A (E.2.1 p)
theorem EO.D {E : En} {A : Nat → Prop} (h : EO E A) (hh : Hp) : va_D A (wsH E hh) := by
  have at' : ∀ (i : Nat) (x : Nat × va_E), (wsH E hh)[i]? = some x → i < 48 ∧ x.1 = E.2.1 i := by
    intro i x hx
    by_cases hi : i < 48
    · rw [wsH_at E hh hi] at hx
      cases hx
      exact ⟨hi, rfl⟩
    · simp [wsH, hi] at hx
  refine ⟨fun i j x y hx hy hxy => ?_, fun k x hx => ?_⟩
  · obtain ⟨a1, a2⟩ := at' i x hx
    obtain ⟨b1, b2⟩ := at' j y hy
    exact h.1 i j a1 b1 (by rw [← a2, ← b2]; exact hxy)
  · obtain ⟨a1, a2⟩ := at' k x hx
    rw [a2]
    exact h.2 k a1
-- the constants
def cPL : Nat → Int32 := fun j => ([1000000, 100000, 10000, 1000, 100, 10, 1] : List Int32).getD j 0
def cFA : Nat → Int32 := fun j => ([1, 1, 2, 6, 24, 120, 720, 5040, 40320, 362880] : List Int32).getD j 0
def cFI : Nat → Int32 := fun j => ([301, 176, 125, 97, 79, 67, 58, 51, 46] : List Int32).getD j 0
def cSC : Nat → Int32 := fun j => ([1, 10, 100] : List Int32).getD j 0
def cLE : List Int32 := [109, 115, 118, 100, 99, 104, 108, 103, 111]
def cRU : List Int32 := [117, 101, 116]
def CO (E : En) (A : Nat → Prop) (U : State) (H : Heap) : Prop :=
  (va_Z "ToldFigures" "PLACES" "[I" (.ref (E.2.1 60)) A U H ∧ va_T .int (E.2.1 60) 7 (fun j => .int (cPL j)) A U H) ∧
  (va_Z "ToldFigures" "FACTORIALS" "[I" (.ref (E.2.1 61)) A U H ∧ va_T .int (E.2.1 61) 10 (fun j => .int (cFA j)) A U H) ∧
  (va_Z "ToldFigures" "FIRST_IN_1000" "[I" (.ref (E.2.1 62)) A U H ∧ va_T .int (E.2.1 62) 9 (fun j => .int (cFI j)) A U H) ∧
  (va_Z "ToldFigures$ClaimText" "SCALES" "[I" (.ref (E.2.1 63)) A U H ∧ va_T .int (E.2.1 63) 3 (fun j => .int (cSC j)) A U H) ∧
  (va_Nw (.fieldLinkNest "ToldFigures$Row" 27 "ToldFigures" "PLACES" "[I" "ToldFigures") U ∧ va_Nw (.fieldLinkNest "ToldFigures$RowTable" 59 "ToldFigures" "FACTORIALS" "[I" "ToldFigures") U) ∧
  (vk_R "ToldFigures$ClaimText" 57 "msvdchlgo" (E.2.1 64) U ∧ vk_R "ToldFigures$ClaimText" 86 "uet" (E.2.1 65) U) ∧
  vk_S 2 [9, 3] [cLE, cRU] (fun i => E.2.1 (64 + i)) (fun i => E.2.1 (66 + i)) A U H ∧
  va_Z "java/lang/String" "COMPACT_STRINGS" "Z" (.int 1) A U H
theorem CO.to {E : En} {A : Nat → Prop} {s U : State} {H H1 : Heap} (h : CO E A s H) (hW : s.WarmedH U.vm) (hq : ∀ a : Nat, a < H.size → ¬ A a → H1[a]? = H[a]?) : CO E A U H1 := by
  have hv := hW.alike
  obtain ⟨⟨a1, a2⟩, ⟨b1, b2⟩, ⟨c1, c2⟩, ⟨d1, d2⟩, ⟨e1, e2⟩, ⟨f1, f2⟩, g1, g2⟩ := h
  exact ⟨⟨(a1.kept hq).moved hv, (a2.kept hq).moved hv⟩, ⟨(b1.kept hq).moved hv, (b2.kept hq).moved hv⟩, ⟨(c1.kept hq).moved hv, (c2.kept hq).moved hv⟩, ⟨(d1.kept hq).moved hv, (d2.kept hq).moved hv⟩, ⟨e1.warmF hW, e2.warmF hW⟩, ⟨f1.warm hW, f2.warm hW⟩, (g1.kept hq).moved hv, (g2.kept hq).moved hv⟩
theorem CO.call {E : En} {A : Nat → Prop} {U : State} (g : JFrame) (mk : MethodId) (a : Array Value) (h : CO E A U U.heap) : CO E A (U.calling g mk a) (U.calling g mk a).heap := by
  have hv : U.vm.Alike (U.calling g mk a).vm := Vm.Alike.refl U.vm
  obtain ⟨⟨a1, a2⟩, ⟨b1, b2⟩, ⟨c1, c2⟩, ⟨d1, d2⟩, ⟨e1, e2⟩, ⟨f1, f2⟩, g1, g2⟩ := h
  exact ⟨⟨a1.moved hv, a2.moved hv⟩, ⟨b1.moved hv, b2.moved hv⟩, ⟨c1.moved hv, c2.moved hv⟩, ⟨d1.moved hv, d2.moved hv⟩, ⟨e1.same rfl rfl, e2.same rfl rfl⟩, ⟨f1.same rfl, f2.same rfl⟩, g1.moved hv, g2.moved hv⟩
/-- the world of h in the heap H -/
def WX (E : En) (h : Hp) (U : State) (H : Heap) : Prop := va_P E.1 vwCl (wsH E h) H ∧ va_X (E.2.1 68) (h.1 69 0).toNatClampNeg (h.1 68) U H
/-- the locals, by their slots; none: unset, or a long's second half -/
def LH (E : En) (ls : Array Slot) (n : Nat) (L : List (Option Value)) : Prop := ls.size = n ∧ lv_wf ls ∧ ∀ (i : Nat) (v : Value), L[i]? = some (some v) → ls[i]? = some (.val (emb E v))
def Bas (d : Nat) (Y : MY) (E : En) (A : Nat → Prop) (p : Program) (R : Room) (s : State) (m : MethodId) (args : Array Value) (meth : Method) (c : Code) (cells slots : Nat) : Prop :=
  p.tables.exec = Jvm.exec ∧ c.code = Y.2.1 ∧ c.maxLocals = Y.2.2.1 ∧ s.vm.findClass Y.1.cls = some m.cls ∧ (∀ w ∈ gt, w.before args s = true) ∧ va_K E.1 vwCl (tyE E) s ∧ CO E A s s.heap ∧ EO E A ∧ E.2.1 68 < s.heap.size ∧ ¬ A (E.2.1 68) ∧ meth.sig.returnType = Y.2.2.2 ∧ meth.locks = false ∧ d ≤ R.frames ∧ 38 * d ≤ R.locals ∧ cells ≤ R.cells ∧ slots ≤ R.slots
def Aw (d : Nat) (Y : MY) (K : KQT) (pc : Nat) (L : List (Option Value)) (S : List Value) (h : Hp) : Prop :=
  ∀ (E : En) (A : Nat → Prop) (p : Program) (l : Launch) (e : Env) (R : Room) (s : State) (m : MethodId) (args : Array Value) (below : List Frame) (meth : Method) (c : Code) (cells slots : Nat) (Q : State → Prop), Bas d Y E A p R s m args meth c cells slots → K E A s args below meth cells slots Q → ∀ (H : Heap) (locs : List Loc) (ls : Array Slot), va_S A s.heap H locs → WX E h s H → LH E ls Y.2.2.1 L → W p l e R s m args below meth c H locs cells slots Q (F0 m pc ls (S.map (emb E)))
abbrev Pst : Type := Option Value → Hp → Prop
def Qx (E : En) (A : Nat → Prop) (P : Pst) : Array Value → State → Outcome → State → Prop := fun _ st oc t => ∃ (rv : Option Value) (h' : Hp), oc = .returned (rv.map (emb E)) ∧ P rv h' ∧ WX E h' t t.heap ∧ va_F A st t
def Kp (P : Pst) : KQT := fun E A s args below _ cells slots Q => Q = MQ below (Qx E A P) args s cells slots A
/-- the contract of a method, d calls deep at most: from the world of h it returns, with P -/
def Rn (d : Nat) (Y : MY) (as : List Value) (h : Hp) (P : Pst) : Prop :=
  ∀ (l : Launch) (E : En) (A : Nat → Prop), EO E A → ¬ A (E.2.1 68) → Met l Y.1 (wsY Y) (rmD d) (va_Pc (as.map (emb E)) (fun U => WX E h U U.heap ∧ va_K E.1 vwCl (tyE E) U ∧ CO E A U U.heap)) (Qx E A P) 0 0 A
/-- the locals at a method's start -/
def Lsl : List Value → List (Option Value)
  | [] => []
  | v :: r => if v.category = 2 then some v :: none :: Lsl r else some v :: Lsl r
def Lent (as : List Value) (n : Nat) : List (Option Value) := Lsl as ++ List.replicate (n - (Lsl as).length) none
