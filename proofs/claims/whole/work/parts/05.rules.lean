theorem emb_cat (E : En) (v : Value) : (emb E v).category = v.category := by cases v <;> rfl
def lst (E : En) (L : List (Option Value)) : List (Nat × Value) := (List.range L.length).filterMap fun j => match L[j]? with
  | some (some w) => some (j, emb E w)
  | _ => none
theorem lst_mem {E : En} {L : List (Option Value)} {q : Nat × Value} : q ∈ lst E L ↔ ∃ w, L[q.1]? = some (some w) ∧ q.2 = emb E w := by
  unfold lst
  rw [List.mem_filterMap]
  constructor
  · rintro ⟨j, hj, e⟩
    split at e
    · rename_i w hw
      cases e
      exact ⟨w, hw, rfl⟩
    · cases e
  · rintro ⟨w, h1, h2⟩
    refine ⟨q.1, List.mem_range.mpr (List.getElem?_eq_some_iff.mp h1).1, ?_⟩
    rw [h1]
    show some (q.1, emb E w) = some q
    rw [← h2]
theorem LH.has {E : En} {ls : Array Slot} {n : Nat} {L : List (Option Value)} (h : LH E ls n L) : lv_has ls n (lst E L) := by
  refine ⟨h.1, h.2.1, fun q hq => ?_⟩
  obtain ⟨w, h1, h2⟩ := lst_mem.mp hq
  rw [h.2.2 q.1 w h1, h2]
theorem LH.at {E : En} {ls : Array Slot} {n : Nat} {L : List (Option Value)} (h : LH E ls n L) {k : Nat} {v : Value} (hk : L[k]? = some (some v)) : ls[k]? = some (.val (emb E v)) := h.2.2 k v hk
/-- the slot ahead of place i holds no long -/
def nol (L : List (Option Value)) (i : Nat) : Prop := ∀ j w, j + 1 = i → L[j]? = some (some w) → ¬ w.category = 2
theorem LH.of1 {E : En} {ls : Array Slot} {n i : Nat} {L : List (Option Value)} {v : Value} (hi : i < L.length) (hn : nol L i) (h : lv_has ls n ((i, emb E v) :: (lst E L).filter (fun q => !(q.1 == i) && !(q.1 + 1 == i && q.2.category == 2)))) : LH E ls n (L.set i (some v)) := by
  refine ⟨h.1, h.2.1, fun j w hj => ?_⟩
  by_cases e : j = i
  · subst e
    rw [List.getElem?_set_self hi] at hj
    cases hj
    exact h.2.2 (j, emb E v) List.mem_cons_self
  · rw [List.getElem?_set_ne (fun q => e q.symm)] at hj
    refine h.2.2 (j, emb E w) (List.mem_cons_of_mem _ (List.mem_filter.mpr ⟨lst_mem.mpr ⟨w, hj, rfl⟩, ?_⟩))
    simp only [emb_cat, Bool.and_eq_true, Bool.not_eq_true', beq_eq_false_iff_ne, ne_eq, Bool.and_eq_false_iff]
    refine ⟨e, ?_⟩
    by_cases e2 : j + 1 = i
    · exact Or.inr (hn j w e2 hj)
    · exact Or.inl e2
theorem LH.of2 {E : En} {ls : Array Slot} {n i : Nat} {L : List (Option Value)} {v : Value} (hi : i + 1 < L.length) (hn : nol L i) (h : lv_has ls n ((i, emb E v) :: (lst E L).filter (fun q => !(q.1 == i) && (!(q.1 == i + 1) && !(q.1 + 1 == i && q.2.category == 2))))) : LH E ls n ((L.set i (some v)).set (i + 1) none) := by
  refine ⟨h.1, h.2.1, fun j w hj => ?_⟩
  by_cases e1 : j = i + 1
  · subst e1
    rw [List.getElem?_set_self (by simpa using hi)] at hj
    cases hj
  · rw [List.getElem?_set_ne (fun q => e1 q.symm)] at hj
    by_cases e : j = i
    · subst e
      rw [List.getElem?_set_self (by omega)] at hj
      cases hj
      exact h.2.2 (j, emb E v) List.mem_cons_self
    · rw [List.getElem?_set_ne (fun q => e q.symm)] at hj
      refine h.2.2 (j, emb E w) (List.mem_cons_of_mem _ (List.mem_filter.mpr ⟨lst_mem.mpr ⟨w, hj, rfl⟩, ?_⟩))
      simp only [emb_cat, Bool.and_eq_true, Bool.not_eq_true', beq_eq_false_iff_ne, ne_eq, Bool.and_eq_false_iff]
      refine ⟨e, e1, ?_⟩
      by_cases e2 : j + 1 = i
      · exact Or.inr (hn j w e2 hj)
      · exact Or.inl e2

theorem r_iadd {d : Nat} {Y : MY} {K : KQT} {pc nx : Nat} {L : List (Option Value)} {S : List Value} {h : Hp} {x y : Int32} (hd : Ins Y.2.1 pc (.iadd) 1 nx) (k : Aw d Y K nx L (.int (x + y) :: S) h) : Aw d Y K pc L (.int y :: .int x :: S) h := by
  obtain ⟨hd, rfl⟩ := hd
  intro E A p l e R s m args below meth c cells slots Q B hK H locs ls hS hW hl
  exact lv_iadd B.1 B.2.1 hd (k E A p l e R s m args below meth c cells slots Q B hK H locs ls hS hW hl)

theorem r_isub {d : Nat} {Y : MY} {K : KQT} {pc nx : Nat} {L : List (Option Value)} {S : List Value} {h : Hp} {x y : Int32} (hd : Ins Y.2.1 pc (.isub) 1 nx) (k : Aw d Y K nx L (.int (x - y) :: S) h) : Aw d Y K pc L (.int y :: .int x :: S) h := by
  obtain ⟨hd, rfl⟩ := hd
  intro E A p l e R s m args below meth c cells slots Q B hK H locs ls hS hW hl
  exact lv_isub B.1 B.2.1 hd (k E A p l e R s m args below meth c cells slots Q B hK H locs ls hS hW hl)

theorem r_imul {d : Nat} {Y : MY} {K : KQT} {pc nx : Nat} {L : List (Option Value)} {S : List Value} {h : Hp} {x y : Int32} (hd : Ins Y.2.1 pc (.imul) 1 nx) (k : Aw d Y K nx L (.int (x * y) :: S) h) : Aw d Y K pc L (.int y :: .int x :: S) h := by
  obtain ⟨hd, rfl⟩ := hd
  intro E A p l e R s m args below meth c cells slots Q B hK H locs ls hS hW hl
  exact lv_imul B.1 B.2.1 hd (k E A p l e R s m args below meth c cells slots Q B hK H locs ls hS hW hl)

theorem r_iand {d : Nat} {Y : MY} {K : KQT} {pc nx : Nat} {L : List (Option Value)} {S : List Value} {h : Hp} {x y : Int32} (hd : Ins Y.2.1 pc (.iand) 1 nx) (k : Aw d Y K nx L (.int (x &&& y) :: S) h) : Aw d Y K pc L (.int y :: .int x :: S) h := by
  obtain ⟨hd, rfl⟩ := hd
  intro E A p l e R s m args below meth c cells slots Q B hK H locs ls hS hW hl
  exact lv_iand B.1 B.2.1 hd (k E A p l e R s m args below meth c cells slots Q B hK H locs ls hS hW hl)

theorem r_ior {d : Nat} {Y : MY} {K : KQT} {pc nx : Nat} {L : List (Option Value)} {S : List Value} {h : Hp} {x y : Int32} (hd : Ins Y.2.1 pc (.ior) 1 nx) (k : Aw d Y K nx L (.int (x ||| y) :: S) h) : Aw d Y K pc L (.int y :: .int x :: S) h := by
  obtain ⟨hd, rfl⟩ := hd
  intro E A p l e R s m args below meth c cells slots Q B hK H locs ls hS hW hl
  exact lv_ior B.1 B.2.1 hd (k E A p l e R s m args below meth c cells slots Q B hK H locs ls hS hW hl)

theorem r_ixor {d : Nat} {Y : MY} {K : KQT} {pc nx : Nat} {L : List (Option Value)} {S : List Value} {h : Hp} {x y : Int32} (hd : Ins Y.2.1 pc (.ixor) 1 nx) (k : Aw d Y K nx L (.int (x ^^^ y) :: S) h) : Aw d Y K pc L (.int y :: .int x :: S) h := by
  obtain ⟨hd, rfl⟩ := hd
  intro E A p l e R s m args below meth c cells slots Q B hK H locs ls hS hW hl
  exact lv_ixor B.1 B.2.1 hd (k E A p l e R s m args below meth c cells slots Q B hK H locs ls hS hW hl)

theorem r_ladd {d : Nat} {Y : MY} {K : KQT} {pc nx : Nat} {L : List (Option Value)} {S : List Value} {h : Hp} {x y : Int64} (hd : Ins Y.2.1 pc (.ladd) 1 nx) (k : Aw d Y K nx L (.long (x + y) :: S) h) : Aw d Y K pc L (.long y :: .long x :: S) h := by
  obtain ⟨hd, rfl⟩ := hd
  intro E A p l e R s m args below meth c cells slots Q B hK H locs ls hS hW hl
  exact lv_ladd B.1 B.2.1 hd (k E A p l e R s m args below meth c cells slots Q B hK H locs ls hS hW hl)

theorem r_lsub {d : Nat} {Y : MY} {K : KQT} {pc nx : Nat} {L : List (Option Value)} {S : List Value} {h : Hp} {x y : Int64} (hd : Ins Y.2.1 pc (.lsub) 1 nx) (k : Aw d Y K nx L (.long (x - y) :: S) h) : Aw d Y K pc L (.long y :: .long x :: S) h := by
  obtain ⟨hd, rfl⟩ := hd
  intro E A p l e R s m args below meth c cells slots Q B hK H locs ls hS hW hl
  exact lv_lsub B.1 B.2.1 hd (k E A p l e R s m args below meth c cells slots Q B hK H locs ls hS hW hl)

theorem r_lmul {d : Nat} {Y : MY} {K : KQT} {pc nx : Nat} {L : List (Option Value)} {S : List Value} {h : Hp} {x y : Int64} (hd : Ins Y.2.1 pc (.lmul) 1 nx) (k : Aw d Y K nx L (.long (x * y) :: S) h) : Aw d Y K pc L (.long y :: .long x :: S) h := by
  obtain ⟨hd, rfl⟩ := hd
  intro E A p l e R s m args below meth c cells slots Q B hK H locs ls hS hW hl
  exact lv_lmul B.1 B.2.1 hd (k E A p l e R s m args below meth c cells slots Q B hK H locs ls hS hW hl)

/-- the remainder as the machine has it -/
def rem32 (x y : Int32) : Int32 := x - x / y * y
def rem64 (x y : Int64) : Int64 := x - x / y * y
def ush32 (x y : Int32) : Int32 := (x.toUInt32 >>> (y.toUInt32 &&& Int32.toUInt32 31)).toInt32
def chr32 (x : Int32) : Int32 := (x.toUInt32 % 65536).toInt32
theorem r_idiv {d : Nat} {Y : MY} {K : KQT} {pc nx : Nat} {L : List (Option Value)} {S : List Value} {h : Hp} {x y : Int32} (hne : ¬ y = 0) (hd : Ins Y.2.1 pc (.idiv) 1 nx) (k : Aw d Y K nx L (.int (x / y) :: S) h) : Aw d Y K pc L (.int y :: .int x :: S) h := by
  obtain ⟨hd, rfl⟩ := hd
  intro E A p l e R s m args below meth c cells slots Q B hK H locs ls hS hW hl
  exact lv_idiv B.1 B.2.1 hd hne (k E A p l e R s m args below meth c cells slots Q B hK H locs ls hS hW hl)

theorem r_irem {d : Nat} {Y : MY} {K : KQT} {pc nx : Nat} {L : List (Option Value)} {S : List Value} {h : Hp} {x y : Int32} (hne : ¬ y = 0) (hd : Ins Y.2.1 pc (.irem) 1 nx) (k : Aw d Y K nx L (.int (rem32 x y) :: S) h) : Aw d Y K pc L (.int y :: .int x :: S) h := by
  obtain ⟨hd, rfl⟩ := hd
  intro E A p l e R s m args below meth c cells slots Q B hK H locs ls hS hW hl
  exact lv_irem B.1 B.2.1 hd hne (k E A p l e R s m args below meth c cells slots Q B hK H locs ls hS hW hl)

theorem r_ldiv {d : Nat} {Y : MY} {K : KQT} {pc nx : Nat} {L : List (Option Value)} {S : List Value} {h : Hp} {x y : Int64} (hne : ¬ y = 0) (hd : Ins Y.2.1 pc (.ldiv) 1 nx) (k : Aw d Y K nx L (.long (x / y) :: S) h) : Aw d Y K pc L (.long y :: .long x :: S) h := by
  obtain ⟨hd, rfl⟩ := hd
  intro E A p l e R s m args below meth c cells slots Q B hK H locs ls hS hW hl
  exact lv_ldiv B.1 B.2.1 hd hne (k E A p l e R s m args below meth c cells slots Q B hK H locs ls hS hW hl)

theorem r_lrem {d : Nat} {Y : MY} {K : KQT} {pc nx : Nat} {L : List (Option Value)} {S : List Value} {h : Hp} {x y : Int64} (hne : ¬ y = 0) (hd : Ins Y.2.1 pc (.lrem) 1 nx) (k : Aw d Y K nx L (.long (rem64 x y) :: S) h) : Aw d Y K pc L (.long y :: .long x :: S) h := by
  obtain ⟨hd, rfl⟩ := hd
  intro E A p l e R s m args below meth c cells slots Q B hK H locs ls hS hW hl
  exact lv_lrem B.1 B.2.1 hd hne (k E A p l e R s m args below meth c cells slots Q B hK H locs ls hS hW hl)

theorem r_ishl {d : Nat} {Y : MY} {K : KQT} {pc nx : Nat} {L : List (Option Value)} {S : List Value} {h : Hp} {x y : Int32} (hd : Ins Y.2.1 pc (.ishl) 1 nx) (k : Aw d Y K nx L (.int (x <<< (y &&& 31)) :: S) h) : Aw d Y K pc L (.int y :: .int x :: S) h := by
  obtain ⟨hd, rfl⟩ := hd
  intro E A p l e R s m args below meth c cells slots Q B hK H locs ls hS hW hl
  exact lv_ishl B.1 B.2.1 hd (k E A p l e R s m args below meth c cells slots Q B hK H locs ls hS hW hl)

theorem r_ishr {d : Nat} {Y : MY} {K : KQT} {pc nx : Nat} {L : List (Option Value)} {S : List Value} {h : Hp} {x y : Int32} (hd : Ins Y.2.1 pc (.ishr) 1 nx) (k : Aw d Y K nx L (.int (x >>> (y &&& 31)) :: S) h) : Aw d Y K pc L (.int y :: .int x :: S) h := by
  obtain ⟨hd, rfl⟩ := hd
  intro E A p l e R s m args below meth c cells slots Q B hK H locs ls hS hW hl
  exact lv_ishr B.1 B.2.1 hd (k E A p l e R s m args below meth c cells slots Q B hK H locs ls hS hW hl)

theorem r_iushr {d : Nat} {Y : MY} {K : KQT} {pc nx : Nat} {L : List (Option Value)} {S : List Value} {h : Hp} {x y : Int32} (hd : Ins Y.2.1 pc (.iushr) 1 nx) (k : Aw d Y K nx L (.int (ush32 x y) :: S) h) : Aw d Y K pc L (.int y :: .int x :: S) h := by
  obtain ⟨hd, rfl⟩ := hd
  intro E A p l e R s m args below meth c cells slots Q B hK H locs ls hS hW hl
  exact lv_iushr B.1 B.2.1 hd rfl (k E A p l e R s m args below meth c cells slots Q B hK H locs ls hS hW hl)

theorem r_ineg {d : Nat} {Y : MY} {K : KQT} {pc nx : Nat} {L : List (Option Value)} {S : List Value} {h : Hp} {x : Int32} (hd : Ins Y.2.1 pc (.ineg) 1 nx) (k : Aw d Y K nx L (.int (-x) :: S) h) : Aw d Y K pc L (.int x :: S) h := by
  obtain ⟨hd, rfl⟩ := hd
  intro E A p l e R s m args below meth c cells slots Q B hK H locs ls hS hW hl
  exact lv_ineg B.1 B.2.1 hd (k E A p l e R s m args below meth c cells slots Q B hK H locs ls hS hW hl)

theorem r_lneg {d : Nat} {Y : MY} {K : KQT} {pc nx : Nat} {L : List (Option Value)} {S : List Value} {h : Hp} {x : Int64} (hd : Ins Y.2.1 pc (.lneg) 1 nx) (k : Aw d Y K nx L (.long (-x) :: S) h) : Aw d Y K pc L (.long x :: S) h := by
  obtain ⟨hd, rfl⟩ := hd
  intro E A p l e R s m args below meth c cells slots Q B hK H locs ls hS hW hl
  exact lv_lneg B.1 B.2.1 hd (k E A p l e R s m args below meth c cells slots Q B hK H locs ls hS hW hl)

theorem r_i2l {d : Nat} {Y : MY} {K : KQT} {pc nx : Nat} {L : List (Option Value)} {S : List Value} {h : Hp} {x : Int32} (hd : Ins Y.2.1 pc (.i2l) 1 nx) (k : Aw d Y K nx L (.long x.toInt64 :: S) h) : Aw d Y K pc L (.int x :: S) h := by
  obtain ⟨hd, rfl⟩ := hd
  intro E A p l e R s m args below meth c cells slots Q B hK H locs ls hS hW hl
  exact lv_i2l B.1 B.2.1 hd rfl (k E A p l e R s m args below meth c cells slots Q B hK H locs ls hS hW hl)

theorem r_l2i {d : Nat} {Y : MY} {K : KQT} {pc nx : Nat} {L : List (Option Value)} {S : List Value} {h : Hp} {x : Int64} (hd : Ins Y.2.1 pc (.l2i) 1 nx) (k : Aw d Y K nx L (.int x.toInt32 :: S) h) : Aw d Y K pc L (.long x :: S) h := by
  obtain ⟨hd, rfl⟩ := hd
  intro E A p l e R s m args below meth c cells slots Q B hK H locs ls hS hW hl
  exact lv_l2i B.1 B.2.1 hd rfl (k E A p l e R s m args below meth c cells slots Q B hK H locs ls hS hW hl)

theorem r_i2b {d : Nat} {Y : MY} {K : KQT} {pc nx : Nat} {L : List (Option Value)} {S : List Value} {h : Hp} {x : Int32} (hd : Ins Y.2.1 pc (.i2b) 1 nx) (k : Aw d Y K nx L (.int x.toInt8.toInt32 :: S) h) : Aw d Y K pc L (.int x :: S) h := by
  obtain ⟨hd, rfl⟩ := hd
  intro E A p l e R s m args below meth c cells slots Q B hK H locs ls hS hW hl
  exact lv_i2b B.1 B.2.1 hd rfl (k E A p l e R s m args below meth c cells slots Q B hK H locs ls hS hW hl)

theorem r_i2s {d : Nat} {Y : MY} {K : KQT} {pc nx : Nat} {L : List (Option Value)} {S : List Value} {h : Hp} {x : Int32} (hd : Ins Y.2.1 pc (.i2s) 1 nx) (k : Aw d Y K nx L (.int x.toInt16.toInt32 :: S) h) : Aw d Y K pc L (.int x :: S) h := by
  obtain ⟨hd, rfl⟩ := hd
  intro E A p l e R s m args below meth c cells slots Q B hK H locs ls hS hW hl
  exact lv_i2s B.1 B.2.1 hd rfl (k E A p l e R s m args below meth c cells slots Q B hK H locs ls hS hW hl)

theorem r_i2c {d : Nat} {Y : MY} {K : KQT} {pc nx : Nat} {L : List (Option Value)} {S : List Value} {h : Hp} {x : Int32} (hd : Ins Y.2.1 pc (.i2c) 1 nx) (k : Aw d Y K nx L (.int (chr32 x) :: S) h) : Aw d Y K pc L (.int x :: S) h := by
  obtain ⟨hd, rfl⟩ := hd
  intro E A p l e R s m args below meth c cells slots Q B hK H locs ls hS hW hl
  exact lv_i2c B.1 B.2.1 hd rfl (k E A p l e R s m args below meth c cells slots Q B hK H locs ls hS hW hl)

theorem r_dup {d : Nat} {Y : MY} {K : KQT} {pc nx : Nat} {L : List (Option Value)} {S : List Value} {h : Hp} {v : Value} (hv : v.category = 1) (hd : Ins Y.2.1 pc (.dup) 1 nx) (k : Aw d Y K nx L (v :: v :: S) h) : Aw d Y K pc L (v :: S) h := by
  obtain ⟨hd, rfl⟩ := hd
  intro E A p l e R s m args below meth c cells slots Q B hK H locs ls hS hW hl
  exact lv_dup B.1 B.2.1 hd (by rw [emb_cat]; exact hv) (k E A p l e R s m args below meth c cells slots Q B hK H locs ls hS hW hl)

theorem r_dup2 {d : Nat} {Y : MY} {K : KQT} {pc nx : Nat} {L : List (Option Value)} {S : List Value} {h : Hp} {v u : Value} (hv : v.category = 1) (hu : u.category = 1) (hd : Ins Y.2.1 pc (.dup2) 1 nx) (k : Aw d Y K nx L (v :: u :: v :: u :: S) h) : Aw d Y K pc L (v :: u :: S) h := by
  obtain ⟨hd, rfl⟩ := hd
  intro E A p l e R s m args below meth c cells slots Q B hK H locs ls hS hW hl
  exact lv_dup2_11 B.1 B.2.1 hd (by rw [emb_cat]; exact hv) (by rw [emb_cat]; exact hu) (k E A p l e R s m args below meth c cells slots Q B hK H locs ls hS hW hl)

theorem r_dup2l {d : Nat} {Y : MY} {K : KQT} {pc nx : Nat} {L : List (Option Value)} {S : List Value} {h : Hp} {x : Int64} (hd : Ins Y.2.1 pc (.dup2) 1 nx) (k : Aw d Y K nx L (.long x :: .long x :: S) h) : Aw d Y K pc L (.long x :: S) h := by
  obtain ⟨hd, rfl⟩ := hd
  intro E A p l e R s m args below meth c cells slots Q B hK H locs ls hS hW hl
  exact lv_dup2_2 B.1 B.2.1 hd rfl (k E A p l e R s m args below meth c cells slots Q B hK H locs ls hS hW hl)

theorem r_pop {d : Nat} {Y : MY} {K : KQT} {pc nx : Nat} {L : List (Option Value)} {S : List Value} {h : Hp} {v : Value} (hv : v.category = 1) (hd : Ins Y.2.1 pc (.pop) 1 nx) (k : Aw d Y K nx L (S) h) : Aw d Y K pc L (v :: S) h := by
  obtain ⟨hd, rfl⟩ := hd
  intro E A p l e R s m args below meth c cells slots Q B hK H locs ls hS hW hl
  exact lv_pop B.1 B.2.1 hd (by rw [emb_cat]; exact hv) (k E A p l e R s m args below meth c cells slots Q B hK H locs ls hS hW hl)

theorem r_iconst_m1 {d : Nat} {Y : MY} {K : KQT} {pc nx : Nat} {L : List (Option Value)} {S : List Value} {h : Hp}  (hd : Ins Y.2.1 pc (.iconst (-1)) 1 nx) (k : Aw d Y K nx L (.int (-1) :: S) h) : Aw d Y K pc L (S) h := by
  obtain ⟨hd, rfl⟩ := hd
  intro E A p l e R s m args below meth c cells slots Q B hK H locs ls hS hW hl
  exact lv_iconst B.1 B.2.1 hd (by decide) (k E A p l e R s m args below meth c cells slots Q B hK H locs ls hS hW hl)

theorem r_iconst_0 {d : Nat} {Y : MY} {K : KQT} {pc nx : Nat} {L : List (Option Value)} {S : List Value} {h : Hp}  (hd : Ins Y.2.1 pc (.iconst 0) 1 nx) (k : Aw d Y K nx L (.int 0 :: S) h) : Aw d Y K pc L (S) h := by
  obtain ⟨hd, rfl⟩ := hd
  intro E A p l e R s m args below meth c cells slots Q B hK H locs ls hS hW hl
  exact lv_iconst B.1 B.2.1 hd (by decide) (k E A p l e R s m args below meth c cells slots Q B hK H locs ls hS hW hl)

theorem r_iconst_1 {d : Nat} {Y : MY} {K : KQT} {pc nx : Nat} {L : List (Option Value)} {S : List Value} {h : Hp}  (hd : Ins Y.2.1 pc (.iconst 1) 1 nx) (k : Aw d Y K nx L (.int 1 :: S) h) : Aw d Y K pc L (S) h := by
  obtain ⟨hd, rfl⟩ := hd
  intro E A p l e R s m args below meth c cells slots Q B hK H locs ls hS hW hl
  exact lv_iconst B.1 B.2.1 hd (by decide) (k E A p l e R s m args below meth c cells slots Q B hK H locs ls hS hW hl)

theorem r_iconst_2 {d : Nat} {Y : MY} {K : KQT} {pc nx : Nat} {L : List (Option Value)} {S : List Value} {h : Hp}  (hd : Ins Y.2.1 pc (.iconst 2) 1 nx) (k : Aw d Y K nx L (.int 2 :: S) h) : Aw d Y K pc L (S) h := by
  obtain ⟨hd, rfl⟩ := hd
  intro E A p l e R s m args below meth c cells slots Q B hK H locs ls hS hW hl
  exact lv_iconst B.1 B.2.1 hd (by decide) (k E A p l e R s m args below meth c cells slots Q B hK H locs ls hS hW hl)

theorem r_iconst_3 {d : Nat} {Y : MY} {K : KQT} {pc nx : Nat} {L : List (Option Value)} {S : List Value} {h : Hp}  (hd : Ins Y.2.1 pc (.iconst 3) 1 nx) (k : Aw d Y K nx L (.int 3 :: S) h) : Aw d Y K pc L (S) h := by
  obtain ⟨hd, rfl⟩ := hd
  intro E A p l e R s m args below meth c cells slots Q B hK H locs ls hS hW hl
  exact lv_iconst B.1 B.2.1 hd (by decide) (k E A p l e R s m args below meth c cells slots Q B hK H locs ls hS hW hl)

theorem r_iconst_4 {d : Nat} {Y : MY} {K : KQT} {pc nx : Nat} {L : List (Option Value)} {S : List Value} {h : Hp}  (hd : Ins Y.2.1 pc (.iconst 4) 1 nx) (k : Aw d Y K nx L (.int 4 :: S) h) : Aw d Y K pc L (S) h := by
  obtain ⟨hd, rfl⟩ := hd
  intro E A p l e R s m args below meth c cells slots Q B hK H locs ls hS hW hl
  exact lv_iconst B.1 B.2.1 hd (by decide) (k E A p l e R s m args below meth c cells slots Q B hK H locs ls hS hW hl)

theorem r_iconst_5 {d : Nat} {Y : MY} {K : KQT} {pc nx : Nat} {L : List (Option Value)} {S : List Value} {h : Hp}  (hd : Ins Y.2.1 pc (.iconst 5) 1 nx) (k : Aw d Y K nx L (.int 5 :: S) h) : Aw d Y K pc L (S) h := by
  obtain ⟨hd, rfl⟩ := hd
  intro E A p l e R s m args below meth c cells slots Q B hK H locs ls hS hW hl
  exact lv_iconst B.1 B.2.1 hd (by decide) (k E A p l e R s m args below meth c cells slots Q B hK H locs ls hS hW hl)

theorem r_lconst_0 {d : Nat} {Y : MY} {K : KQT} {pc nx : Nat} {L : List (Option Value)} {S : List Value} {h : Hp}  (hd : Ins Y.2.1 pc (.lconst 0) 1 nx) (k : Aw d Y K nx L (.long 0 :: S) h) : Aw d Y K pc L (S) h := by
  obtain ⟨hd, rfl⟩ := hd
  intro E A p l e R s m args below meth c cells slots Q B hK H locs ls hS hW hl
  exact lv_lconst B.1 B.2.1 hd (by decide) (k E A p l e R s m args below meth c cells slots Q B hK H locs ls hS hW hl)

theorem r_lconst_1 {d : Nat} {Y : MY} {K : KQT} {pc nx : Nat} {L : List (Option Value)} {S : List Value} {h : Hp}  (hd : Ins Y.2.1 pc (.lconst 1) 1 nx) (k : Aw d Y K nx L (.long 1 :: S) h) : Aw d Y K pc L (S) h := by
  obtain ⟨hd, rfl⟩ := hd
  intro E A p l e R s m args below meth c cells slots Q B hK H locs ls hS hW hl
  exact lv_lconst B.1 B.2.1 hd (by decide) (k E A p l e R s m args below meth c cells slots Q B hK H locs ls hS hW hl)

theorem r_bipush {d : Nat} {Y : MY} {K : KQT} {pc nx : Nat} {L : List (Option Value)} {S : List Value} {h : Hp} {n : Int} {v : Int32} (hv : (Int8.ofInt n).toInt32 = v) (hd : Ins Y.2.1 pc (.bipush n) 2 nx) (k : Aw d Y K nx L (.int v :: S) h) : Aw d Y K pc L (S) h := by
  obtain ⟨hd, rfl⟩ := hd
  intro E A p l e R s m args below meth c cells slots Q B hK H locs ls hS hW hl
  exact lv_bipush B.1 B.2.1 hd hv (k E A p l e R s m args below meth c cells slots Q B hK H locs ls hS hW hl)

theorem r_sipush {d : Nat} {Y : MY} {K : KQT} {pc nx : Nat} {L : List (Option Value)} {S : List Value} {h : Hp} {n : Int} {v : Int32} (hv : (Int16.ofInt n).toInt32 = v) (hd : Ins Y.2.1 pc (.sipush n) 3 nx) (k : Aw d Y K nx L (.int v :: S) h) : Aw d Y K pc L (S) h := by
  obtain ⟨hd, rfl⟩ := hd
  intro E A p l e R s m args below meth c cells slots Q B hK H locs ls hS hW hl
  exact lv_sipush B.1 B.2.1 hd hv (k E A p l e R s m args below meth c cells slots Q B hK H locs ls hS hW hl)

theorem r_ldc {d : Nat} {Y : MY} {K : KQT} {pc nx : Nat} {L : List (Option Value)} {S : List Value} {h : Hp} {i : Nat} {v : Int32} (hw : Cond.constant Y.1.cls i v ∈ gt) (hd : Ins Y.2.1 pc (.ldc i) 2 nx) (k : Aw d Y K nx L (.int v :: S) h) : Aw d Y K pc L (S) h := by
  obtain ⟨hd, rfl⟩ := hd
  intro E A p l e R s m args below meth c cells slots Q B hK H locs ls hS hW hl
  exact lv_ldc B.1 B.2.1 B.2.2.2.1 (B.2.2.2.2.1 _ hw) hd (k E A p l e R s m args below meth c cells slots Q B hK H locs ls hS hW hl)

theorem r_ldc_w {d : Nat} {Y : MY} {K : KQT} {pc nx : Nat} {L : List (Option Value)} {S : List Value} {h : Hp} {i : Nat} {v : Int32} (hw : Cond.constant Y.1.cls i v ∈ gt) (hd : Ins Y.2.1 pc (.ldc_w i) 3 nx) (k : Aw d Y K nx L (.int v :: S) h) : Aw d Y K pc L (S) h := by
  obtain ⟨hd, rfl⟩ := hd
  intro E A p l e R s m args below meth c cells slots Q B hK H locs ls hS hW hl
  exact lv_ldcw B.1 B.2.1 B.2.2.2.1 (B.2.2.2.2.1 _ hw) hd (k E A p l e R s m args below meth c cells slots Q B hK H locs ls hS hW hl)

theorem r_ldc2 {d : Nat} {Y : MY} {K : KQT} {pc nx : Nat} {L : List (Option Value)} {S : List Value} {h : Hp} {i : Nat} {v : Int64} (hw : Cond.constantLong Y.1.cls i v ∈ gt) (hd : Ins Y.2.1 pc (.ldc2_w i) 3 nx) (k : Aw d Y K nx L (.long v :: S) h) : Aw d Y K pc L (S) h := by
  obtain ⟨hd, rfl⟩ := hd
  intro E A p l e R s m args below meth c cells slots Q B hK H locs ls hS hW hl
  exact lv_ldc2 B.1 B.2.1 B.2.2.2.1 (B.2.2.2.2.1 _ hw) hd (k E A p l e R s m args below meth c cells slots Q B hK H locs ls hS hW hl)

theorem r_iload0 {d : Nat} {Y : MY} {K : KQT} {pc nx : Nat} {L : List (Option Value)} {S : List Value} {h : Hp} {x : Int32} (hd : Ins Y.2.1 pc (.iload_n 0) 1 nx) (k : Aw d Y K nx (some (.int x) :: L) (.int x :: S) h) : Aw d Y K pc (some (.int x) :: L) S h := by
  obtain ⟨hd, rfl⟩ := hd
  intro E A p l e R s m args below meth c cells slots Q B hK H locs ls hS hW hl
  exact lv_iload_n B.1 B.2.1 hd rfl (hl.at (k := 0) (v := .int x) rfl) (k E A p l e R s m args below meth c cells slots Q B hK H locs ls hS hW hl)

theorem r_iload1 {d : Nat} {Y : MY} {K : KQT} {pc nx : Nat} {L : List (Option Value)} {S : List Value} {h : Hp} {a0 : Option Value} {x : Int32} (hd : Ins Y.2.1 pc (.iload_n 1) 1 nx) (k : Aw d Y K nx (a0 :: some (.int x) :: L) (.int x :: S) h) : Aw d Y K pc (a0 :: some (.int x) :: L) S h := by
  obtain ⟨hd, rfl⟩ := hd
  intro E A p l e R s m args below meth c cells slots Q B hK H locs ls hS hW hl
  exact lv_iload_n B.1 B.2.1 hd rfl (hl.at (k := 1) (v := .int x) rfl) (k E A p l e R s m args below meth c cells slots Q B hK H locs ls hS hW hl)

theorem r_iload2 {d : Nat} {Y : MY} {K : KQT} {pc nx : Nat} {L : List (Option Value)} {S : List Value} {h : Hp} {a0 a1 : Option Value} {x : Int32} (hd : Ins Y.2.1 pc (.iload_n 2) 1 nx) (k : Aw d Y K nx (a0 :: a1 :: some (.int x) :: L) (.int x :: S) h) : Aw d Y K pc (a0 :: a1 :: some (.int x) :: L) S h := by
  obtain ⟨hd, rfl⟩ := hd
  intro E A p l e R s m args below meth c cells slots Q B hK H locs ls hS hW hl
  exact lv_iload_n B.1 B.2.1 hd rfl (hl.at (k := 2) (v := .int x) rfl) (k E A p l e R s m args below meth c cells slots Q B hK H locs ls hS hW hl)

theorem r_iload3 {d : Nat} {Y : MY} {K : KQT} {pc nx : Nat} {L : List (Option Value)} {S : List Value} {h : Hp} {a0 a1 a2 : Option Value} {x : Int32} (hd : Ins Y.2.1 pc (.iload_n 3) 1 nx) (k : Aw d Y K nx (a0 :: a1 :: a2 :: some (.int x) :: L) (.int x :: S) h) : Aw d Y K pc (a0 :: a1 :: a2 :: some (.int x) :: L) S h := by
  obtain ⟨hd, rfl⟩ := hd
  intro E A p l e R s m args below meth c cells slots Q B hK H locs ls hS hW hl
  exact lv_iload_n B.1 B.2.1 hd rfl (hl.at (k := 3) (v := .int x) rfl) (k E A p l e R s m args below meth c cells slots Q B hK H locs ls hS hW hl)

theorem r_iload4 {d : Nat} {Y : MY} {K : KQT} {pc nx : Nat} {L : List (Option Value)} {S : List Value} {h : Hp} {a0 a1 a2 a3 : Option Value} {x : Int32} (hd : Ins Y.2.1 pc (.iload 4) 2 nx) (k : Aw d Y K nx (a0 :: a1 :: a2 :: a3 :: some (.int x) :: L) (.int x :: S) h) : Aw d Y K pc (a0 :: a1 :: a2 :: a3 :: some (.int x) :: L) S h := by
  obtain ⟨hd, rfl⟩ := hd
  intro E A p l e R s m args below meth c cells slots Q B hK H locs ls hS hW hl
  exact lv_iload B.1 B.2.1 hd (hl.at (k := 4) (v := .int x) rfl) (k E A p l e R s m args below meth c cells slots Q B hK H locs ls hS hW hl)

theorem r_iload5 {d : Nat} {Y : MY} {K : KQT} {pc nx : Nat} {L : List (Option Value)} {S : List Value} {h : Hp} {a0 a1 a2 a3 a4 : Option Value} {x : Int32} (hd : Ins Y.2.1 pc (.iload 5) 2 nx) (k : Aw d Y K nx (a0 :: a1 :: a2 :: a3 :: a4 :: some (.int x) :: L) (.int x :: S) h) : Aw d Y K pc (a0 :: a1 :: a2 :: a3 :: a4 :: some (.int x) :: L) S h := by
  obtain ⟨hd, rfl⟩ := hd
  intro E A p l e R s m args below meth c cells slots Q B hK H locs ls hS hW hl
  exact lv_iload B.1 B.2.1 hd (hl.at (k := 5) (v := .int x) rfl) (k E A p l e R s m args below meth c cells slots Q B hK H locs ls hS hW hl)

theorem r_iload6 {d : Nat} {Y : MY} {K : KQT} {pc nx : Nat} {L : List (Option Value)} {S : List Value} {h : Hp} {a0 a1 a2 a3 a4 a5 : Option Value} {x : Int32} (hd : Ins Y.2.1 pc (.iload 6) 2 nx) (k : Aw d Y K nx (a0 :: a1 :: a2 :: a3 :: a4 :: a5 :: some (.int x) :: L) (.int x :: S) h) : Aw d Y K pc (a0 :: a1 :: a2 :: a3 :: a4 :: a5 :: some (.int x) :: L) S h := by
  obtain ⟨hd, rfl⟩ := hd
  intro E A p l e R s m args below meth c cells slots Q B hK H locs ls hS hW hl
  exact lv_iload B.1 B.2.1 hd (hl.at (k := 6) (v := .int x) rfl) (k E A p l e R s m args below meth c cells slots Q B hK H locs ls hS hW hl)

theorem r_iload7 {d : Nat} {Y : MY} {K : KQT} {pc nx : Nat} {L : List (Option Value)} {S : List Value} {h : Hp} {a0 a1 a2 a3 a4 a5 a6 : Option Value} {x : Int32} (hd : Ins Y.2.1 pc (.iload 7) 2 nx) (k : Aw d Y K nx (a0 :: a1 :: a2 :: a3 :: a4 :: a5 :: a6 :: some (.int x) :: L) (.int x :: S) h) : Aw d Y K pc (a0 :: a1 :: a2 :: a3 :: a4 :: a5 :: a6 :: some (.int x) :: L) S h := by
  obtain ⟨hd, rfl⟩ := hd
  intro E A p l e R s m args below meth c cells slots Q B hK H locs ls hS hW hl
  exact lv_iload B.1 B.2.1 hd (hl.at (k := 7) (v := .int x) rfl) (k E A p l e R s m args below meth c cells slots Q B hK H locs ls hS hW hl)

theorem r_iload8 {d : Nat} {Y : MY} {K : KQT} {pc nx : Nat} {L : List (Option Value)} {S : List Value} {h : Hp} {a0 a1 a2 a3 a4 a5 a6 a7 : Option Value} {x : Int32} (hd : Ins Y.2.1 pc (.iload 8) 2 nx) (k : Aw d Y K nx (a0 :: a1 :: a2 :: a3 :: a4 :: a5 :: a6 :: a7 :: some (.int x) :: L) (.int x :: S) h) : Aw d Y K pc (a0 :: a1 :: a2 :: a3 :: a4 :: a5 :: a6 :: a7 :: some (.int x) :: L) S h := by
  obtain ⟨hd, rfl⟩ := hd
  intro E A p l e R s m args below meth c cells slots Q B hK H locs ls hS hW hl
  exact lv_iload B.1 B.2.1 hd (hl.at (k := 8) (v := .int x) rfl) (k E A p l e R s m args below meth c cells slots Q B hK H locs ls hS hW hl)

theorem r_iload9 {d : Nat} {Y : MY} {K : KQT} {pc nx : Nat} {L : List (Option Value)} {S : List Value} {h : Hp} {a0 a1 a2 a3 a4 a5 a6 a7 a8 : Option Value} {x : Int32} (hd : Ins Y.2.1 pc (.iload 9) 2 nx) (k : Aw d Y K nx (a0 :: a1 :: a2 :: a3 :: a4 :: a5 :: a6 :: a7 :: a8 :: some (.int x) :: L) (.int x :: S) h) : Aw d Y K pc (a0 :: a1 :: a2 :: a3 :: a4 :: a5 :: a6 :: a7 :: a8 :: some (.int x) :: L) S h := by
  obtain ⟨hd, rfl⟩ := hd
  intro E A p l e R s m args below meth c cells slots Q B hK H locs ls hS hW hl
  exact lv_iload B.1 B.2.1 hd (hl.at (k := 9) (v := .int x) rfl) (k E A p l e R s m args below meth c cells slots Q B hK H locs ls hS hW hl)

theorem r_iload10 {d : Nat} {Y : MY} {K : KQT} {pc nx : Nat} {L : List (Option Value)} {S : List Value} {h : Hp} {a0 a1 a2 a3 a4 a5 a6 a7 a8 a9 : Option Value} {x : Int32} (hd : Ins Y.2.1 pc (.iload 10) 2 nx) (k : Aw d Y K nx (a0 :: a1 :: a2 :: a3 :: a4 :: a5 :: a6 :: a7 :: a8 :: a9 :: some (.int x) :: L) (.int x :: S) h) : Aw d Y K pc (a0 :: a1 :: a2 :: a3 :: a4 :: a5 :: a6 :: a7 :: a8 :: a9 :: some (.int x) :: L) S h := by
  obtain ⟨hd, rfl⟩ := hd
  intro E A p l e R s m args below meth c cells slots Q B hK H locs ls hS hW hl
  exact lv_iload B.1 B.2.1 hd (hl.at (k := 10) (v := .int x) rfl) (k E A p l e R s m args below meth c cells slots Q B hK H locs ls hS hW hl)

theorem r_iload11 {d : Nat} {Y : MY} {K : KQT} {pc nx : Nat} {L : List (Option Value)} {S : List Value} {h : Hp} {a0 a1 a2 a3 a4 a5 a6 a7 a8 a9 a10 : Option Value} {x : Int32} (hd : Ins Y.2.1 pc (.iload 11) 2 nx) (k : Aw d Y K nx (a0 :: a1 :: a2 :: a3 :: a4 :: a5 :: a6 :: a7 :: a8 :: a9 :: a10 :: some (.int x) :: L) (.int x :: S) h) : Aw d Y K pc (a0 :: a1 :: a2 :: a3 :: a4 :: a5 :: a6 :: a7 :: a8 :: a9 :: a10 :: some (.int x) :: L) S h := by
  obtain ⟨hd, rfl⟩ := hd
  intro E A p l e R s m args below meth c cells slots Q B hK H locs ls hS hW hl
  exact lv_iload B.1 B.2.1 hd (hl.at (k := 11) (v := .int x) rfl) (k E A p l e R s m args below meth c cells slots Q B hK H locs ls hS hW hl)

theorem r_iload12 {d : Nat} {Y : MY} {K : KQT} {pc nx : Nat} {L : List (Option Value)} {S : List Value} {h : Hp} {a0 a1 a2 a3 a4 a5 a6 a7 a8 a9 a10 a11 : Option Value} {x : Int32} (hd : Ins Y.2.1 pc (.iload 12) 2 nx) (k : Aw d Y K nx (a0 :: a1 :: a2 :: a3 :: a4 :: a5 :: a6 :: a7 :: a8 :: a9 :: a10 :: a11 :: some (.int x) :: L) (.int x :: S) h) : Aw d Y K pc (a0 :: a1 :: a2 :: a3 :: a4 :: a5 :: a6 :: a7 :: a8 :: a9 :: a10 :: a11 :: some (.int x) :: L) S h := by
  obtain ⟨hd, rfl⟩ := hd
  intro E A p l e R s m args below meth c cells slots Q B hK H locs ls hS hW hl
  exact lv_iload B.1 B.2.1 hd (hl.at (k := 12) (v := .int x) rfl) (k E A p l e R s m args below meth c cells slots Q B hK H locs ls hS hW hl)

theorem r_iload13 {d : Nat} {Y : MY} {K : KQT} {pc nx : Nat} {L : List (Option Value)} {S : List Value} {h : Hp} {a0 a1 a2 a3 a4 a5 a6 a7 a8 a9 a10 a11 a12 : Option Value} {x : Int32} (hd : Ins Y.2.1 pc (.iload 13) 2 nx) (k : Aw d Y K nx (a0 :: a1 :: a2 :: a3 :: a4 :: a5 :: a6 :: a7 :: a8 :: a9 :: a10 :: a11 :: a12 :: some (.int x) :: L) (.int x :: S) h) : Aw d Y K pc (a0 :: a1 :: a2 :: a3 :: a4 :: a5 :: a6 :: a7 :: a8 :: a9 :: a10 :: a11 :: a12 :: some (.int x) :: L) S h := by
  obtain ⟨hd, rfl⟩ := hd
  intro E A p l e R s m args below meth c cells slots Q B hK H locs ls hS hW hl
  exact lv_iload B.1 B.2.1 hd (hl.at (k := 13) (v := .int x) rfl) (k E A p l e R s m args below meth c cells slots Q B hK H locs ls hS hW hl)

theorem r_iload14 {d : Nat} {Y : MY} {K : KQT} {pc nx : Nat} {L : List (Option Value)} {S : List Value} {h : Hp} {a0 a1 a2 a3 a4 a5 a6 a7 a8 a9 a10 a11 a12 a13 : Option Value} {x : Int32} (hd : Ins Y.2.1 pc (.iload 14) 2 nx) (k : Aw d Y K nx (a0 :: a1 :: a2 :: a3 :: a4 :: a5 :: a6 :: a7 :: a8 :: a9 :: a10 :: a11 :: a12 :: a13 :: some (.int x) :: L) (.int x :: S) h) : Aw d Y K pc (a0 :: a1 :: a2 :: a3 :: a4 :: a5 :: a6 :: a7 :: a8 :: a9 :: a10 :: a11 :: a12 :: a13 :: some (.int x) :: L) S h := by
  obtain ⟨hd, rfl⟩ := hd
  intro E A p l e R s m args below meth c cells slots Q B hK H locs ls hS hW hl
  exact lv_iload B.1 B.2.1 hd (hl.at (k := 14) (v := .int x) rfl) (k E A p l e R s m args below meth c cells slots Q B hK H locs ls hS hW hl)

theorem r_iload15 {d : Nat} {Y : MY} {K : KQT} {pc nx : Nat} {L : List (Option Value)} {S : List Value} {h : Hp} {a0 a1 a2 a3 a4 a5 a6 a7 a8 a9 a10 a11 a12 a13 a14 : Option Value} {x : Int32} (hd : Ins Y.2.1 pc (.iload 15) 2 nx) (k : Aw d Y K nx (a0 :: a1 :: a2 :: a3 :: a4 :: a5 :: a6 :: a7 :: a8 :: a9 :: a10 :: a11 :: a12 :: a13 :: a14 :: some (.int x) :: L) (.int x :: S) h) : Aw d Y K pc (a0 :: a1 :: a2 :: a3 :: a4 :: a5 :: a6 :: a7 :: a8 :: a9 :: a10 :: a11 :: a12 :: a13 :: a14 :: some (.int x) :: L) S h := by
  obtain ⟨hd, rfl⟩ := hd
  intro E A p l e R s m args below meth c cells slots Q B hK H locs ls hS hW hl
  exact lv_iload B.1 B.2.1 hd (hl.at (k := 15) (v := .int x) rfl) (k E A p l e R s m args below meth c cells slots Q B hK H locs ls hS hW hl)

theorem r_iload16 {d : Nat} {Y : MY} {K : KQT} {pc nx : Nat} {L : List (Option Value)} {S : List Value} {h : Hp} {a0 a1 a2 a3 a4 a5 a6 a7 a8 a9 a10 a11 a12 a13 a14 a15 : Option Value} {x : Int32} (hd : Ins Y.2.1 pc (.iload 16) 2 nx) (k : Aw d Y K nx (a0 :: a1 :: a2 :: a3 :: a4 :: a5 :: a6 :: a7 :: a8 :: a9 :: a10 :: a11 :: a12 :: a13 :: a14 :: a15 :: some (.int x) :: L) (.int x :: S) h) : Aw d Y K pc (a0 :: a1 :: a2 :: a3 :: a4 :: a5 :: a6 :: a7 :: a8 :: a9 :: a10 :: a11 :: a12 :: a13 :: a14 :: a15 :: some (.int x) :: L) S h := by
  obtain ⟨hd, rfl⟩ := hd
  intro E A p l e R s m args below meth c cells slots Q B hK H locs ls hS hW hl
  exact lv_iload B.1 B.2.1 hd (hl.at (k := 16) (v := .int x) rfl) (k E A p l e R s m args below meth c cells slots Q B hK H locs ls hS hW hl)

theorem r_iload17 {d : Nat} {Y : MY} {K : KQT} {pc nx : Nat} {L : List (Option Value)} {S : List Value} {h : Hp} {a0 a1 a2 a3 a4 a5 a6 a7 a8 a9 a10 a11 a12 a13 a14 a15 a16 : Option Value} {x : Int32} (hd : Ins Y.2.1 pc (.iload 17) 2 nx) (k : Aw d Y K nx (a0 :: a1 :: a2 :: a3 :: a4 :: a5 :: a6 :: a7 :: a8 :: a9 :: a10 :: a11 :: a12 :: a13 :: a14 :: a15 :: a16 :: some (.int x) :: L) (.int x :: S) h) : Aw d Y K pc (a0 :: a1 :: a2 :: a3 :: a4 :: a5 :: a6 :: a7 :: a8 :: a9 :: a10 :: a11 :: a12 :: a13 :: a14 :: a15 :: a16 :: some (.int x) :: L) S h := by
  obtain ⟨hd, rfl⟩ := hd
  intro E A p l e R s m args below meth c cells slots Q B hK H locs ls hS hW hl
  exact lv_iload B.1 B.2.1 hd (hl.at (k := 17) (v := .int x) rfl) (k E A p l e R s m args below meth c cells slots Q B hK H locs ls hS hW hl)

theorem r_iload18 {d : Nat} {Y : MY} {K : KQT} {pc nx : Nat} {L : List (Option Value)} {S : List Value} {h : Hp} {a0 a1 a2 a3 a4 a5 a6 a7 a8 a9 a10 a11 a12 a13 a14 a15 a16 a17 : Option Value} {x : Int32} (hd : Ins Y.2.1 pc (.iload 18) 2 nx) (k : Aw d Y K nx (a0 :: a1 :: a2 :: a3 :: a4 :: a5 :: a6 :: a7 :: a8 :: a9 :: a10 :: a11 :: a12 :: a13 :: a14 :: a15 :: a16 :: a17 :: some (.int x) :: L) (.int x :: S) h) : Aw d Y K pc (a0 :: a1 :: a2 :: a3 :: a4 :: a5 :: a6 :: a7 :: a8 :: a9 :: a10 :: a11 :: a12 :: a13 :: a14 :: a15 :: a16 :: a17 :: some (.int x) :: L) S h := by
  obtain ⟨hd, rfl⟩ := hd
  intro E A p l e R s m args below meth c cells slots Q B hK H locs ls hS hW hl
  exact lv_iload B.1 B.2.1 hd (hl.at (k := 18) (v := .int x) rfl) (k E A p l e R s m args below meth c cells slots Q B hK H locs ls hS hW hl)

theorem r_iload19 {d : Nat} {Y : MY} {K : KQT} {pc nx : Nat} {L : List (Option Value)} {S : List Value} {h : Hp} {a0 a1 a2 a3 a4 a5 a6 a7 a8 a9 a10 a11 a12 a13 a14 a15 a16 a17 a18 : Option Value} {x : Int32} (hd : Ins Y.2.1 pc (.iload 19) 2 nx) (k : Aw d Y K nx (a0 :: a1 :: a2 :: a3 :: a4 :: a5 :: a6 :: a7 :: a8 :: a9 :: a10 :: a11 :: a12 :: a13 :: a14 :: a15 :: a16 :: a17 :: a18 :: some (.int x) :: L) (.int x :: S) h) : Aw d Y K pc (a0 :: a1 :: a2 :: a3 :: a4 :: a5 :: a6 :: a7 :: a8 :: a9 :: a10 :: a11 :: a12 :: a13 :: a14 :: a15 :: a16 :: a17 :: a18 :: some (.int x) :: L) S h := by
  obtain ⟨hd, rfl⟩ := hd
  intro E A p l e R s m args below meth c cells slots Q B hK H locs ls hS hW hl
  exact lv_iload B.1 B.2.1 hd (hl.at (k := 19) (v := .int x) rfl) (k E A p l e R s m args below meth c cells slots Q B hK H locs ls hS hW hl)

theorem r_lload0 {d : Nat} {Y : MY} {K : KQT} {pc nx : Nat} {L : List (Option Value)} {S : List Value} {h : Hp} {x : Int64} (hd : Ins Y.2.1 pc (.lload_n 0) 1 nx) (k : Aw d Y K nx (some (.long x) :: L) (.long x :: S) h) : Aw d Y K pc (some (.long x) :: L) S h := by
  obtain ⟨hd, rfl⟩ := hd
  intro E A p l e R s m args below meth c cells slots Q B hK H locs ls hS hW hl
  exact lv_lload_n B.1 B.2.1 hd rfl (hl.at (k := 0) (v := .long x) rfl) (k E A p l e R s m args below meth c cells slots Q B hK H locs ls hS hW hl)

theorem r_lload1 {d : Nat} {Y : MY} {K : KQT} {pc nx : Nat} {L : List (Option Value)} {S : List Value} {h : Hp} {a0 : Option Value} {x : Int64} (hd : Ins Y.2.1 pc (.lload_n 1) 1 nx) (k : Aw d Y K nx (a0 :: some (.long x) :: L) (.long x :: S) h) : Aw d Y K pc (a0 :: some (.long x) :: L) S h := by
  obtain ⟨hd, rfl⟩ := hd
  intro E A p l e R s m args below meth c cells slots Q B hK H locs ls hS hW hl
  exact lv_lload_n B.1 B.2.1 hd rfl (hl.at (k := 1) (v := .long x) rfl) (k E A p l e R s m args below meth c cells slots Q B hK H locs ls hS hW hl)

theorem r_lload2 {d : Nat} {Y : MY} {K : KQT} {pc nx : Nat} {L : List (Option Value)} {S : List Value} {h : Hp} {a0 a1 : Option Value} {x : Int64} (hd : Ins Y.2.1 pc (.lload_n 2) 1 nx) (k : Aw d Y K nx (a0 :: a1 :: some (.long x) :: L) (.long x :: S) h) : Aw d Y K pc (a0 :: a1 :: some (.long x) :: L) S h := by
  obtain ⟨hd, rfl⟩ := hd
  intro E A p l e R s m args below meth c cells slots Q B hK H locs ls hS hW hl
  exact lv_lload_n B.1 B.2.1 hd rfl (hl.at (k := 2) (v := .long x) rfl) (k E A p l e R s m args below meth c cells slots Q B hK H locs ls hS hW hl)

theorem r_lload3 {d : Nat} {Y : MY} {K : KQT} {pc nx : Nat} {L : List (Option Value)} {S : List Value} {h : Hp} {a0 a1 a2 : Option Value} {x : Int64} (hd : Ins Y.2.1 pc (.lload_n 3) 1 nx) (k : Aw d Y K nx (a0 :: a1 :: a2 :: some (.long x) :: L) (.long x :: S) h) : Aw d Y K pc (a0 :: a1 :: a2 :: some (.long x) :: L) S h := by
  obtain ⟨hd, rfl⟩ := hd
  intro E A p l e R s m args below meth c cells slots Q B hK H locs ls hS hW hl
  exact lv_lload_n B.1 B.2.1 hd rfl (hl.at (k := 3) (v := .long x) rfl) (k E A p l e R s m args below meth c cells slots Q B hK H locs ls hS hW hl)

theorem r_lload4 {d : Nat} {Y : MY} {K : KQT} {pc nx : Nat} {L : List (Option Value)} {S : List Value} {h : Hp} {a0 a1 a2 a3 : Option Value} {x : Int64} (hd : Ins Y.2.1 pc (.lload 4) 2 nx) (k : Aw d Y K nx (a0 :: a1 :: a2 :: a3 :: some (.long x) :: L) (.long x :: S) h) : Aw d Y K pc (a0 :: a1 :: a2 :: a3 :: some (.long x) :: L) S h := by
  obtain ⟨hd, rfl⟩ := hd
  intro E A p l e R s m args below meth c cells slots Q B hK H locs ls hS hW hl
  exact lv_lload B.1 B.2.1 hd (hl.at (k := 4) (v := .long x) rfl) (k E A p l e R s m args below meth c cells slots Q B hK H locs ls hS hW hl)

theorem r_lload5 {d : Nat} {Y : MY} {K : KQT} {pc nx : Nat} {L : List (Option Value)} {S : List Value} {h : Hp} {a0 a1 a2 a3 a4 : Option Value} {x : Int64} (hd : Ins Y.2.1 pc (.lload 5) 2 nx) (k : Aw d Y K nx (a0 :: a1 :: a2 :: a3 :: a4 :: some (.long x) :: L) (.long x :: S) h) : Aw d Y K pc (a0 :: a1 :: a2 :: a3 :: a4 :: some (.long x) :: L) S h := by
  obtain ⟨hd, rfl⟩ := hd
  intro E A p l e R s m args below meth c cells slots Q B hK H locs ls hS hW hl
  exact lv_lload B.1 B.2.1 hd (hl.at (k := 5) (v := .long x) rfl) (k E A p l e R s m args below meth c cells slots Q B hK H locs ls hS hW hl)

theorem r_lload6 {d : Nat} {Y : MY} {K : KQT} {pc nx : Nat} {L : List (Option Value)} {S : List Value} {h : Hp} {a0 a1 a2 a3 a4 a5 : Option Value} {x : Int64} (hd : Ins Y.2.1 pc (.lload 6) 2 nx) (k : Aw d Y K nx (a0 :: a1 :: a2 :: a3 :: a4 :: a5 :: some (.long x) :: L) (.long x :: S) h) : Aw d Y K pc (a0 :: a1 :: a2 :: a3 :: a4 :: a5 :: some (.long x) :: L) S h := by
  obtain ⟨hd, rfl⟩ := hd
  intro E A p l e R s m args below meth c cells slots Q B hK H locs ls hS hW hl
  exact lv_lload B.1 B.2.1 hd (hl.at (k := 6) (v := .long x) rfl) (k E A p l e R s m args below meth c cells slots Q B hK H locs ls hS hW hl)

theorem r_lload7 {d : Nat} {Y : MY} {K : KQT} {pc nx : Nat} {L : List (Option Value)} {S : List Value} {h : Hp} {a0 a1 a2 a3 a4 a5 a6 : Option Value} {x : Int64} (hd : Ins Y.2.1 pc (.lload 7) 2 nx) (k : Aw d Y K nx (a0 :: a1 :: a2 :: a3 :: a4 :: a5 :: a6 :: some (.long x) :: L) (.long x :: S) h) : Aw d Y K pc (a0 :: a1 :: a2 :: a3 :: a4 :: a5 :: a6 :: some (.long x) :: L) S h := by
  obtain ⟨hd, rfl⟩ := hd
  intro E A p l e R s m args below meth c cells slots Q B hK H locs ls hS hW hl
  exact lv_lload B.1 B.2.1 hd (hl.at (k := 7) (v := .long x) rfl) (k E A p l e R s m args below meth c cells slots Q B hK H locs ls hS hW hl)

theorem r_lload8 {d : Nat} {Y : MY} {K : KQT} {pc nx : Nat} {L : List (Option Value)} {S : List Value} {h : Hp} {a0 a1 a2 a3 a4 a5 a6 a7 : Option Value} {x : Int64} (hd : Ins Y.2.1 pc (.lload 8) 2 nx) (k : Aw d Y K nx (a0 :: a1 :: a2 :: a3 :: a4 :: a5 :: a6 :: a7 :: some (.long x) :: L) (.long x :: S) h) : Aw d Y K pc (a0 :: a1 :: a2 :: a3 :: a4 :: a5 :: a6 :: a7 :: some (.long x) :: L) S h := by
  obtain ⟨hd, rfl⟩ := hd
  intro E A p l e R s m args below meth c cells slots Q B hK H locs ls hS hW hl
  exact lv_lload B.1 B.2.1 hd (hl.at (k := 8) (v := .long x) rfl) (k E A p l e R s m args below meth c cells slots Q B hK H locs ls hS hW hl)

theorem r_lload9 {d : Nat} {Y : MY} {K : KQT} {pc nx : Nat} {L : List (Option Value)} {S : List Value} {h : Hp} {a0 a1 a2 a3 a4 a5 a6 a7 a8 : Option Value} {x : Int64} (hd : Ins Y.2.1 pc (.lload 9) 2 nx) (k : Aw d Y K nx (a0 :: a1 :: a2 :: a3 :: a4 :: a5 :: a6 :: a7 :: a8 :: some (.long x) :: L) (.long x :: S) h) : Aw d Y K pc (a0 :: a1 :: a2 :: a3 :: a4 :: a5 :: a6 :: a7 :: a8 :: some (.long x) :: L) S h := by
  obtain ⟨hd, rfl⟩ := hd
  intro E A p l e R s m args below meth c cells slots Q B hK H locs ls hS hW hl
  exact lv_lload B.1 B.2.1 hd (hl.at (k := 9) (v := .long x) rfl) (k E A p l e R s m args below meth c cells slots Q B hK H locs ls hS hW hl)

theorem r_lload10 {d : Nat} {Y : MY} {K : KQT} {pc nx : Nat} {L : List (Option Value)} {S : List Value} {h : Hp} {a0 a1 a2 a3 a4 a5 a6 a7 a8 a9 : Option Value} {x : Int64} (hd : Ins Y.2.1 pc (.lload 10) 2 nx) (k : Aw d Y K nx (a0 :: a1 :: a2 :: a3 :: a4 :: a5 :: a6 :: a7 :: a8 :: a9 :: some (.long x) :: L) (.long x :: S) h) : Aw d Y K pc (a0 :: a1 :: a2 :: a3 :: a4 :: a5 :: a6 :: a7 :: a8 :: a9 :: some (.long x) :: L) S h := by
  obtain ⟨hd, rfl⟩ := hd
  intro E A p l e R s m args below meth c cells slots Q B hK H locs ls hS hW hl
  exact lv_lload B.1 B.2.1 hd (hl.at (k := 10) (v := .long x) rfl) (k E A p l e R s m args below meth c cells slots Q B hK H locs ls hS hW hl)

theorem r_lload11 {d : Nat} {Y : MY} {K : KQT} {pc nx : Nat} {L : List (Option Value)} {S : List Value} {h : Hp} {a0 a1 a2 a3 a4 a5 a6 a7 a8 a9 a10 : Option Value} {x : Int64} (hd : Ins Y.2.1 pc (.lload 11) 2 nx) (k : Aw d Y K nx (a0 :: a1 :: a2 :: a3 :: a4 :: a5 :: a6 :: a7 :: a8 :: a9 :: a10 :: some (.long x) :: L) (.long x :: S) h) : Aw d Y K pc (a0 :: a1 :: a2 :: a3 :: a4 :: a5 :: a6 :: a7 :: a8 :: a9 :: a10 :: some (.long x) :: L) S h := by
  obtain ⟨hd, rfl⟩ := hd
  intro E A p l e R s m args below meth c cells slots Q B hK H locs ls hS hW hl
  exact lv_lload B.1 B.2.1 hd (hl.at (k := 11) (v := .long x) rfl) (k E A p l e R s m args below meth c cells slots Q B hK H locs ls hS hW hl)

theorem r_lload12 {d : Nat} {Y : MY} {K : KQT} {pc nx : Nat} {L : List (Option Value)} {S : List Value} {h : Hp} {a0 a1 a2 a3 a4 a5 a6 a7 a8 a9 a10 a11 : Option Value} {x : Int64} (hd : Ins Y.2.1 pc (.lload 12) 2 nx) (k : Aw d Y K nx (a0 :: a1 :: a2 :: a3 :: a4 :: a5 :: a6 :: a7 :: a8 :: a9 :: a10 :: a11 :: some (.long x) :: L) (.long x :: S) h) : Aw d Y K pc (a0 :: a1 :: a2 :: a3 :: a4 :: a5 :: a6 :: a7 :: a8 :: a9 :: a10 :: a11 :: some (.long x) :: L) S h := by
  obtain ⟨hd, rfl⟩ := hd
  intro E A p l e R s m args below meth c cells slots Q B hK H locs ls hS hW hl
  exact lv_lload B.1 B.2.1 hd (hl.at (k := 12) (v := .long x) rfl) (k E A p l e R s m args below meth c cells slots Q B hK H locs ls hS hW hl)

theorem r_lload13 {d : Nat} {Y : MY} {K : KQT} {pc nx : Nat} {L : List (Option Value)} {S : List Value} {h : Hp} {a0 a1 a2 a3 a4 a5 a6 a7 a8 a9 a10 a11 a12 : Option Value} {x : Int64} (hd : Ins Y.2.1 pc (.lload 13) 2 nx) (k : Aw d Y K nx (a0 :: a1 :: a2 :: a3 :: a4 :: a5 :: a6 :: a7 :: a8 :: a9 :: a10 :: a11 :: a12 :: some (.long x) :: L) (.long x :: S) h) : Aw d Y K pc (a0 :: a1 :: a2 :: a3 :: a4 :: a5 :: a6 :: a7 :: a8 :: a9 :: a10 :: a11 :: a12 :: some (.long x) :: L) S h := by
  obtain ⟨hd, rfl⟩ := hd
  intro E A p l e R s m args below meth c cells slots Q B hK H locs ls hS hW hl
  exact lv_lload B.1 B.2.1 hd (hl.at (k := 13) (v := .long x) rfl) (k E A p l e R s m args below meth c cells slots Q B hK H locs ls hS hW hl)

theorem r_lload14 {d : Nat} {Y : MY} {K : KQT} {pc nx : Nat} {L : List (Option Value)} {S : List Value} {h : Hp} {a0 a1 a2 a3 a4 a5 a6 a7 a8 a9 a10 a11 a12 a13 : Option Value} {x : Int64} (hd : Ins Y.2.1 pc (.lload 14) 2 nx) (k : Aw d Y K nx (a0 :: a1 :: a2 :: a3 :: a4 :: a5 :: a6 :: a7 :: a8 :: a9 :: a10 :: a11 :: a12 :: a13 :: some (.long x) :: L) (.long x :: S) h) : Aw d Y K pc (a0 :: a1 :: a2 :: a3 :: a4 :: a5 :: a6 :: a7 :: a8 :: a9 :: a10 :: a11 :: a12 :: a13 :: some (.long x) :: L) S h := by
  obtain ⟨hd, rfl⟩ := hd
  intro E A p l e R s m args below meth c cells slots Q B hK H locs ls hS hW hl
  exact lv_lload B.1 B.2.1 hd (hl.at (k := 14) (v := .long x) rfl) (k E A p l e R s m args below meth c cells slots Q B hK H locs ls hS hW hl)

theorem r_lload15 {d : Nat} {Y : MY} {K : KQT} {pc nx : Nat} {L : List (Option Value)} {S : List Value} {h : Hp} {a0 a1 a2 a3 a4 a5 a6 a7 a8 a9 a10 a11 a12 a13 a14 : Option Value} {x : Int64} (hd : Ins Y.2.1 pc (.lload 15) 2 nx) (k : Aw d Y K nx (a0 :: a1 :: a2 :: a3 :: a4 :: a5 :: a6 :: a7 :: a8 :: a9 :: a10 :: a11 :: a12 :: a13 :: a14 :: some (.long x) :: L) (.long x :: S) h) : Aw d Y K pc (a0 :: a1 :: a2 :: a3 :: a4 :: a5 :: a6 :: a7 :: a8 :: a9 :: a10 :: a11 :: a12 :: a13 :: a14 :: some (.long x) :: L) S h := by
  obtain ⟨hd, rfl⟩ := hd
  intro E A p l e R s m args below meth c cells slots Q B hK H locs ls hS hW hl
  exact lv_lload B.1 B.2.1 hd (hl.at (k := 15) (v := .long x) rfl) (k E A p l e R s m args below meth c cells slots Q B hK H locs ls hS hW hl)

theorem r_lload16 {d : Nat} {Y : MY} {K : KQT} {pc nx : Nat} {L : List (Option Value)} {S : List Value} {h : Hp} {a0 a1 a2 a3 a4 a5 a6 a7 a8 a9 a10 a11 a12 a13 a14 a15 : Option Value} {x : Int64} (hd : Ins Y.2.1 pc (.lload 16) 2 nx) (k : Aw d Y K nx (a0 :: a1 :: a2 :: a3 :: a4 :: a5 :: a6 :: a7 :: a8 :: a9 :: a10 :: a11 :: a12 :: a13 :: a14 :: a15 :: some (.long x) :: L) (.long x :: S) h) : Aw d Y K pc (a0 :: a1 :: a2 :: a3 :: a4 :: a5 :: a6 :: a7 :: a8 :: a9 :: a10 :: a11 :: a12 :: a13 :: a14 :: a15 :: some (.long x) :: L) S h := by
  obtain ⟨hd, rfl⟩ := hd
  intro E A p l e R s m args below meth c cells slots Q B hK H locs ls hS hW hl
  exact lv_lload B.1 B.2.1 hd (hl.at (k := 16) (v := .long x) rfl) (k E A p l e R s m args below meth c cells slots Q B hK H locs ls hS hW hl)

theorem r_lload17 {d : Nat} {Y : MY} {K : KQT} {pc nx : Nat} {L : List (Option Value)} {S : List Value} {h : Hp} {a0 a1 a2 a3 a4 a5 a6 a7 a8 a9 a10 a11 a12 a13 a14 a15 a16 : Option Value} {x : Int64} (hd : Ins Y.2.1 pc (.lload 17) 2 nx) (k : Aw d Y K nx (a0 :: a1 :: a2 :: a3 :: a4 :: a5 :: a6 :: a7 :: a8 :: a9 :: a10 :: a11 :: a12 :: a13 :: a14 :: a15 :: a16 :: some (.long x) :: L) (.long x :: S) h) : Aw d Y K pc (a0 :: a1 :: a2 :: a3 :: a4 :: a5 :: a6 :: a7 :: a8 :: a9 :: a10 :: a11 :: a12 :: a13 :: a14 :: a15 :: a16 :: some (.long x) :: L) S h := by
  obtain ⟨hd, rfl⟩ := hd
  intro E A p l e R s m args below meth c cells slots Q B hK H locs ls hS hW hl
  exact lv_lload B.1 B.2.1 hd (hl.at (k := 17) (v := .long x) rfl) (k E A p l e R s m args below meth c cells slots Q B hK H locs ls hS hW hl)

theorem r_lload18 {d : Nat} {Y : MY} {K : KQT} {pc nx : Nat} {L : List (Option Value)} {S : List Value} {h : Hp} {a0 a1 a2 a3 a4 a5 a6 a7 a8 a9 a10 a11 a12 a13 a14 a15 a16 a17 : Option Value} {x : Int64} (hd : Ins Y.2.1 pc (.lload 18) 2 nx) (k : Aw d Y K nx (a0 :: a1 :: a2 :: a3 :: a4 :: a5 :: a6 :: a7 :: a8 :: a9 :: a10 :: a11 :: a12 :: a13 :: a14 :: a15 :: a16 :: a17 :: some (.long x) :: L) (.long x :: S) h) : Aw d Y K pc (a0 :: a1 :: a2 :: a3 :: a4 :: a5 :: a6 :: a7 :: a8 :: a9 :: a10 :: a11 :: a12 :: a13 :: a14 :: a15 :: a16 :: a17 :: some (.long x) :: L) S h := by
  obtain ⟨hd, rfl⟩ := hd
  intro E A p l e R s m args below meth c cells slots Q B hK H locs ls hS hW hl
  exact lv_lload B.1 B.2.1 hd (hl.at (k := 18) (v := .long x) rfl) (k E A p l e R s m args below meth c cells slots Q B hK H locs ls hS hW hl)

theorem r_lload19 {d : Nat} {Y : MY} {K : KQT} {pc nx : Nat} {L : List (Option Value)} {S : List Value} {h : Hp} {a0 a1 a2 a3 a4 a5 a6 a7 a8 a9 a10 a11 a12 a13 a14 a15 a16 a17 a18 : Option Value} {x : Int64} (hd : Ins Y.2.1 pc (.lload 19) 2 nx) (k : Aw d Y K nx (a0 :: a1 :: a2 :: a3 :: a4 :: a5 :: a6 :: a7 :: a8 :: a9 :: a10 :: a11 :: a12 :: a13 :: a14 :: a15 :: a16 :: a17 :: a18 :: some (.long x) :: L) (.long x :: S) h) : Aw d Y K pc (a0 :: a1 :: a2 :: a3 :: a4 :: a5 :: a6 :: a7 :: a8 :: a9 :: a10 :: a11 :: a12 :: a13 :: a14 :: a15 :: a16 :: a17 :: a18 :: some (.long x) :: L) S h := by
  obtain ⟨hd, rfl⟩ := hd
  intro E A p l e R s m args below meth c cells slots Q B hK H locs ls hS hW hl
  exact lv_lload B.1 B.2.1 hd (hl.at (k := 19) (v := .long x) rfl) (k E A p l e R s m args below meth c cells slots Q B hK H locs ls hS hW hl)

theorem r_aload0 {d : Nat} {Y : MY} {K : KQT} {pc nx : Nat} {L : List (Option Value)} {S : List Value} {h : Hp} {x : Nat} (hd : Ins Y.2.1 pc (.aload_n 0) 1 nx) (k : Aw d Y K nx (some (.ref x) :: L) (.ref x :: S) h) : Aw d Y K pc (some (.ref x) :: L) S h := by
  obtain ⟨hd, rfl⟩ := hd
  intro E A p l e R s m args below meth c cells slots Q B hK H locs ls hS hW hl
  exact lv_aload_n B.1 B.2.1 hd rfl (hl.at (k := 0) (v := .ref x) rfl) (k E A p l e R s m args below meth c cells slots Q B hK H locs ls hS hW hl)

theorem r_aload1 {d : Nat} {Y : MY} {K : KQT} {pc nx : Nat} {L : List (Option Value)} {S : List Value} {h : Hp} {a0 : Option Value} {x : Nat} (hd : Ins Y.2.1 pc (.aload_n 1) 1 nx) (k : Aw d Y K nx (a0 :: some (.ref x) :: L) (.ref x :: S) h) : Aw d Y K pc (a0 :: some (.ref x) :: L) S h := by
  obtain ⟨hd, rfl⟩ := hd
  intro E A p l e R s m args below meth c cells slots Q B hK H locs ls hS hW hl
  exact lv_aload_n B.1 B.2.1 hd rfl (hl.at (k := 1) (v := .ref x) rfl) (k E A p l e R s m args below meth c cells slots Q B hK H locs ls hS hW hl)

theorem r_aload2 {d : Nat} {Y : MY} {K : KQT} {pc nx : Nat} {L : List (Option Value)} {S : List Value} {h : Hp} {a0 a1 : Option Value} {x : Nat} (hd : Ins Y.2.1 pc (.aload_n 2) 1 nx) (k : Aw d Y K nx (a0 :: a1 :: some (.ref x) :: L) (.ref x :: S) h) : Aw d Y K pc (a0 :: a1 :: some (.ref x) :: L) S h := by
  obtain ⟨hd, rfl⟩ := hd
  intro E A p l e R s m args below meth c cells slots Q B hK H locs ls hS hW hl
  exact lv_aload_n B.1 B.2.1 hd rfl (hl.at (k := 2) (v := .ref x) rfl) (k E A p l e R s m args below meth c cells slots Q B hK H locs ls hS hW hl)

theorem r_aload3 {d : Nat} {Y : MY} {K : KQT} {pc nx : Nat} {L : List (Option Value)} {S : List Value} {h : Hp} {a0 a1 a2 : Option Value} {x : Nat} (hd : Ins Y.2.1 pc (.aload_n 3) 1 nx) (k : Aw d Y K nx (a0 :: a1 :: a2 :: some (.ref x) :: L) (.ref x :: S) h) : Aw d Y K pc (a0 :: a1 :: a2 :: some (.ref x) :: L) S h := by
  obtain ⟨hd, rfl⟩ := hd
  intro E A p l e R s m args below meth c cells slots Q B hK H locs ls hS hW hl
  exact lv_aload_n B.1 B.2.1 hd rfl (hl.at (k := 3) (v := .ref x) rfl) (k E A p l e R s m args below meth c cells slots Q B hK H locs ls hS hW hl)

theorem r_aload4 {d : Nat} {Y : MY} {K : KQT} {pc nx : Nat} {L : List (Option Value)} {S : List Value} {h : Hp} {a0 a1 a2 a3 : Option Value} {x : Nat} (hd : Ins Y.2.1 pc (.aload 4) 2 nx) (k : Aw d Y K nx (a0 :: a1 :: a2 :: a3 :: some (.ref x) :: L) (.ref x :: S) h) : Aw d Y K pc (a0 :: a1 :: a2 :: a3 :: some (.ref x) :: L) S h := by
  obtain ⟨hd, rfl⟩ := hd
  intro E A p l e R s m args below meth c cells slots Q B hK H locs ls hS hW hl
  exact lv_aload B.1 B.2.1 hd (hl.at (k := 4) (v := .ref x) rfl) (k E A p l e R s m args below meth c cells slots Q B hK H locs ls hS hW hl)

theorem r_aload5 {d : Nat} {Y : MY} {K : KQT} {pc nx : Nat} {L : List (Option Value)} {S : List Value} {h : Hp} {a0 a1 a2 a3 a4 : Option Value} {x : Nat} (hd : Ins Y.2.1 pc (.aload 5) 2 nx) (k : Aw d Y K nx (a0 :: a1 :: a2 :: a3 :: a4 :: some (.ref x) :: L) (.ref x :: S) h) : Aw d Y K pc (a0 :: a1 :: a2 :: a3 :: a4 :: some (.ref x) :: L) S h := by
  obtain ⟨hd, rfl⟩ := hd
  intro E A p l e R s m args below meth c cells slots Q B hK H locs ls hS hW hl
  exact lv_aload B.1 B.2.1 hd (hl.at (k := 5) (v := .ref x) rfl) (k E A p l e R s m args below meth c cells slots Q B hK H locs ls hS hW hl)

theorem r_aload6 {d : Nat} {Y : MY} {K : KQT} {pc nx : Nat} {L : List (Option Value)} {S : List Value} {h : Hp} {a0 a1 a2 a3 a4 a5 : Option Value} {x : Nat} (hd : Ins Y.2.1 pc (.aload 6) 2 nx) (k : Aw d Y K nx (a0 :: a1 :: a2 :: a3 :: a4 :: a5 :: some (.ref x) :: L) (.ref x :: S) h) : Aw d Y K pc (a0 :: a1 :: a2 :: a3 :: a4 :: a5 :: some (.ref x) :: L) S h := by
  obtain ⟨hd, rfl⟩ := hd
  intro E A p l e R s m args below meth c cells slots Q B hK H locs ls hS hW hl
  exact lv_aload B.1 B.2.1 hd (hl.at (k := 6) (v := .ref x) rfl) (k E A p l e R s m args below meth c cells slots Q B hK H locs ls hS hW hl)

theorem r_aload7 {d : Nat} {Y : MY} {K : KQT} {pc nx : Nat} {L : List (Option Value)} {S : List Value} {h : Hp} {a0 a1 a2 a3 a4 a5 a6 : Option Value} {x : Nat} (hd : Ins Y.2.1 pc (.aload 7) 2 nx) (k : Aw d Y K nx (a0 :: a1 :: a2 :: a3 :: a4 :: a5 :: a6 :: some (.ref x) :: L) (.ref x :: S) h) : Aw d Y K pc (a0 :: a1 :: a2 :: a3 :: a4 :: a5 :: a6 :: some (.ref x) :: L) S h := by
  obtain ⟨hd, rfl⟩ := hd
  intro E A p l e R s m args below meth c cells slots Q B hK H locs ls hS hW hl
  exact lv_aload B.1 B.2.1 hd (hl.at (k := 7) (v := .ref x) rfl) (k E A p l e R s m args below meth c cells slots Q B hK H locs ls hS hW hl)

theorem r_aload8 {d : Nat} {Y : MY} {K : KQT} {pc nx : Nat} {L : List (Option Value)} {S : List Value} {h : Hp} {a0 a1 a2 a3 a4 a5 a6 a7 : Option Value} {x : Nat} (hd : Ins Y.2.1 pc (.aload 8) 2 nx) (k : Aw d Y K nx (a0 :: a1 :: a2 :: a3 :: a4 :: a5 :: a6 :: a7 :: some (.ref x) :: L) (.ref x :: S) h) : Aw d Y K pc (a0 :: a1 :: a2 :: a3 :: a4 :: a5 :: a6 :: a7 :: some (.ref x) :: L) S h := by
  obtain ⟨hd, rfl⟩ := hd
  intro E A p l e R s m args below meth c cells slots Q B hK H locs ls hS hW hl
  exact lv_aload B.1 B.2.1 hd (hl.at (k := 8) (v := .ref x) rfl) (k E A p l e R s m args below meth c cells slots Q B hK H locs ls hS hW hl)

theorem r_aload9 {d : Nat} {Y : MY} {K : KQT} {pc nx : Nat} {L : List (Option Value)} {S : List Value} {h : Hp} {a0 a1 a2 a3 a4 a5 a6 a7 a8 : Option Value} {x : Nat} (hd : Ins Y.2.1 pc (.aload 9) 2 nx) (k : Aw d Y K nx (a0 :: a1 :: a2 :: a3 :: a4 :: a5 :: a6 :: a7 :: a8 :: some (.ref x) :: L) (.ref x :: S) h) : Aw d Y K pc (a0 :: a1 :: a2 :: a3 :: a4 :: a5 :: a6 :: a7 :: a8 :: some (.ref x) :: L) S h := by
  obtain ⟨hd, rfl⟩ := hd
  intro E A p l e R s m args below meth c cells slots Q B hK H locs ls hS hW hl
  exact lv_aload B.1 B.2.1 hd (hl.at (k := 9) (v := .ref x) rfl) (k E A p l e R s m args below meth c cells slots Q B hK H locs ls hS hW hl)

theorem r_aload10 {d : Nat} {Y : MY} {K : KQT} {pc nx : Nat} {L : List (Option Value)} {S : List Value} {h : Hp} {a0 a1 a2 a3 a4 a5 a6 a7 a8 a9 : Option Value} {x : Nat} (hd : Ins Y.2.1 pc (.aload 10) 2 nx) (k : Aw d Y K nx (a0 :: a1 :: a2 :: a3 :: a4 :: a5 :: a6 :: a7 :: a8 :: a9 :: some (.ref x) :: L) (.ref x :: S) h) : Aw d Y K pc (a0 :: a1 :: a2 :: a3 :: a4 :: a5 :: a6 :: a7 :: a8 :: a9 :: some (.ref x) :: L) S h := by
  obtain ⟨hd, rfl⟩ := hd
  intro E A p l e R s m args below meth c cells slots Q B hK H locs ls hS hW hl
  exact lv_aload B.1 B.2.1 hd (hl.at (k := 10) (v := .ref x) rfl) (k E A p l e R s m args below meth c cells slots Q B hK H locs ls hS hW hl)

theorem r_aload11 {d : Nat} {Y : MY} {K : KQT} {pc nx : Nat} {L : List (Option Value)} {S : List Value} {h : Hp} {a0 a1 a2 a3 a4 a5 a6 a7 a8 a9 a10 : Option Value} {x : Nat} (hd : Ins Y.2.1 pc (.aload 11) 2 nx) (k : Aw d Y K nx (a0 :: a1 :: a2 :: a3 :: a4 :: a5 :: a6 :: a7 :: a8 :: a9 :: a10 :: some (.ref x) :: L) (.ref x :: S) h) : Aw d Y K pc (a0 :: a1 :: a2 :: a3 :: a4 :: a5 :: a6 :: a7 :: a8 :: a9 :: a10 :: some (.ref x) :: L) S h := by
  obtain ⟨hd, rfl⟩ := hd
  intro E A p l e R s m args below meth c cells slots Q B hK H locs ls hS hW hl
  exact lv_aload B.1 B.2.1 hd (hl.at (k := 11) (v := .ref x) rfl) (k E A p l e R s m args below meth c cells slots Q B hK H locs ls hS hW hl)

theorem r_aload12 {d : Nat} {Y : MY} {K : KQT} {pc nx : Nat} {L : List (Option Value)} {S : List Value} {h : Hp} {a0 a1 a2 a3 a4 a5 a6 a7 a8 a9 a10 a11 : Option Value} {x : Nat} (hd : Ins Y.2.1 pc (.aload 12) 2 nx) (k : Aw d Y K nx (a0 :: a1 :: a2 :: a3 :: a4 :: a5 :: a6 :: a7 :: a8 :: a9 :: a10 :: a11 :: some (.ref x) :: L) (.ref x :: S) h) : Aw d Y K pc (a0 :: a1 :: a2 :: a3 :: a4 :: a5 :: a6 :: a7 :: a8 :: a9 :: a10 :: a11 :: some (.ref x) :: L) S h := by
  obtain ⟨hd, rfl⟩ := hd
  intro E A p l e R s m args below meth c cells slots Q B hK H locs ls hS hW hl
  exact lv_aload B.1 B.2.1 hd (hl.at (k := 12) (v := .ref x) rfl) (k E A p l e R s m args below meth c cells slots Q B hK H locs ls hS hW hl)

theorem r_aload13 {d : Nat} {Y : MY} {K : KQT} {pc nx : Nat} {L : List (Option Value)} {S : List Value} {h : Hp} {a0 a1 a2 a3 a4 a5 a6 a7 a8 a9 a10 a11 a12 : Option Value} {x : Nat} (hd : Ins Y.2.1 pc (.aload 13) 2 nx) (k : Aw d Y K nx (a0 :: a1 :: a2 :: a3 :: a4 :: a5 :: a6 :: a7 :: a8 :: a9 :: a10 :: a11 :: a12 :: some (.ref x) :: L) (.ref x :: S) h) : Aw d Y K pc (a0 :: a1 :: a2 :: a3 :: a4 :: a5 :: a6 :: a7 :: a8 :: a9 :: a10 :: a11 :: a12 :: some (.ref x) :: L) S h := by
  obtain ⟨hd, rfl⟩ := hd
  intro E A p l e R s m args below meth c cells slots Q B hK H locs ls hS hW hl
  exact lv_aload B.1 B.2.1 hd (hl.at (k := 13) (v := .ref x) rfl) (k E A p l e R s m args below meth c cells slots Q B hK H locs ls hS hW hl)

theorem r_aload14 {d : Nat} {Y : MY} {K : KQT} {pc nx : Nat} {L : List (Option Value)} {S : List Value} {h : Hp} {a0 a1 a2 a3 a4 a5 a6 a7 a8 a9 a10 a11 a12 a13 : Option Value} {x : Nat} (hd : Ins Y.2.1 pc (.aload 14) 2 nx) (k : Aw d Y K nx (a0 :: a1 :: a2 :: a3 :: a4 :: a5 :: a6 :: a7 :: a8 :: a9 :: a10 :: a11 :: a12 :: a13 :: some (.ref x) :: L) (.ref x :: S) h) : Aw d Y K pc (a0 :: a1 :: a2 :: a3 :: a4 :: a5 :: a6 :: a7 :: a8 :: a9 :: a10 :: a11 :: a12 :: a13 :: some (.ref x) :: L) S h := by
  obtain ⟨hd, rfl⟩ := hd
  intro E A p l e R s m args below meth c cells slots Q B hK H locs ls hS hW hl
  exact lv_aload B.1 B.2.1 hd (hl.at (k := 14) (v := .ref x) rfl) (k E A p l e R s m args below meth c cells slots Q B hK H locs ls hS hW hl)

theorem r_aload15 {d : Nat} {Y : MY} {K : KQT} {pc nx : Nat} {L : List (Option Value)} {S : List Value} {h : Hp} {a0 a1 a2 a3 a4 a5 a6 a7 a8 a9 a10 a11 a12 a13 a14 : Option Value} {x : Nat} (hd : Ins Y.2.1 pc (.aload 15) 2 nx) (k : Aw d Y K nx (a0 :: a1 :: a2 :: a3 :: a4 :: a5 :: a6 :: a7 :: a8 :: a9 :: a10 :: a11 :: a12 :: a13 :: a14 :: some (.ref x) :: L) (.ref x :: S) h) : Aw d Y K pc (a0 :: a1 :: a2 :: a3 :: a4 :: a5 :: a6 :: a7 :: a8 :: a9 :: a10 :: a11 :: a12 :: a13 :: a14 :: some (.ref x) :: L) S h := by
  obtain ⟨hd, rfl⟩ := hd
  intro E A p l e R s m args below meth c cells slots Q B hK H locs ls hS hW hl
  exact lv_aload B.1 B.2.1 hd (hl.at (k := 15) (v := .ref x) rfl) (k E A p l e R s m args below meth c cells slots Q B hK H locs ls hS hW hl)

theorem r_aload16 {d : Nat} {Y : MY} {K : KQT} {pc nx : Nat} {L : List (Option Value)} {S : List Value} {h : Hp} {a0 a1 a2 a3 a4 a5 a6 a7 a8 a9 a10 a11 a12 a13 a14 a15 : Option Value} {x : Nat} (hd : Ins Y.2.1 pc (.aload 16) 2 nx) (k : Aw d Y K nx (a0 :: a1 :: a2 :: a3 :: a4 :: a5 :: a6 :: a7 :: a8 :: a9 :: a10 :: a11 :: a12 :: a13 :: a14 :: a15 :: some (.ref x) :: L) (.ref x :: S) h) : Aw d Y K pc (a0 :: a1 :: a2 :: a3 :: a4 :: a5 :: a6 :: a7 :: a8 :: a9 :: a10 :: a11 :: a12 :: a13 :: a14 :: a15 :: some (.ref x) :: L) S h := by
  obtain ⟨hd, rfl⟩ := hd
  intro E A p l e R s m args below meth c cells slots Q B hK H locs ls hS hW hl
  exact lv_aload B.1 B.2.1 hd (hl.at (k := 16) (v := .ref x) rfl) (k E A p l e R s m args below meth c cells slots Q B hK H locs ls hS hW hl)

theorem r_aload17 {d : Nat} {Y : MY} {K : KQT} {pc nx : Nat} {L : List (Option Value)} {S : List Value} {h : Hp} {a0 a1 a2 a3 a4 a5 a6 a7 a8 a9 a10 a11 a12 a13 a14 a15 a16 : Option Value} {x : Nat} (hd : Ins Y.2.1 pc (.aload 17) 2 nx) (k : Aw d Y K nx (a0 :: a1 :: a2 :: a3 :: a4 :: a5 :: a6 :: a7 :: a8 :: a9 :: a10 :: a11 :: a12 :: a13 :: a14 :: a15 :: a16 :: some (.ref x) :: L) (.ref x :: S) h) : Aw d Y K pc (a0 :: a1 :: a2 :: a3 :: a4 :: a5 :: a6 :: a7 :: a8 :: a9 :: a10 :: a11 :: a12 :: a13 :: a14 :: a15 :: a16 :: some (.ref x) :: L) S h := by
  obtain ⟨hd, rfl⟩ := hd
  intro E A p l e R s m args below meth c cells slots Q B hK H locs ls hS hW hl
  exact lv_aload B.1 B.2.1 hd (hl.at (k := 17) (v := .ref x) rfl) (k E A p l e R s m args below meth c cells slots Q B hK H locs ls hS hW hl)

theorem r_aload18 {d : Nat} {Y : MY} {K : KQT} {pc nx : Nat} {L : List (Option Value)} {S : List Value} {h : Hp} {a0 a1 a2 a3 a4 a5 a6 a7 a8 a9 a10 a11 a12 a13 a14 a15 a16 a17 : Option Value} {x : Nat} (hd : Ins Y.2.1 pc (.aload 18) 2 nx) (k : Aw d Y K nx (a0 :: a1 :: a2 :: a3 :: a4 :: a5 :: a6 :: a7 :: a8 :: a9 :: a10 :: a11 :: a12 :: a13 :: a14 :: a15 :: a16 :: a17 :: some (.ref x) :: L) (.ref x :: S) h) : Aw d Y K pc (a0 :: a1 :: a2 :: a3 :: a4 :: a5 :: a6 :: a7 :: a8 :: a9 :: a10 :: a11 :: a12 :: a13 :: a14 :: a15 :: a16 :: a17 :: some (.ref x) :: L) S h := by
  obtain ⟨hd, rfl⟩ := hd
  intro E A p l e R s m args below meth c cells slots Q B hK H locs ls hS hW hl
  exact lv_aload B.1 B.2.1 hd (hl.at (k := 18) (v := .ref x) rfl) (k E A p l e R s m args below meth c cells slots Q B hK H locs ls hS hW hl)

theorem r_aload19 {d : Nat} {Y : MY} {K : KQT} {pc nx : Nat} {L : List (Option Value)} {S : List Value} {h : Hp} {a0 a1 a2 a3 a4 a5 a6 a7 a8 a9 a10 a11 a12 a13 a14 a15 a16 a17 a18 : Option Value} {x : Nat} (hd : Ins Y.2.1 pc (.aload 19) 2 nx) (k : Aw d Y K nx (a0 :: a1 :: a2 :: a3 :: a4 :: a5 :: a6 :: a7 :: a8 :: a9 :: a10 :: a11 :: a12 :: a13 :: a14 :: a15 :: a16 :: a17 :: a18 :: some (.ref x) :: L) (.ref x :: S) h) : Aw d Y K pc (a0 :: a1 :: a2 :: a3 :: a4 :: a5 :: a6 :: a7 :: a8 :: a9 :: a10 :: a11 :: a12 :: a13 :: a14 :: a15 :: a16 :: a17 :: a18 :: some (.ref x) :: L) S h := by
  obtain ⟨hd, rfl⟩ := hd
  intro E A p l e R s m args below meth c cells slots Q B hK H locs ls hS hW hl
  exact lv_aload B.1 B.2.1 hd (hl.at (k := 19) (v := .ref x) rfl) (k E A p l e R s m args below meth c cells slots Q B hK H locs ls hS hW hl)

def nl1 : Option Value → Bool
  | some (.long _) => false
  | some (.double _) => false
  | _ => true
theorem nl1_cat {a : Option Value} {w : Value} (h : nl1 a = true) (e : a = some w) : ¬ w.category = 2 := by
  subst e
  cases w <;> simp_all [nl1, Value.category]
theorem r_store1 {d : Nat} {Y : MY} {K : KQT} {pc nx : Nat} {L : List (Option Value)} {S : List Value} {h : Hp} {i : Nat} {v : Value} (hn : nol L i) (hi : i < L.length) (hm : i < Y.2.2.1) (k : Aw d Y K nx (L.set i (some v)) S h)
    (step : ∀ (E : En) (p : Program) (l : Launch) (e : Env) (R : Room) (s : State) (m : MethodId) (args : Array Value) (below : List Frame) (meth : Method) (c : Code) (cells slots : Nat) (Q : State → Prop) (H : Heap) (locs : List Loc) (ls : Array Slot), p.tables.exec = Jvm.exec → c.code = Y.2.1 → lv_has ls Y.2.2.1 (lst E L) →
      (∀ ls' : Array Slot, lv_has ls' Y.2.2.1 ((i, emb E v) :: (lst E L).filter (fun q => !(q.1 == i) && !(q.1 + 1 == i && q.2.category == 2))) → W p l e R s m args below meth c H locs cells slots Q (F0 m nx ls' (S.map (emb E)))) → W p l e R s m args below meth c H locs cells slots Q (F0 m pc ls ((v :: S).map (emb E)))) : Aw d Y K pc L (v :: S) h := by
  intro E A p l e R s m args below meth c cells slots Q B hK H locs ls hS hW hl
  exact step E p l e R s m args below meth c cells slots Q H locs ls B.1 B.2.1 hl.has (fun ls' h' => k E A p l e R s m args below meth c cells slots Q B hK H locs ls' hS hW (LH.of1 hi hn h'))
theorem nol_0 (L : List (Option Value)) : nol L 0 := fun j w h => by omega
theorem nol_s {L : List (Option Value)} {i : Nat} {a : Option Value} (ha : L[i]? = some a) (h : nl1 a = true) : nol L (i + 1) := by
  intro j w e hj
  have : j = i := by omega
  subst this
  rw [ha] at hj
  exact nl1_cat h (Option.some.inj hj)

theorem r_istore0 {d : Nat} {Y : MY} {K : KQT} {pc nx : Nat} {L : List (Option Value)} {S : List Value} {h : Hp} {a0 : Option Value} {x : Int32} (hd : Ins Y.2.1 pc (.istore_n 0) 1 nx) (hm : 0 < Y.2.2.1) (k : Aw d Y K nx (some (.int x) :: L) S h) : Aw d Y K pc (a0 :: L) (.int x :: S) h :=
  r_store1 (i := 0) (v := .int x) (nol_0 _) (by simp) hm k (fun E p l e R s m args below meth c cells slots Q H locs ls b1 b2 hl kk => by obtain ⟨hd, rfl⟩ := hd; exact lv_istore_n b1 b2 hd rfl hl (hm) rfl kk)

theorem r_istore1 {d : Nat} {Y : MY} {K : KQT} {pc nx : Nat} {L : List (Option Value)} {S : List Value} {h : Hp} {a0 a1 : Option Value} {x : Int32} (hd : Ins Y.2.1 pc (.istore_n 1) 1 nx) (hn : nl1 a0 = true) (hm : 1 < Y.2.2.1) (k : Aw d Y K nx (a0 :: some (.int x) :: L) S h) : Aw d Y K pc (a0 :: a1 :: L) (.int x :: S) h :=
  r_store1 (i := 1) (v := .int x) (nol_s (a := a0) rfl hn) (by simp) hm k (fun E p l e R s m args below meth c cells slots Q H locs ls b1 b2 hl kk => by obtain ⟨hd, rfl⟩ := hd; exact lv_istore_n b1 b2 hd rfl hl (hm) rfl kk)

theorem r_istore2 {d : Nat} {Y : MY} {K : KQT} {pc nx : Nat} {L : List (Option Value)} {S : List Value} {h : Hp} {a0 a1 a2 : Option Value} {x : Int32} (hd : Ins Y.2.1 pc (.istore_n 2) 1 nx) (hn : nl1 a1 = true) (hm : 2 < Y.2.2.1) (k : Aw d Y K nx (a0 :: a1 :: some (.int x) :: L) S h) : Aw d Y K pc (a0 :: a1 :: a2 :: L) (.int x :: S) h :=
  r_store1 (i := 2) (v := .int x) (nol_s (a := a1) rfl hn) (by simp) hm k (fun E p l e R s m args below meth c cells slots Q H locs ls b1 b2 hl kk => by obtain ⟨hd, rfl⟩ := hd; exact lv_istore_n b1 b2 hd rfl hl (hm) rfl kk)

theorem r_istore3 {d : Nat} {Y : MY} {K : KQT} {pc nx : Nat} {L : List (Option Value)} {S : List Value} {h : Hp} {a0 a1 a2 a3 : Option Value} {x : Int32} (hd : Ins Y.2.1 pc (.istore_n 3) 1 nx) (hn : nl1 a2 = true) (hm : 3 < Y.2.2.1) (k : Aw d Y K nx (a0 :: a1 :: a2 :: some (.int x) :: L) S h) : Aw d Y K pc (a0 :: a1 :: a2 :: a3 :: L) (.int x :: S) h :=
  r_store1 (i := 3) (v := .int x) (nol_s (a := a2) rfl hn) (by simp) hm k (fun E p l e R s m args below meth c cells slots Q H locs ls b1 b2 hl kk => by obtain ⟨hd, rfl⟩ := hd; exact lv_istore_n b1 b2 hd rfl hl (hm) rfl kk)

theorem r_istore4 {d : Nat} {Y : MY} {K : KQT} {pc nx : Nat} {L : List (Option Value)} {S : List Value} {h : Hp} {a0 a1 a2 a3 a4 : Option Value} {x : Int32} (hd : Ins Y.2.1 pc (.istore 4) 2 nx) (hn : nl1 a3 = true) (hm : 4 < Y.2.2.1) (k : Aw d Y K nx (a0 :: a1 :: a2 :: a3 :: some (.int x) :: L) S h) : Aw d Y K pc (a0 :: a1 :: a2 :: a3 :: a4 :: L) (.int x :: S) h :=
  r_store1 (i := 4) (v := .int x) (nol_s (a := a3) rfl hn) (by simp) hm k (fun E p l e R s m args below meth c cells slots Q H locs ls b1 b2 hl kk => by obtain ⟨hd, rfl⟩ := hd; exact lv_istore b1 b2 hd hl (hm) rfl kk)

theorem r_istore5 {d : Nat} {Y : MY} {K : KQT} {pc nx : Nat} {L : List (Option Value)} {S : List Value} {h : Hp} {a0 a1 a2 a3 a4 a5 : Option Value} {x : Int32} (hd : Ins Y.2.1 pc (.istore 5) 2 nx) (hn : nl1 a4 = true) (hm : 5 < Y.2.2.1) (k : Aw d Y K nx (a0 :: a1 :: a2 :: a3 :: a4 :: some (.int x) :: L) S h) : Aw d Y K pc (a0 :: a1 :: a2 :: a3 :: a4 :: a5 :: L) (.int x :: S) h :=
  r_store1 (i := 5) (v := .int x) (nol_s (a := a4) rfl hn) (by simp) hm k (fun E p l e R s m args below meth c cells slots Q H locs ls b1 b2 hl kk => by obtain ⟨hd, rfl⟩ := hd; exact lv_istore b1 b2 hd hl (hm) rfl kk)

theorem r_istore6 {d : Nat} {Y : MY} {K : KQT} {pc nx : Nat} {L : List (Option Value)} {S : List Value} {h : Hp} {a0 a1 a2 a3 a4 a5 a6 : Option Value} {x : Int32} (hd : Ins Y.2.1 pc (.istore 6) 2 nx) (hn : nl1 a5 = true) (hm : 6 < Y.2.2.1) (k : Aw d Y K nx (a0 :: a1 :: a2 :: a3 :: a4 :: a5 :: some (.int x) :: L) S h) : Aw d Y K pc (a0 :: a1 :: a2 :: a3 :: a4 :: a5 :: a6 :: L) (.int x :: S) h :=
  r_store1 (i := 6) (v := .int x) (nol_s (a := a5) rfl hn) (by simp) hm k (fun E p l e R s m args below meth c cells slots Q H locs ls b1 b2 hl kk => by obtain ⟨hd, rfl⟩ := hd; exact lv_istore b1 b2 hd hl (hm) rfl kk)

theorem r_istore7 {d : Nat} {Y : MY} {K : KQT} {pc nx : Nat} {L : List (Option Value)} {S : List Value} {h : Hp} {a0 a1 a2 a3 a4 a5 a6 a7 : Option Value} {x : Int32} (hd : Ins Y.2.1 pc (.istore 7) 2 nx) (hn : nl1 a6 = true) (hm : 7 < Y.2.2.1) (k : Aw d Y K nx (a0 :: a1 :: a2 :: a3 :: a4 :: a5 :: a6 :: some (.int x) :: L) S h) : Aw d Y K pc (a0 :: a1 :: a2 :: a3 :: a4 :: a5 :: a6 :: a7 :: L) (.int x :: S) h :=
  r_store1 (i := 7) (v := .int x) (nol_s (a := a6) rfl hn) (by simp) hm k (fun E p l e R s m args below meth c cells slots Q H locs ls b1 b2 hl kk => by obtain ⟨hd, rfl⟩ := hd; exact lv_istore b1 b2 hd hl (hm) rfl kk)

theorem r_istore8 {d : Nat} {Y : MY} {K : KQT} {pc nx : Nat} {L : List (Option Value)} {S : List Value} {h : Hp} {a0 a1 a2 a3 a4 a5 a6 a7 a8 : Option Value} {x : Int32} (hd : Ins Y.2.1 pc (.istore 8) 2 nx) (hn : nl1 a7 = true) (hm : 8 < Y.2.2.1) (k : Aw d Y K nx (a0 :: a1 :: a2 :: a3 :: a4 :: a5 :: a6 :: a7 :: some (.int x) :: L) S h) : Aw d Y K pc (a0 :: a1 :: a2 :: a3 :: a4 :: a5 :: a6 :: a7 :: a8 :: L) (.int x :: S) h :=
  r_store1 (i := 8) (v := .int x) (nol_s (a := a7) rfl hn) (by simp) hm k (fun E p l e R s m args below meth c cells slots Q H locs ls b1 b2 hl kk => by obtain ⟨hd, rfl⟩ := hd; exact lv_istore b1 b2 hd hl (hm) rfl kk)

theorem r_istore9 {d : Nat} {Y : MY} {K : KQT} {pc nx : Nat} {L : List (Option Value)} {S : List Value} {h : Hp} {a0 a1 a2 a3 a4 a5 a6 a7 a8 a9 : Option Value} {x : Int32} (hd : Ins Y.2.1 pc (.istore 9) 2 nx) (hn : nl1 a8 = true) (hm : 9 < Y.2.2.1) (k : Aw d Y K nx (a0 :: a1 :: a2 :: a3 :: a4 :: a5 :: a6 :: a7 :: a8 :: some (.int x) :: L) S h) : Aw d Y K pc (a0 :: a1 :: a2 :: a3 :: a4 :: a5 :: a6 :: a7 :: a8 :: a9 :: L) (.int x :: S) h :=
  r_store1 (i := 9) (v := .int x) (nol_s (a := a8) rfl hn) (by simp) hm k (fun E p l e R s m args below meth c cells slots Q H locs ls b1 b2 hl kk => by obtain ⟨hd, rfl⟩ := hd; exact lv_istore b1 b2 hd hl (hm) rfl kk)

theorem r_istore10 {d : Nat} {Y : MY} {K : KQT} {pc nx : Nat} {L : List (Option Value)} {S : List Value} {h : Hp} {a0 a1 a2 a3 a4 a5 a6 a7 a8 a9 a10 : Option Value} {x : Int32} (hd : Ins Y.2.1 pc (.istore 10) 2 nx) (hn : nl1 a9 = true) (hm : 10 < Y.2.2.1) (k : Aw d Y K nx (a0 :: a1 :: a2 :: a3 :: a4 :: a5 :: a6 :: a7 :: a8 :: a9 :: some (.int x) :: L) S h) : Aw d Y K pc (a0 :: a1 :: a2 :: a3 :: a4 :: a5 :: a6 :: a7 :: a8 :: a9 :: a10 :: L) (.int x :: S) h :=
  r_store1 (i := 10) (v := .int x) (nol_s (a := a9) rfl hn) (by simp) hm k (fun E p l e R s m args below meth c cells slots Q H locs ls b1 b2 hl kk => by obtain ⟨hd, rfl⟩ := hd; exact lv_istore b1 b2 hd hl (hm) rfl kk)

theorem r_istore11 {d : Nat} {Y : MY} {K : KQT} {pc nx : Nat} {L : List (Option Value)} {S : List Value} {h : Hp} {a0 a1 a2 a3 a4 a5 a6 a7 a8 a9 a10 a11 : Option Value} {x : Int32} (hd : Ins Y.2.1 pc (.istore 11) 2 nx) (hn : nl1 a10 = true) (hm : 11 < Y.2.2.1) (k : Aw d Y K nx (a0 :: a1 :: a2 :: a3 :: a4 :: a5 :: a6 :: a7 :: a8 :: a9 :: a10 :: some (.int x) :: L) S h) : Aw d Y K pc (a0 :: a1 :: a2 :: a3 :: a4 :: a5 :: a6 :: a7 :: a8 :: a9 :: a10 :: a11 :: L) (.int x :: S) h :=
  r_store1 (i := 11) (v := .int x) (nol_s (a := a10) rfl hn) (by simp) hm k (fun E p l e R s m args below meth c cells slots Q H locs ls b1 b2 hl kk => by obtain ⟨hd, rfl⟩ := hd; exact lv_istore b1 b2 hd hl (hm) rfl kk)

theorem r_istore12 {d : Nat} {Y : MY} {K : KQT} {pc nx : Nat} {L : List (Option Value)} {S : List Value} {h : Hp} {a0 a1 a2 a3 a4 a5 a6 a7 a8 a9 a10 a11 a12 : Option Value} {x : Int32} (hd : Ins Y.2.1 pc (.istore 12) 2 nx) (hn : nl1 a11 = true) (hm : 12 < Y.2.2.1) (k : Aw d Y K nx (a0 :: a1 :: a2 :: a3 :: a4 :: a5 :: a6 :: a7 :: a8 :: a9 :: a10 :: a11 :: some (.int x) :: L) S h) : Aw d Y K pc (a0 :: a1 :: a2 :: a3 :: a4 :: a5 :: a6 :: a7 :: a8 :: a9 :: a10 :: a11 :: a12 :: L) (.int x :: S) h :=
  r_store1 (i := 12) (v := .int x) (nol_s (a := a11) rfl hn) (by simp) hm k (fun E p l e R s m args below meth c cells slots Q H locs ls b1 b2 hl kk => by obtain ⟨hd, rfl⟩ := hd; exact lv_istore b1 b2 hd hl (hm) rfl kk)

theorem r_istore13 {d : Nat} {Y : MY} {K : KQT} {pc nx : Nat} {L : List (Option Value)} {S : List Value} {h : Hp} {a0 a1 a2 a3 a4 a5 a6 a7 a8 a9 a10 a11 a12 a13 : Option Value} {x : Int32} (hd : Ins Y.2.1 pc (.istore 13) 2 nx) (hn : nl1 a12 = true) (hm : 13 < Y.2.2.1) (k : Aw d Y K nx (a0 :: a1 :: a2 :: a3 :: a4 :: a5 :: a6 :: a7 :: a8 :: a9 :: a10 :: a11 :: a12 :: some (.int x) :: L) S h) : Aw d Y K pc (a0 :: a1 :: a2 :: a3 :: a4 :: a5 :: a6 :: a7 :: a8 :: a9 :: a10 :: a11 :: a12 :: a13 :: L) (.int x :: S) h :=
  r_store1 (i := 13) (v := .int x) (nol_s (a := a12) rfl hn) (by simp) hm k (fun E p l e R s m args below meth c cells slots Q H locs ls b1 b2 hl kk => by obtain ⟨hd, rfl⟩ := hd; exact lv_istore b1 b2 hd hl (hm) rfl kk)

theorem r_istore14 {d : Nat} {Y : MY} {K : KQT} {pc nx : Nat} {L : List (Option Value)} {S : List Value} {h : Hp} {a0 a1 a2 a3 a4 a5 a6 a7 a8 a9 a10 a11 a12 a13 a14 : Option Value} {x : Int32} (hd : Ins Y.2.1 pc (.istore 14) 2 nx) (hn : nl1 a13 = true) (hm : 14 < Y.2.2.1) (k : Aw d Y K nx (a0 :: a1 :: a2 :: a3 :: a4 :: a5 :: a6 :: a7 :: a8 :: a9 :: a10 :: a11 :: a12 :: a13 :: some (.int x) :: L) S h) : Aw d Y K pc (a0 :: a1 :: a2 :: a3 :: a4 :: a5 :: a6 :: a7 :: a8 :: a9 :: a10 :: a11 :: a12 :: a13 :: a14 :: L) (.int x :: S) h :=
  r_store1 (i := 14) (v := .int x) (nol_s (a := a13) rfl hn) (by simp) hm k (fun E p l e R s m args below meth c cells slots Q H locs ls b1 b2 hl kk => by obtain ⟨hd, rfl⟩ := hd; exact lv_istore b1 b2 hd hl (hm) rfl kk)

theorem r_istore15 {d : Nat} {Y : MY} {K : KQT} {pc nx : Nat} {L : List (Option Value)} {S : List Value} {h : Hp} {a0 a1 a2 a3 a4 a5 a6 a7 a8 a9 a10 a11 a12 a13 a14 a15 : Option Value} {x : Int32} (hd : Ins Y.2.1 pc (.istore 15) 2 nx) (hn : nl1 a14 = true) (hm : 15 < Y.2.2.1) (k : Aw d Y K nx (a0 :: a1 :: a2 :: a3 :: a4 :: a5 :: a6 :: a7 :: a8 :: a9 :: a10 :: a11 :: a12 :: a13 :: a14 :: some (.int x) :: L) S h) : Aw d Y K pc (a0 :: a1 :: a2 :: a3 :: a4 :: a5 :: a6 :: a7 :: a8 :: a9 :: a10 :: a11 :: a12 :: a13 :: a14 :: a15 :: L) (.int x :: S) h :=
  r_store1 (i := 15) (v := .int x) (nol_s (a := a14) rfl hn) (by simp) hm k (fun E p l e R s m args below meth c cells slots Q H locs ls b1 b2 hl kk => by obtain ⟨hd, rfl⟩ := hd; exact lv_istore b1 b2 hd hl (hm) rfl kk)

theorem r_istore16 {d : Nat} {Y : MY} {K : KQT} {pc nx : Nat} {L : List (Option Value)} {S : List Value} {h : Hp} {a0 a1 a2 a3 a4 a5 a6 a7 a8 a9 a10 a11 a12 a13 a14 a15 a16 : Option Value} {x : Int32} (hd : Ins Y.2.1 pc (.istore 16) 2 nx) (hn : nl1 a15 = true) (hm : 16 < Y.2.2.1) (k : Aw d Y K nx (a0 :: a1 :: a2 :: a3 :: a4 :: a5 :: a6 :: a7 :: a8 :: a9 :: a10 :: a11 :: a12 :: a13 :: a14 :: a15 :: some (.int x) :: L) S h) : Aw d Y K pc (a0 :: a1 :: a2 :: a3 :: a4 :: a5 :: a6 :: a7 :: a8 :: a9 :: a10 :: a11 :: a12 :: a13 :: a14 :: a15 :: a16 :: L) (.int x :: S) h :=
  r_store1 (i := 16) (v := .int x) (nol_s (a := a15) rfl hn) (by simp) hm k (fun E p l e R s m args below meth c cells slots Q H locs ls b1 b2 hl kk => by obtain ⟨hd, rfl⟩ := hd; exact lv_istore b1 b2 hd hl (hm) rfl kk)

theorem r_istore17 {d : Nat} {Y : MY} {K : KQT} {pc nx : Nat} {L : List (Option Value)} {S : List Value} {h : Hp} {a0 a1 a2 a3 a4 a5 a6 a7 a8 a9 a10 a11 a12 a13 a14 a15 a16 a17 : Option Value} {x : Int32} (hd : Ins Y.2.1 pc (.istore 17) 2 nx) (hn : nl1 a16 = true) (hm : 17 < Y.2.2.1) (k : Aw d Y K nx (a0 :: a1 :: a2 :: a3 :: a4 :: a5 :: a6 :: a7 :: a8 :: a9 :: a10 :: a11 :: a12 :: a13 :: a14 :: a15 :: a16 :: some (.int x) :: L) S h) : Aw d Y K pc (a0 :: a1 :: a2 :: a3 :: a4 :: a5 :: a6 :: a7 :: a8 :: a9 :: a10 :: a11 :: a12 :: a13 :: a14 :: a15 :: a16 :: a17 :: L) (.int x :: S) h :=
  r_store1 (i := 17) (v := .int x) (nol_s (a := a16) rfl hn) (by simp) hm k (fun E p l e R s m args below meth c cells slots Q H locs ls b1 b2 hl kk => by obtain ⟨hd, rfl⟩ := hd; exact lv_istore b1 b2 hd hl (hm) rfl kk)

theorem r_istore18 {d : Nat} {Y : MY} {K : KQT} {pc nx : Nat} {L : List (Option Value)} {S : List Value} {h : Hp} {a0 a1 a2 a3 a4 a5 a6 a7 a8 a9 a10 a11 a12 a13 a14 a15 a16 a17 a18 : Option Value} {x : Int32} (hd : Ins Y.2.1 pc (.istore 18) 2 nx) (hn : nl1 a17 = true) (hm : 18 < Y.2.2.1) (k : Aw d Y K nx (a0 :: a1 :: a2 :: a3 :: a4 :: a5 :: a6 :: a7 :: a8 :: a9 :: a10 :: a11 :: a12 :: a13 :: a14 :: a15 :: a16 :: a17 :: some (.int x) :: L) S h) : Aw d Y K pc (a0 :: a1 :: a2 :: a3 :: a4 :: a5 :: a6 :: a7 :: a8 :: a9 :: a10 :: a11 :: a12 :: a13 :: a14 :: a15 :: a16 :: a17 :: a18 :: L) (.int x :: S) h :=
  r_store1 (i := 18) (v := .int x) (nol_s (a := a17) rfl hn) (by simp) hm k (fun E p l e R s m args below meth c cells slots Q H locs ls b1 b2 hl kk => by obtain ⟨hd, rfl⟩ := hd; exact lv_istore b1 b2 hd hl (hm) rfl kk)

theorem r_istore19 {d : Nat} {Y : MY} {K : KQT} {pc nx : Nat} {L : List (Option Value)} {S : List Value} {h : Hp} {a0 a1 a2 a3 a4 a5 a6 a7 a8 a9 a10 a11 a12 a13 a14 a15 a16 a17 a18 a19 : Option Value} {x : Int32} (hd : Ins Y.2.1 pc (.istore 19) 2 nx) (hn : nl1 a18 = true) (hm : 19 < Y.2.2.1) (k : Aw d Y K nx (a0 :: a1 :: a2 :: a3 :: a4 :: a5 :: a6 :: a7 :: a8 :: a9 :: a10 :: a11 :: a12 :: a13 :: a14 :: a15 :: a16 :: a17 :: a18 :: some (.int x) :: L) S h) : Aw d Y K pc (a0 :: a1 :: a2 :: a3 :: a4 :: a5 :: a6 :: a7 :: a8 :: a9 :: a10 :: a11 :: a12 :: a13 :: a14 :: a15 :: a16 :: a17 :: a18 :: a19 :: L) (.int x :: S) h :=
  r_store1 (i := 19) (v := .int x) (nol_s (a := a18) rfl hn) (by simp) hm k (fun E p l e R s m args below meth c cells slots Q H locs ls b1 b2 hl kk => by obtain ⟨hd, rfl⟩ := hd; exact lv_istore b1 b2 hd hl (hm) rfl kk)

theorem r_astore0 {d : Nat} {Y : MY} {K : KQT} {pc nx : Nat} {L : List (Option Value)} {S : List Value} {h : Hp} {a0 : Option Value} {x : Nat} (hd : Ins Y.2.1 pc (.astore_n 0) 1 nx) (hm : 0 < Y.2.2.1) (k : Aw d Y K nx (some (.ref x) :: L) S h) : Aw d Y K pc (a0 :: L) (.ref x :: S) h :=
  r_store1 (i := 0) (v := .ref x) (nol_0 _) (by simp) hm k (fun E p l e R s m args below meth c cells slots Q H locs ls b1 b2 hl kk => by obtain ⟨hd, rfl⟩ := hd; exact lv_astore_n b1 b2 hd rfl hl (hm) rfl kk)

theorem r_astore1 {d : Nat} {Y : MY} {K : KQT} {pc nx : Nat} {L : List (Option Value)} {S : List Value} {h : Hp} {a0 a1 : Option Value} {x : Nat} (hd : Ins Y.2.1 pc (.astore_n 1) 1 nx) (hn : nl1 a0 = true) (hm : 1 < Y.2.2.1) (k : Aw d Y K nx (a0 :: some (.ref x) :: L) S h) : Aw d Y K pc (a0 :: a1 :: L) (.ref x :: S) h :=
  r_store1 (i := 1) (v := .ref x) (nol_s (a := a0) rfl hn) (by simp) hm k (fun E p l e R s m args below meth c cells slots Q H locs ls b1 b2 hl kk => by obtain ⟨hd, rfl⟩ := hd; exact lv_astore_n b1 b2 hd rfl hl (hm) rfl kk)

theorem r_astore2 {d : Nat} {Y : MY} {K : KQT} {pc nx : Nat} {L : List (Option Value)} {S : List Value} {h : Hp} {a0 a1 a2 : Option Value} {x : Nat} (hd : Ins Y.2.1 pc (.astore_n 2) 1 nx) (hn : nl1 a1 = true) (hm : 2 < Y.2.2.1) (k : Aw d Y K nx (a0 :: a1 :: some (.ref x) :: L) S h) : Aw d Y K pc (a0 :: a1 :: a2 :: L) (.ref x :: S) h :=
  r_store1 (i := 2) (v := .ref x) (nol_s (a := a1) rfl hn) (by simp) hm k (fun E p l e R s m args below meth c cells slots Q H locs ls b1 b2 hl kk => by obtain ⟨hd, rfl⟩ := hd; exact lv_astore_n b1 b2 hd rfl hl (hm) rfl kk)

theorem r_astore3 {d : Nat} {Y : MY} {K : KQT} {pc nx : Nat} {L : List (Option Value)} {S : List Value} {h : Hp} {a0 a1 a2 a3 : Option Value} {x : Nat} (hd : Ins Y.2.1 pc (.astore_n 3) 1 nx) (hn : nl1 a2 = true) (hm : 3 < Y.2.2.1) (k : Aw d Y K nx (a0 :: a1 :: a2 :: some (.ref x) :: L) S h) : Aw d Y K pc (a0 :: a1 :: a2 :: a3 :: L) (.ref x :: S) h :=
  r_store1 (i := 3) (v := .ref x) (nol_s (a := a2) rfl hn) (by simp) hm k (fun E p l e R s m args below meth c cells slots Q H locs ls b1 b2 hl kk => by obtain ⟨hd, rfl⟩ := hd; exact lv_astore_n b1 b2 hd rfl hl (hm) rfl kk)

theorem r_astore4 {d : Nat} {Y : MY} {K : KQT} {pc nx : Nat} {L : List (Option Value)} {S : List Value} {h : Hp} {a0 a1 a2 a3 a4 : Option Value} {x : Nat} (hd : Ins Y.2.1 pc (.astore 4) 2 nx) (hn : nl1 a3 = true) (hm : 4 < Y.2.2.1) (k : Aw d Y K nx (a0 :: a1 :: a2 :: a3 :: some (.ref x) :: L) S h) : Aw d Y K pc (a0 :: a1 :: a2 :: a3 :: a4 :: L) (.ref x :: S) h :=
  r_store1 (i := 4) (v := .ref x) (nol_s (a := a3) rfl hn) (by simp) hm k (fun E p l e R s m args below meth c cells slots Q H locs ls b1 b2 hl kk => by obtain ⟨hd, rfl⟩ := hd; exact lv_astore b1 b2 hd hl (hm) rfl kk)

theorem r_astore5 {d : Nat} {Y : MY} {K : KQT} {pc nx : Nat} {L : List (Option Value)} {S : List Value} {h : Hp} {a0 a1 a2 a3 a4 a5 : Option Value} {x : Nat} (hd : Ins Y.2.1 pc (.astore 5) 2 nx) (hn : nl1 a4 = true) (hm : 5 < Y.2.2.1) (k : Aw d Y K nx (a0 :: a1 :: a2 :: a3 :: a4 :: some (.ref x) :: L) S h) : Aw d Y K pc (a0 :: a1 :: a2 :: a3 :: a4 :: a5 :: L) (.ref x :: S) h :=
  r_store1 (i := 5) (v := .ref x) (nol_s (a := a4) rfl hn) (by simp) hm k (fun E p l e R s m args below meth c cells slots Q H locs ls b1 b2 hl kk => by obtain ⟨hd, rfl⟩ := hd; exact lv_astore b1 b2 hd hl (hm) rfl kk)

theorem r_astore6 {d : Nat} {Y : MY} {K : KQT} {pc nx : Nat} {L : List (Option Value)} {S : List Value} {h : Hp} {a0 a1 a2 a3 a4 a5 a6 : Option Value} {x : Nat} (hd : Ins Y.2.1 pc (.astore 6) 2 nx) (hn : nl1 a5 = true) (hm : 6 < Y.2.2.1) (k : Aw d Y K nx (a0 :: a1 :: a2 :: a3 :: a4 :: a5 :: some (.ref x) :: L) S h) : Aw d Y K pc (a0 :: a1 :: a2 :: a3 :: a4 :: a5 :: a6 :: L) (.ref x :: S) h :=
  r_store1 (i := 6) (v := .ref x) (nol_s (a := a5) rfl hn) (by simp) hm k (fun E p l e R s m args below meth c cells slots Q H locs ls b1 b2 hl kk => by obtain ⟨hd, rfl⟩ := hd; exact lv_astore b1 b2 hd hl (hm) rfl kk)

theorem r_astore7 {d : Nat} {Y : MY} {K : KQT} {pc nx : Nat} {L : List (Option Value)} {S : List Value} {h : Hp} {a0 a1 a2 a3 a4 a5 a6 a7 : Option Value} {x : Nat} (hd : Ins Y.2.1 pc (.astore 7) 2 nx) (hn : nl1 a6 = true) (hm : 7 < Y.2.2.1) (k : Aw d Y K nx (a0 :: a1 :: a2 :: a3 :: a4 :: a5 :: a6 :: some (.ref x) :: L) S h) : Aw d Y K pc (a0 :: a1 :: a2 :: a3 :: a4 :: a5 :: a6 :: a7 :: L) (.ref x :: S) h :=
  r_store1 (i := 7) (v := .ref x) (nol_s (a := a6) rfl hn) (by simp) hm k (fun E p l e R s m args below meth c cells slots Q H locs ls b1 b2 hl kk => by obtain ⟨hd, rfl⟩ := hd; exact lv_astore b1 b2 hd hl (hm) rfl kk)

theorem r_astore8 {d : Nat} {Y : MY} {K : KQT} {pc nx : Nat} {L : List (Option Value)} {S : List Value} {h : Hp} {a0 a1 a2 a3 a4 a5 a6 a7 a8 : Option Value} {x : Nat} (hd : Ins Y.2.1 pc (.astore 8) 2 nx) (hn : nl1 a7 = true) (hm : 8 < Y.2.2.1) (k : Aw d Y K nx (a0 :: a1 :: a2 :: a3 :: a4 :: a5 :: a6 :: a7 :: some (.ref x) :: L) S h) : Aw d Y K pc (a0 :: a1 :: a2 :: a3 :: a4 :: a5 :: a6 :: a7 :: a8 :: L) (.ref x :: S) h :=
  r_store1 (i := 8) (v := .ref x) (nol_s (a := a7) rfl hn) (by simp) hm k (fun E p l e R s m args below meth c cells slots Q H locs ls b1 b2 hl kk => by obtain ⟨hd, rfl⟩ := hd; exact lv_astore b1 b2 hd hl (hm) rfl kk)

theorem r_astore9 {d : Nat} {Y : MY} {K : KQT} {pc nx : Nat} {L : List (Option Value)} {S : List Value} {h : Hp} {a0 a1 a2 a3 a4 a5 a6 a7 a8 a9 : Option Value} {x : Nat} (hd : Ins Y.2.1 pc (.astore 9) 2 nx) (hn : nl1 a8 = true) (hm : 9 < Y.2.2.1) (k : Aw d Y K nx (a0 :: a1 :: a2 :: a3 :: a4 :: a5 :: a6 :: a7 :: a8 :: some (.ref x) :: L) S h) : Aw d Y K pc (a0 :: a1 :: a2 :: a3 :: a4 :: a5 :: a6 :: a7 :: a8 :: a9 :: L) (.ref x :: S) h :=
  r_store1 (i := 9) (v := .ref x) (nol_s (a := a8) rfl hn) (by simp) hm k (fun E p l e R s m args below meth c cells slots Q H locs ls b1 b2 hl kk => by obtain ⟨hd, rfl⟩ := hd; exact lv_astore b1 b2 hd hl (hm) rfl kk)

theorem r_astore10 {d : Nat} {Y : MY} {K : KQT} {pc nx : Nat} {L : List (Option Value)} {S : List Value} {h : Hp} {a0 a1 a2 a3 a4 a5 a6 a7 a8 a9 a10 : Option Value} {x : Nat} (hd : Ins Y.2.1 pc (.astore 10) 2 nx) (hn : nl1 a9 = true) (hm : 10 < Y.2.2.1) (k : Aw d Y K nx (a0 :: a1 :: a2 :: a3 :: a4 :: a5 :: a6 :: a7 :: a8 :: a9 :: some (.ref x) :: L) S h) : Aw d Y K pc (a0 :: a1 :: a2 :: a3 :: a4 :: a5 :: a6 :: a7 :: a8 :: a9 :: a10 :: L) (.ref x :: S) h :=
  r_store1 (i := 10) (v := .ref x) (nol_s (a := a9) rfl hn) (by simp) hm k (fun E p l e R s m args below meth c cells slots Q H locs ls b1 b2 hl kk => by obtain ⟨hd, rfl⟩ := hd; exact lv_astore b1 b2 hd hl (hm) rfl kk)

theorem r_astore11 {d : Nat} {Y : MY} {K : KQT} {pc nx : Nat} {L : List (Option Value)} {S : List Value} {h : Hp} {a0 a1 a2 a3 a4 a5 a6 a7 a8 a9 a10 a11 : Option Value} {x : Nat} (hd : Ins Y.2.1 pc (.astore 11) 2 nx) (hn : nl1 a10 = true) (hm : 11 < Y.2.2.1) (k : Aw d Y K nx (a0 :: a1 :: a2 :: a3 :: a4 :: a5 :: a6 :: a7 :: a8 :: a9 :: a10 :: some (.ref x) :: L) S h) : Aw d Y K pc (a0 :: a1 :: a2 :: a3 :: a4 :: a5 :: a6 :: a7 :: a8 :: a9 :: a10 :: a11 :: L) (.ref x :: S) h :=
  r_store1 (i := 11) (v := .ref x) (nol_s (a := a10) rfl hn) (by simp) hm k (fun E p l e R s m args below meth c cells slots Q H locs ls b1 b2 hl kk => by obtain ⟨hd, rfl⟩ := hd; exact lv_astore b1 b2 hd hl (hm) rfl kk)

theorem r_astore12 {d : Nat} {Y : MY} {K : KQT} {pc nx : Nat} {L : List (Option Value)} {S : List Value} {h : Hp} {a0 a1 a2 a3 a4 a5 a6 a7 a8 a9 a10 a11 a12 : Option Value} {x : Nat} (hd : Ins Y.2.1 pc (.astore 12) 2 nx) (hn : nl1 a11 = true) (hm : 12 < Y.2.2.1) (k : Aw d Y K nx (a0 :: a1 :: a2 :: a3 :: a4 :: a5 :: a6 :: a7 :: a8 :: a9 :: a10 :: a11 :: some (.ref x) :: L) S h) : Aw d Y K pc (a0 :: a1 :: a2 :: a3 :: a4 :: a5 :: a6 :: a7 :: a8 :: a9 :: a10 :: a11 :: a12 :: L) (.ref x :: S) h :=
  r_store1 (i := 12) (v := .ref x) (nol_s (a := a11) rfl hn) (by simp) hm k (fun E p l e R s m args below meth c cells slots Q H locs ls b1 b2 hl kk => by obtain ⟨hd, rfl⟩ := hd; exact lv_astore b1 b2 hd hl (hm) rfl kk)

theorem r_astore13 {d : Nat} {Y : MY} {K : KQT} {pc nx : Nat} {L : List (Option Value)} {S : List Value} {h : Hp} {a0 a1 a2 a3 a4 a5 a6 a7 a8 a9 a10 a11 a12 a13 : Option Value} {x : Nat} (hd : Ins Y.2.1 pc (.astore 13) 2 nx) (hn : nl1 a12 = true) (hm : 13 < Y.2.2.1) (k : Aw d Y K nx (a0 :: a1 :: a2 :: a3 :: a4 :: a5 :: a6 :: a7 :: a8 :: a9 :: a10 :: a11 :: a12 :: some (.ref x) :: L) S h) : Aw d Y K pc (a0 :: a1 :: a2 :: a3 :: a4 :: a5 :: a6 :: a7 :: a8 :: a9 :: a10 :: a11 :: a12 :: a13 :: L) (.ref x :: S) h :=
  r_store1 (i := 13) (v := .ref x) (nol_s (a := a12) rfl hn) (by simp) hm k (fun E p l e R s m args below meth c cells slots Q H locs ls b1 b2 hl kk => by obtain ⟨hd, rfl⟩ := hd; exact lv_astore b1 b2 hd hl (hm) rfl kk)

theorem r_astore14 {d : Nat} {Y : MY} {K : KQT} {pc nx : Nat} {L : List (Option Value)} {S : List Value} {h : Hp} {a0 a1 a2 a3 a4 a5 a6 a7 a8 a9 a10 a11 a12 a13 a14 : Option Value} {x : Nat} (hd : Ins Y.2.1 pc (.astore 14) 2 nx) (hn : nl1 a13 = true) (hm : 14 < Y.2.2.1) (k : Aw d Y K nx (a0 :: a1 :: a2 :: a3 :: a4 :: a5 :: a6 :: a7 :: a8 :: a9 :: a10 :: a11 :: a12 :: a13 :: some (.ref x) :: L) S h) : Aw d Y K pc (a0 :: a1 :: a2 :: a3 :: a4 :: a5 :: a6 :: a7 :: a8 :: a9 :: a10 :: a11 :: a12 :: a13 :: a14 :: L) (.ref x :: S) h :=
  r_store1 (i := 14) (v := .ref x) (nol_s (a := a13) rfl hn) (by simp) hm k (fun E p l e R s m args below meth c cells slots Q H locs ls b1 b2 hl kk => by obtain ⟨hd, rfl⟩ := hd; exact lv_astore b1 b2 hd hl (hm) rfl kk)

theorem r_astore15 {d : Nat} {Y : MY} {K : KQT} {pc nx : Nat} {L : List (Option Value)} {S : List Value} {h : Hp} {a0 a1 a2 a3 a4 a5 a6 a7 a8 a9 a10 a11 a12 a13 a14 a15 : Option Value} {x : Nat} (hd : Ins Y.2.1 pc (.astore 15) 2 nx) (hn : nl1 a14 = true) (hm : 15 < Y.2.2.1) (k : Aw d Y K nx (a0 :: a1 :: a2 :: a3 :: a4 :: a5 :: a6 :: a7 :: a8 :: a9 :: a10 :: a11 :: a12 :: a13 :: a14 :: some (.ref x) :: L) S h) : Aw d Y K pc (a0 :: a1 :: a2 :: a3 :: a4 :: a5 :: a6 :: a7 :: a8 :: a9 :: a10 :: a11 :: a12 :: a13 :: a14 :: a15 :: L) (.ref x :: S) h :=
  r_store1 (i := 15) (v := .ref x) (nol_s (a := a14) rfl hn) (by simp) hm k (fun E p l e R s m args below meth c cells slots Q H locs ls b1 b2 hl kk => by obtain ⟨hd, rfl⟩ := hd; exact lv_astore b1 b2 hd hl (hm) rfl kk)

theorem r_astore16 {d : Nat} {Y : MY} {K : KQT} {pc nx : Nat} {L : List (Option Value)} {S : List Value} {h : Hp} {a0 a1 a2 a3 a4 a5 a6 a7 a8 a9 a10 a11 a12 a13 a14 a15 a16 : Option Value} {x : Nat} (hd : Ins Y.2.1 pc (.astore 16) 2 nx) (hn : nl1 a15 = true) (hm : 16 < Y.2.2.1) (k : Aw d Y K nx (a0 :: a1 :: a2 :: a3 :: a4 :: a5 :: a6 :: a7 :: a8 :: a9 :: a10 :: a11 :: a12 :: a13 :: a14 :: a15 :: some (.ref x) :: L) S h) : Aw d Y K pc (a0 :: a1 :: a2 :: a3 :: a4 :: a5 :: a6 :: a7 :: a8 :: a9 :: a10 :: a11 :: a12 :: a13 :: a14 :: a15 :: a16 :: L) (.ref x :: S) h :=
  r_store1 (i := 16) (v := .ref x) (nol_s (a := a15) rfl hn) (by simp) hm k (fun E p l e R s m args below meth c cells slots Q H locs ls b1 b2 hl kk => by obtain ⟨hd, rfl⟩ := hd; exact lv_astore b1 b2 hd hl (hm) rfl kk)

theorem r_astore17 {d : Nat} {Y : MY} {K : KQT} {pc nx : Nat} {L : List (Option Value)} {S : List Value} {h : Hp} {a0 a1 a2 a3 a4 a5 a6 a7 a8 a9 a10 a11 a12 a13 a14 a15 a16 a17 : Option Value} {x : Nat} (hd : Ins Y.2.1 pc (.astore 17) 2 nx) (hn : nl1 a16 = true) (hm : 17 < Y.2.2.1) (k : Aw d Y K nx (a0 :: a1 :: a2 :: a3 :: a4 :: a5 :: a6 :: a7 :: a8 :: a9 :: a10 :: a11 :: a12 :: a13 :: a14 :: a15 :: a16 :: some (.ref x) :: L) S h) : Aw d Y K pc (a0 :: a1 :: a2 :: a3 :: a4 :: a5 :: a6 :: a7 :: a8 :: a9 :: a10 :: a11 :: a12 :: a13 :: a14 :: a15 :: a16 :: a17 :: L) (.ref x :: S) h :=
  r_store1 (i := 17) (v := .ref x) (nol_s (a := a16) rfl hn) (by simp) hm k (fun E p l e R s m args below meth c cells slots Q H locs ls b1 b2 hl kk => by obtain ⟨hd, rfl⟩ := hd; exact lv_astore b1 b2 hd hl (hm) rfl kk)

theorem r_astore18 {d : Nat} {Y : MY} {K : KQT} {pc nx : Nat} {L : List (Option Value)} {S : List Value} {h : Hp} {a0 a1 a2 a3 a4 a5 a6 a7 a8 a9 a10 a11 a12 a13 a14 a15 a16 a17 a18 : Option Value} {x : Nat} (hd : Ins Y.2.1 pc (.astore 18) 2 nx) (hn : nl1 a17 = true) (hm : 18 < Y.2.2.1) (k : Aw d Y K nx (a0 :: a1 :: a2 :: a3 :: a4 :: a5 :: a6 :: a7 :: a8 :: a9 :: a10 :: a11 :: a12 :: a13 :: a14 :: a15 :: a16 :: a17 :: some (.ref x) :: L) S h) : Aw d Y K pc (a0 :: a1 :: a2 :: a3 :: a4 :: a5 :: a6 :: a7 :: a8 :: a9 :: a10 :: a11 :: a12 :: a13 :: a14 :: a15 :: a16 :: a17 :: a18 :: L) (.ref x :: S) h :=
  r_store1 (i := 18) (v := .ref x) (nol_s (a := a17) rfl hn) (by simp) hm k (fun E p l e R s m args below meth c cells slots Q H locs ls b1 b2 hl kk => by obtain ⟨hd, rfl⟩ := hd; exact lv_astore b1 b2 hd hl (hm) rfl kk)

theorem r_astore19 {d : Nat} {Y : MY} {K : KQT} {pc nx : Nat} {L : List (Option Value)} {S : List Value} {h : Hp} {a0 a1 a2 a3 a4 a5 a6 a7 a8 a9 a10 a11 a12 a13 a14 a15 a16 a17 a18 a19 : Option Value} {x : Nat} (hd : Ins Y.2.1 pc (.astore 19) 2 nx) (hn : nl1 a18 = true) (hm : 19 < Y.2.2.1) (k : Aw d Y K nx (a0 :: a1 :: a2 :: a3 :: a4 :: a5 :: a6 :: a7 :: a8 :: a9 :: a10 :: a11 :: a12 :: a13 :: a14 :: a15 :: a16 :: a17 :: a18 :: some (.ref x) :: L) S h) : Aw d Y K pc (a0 :: a1 :: a2 :: a3 :: a4 :: a5 :: a6 :: a7 :: a8 :: a9 :: a10 :: a11 :: a12 :: a13 :: a14 :: a15 :: a16 :: a17 :: a18 :: a19 :: L) (.ref x :: S) h :=
  r_store1 (i := 19) (v := .ref x) (nol_s (a := a18) rfl hn) (by simp) hm k (fun E p l e R s m args below meth c cells slots Q H locs ls b1 b2 hl kk => by obtain ⟨hd, rfl⟩ := hd; exact lv_astore b1 b2 hd hl (hm) rfl kk)

theorem r_store2 {d : Nat} {Y : MY} {K : KQT} {pc nx : Nat} {L : List (Option Value)} {S : List Value} {h : Hp} {i : Nat} {v : Value} (hn : nol L i) (hi : i + 1 < L.length) (hm : i + 1 < Y.2.2.1) (k : Aw d Y K nx ((L.set i (some v)).set (i + 1) none) S h)
    (step : ∀ (E : En) (p : Program) (l : Launch) (e : Env) (R : Room) (s : State) (m : MethodId) (args : Array Value) (below : List Frame) (meth : Method) (c : Code) (cells slots : Nat) (Q : State → Prop) (H : Heap) (locs : List Loc) (ls : Array Slot), p.tables.exec = Jvm.exec → c.code = Y.2.1 → lv_has ls Y.2.2.1 (lst E L) →
      (∀ ls' : Array Slot, lv_has ls' Y.2.2.1 ((i, emb E v) :: (lst E L).filter (fun q => !(q.1 == i) && (!(q.1 == i + 1) && !(q.1 + 1 == i && q.2.category == 2)))) → W p l e R s m args below meth c H locs cells slots Q (F0 m nx ls' (S.map (emb E)))) → W p l e R s m args below meth c H locs cells slots Q (F0 m pc ls ((v :: S).map (emb E)))) : Aw d Y K pc L (v :: S) h := by
  intro E A p l e R s m args below meth c cells slots Q B hK H locs ls hS hW hl
  exact step E p l e R s m args below meth c cells slots Q H locs ls B.1 B.2.1 hl.has (fun ls' h' => k E A p l e R s m args below meth c cells slots Q B hK H locs ls' hS hW (LH.of2 hi hn h'))

theorem r_lstore0 {d : Nat} {Y : MY} {K : KQT} {pc nx : Nat} {L : List (Option Value)} {S : List Value} {h : Hp} {a0 a1 : Option Value} {x : Int64} (hd : Ins Y.2.1 pc (.lstore_n 0) 1 nx) (hm : 0 + 1 < Y.2.2.1) (k : Aw d Y K nx (some (.long x) :: none :: L) S h) : Aw d Y K pc (a0 :: a1 :: L) (.long x :: S) h :=
  r_store2 (i := 0) (v := .long x) (nol_0 _) (by simp) hm k (fun E p l e R s m args below meth c cells slots Q H locs ls b1 b2 hl kk => by obtain ⟨hd, rfl⟩ := hd; exact lv_lstore_n b1 b2 hd rfl hl (hm) rfl kk)

theorem r_lstore1 {d : Nat} {Y : MY} {K : KQT} {pc nx : Nat} {L : List (Option Value)} {S : List Value} {h : Hp} {a0 a1 a2 : Option Value} {x : Int64} (hd : Ins Y.2.1 pc (.lstore_n 1) 1 nx) (hn : nl1 a0 = true) (hm : 1 + 1 < Y.2.2.1) (k : Aw d Y K nx (a0 :: some (.long x) :: none :: L) S h) : Aw d Y K pc (a0 :: a1 :: a2 :: L) (.long x :: S) h :=
  r_store2 (i := 1) (v := .long x) (nol_s (a := a0) rfl hn) (by simp) hm k (fun E p l e R s m args below meth c cells slots Q H locs ls b1 b2 hl kk => by obtain ⟨hd, rfl⟩ := hd; exact lv_lstore_n b1 b2 hd rfl hl (hm) rfl kk)

theorem r_lstore2 {d : Nat} {Y : MY} {K : KQT} {pc nx : Nat} {L : List (Option Value)} {S : List Value} {h : Hp} {a0 a1 a2 a3 : Option Value} {x : Int64} (hd : Ins Y.2.1 pc (.lstore_n 2) 1 nx) (hn : nl1 a1 = true) (hm : 2 + 1 < Y.2.2.1) (k : Aw d Y K nx (a0 :: a1 :: some (.long x) :: none :: L) S h) : Aw d Y K pc (a0 :: a1 :: a2 :: a3 :: L) (.long x :: S) h :=
  r_store2 (i := 2) (v := .long x) (nol_s (a := a1) rfl hn) (by simp) hm k (fun E p l e R s m args below meth c cells slots Q H locs ls b1 b2 hl kk => by obtain ⟨hd, rfl⟩ := hd; exact lv_lstore_n b1 b2 hd rfl hl (hm) rfl kk)

theorem r_lstore3 {d : Nat} {Y : MY} {K : KQT} {pc nx : Nat} {L : List (Option Value)} {S : List Value} {h : Hp} {a0 a1 a2 a3 a4 : Option Value} {x : Int64} (hd : Ins Y.2.1 pc (.lstore_n 3) 1 nx) (hn : nl1 a2 = true) (hm : 3 + 1 < Y.2.2.1) (k : Aw d Y K nx (a0 :: a1 :: a2 :: some (.long x) :: none :: L) S h) : Aw d Y K pc (a0 :: a1 :: a2 :: a3 :: a4 :: L) (.long x :: S) h :=
  r_store2 (i := 3) (v := .long x) (nol_s (a := a2) rfl hn) (by simp) hm k (fun E p l e R s m args below meth c cells slots Q H locs ls b1 b2 hl kk => by obtain ⟨hd, rfl⟩ := hd; exact lv_lstore_n b1 b2 hd rfl hl (hm) rfl kk)

theorem r_lstore4 {d : Nat} {Y : MY} {K : KQT} {pc nx : Nat} {L : List (Option Value)} {S : List Value} {h : Hp} {a0 a1 a2 a3 a4 a5 : Option Value} {x : Int64} (hd : Ins Y.2.1 pc (.lstore 4) 2 nx) (hn : nl1 a3 = true) (hm : 4 + 1 < Y.2.2.1) (k : Aw d Y K nx (a0 :: a1 :: a2 :: a3 :: some (.long x) :: none :: L) S h) : Aw d Y K pc (a0 :: a1 :: a2 :: a3 :: a4 :: a5 :: L) (.long x :: S) h :=
  r_store2 (i := 4) (v := .long x) (nol_s (a := a3) rfl hn) (by simp) hm k (fun E p l e R s m args below meth c cells slots Q H locs ls b1 b2 hl kk => by obtain ⟨hd, rfl⟩ := hd; exact lv_lstore b1 b2 hd hl (hm) rfl kk)

theorem r_lstore5 {d : Nat} {Y : MY} {K : KQT} {pc nx : Nat} {L : List (Option Value)} {S : List Value} {h : Hp} {a0 a1 a2 a3 a4 a5 a6 : Option Value} {x : Int64} (hd : Ins Y.2.1 pc (.lstore 5) 2 nx) (hn : nl1 a4 = true) (hm : 5 + 1 < Y.2.2.1) (k : Aw d Y K nx (a0 :: a1 :: a2 :: a3 :: a4 :: some (.long x) :: none :: L) S h) : Aw d Y K pc (a0 :: a1 :: a2 :: a3 :: a4 :: a5 :: a6 :: L) (.long x :: S) h :=
  r_store2 (i := 5) (v := .long x) (nol_s (a := a4) rfl hn) (by simp) hm k (fun E p l e R s m args below meth c cells slots Q H locs ls b1 b2 hl kk => by obtain ⟨hd, rfl⟩ := hd; exact lv_lstore b1 b2 hd hl (hm) rfl kk)

theorem r_lstore6 {d : Nat} {Y : MY} {K : KQT} {pc nx : Nat} {L : List (Option Value)} {S : List Value} {h : Hp} {a0 a1 a2 a3 a4 a5 a6 a7 : Option Value} {x : Int64} (hd : Ins Y.2.1 pc (.lstore 6) 2 nx) (hn : nl1 a5 = true) (hm : 6 + 1 < Y.2.2.1) (k : Aw d Y K nx (a0 :: a1 :: a2 :: a3 :: a4 :: a5 :: some (.long x) :: none :: L) S h) : Aw d Y K pc (a0 :: a1 :: a2 :: a3 :: a4 :: a5 :: a6 :: a7 :: L) (.long x :: S) h :=
  r_store2 (i := 6) (v := .long x) (nol_s (a := a5) rfl hn) (by simp) hm k (fun E p l e R s m args below meth c cells slots Q H locs ls b1 b2 hl kk => by obtain ⟨hd, rfl⟩ := hd; exact lv_lstore b1 b2 hd hl (hm) rfl kk)

theorem r_lstore7 {d : Nat} {Y : MY} {K : KQT} {pc nx : Nat} {L : List (Option Value)} {S : List Value} {h : Hp} {a0 a1 a2 a3 a4 a5 a6 a7 a8 : Option Value} {x : Int64} (hd : Ins Y.2.1 pc (.lstore 7) 2 nx) (hn : nl1 a6 = true) (hm : 7 + 1 < Y.2.2.1) (k : Aw d Y K nx (a0 :: a1 :: a2 :: a3 :: a4 :: a5 :: a6 :: some (.long x) :: none :: L) S h) : Aw d Y K pc (a0 :: a1 :: a2 :: a3 :: a4 :: a5 :: a6 :: a7 :: a8 :: L) (.long x :: S) h :=
  r_store2 (i := 7) (v := .long x) (nol_s (a := a6) rfl hn) (by simp) hm k (fun E p l e R s m args below meth c cells slots Q H locs ls b1 b2 hl kk => by obtain ⟨hd, rfl⟩ := hd; exact lv_lstore b1 b2 hd hl (hm) rfl kk)

theorem r_lstore8 {d : Nat} {Y : MY} {K : KQT} {pc nx : Nat} {L : List (Option Value)} {S : List Value} {h : Hp} {a0 a1 a2 a3 a4 a5 a6 a7 a8 a9 : Option Value} {x : Int64} (hd : Ins Y.2.1 pc (.lstore 8) 2 nx) (hn : nl1 a7 = true) (hm : 8 + 1 < Y.2.2.1) (k : Aw d Y K nx (a0 :: a1 :: a2 :: a3 :: a4 :: a5 :: a6 :: a7 :: some (.long x) :: none :: L) S h) : Aw d Y K pc (a0 :: a1 :: a2 :: a3 :: a4 :: a5 :: a6 :: a7 :: a8 :: a9 :: L) (.long x :: S) h :=
  r_store2 (i := 8) (v := .long x) (nol_s (a := a7) rfl hn) (by simp) hm k (fun E p l e R s m args below meth c cells slots Q H locs ls b1 b2 hl kk => by obtain ⟨hd, rfl⟩ := hd; exact lv_lstore b1 b2 hd hl (hm) rfl kk)

theorem r_lstore9 {d : Nat} {Y : MY} {K : KQT} {pc nx : Nat} {L : List (Option Value)} {S : List Value} {h : Hp} {a0 a1 a2 a3 a4 a5 a6 a7 a8 a9 a10 : Option Value} {x : Int64} (hd : Ins Y.2.1 pc (.lstore 9) 2 nx) (hn : nl1 a8 = true) (hm : 9 + 1 < Y.2.2.1) (k : Aw d Y K nx (a0 :: a1 :: a2 :: a3 :: a4 :: a5 :: a6 :: a7 :: a8 :: some (.long x) :: none :: L) S h) : Aw d Y K pc (a0 :: a1 :: a2 :: a3 :: a4 :: a5 :: a6 :: a7 :: a8 :: a9 :: a10 :: L) (.long x :: S) h :=
  r_store2 (i := 9) (v := .long x) (nol_s (a := a8) rfl hn) (by simp) hm k (fun E p l e R s m args below meth c cells slots Q H locs ls b1 b2 hl kk => by obtain ⟨hd, rfl⟩ := hd; exact lv_lstore b1 b2 hd hl (hm) rfl kk)

theorem r_lstore10 {d : Nat} {Y : MY} {K : KQT} {pc nx : Nat} {L : List (Option Value)} {S : List Value} {h : Hp} {a0 a1 a2 a3 a4 a5 a6 a7 a8 a9 a10 a11 : Option Value} {x : Int64} (hd : Ins Y.2.1 pc (.lstore 10) 2 nx) (hn : nl1 a9 = true) (hm : 10 + 1 < Y.2.2.1) (k : Aw d Y K nx (a0 :: a1 :: a2 :: a3 :: a4 :: a5 :: a6 :: a7 :: a8 :: a9 :: some (.long x) :: none :: L) S h) : Aw d Y K pc (a0 :: a1 :: a2 :: a3 :: a4 :: a5 :: a6 :: a7 :: a8 :: a9 :: a10 :: a11 :: L) (.long x :: S) h :=
  r_store2 (i := 10) (v := .long x) (nol_s (a := a9) rfl hn) (by simp) hm k (fun E p l e R s m args below meth c cells slots Q H locs ls b1 b2 hl kk => by obtain ⟨hd, rfl⟩ := hd; exact lv_lstore b1 b2 hd hl (hm) rfl kk)

theorem r_lstore11 {d : Nat} {Y : MY} {K : KQT} {pc nx : Nat} {L : List (Option Value)} {S : List Value} {h : Hp} {a0 a1 a2 a3 a4 a5 a6 a7 a8 a9 a10 a11 a12 : Option Value} {x : Int64} (hd : Ins Y.2.1 pc (.lstore 11) 2 nx) (hn : nl1 a10 = true) (hm : 11 + 1 < Y.2.2.1) (k : Aw d Y K nx (a0 :: a1 :: a2 :: a3 :: a4 :: a5 :: a6 :: a7 :: a8 :: a9 :: a10 :: some (.long x) :: none :: L) S h) : Aw d Y K pc (a0 :: a1 :: a2 :: a3 :: a4 :: a5 :: a6 :: a7 :: a8 :: a9 :: a10 :: a11 :: a12 :: L) (.long x :: S) h :=
  r_store2 (i := 11) (v := .long x) (nol_s (a := a10) rfl hn) (by simp) hm k (fun E p l e R s m args below meth c cells slots Q H locs ls b1 b2 hl kk => by obtain ⟨hd, rfl⟩ := hd; exact lv_lstore b1 b2 hd hl (hm) rfl kk)

theorem r_lstore12 {d : Nat} {Y : MY} {K : KQT} {pc nx : Nat} {L : List (Option Value)} {S : List Value} {h : Hp} {a0 a1 a2 a3 a4 a5 a6 a7 a8 a9 a10 a11 a12 a13 : Option Value} {x : Int64} (hd : Ins Y.2.1 pc (.lstore 12) 2 nx) (hn : nl1 a11 = true) (hm : 12 + 1 < Y.2.2.1) (k : Aw d Y K nx (a0 :: a1 :: a2 :: a3 :: a4 :: a5 :: a6 :: a7 :: a8 :: a9 :: a10 :: a11 :: some (.long x) :: none :: L) S h) : Aw d Y K pc (a0 :: a1 :: a2 :: a3 :: a4 :: a5 :: a6 :: a7 :: a8 :: a9 :: a10 :: a11 :: a12 :: a13 :: L) (.long x :: S) h :=
  r_store2 (i := 12) (v := .long x) (nol_s (a := a11) rfl hn) (by simp) hm k (fun E p l e R s m args below meth c cells slots Q H locs ls b1 b2 hl kk => by obtain ⟨hd, rfl⟩ := hd; exact lv_lstore b1 b2 hd hl (hm) rfl kk)

theorem r_lstore13 {d : Nat} {Y : MY} {K : KQT} {pc nx : Nat} {L : List (Option Value)} {S : List Value} {h : Hp} {a0 a1 a2 a3 a4 a5 a6 a7 a8 a9 a10 a11 a12 a13 a14 : Option Value} {x : Int64} (hd : Ins Y.2.1 pc (.lstore 13) 2 nx) (hn : nl1 a12 = true) (hm : 13 + 1 < Y.2.2.1) (k : Aw d Y K nx (a0 :: a1 :: a2 :: a3 :: a4 :: a5 :: a6 :: a7 :: a8 :: a9 :: a10 :: a11 :: a12 :: some (.long x) :: none :: L) S h) : Aw d Y K pc (a0 :: a1 :: a2 :: a3 :: a4 :: a5 :: a6 :: a7 :: a8 :: a9 :: a10 :: a11 :: a12 :: a13 :: a14 :: L) (.long x :: S) h :=
  r_store2 (i := 13) (v := .long x) (nol_s (a := a12) rfl hn) (by simp) hm k (fun E p l e R s m args below meth c cells slots Q H locs ls b1 b2 hl kk => by obtain ⟨hd, rfl⟩ := hd; exact lv_lstore b1 b2 hd hl (hm) rfl kk)

theorem r_lstore14 {d : Nat} {Y : MY} {K : KQT} {pc nx : Nat} {L : List (Option Value)} {S : List Value} {h : Hp} {a0 a1 a2 a3 a4 a5 a6 a7 a8 a9 a10 a11 a12 a13 a14 a15 : Option Value} {x : Int64} (hd : Ins Y.2.1 pc (.lstore 14) 2 nx) (hn : nl1 a13 = true) (hm : 14 + 1 < Y.2.2.1) (k : Aw d Y K nx (a0 :: a1 :: a2 :: a3 :: a4 :: a5 :: a6 :: a7 :: a8 :: a9 :: a10 :: a11 :: a12 :: a13 :: some (.long x) :: none :: L) S h) : Aw d Y K pc (a0 :: a1 :: a2 :: a3 :: a4 :: a5 :: a6 :: a7 :: a8 :: a9 :: a10 :: a11 :: a12 :: a13 :: a14 :: a15 :: L) (.long x :: S) h :=
  r_store2 (i := 14) (v := .long x) (nol_s (a := a13) rfl hn) (by simp) hm k (fun E p l e R s m args below meth c cells slots Q H locs ls b1 b2 hl kk => by obtain ⟨hd, rfl⟩ := hd; exact lv_lstore b1 b2 hd hl (hm) rfl kk)

theorem r_lstore15 {d : Nat} {Y : MY} {K : KQT} {pc nx : Nat} {L : List (Option Value)} {S : List Value} {h : Hp} {a0 a1 a2 a3 a4 a5 a6 a7 a8 a9 a10 a11 a12 a13 a14 a15 a16 : Option Value} {x : Int64} (hd : Ins Y.2.1 pc (.lstore 15) 2 nx) (hn : nl1 a14 = true) (hm : 15 + 1 < Y.2.2.1) (k : Aw d Y K nx (a0 :: a1 :: a2 :: a3 :: a4 :: a5 :: a6 :: a7 :: a8 :: a9 :: a10 :: a11 :: a12 :: a13 :: a14 :: some (.long x) :: none :: L) S h) : Aw d Y K pc (a0 :: a1 :: a2 :: a3 :: a4 :: a5 :: a6 :: a7 :: a8 :: a9 :: a10 :: a11 :: a12 :: a13 :: a14 :: a15 :: a16 :: L) (.long x :: S) h :=
  r_store2 (i := 15) (v := .long x) (nol_s (a := a14) rfl hn) (by simp) hm k (fun E p l e R s m args below meth c cells slots Q H locs ls b1 b2 hl kk => by obtain ⟨hd, rfl⟩ := hd; exact lv_lstore b1 b2 hd hl (hm) rfl kk)

theorem r_lstore16 {d : Nat} {Y : MY} {K : KQT} {pc nx : Nat} {L : List (Option Value)} {S : List Value} {h : Hp} {a0 a1 a2 a3 a4 a5 a6 a7 a8 a9 a10 a11 a12 a13 a14 a15 a16 a17 : Option Value} {x : Int64} (hd : Ins Y.2.1 pc (.lstore 16) 2 nx) (hn : nl1 a15 = true) (hm : 16 + 1 < Y.2.2.1) (k : Aw d Y K nx (a0 :: a1 :: a2 :: a3 :: a4 :: a5 :: a6 :: a7 :: a8 :: a9 :: a10 :: a11 :: a12 :: a13 :: a14 :: a15 :: some (.long x) :: none :: L) S h) : Aw d Y K pc (a0 :: a1 :: a2 :: a3 :: a4 :: a5 :: a6 :: a7 :: a8 :: a9 :: a10 :: a11 :: a12 :: a13 :: a14 :: a15 :: a16 :: a17 :: L) (.long x :: S) h :=
  r_store2 (i := 16) (v := .long x) (nol_s (a := a15) rfl hn) (by simp) hm k (fun E p l e R s m args below meth c cells slots Q H locs ls b1 b2 hl kk => by obtain ⟨hd, rfl⟩ := hd; exact lv_lstore b1 b2 hd hl (hm) rfl kk)

theorem r_lstore17 {d : Nat} {Y : MY} {K : KQT} {pc nx : Nat} {L : List (Option Value)} {S : List Value} {h : Hp} {a0 a1 a2 a3 a4 a5 a6 a7 a8 a9 a10 a11 a12 a13 a14 a15 a16 a17 a18 : Option Value} {x : Int64} (hd : Ins Y.2.1 pc (.lstore 17) 2 nx) (hn : nl1 a16 = true) (hm : 17 + 1 < Y.2.2.1) (k : Aw d Y K nx (a0 :: a1 :: a2 :: a3 :: a4 :: a5 :: a6 :: a7 :: a8 :: a9 :: a10 :: a11 :: a12 :: a13 :: a14 :: a15 :: a16 :: some (.long x) :: none :: L) S h) : Aw d Y K pc (a0 :: a1 :: a2 :: a3 :: a4 :: a5 :: a6 :: a7 :: a8 :: a9 :: a10 :: a11 :: a12 :: a13 :: a14 :: a15 :: a16 :: a17 :: a18 :: L) (.long x :: S) h :=
  r_store2 (i := 17) (v := .long x) (nol_s (a := a16) rfl hn) (by simp) hm k (fun E p l e R s m args below meth c cells slots Q H locs ls b1 b2 hl kk => by obtain ⟨hd, rfl⟩ := hd; exact lv_lstore b1 b2 hd hl (hm) rfl kk)

theorem r_iinc {d : Nat} {Y : MY} {K : KQT} {pc nx : Nat} {L : List (Option Value)} {S : List Value} {h : Hp} {i : Nat} {n : Int} {x v : Int32} (hd : Ins Y.2.1 pc (.iinc i n) 3 nx) (hv : x + Int32.ofInt n = v) (hL : L[i]? = some (some (.int x))) (hm : i < Y.2.2.1) (k : Aw d Y K nx (L.set i (some (.int v))) S h) (hn : nol L i) : Aw d Y K pc L S h := by
  obtain ⟨hd, rfl⟩ := hd
  intro E A p l e R s m args below meth c cells slots Q B hK H locs ls hS hW hl
  have hi : i < L.length := (List.getElem?_eq_some_iff.mp hL).1
  have h1 : lv_has ls Y.2.2.1 ((i, .int x) :: lst E L) := ⟨hl.has.1, hl.has.2.1, fun q hq => by
    rcases List.mem_cons.mp hq with rfl | hq
    · exact hl.at hL
    · exact hl.has.2.2 q hq⟩
  refine lv_iinc (k := 0) B.1 B.2.1 hd h1 rfl hv hm rfl (fun ls' h' => ?_)
  refine k E A p l e R s m args below meth c cells slots Q B hK H locs ls' hS hW (LH.of1 hi hn ?_)
  simpa [emb] using h'

theorem r_iinc0 {d : Nat} {Y : MY} {K : KQT} {pc nx : Nat} {L : List (Option Value)} {S : List Value} {h : Hp} {n : Int} {x v : Int32} (hd : Ins Y.2.1 pc (.iinc 0 n) 3 nx) (hv : x + Int32.ofInt n = v) (hm : 0 < Y.2.2.1) (k : Aw d Y K nx (some (.int v) :: L) S h) : Aw d Y K pc (some (.int x) :: L) S h :=
  r_iinc (i := 0) hd hv rfl hm k (nol_0 _)

theorem r_iinc1 {d : Nat} {Y : MY} {K : KQT} {pc nx : Nat} {L : List (Option Value)} {S : List Value} {h : Hp} {a0 : Option Value} {n : Int} {x v : Int32} (hd : Ins Y.2.1 pc (.iinc 1 n) 3 nx) (hv : x + Int32.ofInt n = v) (hn : nl1 a0 = true) (hm : 1 < Y.2.2.1) (k : Aw d Y K nx (a0 :: some (.int v) :: L) S h) : Aw d Y K pc (a0 :: some (.int x) :: L) S h :=
  r_iinc (i := 1) hd hv rfl hm k (nol_s (a := a0) rfl hn)

theorem r_iinc2 {d : Nat} {Y : MY} {K : KQT} {pc nx : Nat} {L : List (Option Value)} {S : List Value} {h : Hp} {a0 a1 : Option Value} {n : Int} {x v : Int32} (hd : Ins Y.2.1 pc (.iinc 2 n) 3 nx) (hv : x + Int32.ofInt n = v) (hn : nl1 a1 = true) (hm : 2 < Y.2.2.1) (k : Aw d Y K nx (a0 :: a1 :: some (.int v) :: L) S h) : Aw d Y K pc (a0 :: a1 :: some (.int x) :: L) S h :=
  r_iinc (i := 2) hd hv rfl hm k (nol_s (a := a1) rfl hn)

theorem r_iinc3 {d : Nat} {Y : MY} {K : KQT} {pc nx : Nat} {L : List (Option Value)} {S : List Value} {h : Hp} {a0 a1 a2 : Option Value} {n : Int} {x v : Int32} (hd : Ins Y.2.1 pc (.iinc 3 n) 3 nx) (hv : x + Int32.ofInt n = v) (hn : nl1 a2 = true) (hm : 3 < Y.2.2.1) (k : Aw d Y K nx (a0 :: a1 :: a2 :: some (.int v) :: L) S h) : Aw d Y K pc (a0 :: a1 :: a2 :: some (.int x) :: L) S h :=
  r_iinc (i := 3) hd hv rfl hm k (nol_s (a := a2) rfl hn)

theorem r_iinc4 {d : Nat} {Y : MY} {K : KQT} {pc nx : Nat} {L : List (Option Value)} {S : List Value} {h : Hp} {a0 a1 a2 a3 : Option Value} {n : Int} {x v : Int32} (hd : Ins Y.2.1 pc (.iinc 4 n) 3 nx) (hv : x + Int32.ofInt n = v) (hn : nl1 a3 = true) (hm : 4 < Y.2.2.1) (k : Aw d Y K nx (a0 :: a1 :: a2 :: a3 :: some (.int v) :: L) S h) : Aw d Y K pc (a0 :: a1 :: a2 :: a3 :: some (.int x) :: L) S h :=
  r_iinc (i := 4) hd hv rfl hm k (nol_s (a := a3) rfl hn)

theorem r_iinc5 {d : Nat} {Y : MY} {K : KQT} {pc nx : Nat} {L : List (Option Value)} {S : List Value} {h : Hp} {a0 a1 a2 a3 a4 : Option Value} {n : Int} {x v : Int32} (hd : Ins Y.2.1 pc (.iinc 5 n) 3 nx) (hv : x + Int32.ofInt n = v) (hn : nl1 a4 = true) (hm : 5 < Y.2.2.1) (k : Aw d Y K nx (a0 :: a1 :: a2 :: a3 :: a4 :: some (.int v) :: L) S h) : Aw d Y K pc (a0 :: a1 :: a2 :: a3 :: a4 :: some (.int x) :: L) S h :=
  r_iinc (i := 5) hd hv rfl hm k (nol_s (a := a4) rfl hn)

theorem r_iinc6 {d : Nat} {Y : MY} {K : KQT} {pc nx : Nat} {L : List (Option Value)} {S : List Value} {h : Hp} {a0 a1 a2 a3 a4 a5 : Option Value} {n : Int} {x v : Int32} (hd : Ins Y.2.1 pc (.iinc 6 n) 3 nx) (hv : x + Int32.ofInt n = v) (hn : nl1 a5 = true) (hm : 6 < Y.2.2.1) (k : Aw d Y K nx (a0 :: a1 :: a2 :: a3 :: a4 :: a5 :: some (.int v) :: L) S h) : Aw d Y K pc (a0 :: a1 :: a2 :: a3 :: a4 :: a5 :: some (.int x) :: L) S h :=
  r_iinc (i := 6) hd hv rfl hm k (nol_s (a := a5) rfl hn)

theorem r_iinc7 {d : Nat} {Y : MY} {K : KQT} {pc nx : Nat} {L : List (Option Value)} {S : List Value} {h : Hp} {a0 a1 a2 a3 a4 a5 a6 : Option Value} {n : Int} {x v : Int32} (hd : Ins Y.2.1 pc (.iinc 7 n) 3 nx) (hv : x + Int32.ofInt n = v) (hn : nl1 a6 = true) (hm : 7 < Y.2.2.1) (k : Aw d Y K nx (a0 :: a1 :: a2 :: a3 :: a4 :: a5 :: a6 :: some (.int v) :: L) S h) : Aw d Y K pc (a0 :: a1 :: a2 :: a3 :: a4 :: a5 :: a6 :: some (.int x) :: L) S h :=
  r_iinc (i := 7) hd hv rfl hm k (nol_s (a := a6) rfl hn)

theorem r_iinc8 {d : Nat} {Y : MY} {K : KQT} {pc nx : Nat} {L : List (Option Value)} {S : List Value} {h : Hp} {a0 a1 a2 a3 a4 a5 a6 a7 : Option Value} {n : Int} {x v : Int32} (hd : Ins Y.2.1 pc (.iinc 8 n) 3 nx) (hv : x + Int32.ofInt n = v) (hn : nl1 a7 = true) (hm : 8 < Y.2.2.1) (k : Aw d Y K nx (a0 :: a1 :: a2 :: a3 :: a4 :: a5 :: a6 :: a7 :: some (.int v) :: L) S h) : Aw d Y K pc (a0 :: a1 :: a2 :: a3 :: a4 :: a5 :: a6 :: a7 :: some (.int x) :: L) S h :=
  r_iinc (i := 8) hd hv rfl hm k (nol_s (a := a7) rfl hn)

theorem r_iinc9 {d : Nat} {Y : MY} {K : KQT} {pc nx : Nat} {L : List (Option Value)} {S : List Value} {h : Hp} {a0 a1 a2 a3 a4 a5 a6 a7 a8 : Option Value} {n : Int} {x v : Int32} (hd : Ins Y.2.1 pc (.iinc 9 n) 3 nx) (hv : x + Int32.ofInt n = v) (hn : nl1 a8 = true) (hm : 9 < Y.2.2.1) (k : Aw d Y K nx (a0 :: a1 :: a2 :: a3 :: a4 :: a5 :: a6 :: a7 :: a8 :: some (.int v) :: L) S h) : Aw d Y K pc (a0 :: a1 :: a2 :: a3 :: a4 :: a5 :: a6 :: a7 :: a8 :: some (.int x) :: L) S h :=
  r_iinc (i := 9) hd hv rfl hm k (nol_s (a := a8) rfl hn)

theorem r_iinc10 {d : Nat} {Y : MY} {K : KQT} {pc nx : Nat} {L : List (Option Value)} {S : List Value} {h : Hp} {a0 a1 a2 a3 a4 a5 a6 a7 a8 a9 : Option Value} {n : Int} {x v : Int32} (hd : Ins Y.2.1 pc (.iinc 10 n) 3 nx) (hv : x + Int32.ofInt n = v) (hn : nl1 a9 = true) (hm : 10 < Y.2.2.1) (k : Aw d Y K nx (a0 :: a1 :: a2 :: a3 :: a4 :: a5 :: a6 :: a7 :: a8 :: a9 :: some (.int v) :: L) S h) : Aw d Y K pc (a0 :: a1 :: a2 :: a3 :: a4 :: a5 :: a6 :: a7 :: a8 :: a9 :: some (.int x) :: L) S h :=
  r_iinc (i := 10) hd hv rfl hm k (nol_s (a := a9) rfl hn)

theorem r_iinc11 {d : Nat} {Y : MY} {K : KQT} {pc nx : Nat} {L : List (Option Value)} {S : List Value} {h : Hp} {a0 a1 a2 a3 a4 a5 a6 a7 a8 a9 a10 : Option Value} {n : Int} {x v : Int32} (hd : Ins Y.2.1 pc (.iinc 11 n) 3 nx) (hv : x + Int32.ofInt n = v) (hn : nl1 a10 = true) (hm : 11 < Y.2.2.1) (k : Aw d Y K nx (a0 :: a1 :: a2 :: a3 :: a4 :: a5 :: a6 :: a7 :: a8 :: a9 :: a10 :: some (.int v) :: L) S h) : Aw d Y K pc (a0 :: a1 :: a2 :: a3 :: a4 :: a5 :: a6 :: a7 :: a8 :: a9 :: a10 :: some (.int x) :: L) S h :=
  r_iinc (i := 11) hd hv rfl hm k (nol_s (a := a10) rfl hn)

theorem r_iinc12 {d : Nat} {Y : MY} {K : KQT} {pc nx : Nat} {L : List (Option Value)} {S : List Value} {h : Hp} {a0 a1 a2 a3 a4 a5 a6 a7 a8 a9 a10 a11 : Option Value} {n : Int} {x v : Int32} (hd : Ins Y.2.1 pc (.iinc 12 n) 3 nx) (hv : x + Int32.ofInt n = v) (hn : nl1 a11 = true) (hm : 12 < Y.2.2.1) (k : Aw d Y K nx (a0 :: a1 :: a2 :: a3 :: a4 :: a5 :: a6 :: a7 :: a8 :: a9 :: a10 :: a11 :: some (.int v) :: L) S h) : Aw d Y K pc (a0 :: a1 :: a2 :: a3 :: a4 :: a5 :: a6 :: a7 :: a8 :: a9 :: a10 :: a11 :: some (.int x) :: L) S h :=
  r_iinc (i := 12) hd hv rfl hm k (nol_s (a := a11) rfl hn)

theorem r_iinc13 {d : Nat} {Y : MY} {K : KQT} {pc nx : Nat} {L : List (Option Value)} {S : List Value} {h : Hp} {a0 a1 a2 a3 a4 a5 a6 a7 a8 a9 a10 a11 a12 : Option Value} {n : Int} {x v : Int32} (hd : Ins Y.2.1 pc (.iinc 13 n) 3 nx) (hv : x + Int32.ofInt n = v) (hn : nl1 a12 = true) (hm : 13 < Y.2.2.1) (k : Aw d Y K nx (a0 :: a1 :: a2 :: a3 :: a4 :: a5 :: a6 :: a7 :: a8 :: a9 :: a10 :: a11 :: a12 :: some (.int v) :: L) S h) : Aw d Y K pc (a0 :: a1 :: a2 :: a3 :: a4 :: a5 :: a6 :: a7 :: a8 :: a9 :: a10 :: a11 :: a12 :: some (.int x) :: L) S h :=
  r_iinc (i := 13) hd hv rfl hm k (nol_s (a := a12) rfl hn)

theorem r_iinc14 {d : Nat} {Y : MY} {K : KQT} {pc nx : Nat} {L : List (Option Value)} {S : List Value} {h : Hp} {a0 a1 a2 a3 a4 a5 a6 a7 a8 a9 a10 a11 a12 a13 : Option Value} {n : Int} {x v : Int32} (hd : Ins Y.2.1 pc (.iinc 14 n) 3 nx) (hv : x + Int32.ofInt n = v) (hn : nl1 a13 = true) (hm : 14 < Y.2.2.1) (k : Aw d Y K nx (a0 :: a1 :: a2 :: a3 :: a4 :: a5 :: a6 :: a7 :: a8 :: a9 :: a10 :: a11 :: a12 :: a13 :: some (.int v) :: L) S h) : Aw d Y K pc (a0 :: a1 :: a2 :: a3 :: a4 :: a5 :: a6 :: a7 :: a8 :: a9 :: a10 :: a11 :: a12 :: a13 :: some (.int x) :: L) S h :=
  r_iinc (i := 14) hd hv rfl hm k (nol_s (a := a13) rfl hn)

theorem r_iinc15 {d : Nat} {Y : MY} {K : KQT} {pc nx : Nat} {L : List (Option Value)} {S : List Value} {h : Hp} {a0 a1 a2 a3 a4 a5 a6 a7 a8 a9 a10 a11 a12 a13 a14 : Option Value} {n : Int} {x v : Int32} (hd : Ins Y.2.1 pc (.iinc 15 n) 3 nx) (hv : x + Int32.ofInt n = v) (hn : nl1 a14 = true) (hm : 15 < Y.2.2.1) (k : Aw d Y K nx (a0 :: a1 :: a2 :: a3 :: a4 :: a5 :: a6 :: a7 :: a8 :: a9 :: a10 :: a11 :: a12 :: a13 :: a14 :: some (.int v) :: L) S h) : Aw d Y K pc (a0 :: a1 :: a2 :: a3 :: a4 :: a5 :: a6 :: a7 :: a8 :: a9 :: a10 :: a11 :: a12 :: a13 :: a14 :: some (.int x) :: L) S h :=
  r_iinc (i := 15) hd hv rfl hm k (nol_s (a := a14) rfl hn)

theorem r_iinc16 {d : Nat} {Y : MY} {K : KQT} {pc nx : Nat} {L : List (Option Value)} {S : List Value} {h : Hp} {a0 a1 a2 a3 a4 a5 a6 a7 a8 a9 a10 a11 a12 a13 a14 a15 : Option Value} {n : Int} {x v : Int32} (hd : Ins Y.2.1 pc (.iinc 16 n) 3 nx) (hv : x + Int32.ofInt n = v) (hn : nl1 a15 = true) (hm : 16 < Y.2.2.1) (k : Aw d Y K nx (a0 :: a1 :: a2 :: a3 :: a4 :: a5 :: a6 :: a7 :: a8 :: a9 :: a10 :: a11 :: a12 :: a13 :: a14 :: a15 :: some (.int v) :: L) S h) : Aw d Y K pc (a0 :: a1 :: a2 :: a3 :: a4 :: a5 :: a6 :: a7 :: a8 :: a9 :: a10 :: a11 :: a12 :: a13 :: a14 :: a15 :: some (.int x) :: L) S h :=
  r_iinc (i := 16) hd hv rfl hm k (nol_s (a := a15) rfl hn)

theorem r_iinc17 {d : Nat} {Y : MY} {K : KQT} {pc nx : Nat} {L : List (Option Value)} {S : List Value} {h : Hp} {a0 a1 a2 a3 a4 a5 a6 a7 a8 a9 a10 a11 a12 a13 a14 a15 a16 : Option Value} {n : Int} {x v : Int32} (hd : Ins Y.2.1 pc (.iinc 17 n) 3 nx) (hv : x + Int32.ofInt n = v) (hn : nl1 a16 = true) (hm : 17 < Y.2.2.1) (k : Aw d Y K nx (a0 :: a1 :: a2 :: a3 :: a4 :: a5 :: a6 :: a7 :: a8 :: a9 :: a10 :: a11 :: a12 :: a13 :: a14 :: a15 :: a16 :: some (.int v) :: L) S h) : Aw d Y K pc (a0 :: a1 :: a2 :: a3 :: a4 :: a5 :: a6 :: a7 :: a8 :: a9 :: a10 :: a11 :: a12 :: a13 :: a14 :: a15 :: a16 :: some (.int x) :: L) S h :=
  r_iinc (i := 17) hd hv rfl hm k (nol_s (a := a16) rfl hn)

theorem r_iinc18 {d : Nat} {Y : MY} {K : KQT} {pc nx : Nat} {L : List (Option Value)} {S : List Value} {h : Hp} {a0 a1 a2 a3 a4 a5 a6 a7 a8 a9 a10 a11 a12 a13 a14 a15 a16 a17 : Option Value} {n : Int} {x v : Int32} (hd : Ins Y.2.1 pc (.iinc 18 n) 3 nx) (hv : x + Int32.ofInt n = v) (hn : nl1 a17 = true) (hm : 18 < Y.2.2.1) (k : Aw d Y K nx (a0 :: a1 :: a2 :: a3 :: a4 :: a5 :: a6 :: a7 :: a8 :: a9 :: a10 :: a11 :: a12 :: a13 :: a14 :: a15 :: a16 :: a17 :: some (.int v) :: L) S h) : Aw d Y K pc (a0 :: a1 :: a2 :: a3 :: a4 :: a5 :: a6 :: a7 :: a8 :: a9 :: a10 :: a11 :: a12 :: a13 :: a14 :: a15 :: a16 :: a17 :: some (.int x) :: L) S h :=
  r_iinc (i := 18) hd hv rfl hm k (nol_s (a := a17) rfl hn)

theorem r_iinc19 {d : Nat} {Y : MY} {K : KQT} {pc nx : Nat} {L : List (Option Value)} {S : List Value} {h : Hp} {a0 a1 a2 a3 a4 a5 a6 a7 a8 a9 a10 a11 a12 a13 a14 a15 a16 a17 a18 : Option Value} {n : Int} {x v : Int32} (hd : Ins Y.2.1 pc (.iinc 19 n) 3 nx) (hv : x + Int32.ofInt n = v) (hn : nl1 a18 = true) (hm : 19 < Y.2.2.1) (k : Aw d Y K nx (a0 :: a1 :: a2 :: a3 :: a4 :: a5 :: a6 :: a7 :: a8 :: a9 :: a10 :: a11 :: a12 :: a13 :: a14 :: a15 :: a16 :: a17 :: a18 :: some (.int v) :: L) S h) : Aw d Y K pc (a0 :: a1 :: a2 :: a3 :: a4 :: a5 :: a6 :: a7 :: a8 :: a9 :: a10 :: a11 :: a12 :: a13 :: a14 :: a15 :: a16 :: a17 :: a18 :: some (.int x) :: L) S h :=
  r_iinc (i := 19) hd hv rfl hm k (nol_s (a := a18) rfl hn)

theorem r_ifeq {d : Nat} {Y : MY} {K : KQT} {pc nx : Nat} {L : List (Option Value)} {S : List Value} {h : Hp} {x : Int32} {off : Int} {tgt : Nat} (hd : Ins Y.2.1 pc (.ifCond .eq off) 3 nx) (ht : (pc : Int) + off = (tgt : Int)) (kt : x = 0 → Aw d Y K tgt L S h) (kf : ¬ x = 0 → Aw d Y K nx L S h) : Aw d Y K pc L (.int x :: S) h := by
  obtain ⟨hd, rfl⟩ := hd
  intro E A p l e R s m args below meth c cells slots Q B hK H locs ls hS hW hl
  exact lv_if_eq B.1 B.2.1 hd ht (fun c1 => kt c1 E A p l e R s m args below meth c cells slots Q B hK H locs ls hS hW hl) (fun c1 => kf c1 E A p l e R s m args below meth c cells slots Q B hK H locs ls hS hW hl)

theorem r_icmpeq {d : Nat} {Y : MY} {K : KQT} {pc nx : Nat} {L : List (Option Value)} {S : List Value} {h : Hp} {x y : Int32} {off : Int} {tgt : Nat} (hd : Ins Y.2.1 pc (.if_icmp .eq off) 3 nx) (ht : (pc : Int) + off = (tgt : Int)) (kt : x = y → Aw d Y K tgt L S h) (kf : ¬ x = y → Aw d Y K nx L S h) : Aw d Y K pc L (.int y :: .int x :: S) h := by
  obtain ⟨hd, rfl⟩ := hd
  intro E A p l e R s m args below meth c cells slots Q B hK H locs ls hS hW hl
  exact lv_icmp_eq B.1 B.2.1 hd ht (fun c1 => kt c1 E A p l e R s m args below meth c cells slots Q B hK H locs ls hS hW hl) (fun c1 => kf c1 E A p l e R s m args below meth c cells slots Q B hK H locs ls hS hW hl)

theorem r_leq {d : Nat} {Y : MY} {K : KQT} {pc nx : Nat} {L : List (Option Value)} {S : List Value} {h : Hp} {x y : Int64} {off : Int} {tgt nx2 : Nat} (hd : Ins Y.2.1 pc (.lcmp) 1 nx) (hd2 : Ins Y.2.1 nx (.ifCond .eq off) 3 nx2) (ht : (nx : Int) + off = (tgt : Int)) (kt : x = y → Aw d Y K tgt L S h) (kf : ¬ x = y → Aw d Y K nx2 L S h) : Aw d Y K pc L (.long y :: .long x :: S) h := by
  have k : Aw d Y K nx L (.int (lg_cmp x y) :: S) h := r_ifeq hd2 ht (fun c1 => kt ((lg_cmp_eq x y).mp c1)) (fun c1 => kf (fun q => c1 ((lg_cmp_eq x y).mpr q)))
  obtain ⟨hd, rfl⟩ := hd
  intro E A p l e R s m args below meth c cells slots Q B hK H locs ls hS hW hl
  exact W.lcmp B.1 B.2.1 hd (k E A p l e R s m args below meth c cells slots Q B hK H locs ls hS hW hl)

theorem r_ifne {d : Nat} {Y : MY} {K : KQT} {pc nx : Nat} {L : List (Option Value)} {S : List Value} {h : Hp} {x : Int32} {off : Int} {tgt : Nat} (hd : Ins Y.2.1 pc (.ifCond .ne off) 3 nx) (ht : (pc : Int) + off = (tgt : Int)) (kt : ¬ x = 0 → Aw d Y K tgt L S h) (kf : x = 0 → Aw d Y K nx L S h) : Aw d Y K pc L (.int x :: S) h := by
  obtain ⟨hd, rfl⟩ := hd
  intro E A p l e R s m args below meth c cells slots Q B hK H locs ls hS hW hl
  exact lv_if_ne B.1 B.2.1 hd ht (fun c1 => kt c1 E A p l e R s m args below meth c cells slots Q B hK H locs ls hS hW hl) (fun c1 => kf c1 E A p l e R s m args below meth c cells slots Q B hK H locs ls hS hW hl)

theorem r_icmpne {d : Nat} {Y : MY} {K : KQT} {pc nx : Nat} {L : List (Option Value)} {S : List Value} {h : Hp} {x y : Int32} {off : Int} {tgt : Nat} (hd : Ins Y.2.1 pc (.if_icmp .ne off) 3 nx) (ht : (pc : Int) + off = (tgt : Int)) (kt : ¬ x = y → Aw d Y K tgt L S h) (kf : x = y → Aw d Y K nx L S h) : Aw d Y K pc L (.int y :: .int x :: S) h := by
  obtain ⟨hd, rfl⟩ := hd
  intro E A p l e R s m args below meth c cells slots Q B hK H locs ls hS hW hl
  exact lv_icmp_ne B.1 B.2.1 hd ht (fun c1 => kt c1 E A p l e R s m args below meth c cells slots Q B hK H locs ls hS hW hl) (fun c1 => kf c1 E A p l e R s m args below meth c cells slots Q B hK H locs ls hS hW hl)

theorem r_lne {d : Nat} {Y : MY} {K : KQT} {pc nx : Nat} {L : List (Option Value)} {S : List Value} {h : Hp} {x y : Int64} {off : Int} {tgt nx2 : Nat} (hd : Ins Y.2.1 pc (.lcmp) 1 nx) (hd2 : Ins Y.2.1 nx (.ifCond .ne off) 3 nx2) (ht : (nx : Int) + off = (tgt : Int)) (kt : ¬ x = y → Aw d Y K tgt L S h) (kf : x = y → Aw d Y K nx2 L S h) : Aw d Y K pc L (.long y :: .long x :: S) h := by
  have k : Aw d Y K nx L (.int (lg_cmp x y) :: S) h := r_ifne hd2 ht (fun c1 => kt ((not_congr (lg_cmp_eq x y)).mp c1)) (fun c1 => kf ((lg_cmp_eq x y).mp c1))
  obtain ⟨hd, rfl⟩ := hd
  intro E A p l e R s m args below meth c cells slots Q B hK H locs ls hS hW hl
  exact W.lcmp B.1 B.2.1 hd (k E A p l e R s m args below meth c cells slots Q B hK H locs ls hS hW hl)

theorem r_iflt {d : Nat} {Y : MY} {K : KQT} {pc nx : Nat} {L : List (Option Value)} {S : List Value} {h : Hp} {x : Int32} {off : Int} {tgt : Nat} (hd : Ins Y.2.1 pc (.ifCond .lt off) 3 nx) (ht : (pc : Int) + off = (tgt : Int)) (kt : x < 0 → Aw d Y K tgt L S h) (kf : ¬ x < 0 → Aw d Y K nx L S h) : Aw d Y K pc L (.int x :: S) h := by
  obtain ⟨hd, rfl⟩ := hd
  intro E A p l e R s m args below meth c cells slots Q B hK H locs ls hS hW hl
  exact lv_if_lt B.1 B.2.1 hd ht (fun c1 => kt c1 E A p l e R s m args below meth c cells slots Q B hK H locs ls hS hW hl) (fun c1 => kf c1 E A p l e R s m args below meth c cells slots Q B hK H locs ls hS hW hl)

theorem r_icmplt {d : Nat} {Y : MY} {K : KQT} {pc nx : Nat} {L : List (Option Value)} {S : List Value} {h : Hp} {x y : Int32} {off : Int} {tgt : Nat} (hd : Ins Y.2.1 pc (.if_icmp .lt off) 3 nx) (ht : (pc : Int) + off = (tgt : Int)) (kt : x < y → Aw d Y K tgt L S h) (kf : ¬ x < y → Aw d Y K nx L S h) : Aw d Y K pc L (.int y :: .int x :: S) h := by
  obtain ⟨hd, rfl⟩ := hd
  intro E A p l e R s m args below meth c cells slots Q B hK H locs ls hS hW hl
  exact lv_icmp_lt B.1 B.2.1 hd ht (fun c1 => kt c1 E A p l e R s m args below meth c cells slots Q B hK H locs ls hS hW hl) (fun c1 => kf c1 E A p l e R s m args below meth c cells slots Q B hK H locs ls hS hW hl)

theorem r_llt {d : Nat} {Y : MY} {K : KQT} {pc nx : Nat} {L : List (Option Value)} {S : List Value} {h : Hp} {x y : Int64} {off : Int} {tgt nx2 : Nat} (hd : Ins Y.2.1 pc (.lcmp) 1 nx) (hd2 : Ins Y.2.1 nx (.ifCond .lt off) 3 nx2) (ht : (nx : Int) + off = (tgt : Int)) (kt : x < y → Aw d Y K tgt L S h) (kf : ¬ x < y → Aw d Y K nx2 L S h) : Aw d Y K pc L (.long y :: .long x :: S) h := by
  have k : Aw d Y K nx L (.int (lg_cmp x y) :: S) h := r_iflt hd2 ht (fun c1 => kt ((lg_cmp_lt x y).mp c1)) (fun c1 => kf (fun q => c1 ((lg_cmp_lt x y).mpr q)))
  obtain ⟨hd, rfl⟩ := hd
  intro E A p l e R s m args below meth c cells slots Q B hK H locs ls hS hW hl
  exact W.lcmp B.1 B.2.1 hd (k E A p l e R s m args below meth c cells slots Q B hK H locs ls hS hW hl)

theorem r_ifge {d : Nat} {Y : MY} {K : KQT} {pc nx : Nat} {L : List (Option Value)} {S : List Value} {h : Hp} {x : Int32} {off : Int} {tgt : Nat} (hd : Ins Y.2.1 pc (.ifCond .ge off) 3 nx) (ht : (pc : Int) + off = (tgt : Int)) (kt : 0 ≤ x → Aw d Y K tgt L S h) (kf : ¬ 0 ≤ x → Aw d Y K nx L S h) : Aw d Y K pc L (.int x :: S) h := by
  obtain ⟨hd, rfl⟩ := hd
  intro E A p l e R s m args below meth c cells slots Q B hK H locs ls hS hW hl
  exact lv_if_ge B.1 B.2.1 hd ht (fun c1 => kt c1 E A p l e R s m args below meth c cells slots Q B hK H locs ls hS hW hl) (fun c1 => kf c1 E A p l e R s m args below meth c cells slots Q B hK H locs ls hS hW hl)

theorem r_icmpge {d : Nat} {Y : MY} {K : KQT} {pc nx : Nat} {L : List (Option Value)} {S : List Value} {h : Hp} {x y : Int32} {off : Int} {tgt : Nat} (hd : Ins Y.2.1 pc (.if_icmp .ge off) 3 nx) (ht : (pc : Int) + off = (tgt : Int)) (kt : y ≤ x → Aw d Y K tgt L S h) (kf : ¬ y ≤ x → Aw d Y K nx L S h) : Aw d Y K pc L (.int y :: .int x :: S) h := by
  obtain ⟨hd, rfl⟩ := hd
  intro E A p l e R s m args below meth c cells slots Q B hK H locs ls hS hW hl
  exact lv_icmp_ge B.1 B.2.1 hd ht (fun c1 => kt c1 E A p l e R s m args below meth c cells slots Q B hK H locs ls hS hW hl) (fun c1 => kf c1 E A p l e R s m args below meth c cells slots Q B hK H locs ls hS hW hl)

theorem r_lge {d : Nat} {Y : MY} {K : KQT} {pc nx : Nat} {L : List (Option Value)} {S : List Value} {h : Hp} {x y : Int64} {off : Int} {tgt nx2 : Nat} (hd : Ins Y.2.1 pc (.lcmp) 1 nx) (hd2 : Ins Y.2.1 nx (.ifCond .ge off) 3 nx2) (ht : (nx : Int) + off = (tgt : Int)) (kt : y ≤ x → Aw d Y K tgt L S h) (kf : ¬ y ≤ x → Aw d Y K nx2 L S h) : Aw d Y K pc L (.long y :: .long x :: S) h := by
  have k : Aw d Y K nx L (.int (lg_cmp x y) :: S) h := r_ifge hd2 ht (fun c1 => kt ((lg_cmp_ge x y).mp c1)) (fun c1 => kf (fun q => c1 ((lg_cmp_ge x y).mpr q)))
  obtain ⟨hd, rfl⟩ := hd
  intro E A p l e R s m args below meth c cells slots Q B hK H locs ls hS hW hl
  exact W.lcmp B.1 B.2.1 hd (k E A p l e R s m args below meth c cells slots Q B hK H locs ls hS hW hl)

theorem r_ifgt {d : Nat} {Y : MY} {K : KQT} {pc nx : Nat} {L : List (Option Value)} {S : List Value} {h : Hp} {x : Int32} {off : Int} {tgt : Nat} (hd : Ins Y.2.1 pc (.ifCond .gt off) 3 nx) (ht : (pc : Int) + off = (tgt : Int)) (kt : 0 < x → Aw d Y K tgt L S h) (kf : ¬ 0 < x → Aw d Y K nx L S h) : Aw d Y K pc L (.int x :: S) h := by
  obtain ⟨hd, rfl⟩ := hd
  intro E A p l e R s m args below meth c cells slots Q B hK H locs ls hS hW hl
  exact lv_if_gt B.1 B.2.1 hd ht (fun c1 => kt c1 E A p l e R s m args below meth c cells slots Q B hK H locs ls hS hW hl) (fun c1 => kf c1 E A p l e R s m args below meth c cells slots Q B hK H locs ls hS hW hl)

theorem r_icmpgt {d : Nat} {Y : MY} {K : KQT} {pc nx : Nat} {L : List (Option Value)} {S : List Value} {h : Hp} {x y : Int32} {off : Int} {tgt : Nat} (hd : Ins Y.2.1 pc (.if_icmp .gt off) 3 nx) (ht : (pc : Int) + off = (tgt : Int)) (kt : y < x → Aw d Y K tgt L S h) (kf : ¬ y < x → Aw d Y K nx L S h) : Aw d Y K pc L (.int y :: .int x :: S) h := by
  obtain ⟨hd, rfl⟩ := hd
  intro E A p l e R s m args below meth c cells slots Q B hK H locs ls hS hW hl
  exact lv_icmp_gt B.1 B.2.1 hd ht (fun c1 => kt c1 E A p l e R s m args below meth c cells slots Q B hK H locs ls hS hW hl) (fun c1 => kf c1 E A p l e R s m args below meth c cells slots Q B hK H locs ls hS hW hl)

theorem r_lgt {d : Nat} {Y : MY} {K : KQT} {pc nx : Nat} {L : List (Option Value)} {S : List Value} {h : Hp} {x y : Int64} {off : Int} {tgt nx2 : Nat} (hd : Ins Y.2.1 pc (.lcmp) 1 nx) (hd2 : Ins Y.2.1 nx (.ifCond .gt off) 3 nx2) (ht : (nx : Int) + off = (tgt : Int)) (kt : y < x → Aw d Y K tgt L S h) (kf : ¬ y < x → Aw d Y K nx2 L S h) : Aw d Y K pc L (.long y :: .long x :: S) h := by
  have k : Aw d Y K nx L (.int (lg_cmp x y) :: S) h := r_ifgt hd2 ht (fun c1 => kt ((lg_cmp_gt x y).mp c1)) (fun c1 => kf (fun q => c1 ((lg_cmp_gt x y).mpr q)))
  obtain ⟨hd, rfl⟩ := hd
  intro E A p l e R s m args below meth c cells slots Q B hK H locs ls hS hW hl
  exact W.lcmp B.1 B.2.1 hd (k E A p l e R s m args below meth c cells slots Q B hK H locs ls hS hW hl)

theorem r_ifle {d : Nat} {Y : MY} {K : KQT} {pc nx : Nat} {L : List (Option Value)} {S : List Value} {h : Hp} {x : Int32} {off : Int} {tgt : Nat} (hd : Ins Y.2.1 pc (.ifCond .le off) 3 nx) (ht : (pc : Int) + off = (tgt : Int)) (kt : x ≤ 0 → Aw d Y K tgt L S h) (kf : ¬ x ≤ 0 → Aw d Y K nx L S h) : Aw d Y K pc L (.int x :: S) h := by
  obtain ⟨hd, rfl⟩ := hd
  intro E A p l e R s m args below meth c cells slots Q B hK H locs ls hS hW hl
  exact lv_if_le B.1 B.2.1 hd ht (fun c1 => kt c1 E A p l e R s m args below meth c cells slots Q B hK H locs ls hS hW hl) (fun c1 => kf c1 E A p l e R s m args below meth c cells slots Q B hK H locs ls hS hW hl)

theorem r_icmple {d : Nat} {Y : MY} {K : KQT} {pc nx : Nat} {L : List (Option Value)} {S : List Value} {h : Hp} {x y : Int32} {off : Int} {tgt : Nat} (hd : Ins Y.2.1 pc (.if_icmp .le off) 3 nx) (ht : (pc : Int) + off = (tgt : Int)) (kt : x ≤ y → Aw d Y K tgt L S h) (kf : ¬ x ≤ y → Aw d Y K nx L S h) : Aw d Y K pc L (.int y :: .int x :: S) h := by
  obtain ⟨hd, rfl⟩ := hd
  intro E A p l e R s m args below meth c cells slots Q B hK H locs ls hS hW hl
  exact lv_icmp_le B.1 B.2.1 hd ht (fun c1 => kt c1 E A p l e R s m args below meth c cells slots Q B hK H locs ls hS hW hl) (fun c1 => kf c1 E A p l e R s m args below meth c cells slots Q B hK H locs ls hS hW hl)

theorem r_lle {d : Nat} {Y : MY} {K : KQT} {pc nx : Nat} {L : List (Option Value)} {S : List Value} {h : Hp} {x y : Int64} {off : Int} {tgt nx2 : Nat} (hd : Ins Y.2.1 pc (.lcmp) 1 nx) (hd2 : Ins Y.2.1 nx (.ifCond .le off) 3 nx2) (ht : (nx : Int) + off = (tgt : Int)) (kt : x ≤ y → Aw d Y K tgt L S h) (kf : ¬ x ≤ y → Aw d Y K nx2 L S h) : Aw d Y K pc L (.long y :: .long x :: S) h := by
  have k : Aw d Y K nx L (.int (lg_cmp x y) :: S) h := r_ifle hd2 ht (fun c1 => kt ((lg_cmp_le x y).mp c1)) (fun c1 => kf (fun q => c1 ((lg_cmp_le x y).mpr q)))
  obtain ⟨hd, rfl⟩ := hd
  intro E A p l e R s m args below meth c cells slots Q B hK H locs ls hS hW hl
  exact W.lcmp B.1 B.2.1 hd (k E A p l e R s m args below meth c cells slots Q B hK H locs ls hS hW hl)

theorem r_goto {d : Nat} {Y : MY} {K : KQT} {pc nx : Nat} {L : List (Option Value)} {S : List Value} {h : Hp} {off : Int} {tgt : Nat} (hd : Ins Y.2.1 pc (.goto off) 3 nx) (ht : (pc : Int) + off = (tgt : Int)) (k : Aw d Y K tgt L S h) : Aw d Y K pc L S h := by
  obtain ⟨hd, rfl⟩ := hd
  intro E A p l e R s m args below meth c cells slots Q B hK H locs ls hS hW hl
  exact lv_goto B.1 B.2.1 hd ht (k E A p l e R s m args below meth c cells slots Q B hK H locs ls hS hW hl)

theorem r_tabOut {d : Nat} {Y : MY} {K : KQT} {pc nx : Nat} {L : List (Option Value)} {S : List Value} {h : Hp} {dflt lo hi : Int} {offs : Array Int} {len : Nat} {x : Int32} {tgt : Nat} (hd : Ins Y.2.1 pc (.tableswitch dflt lo hi offs) len nx) (hx : x.toInt < lo ∨ hi < x.toInt) (ht : (pc : Int) + dflt = (tgt : Int)) (k : Aw d Y K tgt L S h) : Aw d Y K pc L (.int x :: S) h := by
  obtain ⟨hd, rfl⟩ := hd
  intro E A p l e R s m args below meth c cells slots Q B hK H locs ls hS hW hl
  exact lv_tableOut B.1 B.2.1 hd hx ht (k E A p l e R s m args below meth c cells slots Q B hK H locs ls hS hW hl)

theorem r_tabIn {d : Nat} {Y : MY} {K : KQT} {pc nx : Nat} {L : List (Option Value)} {S : List Value} {h : Hp} {dflt lo hi : Int} {offs : Array Int} {len : Nat} {x : Int32} {off : Int} {tgt : Nat} (hd : Ins Y.2.1 pc (.tableswitch dflt lo hi offs) len nx) (h1 : ¬ x.toInt < lo) (h2 : ¬ hi < x.toInt) (ho : offs[(x.toInt - lo).toNat]? = some off) (ht : (pc : Int) + off = (tgt : Int)) (k : Aw d Y K tgt L S h) : Aw d Y K pc L (.int x :: S) h := by
  obtain ⟨hd, rfl⟩ := hd
  intro E A p l e R s m args below meth c cells slots Q B hK H locs ls hS hW hl
  exact lv_tableIn B.1 B.2.1 hd h1 h2 ho ht (k E A p l e R s m args below meth c cells slots Q B hK H locs ls hS hW hl)

theorem r_nm {d : Nat} {Y : MY} {K : KQT} {pc nx : Nat} {L : List (Option Value)} {S : List Value} {h : Hp} {x : Int32} (k : ∀ y, y = x → Aw d Y K pc L (.int y :: S) h) : Aw d Y K pc L (.int x :: S) h := k x rfl

theorem r_nml {d : Nat} {Y : MY} {K : KQT} {pc nx : Nat} {L : List (Option Value)} {S : List Value} {h : Hp} {x : Int64} (k : ∀ y, y = x → Aw d Y K pc L (.long y :: S) h) : Aw d Y K pc L (.long x :: S) h := k x rfl

def FL (own : String) (idx ci k : Nat) : Prop := ∃ (C : String) (T : u_T) (N : Nat), vwCl[ci]? = some (C, T, N) ∧ k < N ∧ Cond.fieldLink own idx (T k).1 (T k).2.1 (T k).2.2.1 ∈ gt
def FW (own : String) (idx ci k : Nat) (ty : FieldType) : Prop := ∃ (C : String) (T : u_T) (N : Nat), vwCl[ci]? = some (C, T, N) ∧ k < N ∧ Cond.fieldLink own idx (T k).1 (T k).2.1 (T k).2.2.1 ∈ gt ∧ (T k).2.2.2 = false ∧ parseFieldDescriptor (T k).2.2.1 = some ty
def ClOk (C : String) (T : u_T) (N : Nat) : Prop := (∀ w ∈ u_ws C T N, w ∈ gt) ∧ ∃ ty : Nat → FieldType, (∀ k, k < N → parseFieldDescriptor (T k).2.2.1 = some (ty k)) ∧ (∀ a, a < N → ∀ b, b < N → a ≠ b → (T a).2.1 ≠ (T b).2.1)
theorem cl_X0 : ClOk RX0 TX0 1 := ⟨by decide +kernel, tyX0, tyX0_ok, nmX0⟩
theorem cl_X1 : ClOk RX1 TX1 12 := ⟨by decide +kernel, tyX1, tyX1_ok, nmX1⟩
theorem cl_X2 : ClOk RX2 TX2 5 := ⟨by decide +kernel, tyX2, tyX2_ok, nmX2⟩
theorem cl_X4 : ClOk RX4 TX4 7 := ⟨by decide +kernel, tyX4, tyX4_ok, nmX4⟩
theorem cl_X5 : ClOk RX5 TX5 5 := ⟨by decide +kernel, tyX5, tyX5_ok, nmX5⟩
theorem cl_X6 : ClOk RX6 TX6 4 := ⟨by decide +kernel, tyX6, tyX6_ok, nmX6⟩
theorem cl_X7 : ClOk RX7 TX7 5 := ⟨by decide +kernel, tyX7, tyX7_ok, nmX7⟩
theorem cl_X8 : ClOk RX8 TX8 13 := ⟨by decide +kernel, tyX8, tyX8_ok, nmX8⟩
theorem cl_X9 : ClOk RX9 TX9 24 := ⟨by decide +kernel, tyX9, tyX9_ok, nmX9⟩
theorem clw {ci : Nat} {C : String} {T : u_T} {N : Nat} (h : vwCl[ci]? = some (C, T, N)) : ClOk C T N := by
  match ci, h with
  | 0, h => cases h; exact cl_X0
  | 1, h => cases h; exact cl_X1
  | 2, h => cases h; exact cl_X2
  | 3, h => cases h; exact cl_X4
  | 4, h => cases h; exact cl_X5
  | 5, h => cases h; exact cl_X6
  | 6, h => cases h; exact cl_X7
  | 7, h => cases h; exact cl_X8
  | 8, h => cases h; exact cl_X9
  | n + 9, h => simp [vwCl] at h
theorem WX.st {E : En} {A : Nat → Prop} {h h' : Hp} {s : State} {H H1 : Heap} {locs locs1 : List Loc} (hW : WX E h s H) (hS : va_S A s.heap H locs) (hS1 : va_S A s.heap H1 locs1) (hl : E.2.1 68 < s.heap.size) (hn : ¬ A (E.2.1 68)) (e1 : h'.1 68 = h.1 68) (e2 : h'.1 69 = h.1 69) (hP : va_P E.1 vwCl (wsH E h') H1) : WX E h' s H1 := by
  refine ⟨hP, ?_⟩
  rw [e1, e2]
  exact hW.2.kept (by rw [hS1.2.1 _ hl hn, hS.2.1 _ hl hn])
theorem WX.go {E : En} {h : Hp} {s t : State} {H : Heap} (hW : WX E h s H) (hv : s.vm.Alike t.vm) : WX E h t H := ⟨hW.1, hW.2.moved hv⟩

theorem r_getI {d : Nat} {Y : MY} {K : KQT} {pc nx : Nat} {L : List (Option Value)} {S : List Value} {h : Hp} {i ci k p : Nat} {ks : List Nat} (hd : Ins Y.2.1 pc (.getfield i) 3 nx) (hf : FL Y.1.cls i ci k) (ho : oL p = some (ci, ks)) (hk : ks[k]? = some (0)) (kk : Aw d Y K nx L (.int (h.1 p k) :: S) h) : Aw d Y K pc L (.ref p :: S) h := by
  obtain ⟨hd, rfl⟩ := hd
  obtain ⟨C, T, N, hc, hkN, hw⟩ := hf
  have hin := (clw hc).1
  intro E A p' l e R s m args below meth c cells slots Q B hK H locs ls hS hW hl
  obtain ⟨hx, hb, hml, hown, hts, hKK, hCO, hEO, hsz, hnA, hrt, hlk, hfr, hlo, hce, hsl⟩ := id B
  have he := wsH_at E h (oL_lt ho)
  rw [cel_o E h ho] at he
  exact va_get (D := E.1) hx hb hts hin hown hKK hW.1 p he hc k hkN (hts _ hw) (fun _ h9 => h9) (fsO_at E h p hk) hd (kk E A p' l e R s m args below meth c cells slots Q B hK H locs ls hS hW hl)

theorem r_getL {d : Nat} {Y : MY} {K : KQT} {pc nx : Nat} {L : List (Option Value)} {S : List Value} {h : Hp} {i ci k p : Nat} {ks : List Nat} (hd : Ins Y.2.1 pc (.getfield i) 3 nx) (hf : FL Y.1.cls i ci k) (ho : oL p = some (ci, ks)) (hk : ks[k]? = some (1)) (kk : Aw d Y K nx L (.long (h.2 p k) :: S) h) : Aw d Y K pc L (.ref p :: S) h := by
  obtain ⟨hd, rfl⟩ := hd
  obtain ⟨C, T, N, hc, hkN, hw⟩ := hf
  have hin := (clw hc).1
  intro E A p' l e R s m args below meth c cells slots Q B hK H locs ls hS hW hl
  obtain ⟨hx, hb, hml, hown, hts, hKK, hCO, hEO, hsz, hnA, hrt, hlk, hfr, hlo, hce, hsl⟩ := id B
  have he := wsH_at E h (oL_lt ho)
  rw [cel_o E h ho] at he
  exact va_get (D := E.1) hx hb hts hin hown hKK hW.1 p he hc k hkN (hts _ hw) (fun _ h9 => h9) (fsO_at E h p hk) hd (kk E A p' l e R s m args below meth c cells slots Q B hK H locs ls hS hW hl)

theorem r_getR {d : Nat} {Y : MY} {K : KQT} {pc nx : Nat} {L : List (Option Value)} {S : List Value} {h : Hp} {i ci k p : Nat} {ks : List Nat} {q : Nat} (hd : Ins Y.2.1 pc (.getfield i) 3 nx) (hf : FL Y.1.cls i ci k) (ho : oL p = some (ci, ks)) (hk : ks[k]? = some (q + 2)) (kk : Aw d Y K nx L (.ref q :: S) h) : Aw d Y K pc L (.ref p :: S) h := by
  obtain ⟨hd, rfl⟩ := hd
  obtain ⟨C, T, N, hc, hkN, hw⟩ := hf
  have hin := (clw hc).1
  intro E A p' l e R s m args below meth c cells slots Q B hK H locs ls hS hW hl
  obtain ⟨hx, hb, hml, hown, hts, hKK, hCO, hEO, hsz, hnA, hrt, hlk, hfr, hlo, hce, hsl⟩ := id B
  have he := wsH_at E h (oL_lt ho)
  rw [cel_o E h ho] at he
  exact va_get (D := E.1) hx hb hts hin hown hKK hW.1 p he hc k hkN (hts _ hw) (fun _ h9 => h9) (fsO_at E h p hk) hd (kk E A p' l e R s m args below meth c cells slots Q B hK H locs ls hS hW hl)

theorem r_putI {d : Nat} {Y : MY} {K : KQT} {pc nx : Nat} {L : List (Option Value)} {S : List Value} {h : Hp} {i ci k p : Nat} {ks : List Nat} {x : Int32} (hd : Ins Y.2.1 pc (.putfield i) 3 nx) (hf : FW Y.1.cls i ci k .int) (ho : oL p = some (ci, ks)) (hk : ks[k]? = some (0)) (kk : Aw d Y K nx L S (pI h p k x)) : Aw d Y K pc L (.int x :: .ref p :: S) h := by
  obtain ⟨hd, rfl⟩ := hd
  obtain ⟨C, T, N, hc, hkN, hw, hfin, hty⟩ := hf
  obtain ⟨hin, ty0, hty0, hnm⟩ := clw hc
  intro E A p' l e R s m args below meth c cells slots Q B hK H locs ls hS hW hl
  obtain ⟨hx, hb, hml, hown, hts, hKK, hCO, hEO, hsz, hnA, hrt, hlk, hfr, hlo, hce, hsl⟩ := id B
  have he := wsH_at E h (oL_lt ho)
  rw [cel_o E h ho] at he
  have hp := oL_lt ho
  refine va_put (D := E.1) hx hb hts hin ty0 hty0 hnm hown hKK hW.1 (hEO.D h) hS p he hc k hkN (hts _ hw) (fun _ h9 => h9) hfin hty (v := .int x) (vp_nar_int x) (by simp [fits]) (by rw [fsO_len]; exact (List.getElem?_eq_some_iff.mp hk).1) hd (fun H1 locs1 hP1 hD1 hS1 => ?_)
  rw [wsH_upd (h' := pI h p k x) (by rw [cel_o E _ ho, ← fsO_pI E h p x hk]) (fun q hq => cel_pI E h k x hq)] at hP1
  exact kk E A p' l e R s m args below meth c cells slots Q B hK H1 locs1 ls hS1 (WX.st hW hS hS1 hsz hnA (pI_ne h k x (by omega)) (pI_ne h k x (by omega)) hP1) hl

theorem r_putZ {d : Nat} {Y : MY} {K : KQT} {pc nx : Nat} {L : List (Option Value)} {S : List Value} {h : Hp} {i ci k p : Nat} {ks : List Nat} {x : Int32} (hd : Ins Y.2.1 pc (.putfield i) 3 nx) (hf : FW Y.1.cls i ci k .boolean) (ho : oL p = some (ci, ks)) (hk : ks[k]? = some (0)) (hz : x = 0 ∨ x = 1) (kk : Aw d Y K nx L S (pI h p k x)) : Aw d Y K pc L (.int x :: .ref p :: S) h := by
  obtain ⟨hd, rfl⟩ := hd
  obtain ⟨C, T, N, hc, hkN, hw, hfin, hty⟩ := hf
  obtain ⟨hin, ty0, hty0, hnm⟩ := clw hc
  intro E A p' l e R s m args below meth c cells slots Q B hK H locs ls hS hW hl
  obtain ⟨hx, hb, hml, hown, hts, hKK, hCO, hEO, hsz, hnA, hrt, hlk, hfr, hlo, hce, hsl⟩ := id B
  have he := wsH_at E h (oL_lt ho)
  rw [cel_o E h ho] at he
  have hp := oL_lt ho
  refine va_put (D := E.1) hx hb hts hin ty0 hty0 hnm hown hKK hW.1 (hEO.D h) hS p he hc k hkN (hts _ hw) (fun _ h9 => h9) hfin hty (v := .int x) (by rcases hz with rfl | rfl <;> decide) (by rcases hz with rfl | rfl <;> decide) (by rw [fsO_len]; exact (List.getElem?_eq_some_iff.mp hk).1) hd (fun H1 locs1 hP1 hD1 hS1 => ?_)
  rw [wsH_upd (h' := pI h p k x) (by rw [cel_o E _ ho, ← fsO_pI E h p x hk]) (fun q hq => cel_pI E h k x hq)] at hP1
  exact kk E A p' l e R s m args below meth c cells slots Q B hK H1 locs1 ls hS1 (WX.st hW hS hS1 hsz hnA (pI_ne h k x (by omega)) (pI_ne h k x (by omega)) hP1) hl

theorem r_putL {d : Nat} {Y : MY} {K : KQT} {pc nx : Nat} {L : List (Option Value)} {S : List Value} {h : Hp} {i ci k p : Nat} {ks : List Nat} {x : Int64} (hd : Ins Y.2.1 pc (.putfield i) 3 nx) (hf : FW Y.1.cls i ci k .long) (ho : oL p = some (ci, ks)) (hk : ks[k]? = some (1)) (kk : Aw d Y K nx L S (pL h p k x)) : Aw d Y K pc L (.long x :: .ref p :: S) h := by
  obtain ⟨hd, rfl⟩ := hd
  obtain ⟨C, T, N, hc, hkN, hw, hfin, hty⟩ := hf
  obtain ⟨hin, ty0, hty0, hnm⟩ := clw hc
  intro E A p' l e R s m args below meth c cells slots Q B hK H locs ls hS hW hl
  obtain ⟨hx, hb, hml, hown, hts, hKK, hCO, hEO, hsz, hnA, hrt, hlk, hfr, hlo, hce, hsl⟩ := id B
  have he := wsH_at E h (oL_lt ho)
  rw [cel_o E h ho] at he
  have hp := oL_lt ho
  refine va_put (D := E.1) hx hb hts hin ty0 hty0 hnm hown hKK hW.1 (hEO.D h) hS p he hc k hkN (hts _ hw) (fun _ h9 => h9) hfin hty (v := .long x) (rfl) (by simp [fits]) (by rw [fsO_len]; exact (List.getElem?_eq_some_iff.mp hk).1) hd (fun H1 locs1 hP1 hD1 hS1 => ?_)
  rw [wsH_upd (h' := pL h p k x) (by rw [cel_o E _ ho, ← fsO_pL E h p x hk]) (fun q hq => cel_pL E h k x hq)] at hP1
  exact kk E A p' l e R s m args below meth c cells slots Q B hK H1 locs1 ls hS1 (WX.st hW hS hS1 hsz hnA rfl rfl hP1) hl

theorem r_iald {d : Nat} {Y : MY} {K : KQT} {pc nx : Nat} {L : List (Option Value)} {S : List Value} {h : Hp} {p n : Nat} {i : Int32} (hd : Ins Y.2.1 pc (.iaload) 1 nx) (ha : aL p = some (0, n)) (hi : vp_in i n) (kk : Aw d Y K nx L (.int (h.1 p i.toNatClampNeg) :: S) h) : Aw d Y K pc L (.int i :: .ref p :: S) h := by
  obtain ⟨hd, rfl⟩ := hd
  intro E A p' l e R s m args below meth c cells slots Q B hK H locs ls hS hW hl
  obtain ⟨hx, hb, hml, hown, hts, hKK, hCO, hEO, hsz, hnA, hrt, hlk, hfr, hlo, hce, hsl⟩ := id B
  have he := wsH_at E h (aL_lt ha)
  rw [cel_a E h ha] at he
  exact va_iald hx hb hKK hW.1 p 0 he rfl hi hd (kk E A p' l e R s m args below meth c cells slots Q B hK H locs ls hS hW hl)

theorem r_zald {d : Nat} {Y : MY} {K : KQT} {pc nx : Nat} {L : List (Option Value)} {S : List Value} {h : Hp} {p n : Nat} {i : Int32} (hd : Ins Y.2.1 pc (.baload) 1 nx) (ha : aL p = some (2, n)) (hi : vp_in i n) (kk : Aw d Y K nx L (.int (h.1 p i.toNatClampNeg) :: S) h) : Aw d Y K pc L (.int i :: .ref p :: S) h := by
  obtain ⟨hd, rfl⟩ := hd
  intro E A p' l e R s m args below meth c cells slots Q B hK H locs ls hS hW hl
  obtain ⟨hx, hb, hml, hown, hts, hKK, hCO, hEO, hsz, hnA, hrt, hlk, hfr, hlo, hce, hsl⟩ := id B
  have he := wsH_at E h (aL_lt ha)
  rw [cel_a E h ha] at he
  exact va_zald hx hb hKK hW.1 p 2 he rfl hi hd (kk E A p' l e R s m args below meth c cells slots Q B hK H locs ls hS hW hl)

theorem r_lald {d : Nat} {Y : MY} {K : KQT} {pc nx : Nat} {L : List (Option Value)} {S : List Value} {h : Hp} {p n : Nat} {i : Int32} (hd : Ins Y.2.1 pc (.laload) 1 nx) (ha : aL p = some (1, n)) (hi : vp_in i n) (kk : Aw d Y K nx L (.long (h.2 p i.toNatClampNeg) :: S) h) : Aw d Y K pc L (.int i :: .ref p :: S) h := by
  obtain ⟨hd, rfl⟩ := hd
  intro E A p' l e R s m args below meth c cells slots Q B hK H locs ls hS hW hl
  obtain ⟨hx, hb, hml, hown, hts, hKK, hCO, hEO, hsz, hnA, hrt, hlk, hfr, hlo, hce, hsl⟩ := id B
  have he := wsH_at E h (aL_lt ha)
  rw [cel_a E h ha] at he
  exact va_lald hx hb hKK hW.1 p 1 he rfl hi hd (kk E A p' l e R s m args below meth c cells slots Q B hK H locs ls hS hW hl)

theorem r_aald {d : Nat} {Y : MY} {K : KQT} {pc nx : Nat} {L : List (Option Value)} {S : List Value} {h : Hp} {p n : Nat} {i : Int32} (hd : Ins Y.2.1 pc (.aaload) 1 nx) (ha : aL p = some (3, n)) (hi : vp_in i n) (kk : Aw d Y K nx L (.ref (18 + i.toNatClampNeg) :: S) h) : Aw d Y K pc L (.int i :: .ref p :: S) h := by
  obtain ⟨hd, rfl⟩ := hd
  intro E A p' l e R s m args below meth c cells slots Q B hK H locs ls hS hW hl
  obtain ⟨hx, hb, hml, hown, hts, hKK, hCO, hEO, hsz, hnA, hrt, hlk, hfr, hlo, hce, hsl⟩ := id B
  have he := wsH_at E h (aL_lt ha)
  rw [cel_a E h ha] at he
  exact va_aldq hx hb hKK hW.1 p 3 he rfl hi hd (kk E A p' l e R s m args below meth c cells slots Q B hK H locs ls hS hW hl)

theorem r_iast {d : Nat} {Y : MY} {K : KQT} {pc nx : Nat} {L : List (Option Value)} {S : List Value} {h : Hp} {p n : Nat} {i : Int32} {x : Int32} (hd : Ins Y.2.1 pc (.iastore) 1 nx) (ha : aL p = some (0, n)) (hi : vp_in i n) (kk : Aw d Y K nx L S (pI h p i.toNatClampNeg x)) : Aw d Y K pc L (.int x :: .int i :: .ref p :: S) h := by
  obtain ⟨hd, rfl⟩ := hd
  intro E A p' l e R s m args below meth c cells slots Q B hK H locs ls hS hW hl
  obtain ⟨hx, hb, hml, hown, hts, hKK, hCO, hEO, hsz, hnA, hrt, hlk, hfr, hlo, hce, hsl⟩ := id B
  have he := wsH_at E h (aL_lt ha)
  rw [cel_a E h ha] at he
  have hp := aL_lt ha
  refine va_iast hx hb hKK hW.1 (hEO.D h) hS p 0 he rfl hi hd (fun H1 locs1 hP1 hD1 hS1 => ?_)
  rw [wsH_upd (h' := pI h p i.toNatClampNeg x) (by rw [cel_a E _ ha]; simp [arO, pI_same]) (fun q hq => cel_pI E h _ x hq)] at hP1
  exact kk E A p' l e R s m args below meth c cells slots Q B hK H1 locs1 ls hS1 (WX.st hW hS hS1 hsz hnA (pI_ne h _ x (by omega)) (pI_ne h _ x (by omega)) hP1) hl

theorem r_zast {d : Nat} {Y : MY} {K : KQT} {pc nx : Nat} {L : List (Option Value)} {S : List Value} {h : Hp} {p n : Nat} {i : Int32} {x : Int32} (hd : Ins Y.2.1 pc (.bastore) 1 nx) (ha : aL p = some (2, n)) (hi : vp_in i n) (hz : x = 0 ∨ x = 1) (kk : Aw d Y K nx L S (pI h p i.toNatClampNeg x)) : Aw d Y K pc L (.int x :: .int i :: .ref p :: S) h := by
  obtain ⟨hd, rfl⟩ := hd
  intro E A p' l e R s m args below meth c cells slots Q B hK H locs ls hS hW hl
  obtain ⟨hx, hb, hml, hown, hts, hKK, hCO, hEO, hsz, hnA, hrt, hlk, hfr, hlo, hce, hsl⟩ := id B
  have he := wsH_at E h (aL_lt ha)
  rw [cel_a E h ha] at he
  have hp := aL_lt ha
  refine va_zast hx hb hKK hW.1 (hEO.D h) hS p 2 he rfl hi hd (fun H1 locs1 hP1 hD1 hS1 => ?_)
  have hnx : vp_nar .boolean x = x := by rcases hz with rfl | rfl <;> decide
  rw [hnx] at hP1
  rw [wsH_upd (h' := pI h p i.toNatClampNeg x) (by rw [cel_a E _ ha]; simp [arO, pI_same]) (fun q hq => cel_pI E h _ x hq)] at hP1
  exact kk E A p' l e R s m args below meth c cells slots Q B hK H1 locs1 ls hS1 (WX.st hW hS hS1 hsz hnA (pI_ne h _ x (by omega)) (pI_ne h _ x (by omega)) hP1) hl

theorem r_last {d : Nat} {Y : MY} {K : KQT} {pc nx : Nat} {L : List (Option Value)} {S : List Value} {h : Hp} {p n : Nat} {i : Int32} {x : Int64} (hd : Ins Y.2.1 pc (.lastore) 1 nx) (ha : aL p = some (1, n)) (hi : vp_in i n) (kk : Aw d Y K nx L S (pL h p i.toNatClampNeg x)) : Aw d Y K pc L (.long x :: .int i :: .ref p :: S) h := by
  obtain ⟨hd, rfl⟩ := hd
  intro E A p' l e R s m args below meth c cells slots Q B hK H locs ls hS hW hl
  obtain ⟨hx, hb, hml, hown, hts, hKK, hCO, hEO, hsz, hnA, hrt, hlk, hfr, hlo, hce, hsl⟩ := id B
  have he := wsH_at E h (aL_lt ha)
  rw [cel_a E h ha] at he
  have hp := aL_lt ha
  refine va_last hx hb hKK hW.1 (hEO.D h) hS p 1 he rfl hi hd (fun H1 locs1 hP1 hD1 hS1 => ?_)
  rw [wsH_upd (h' := pL h p i.toNatClampNeg x) (by rw [cel_a E _ ha]; simp [arO, pL_same]) (fun q hq => cel_pL E h _ x hq)] at hP1
  exact kk E A p' l e R s m args below meth c cells slots Q B hK H1 locs1 ls hS1 (WX.st hW hS hS1 hsz hnA rfl rfl hP1) hl

theorem r_alen {d : Nat} {Y : MY} {K : KQT} {pc nx : Nat} {L : List (Option Value)} {S : List Value} {h : Hp} {p t n : Nat} {v : Int32} (hd : Ins Y.2.1 pc (.arraylength) 1 nx) (ha : aL p = some (t, n)) (ht : t < 3) (hv : Int32.ofNat n = v) (kk : Aw d Y K nx L (.int v :: S) h) : Aw d Y K pc L (.ref p :: S) h := by
  obtain ⟨hd, rfl⟩ := hd
  intro E A p' l e R s m args below meth c cells slots Q B hK H locs ls hS hW hl
  obtain ⟨hx, hb, hml, hown, hts, hKK, hCO, hEO, hsz, hnA, hrt, hlk, hfr, hlo, hce, hsl⟩ := id B
  have he := wsH_at E h (aL_lt ha)
  rw [cel_a E h ha] at he
  match t, ht, he with
  | 0, _, he => exact va_alen hx hb hKK hW.1 p 0 he rfl hv hd (kk E A p' l e R s m args below meth c cells slots Q B hK H locs ls hS hW hl)
  | 1, _, he => exact va_alen hx hb hKK hW.1 p 1 he rfl hv hd (kk E A p' l e R s m args below meth c cells slots Q B hK H locs ls hS hW hl)
  | 2, _, he => exact va_alen hx hb hKK hW.1 p 2 he rfl hv hd (kk E A p' l e R s m args below meth c cells slots Q B hK H locs ls hS hW hl)

