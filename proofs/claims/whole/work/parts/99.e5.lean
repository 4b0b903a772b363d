/-! what the start gives: classes, array classes, constants -/
theorem gt_in {w : Cond} (h : w ∈ gt) : w ∈ lw_tbl := (List.mem_filter.mp h).1
theorem inst_of {ci : Nat} {q : vw_C} (h : vwCl[ci]? = some q) : Cond.instantiable q.1 q.2.2 ∈ gt := by
  match ci, h with
  | 0, h => cases h; exact in_X0
  | 1, h => cases h; exact in_X1
  | 2, h => cases h; exact in_X2
  | 3, h => cases h; exact in_X4
  | 4, h => cases h; exact in_X5
  | 5, h => cases h; exact in_X6
  | 6, h => cases h; exact in_X7
  | 7, h => cases h; exact in_X8
  | 8, h => cases h; exact in_X9
  | n + 9, h => simp [vwCl] at h
theorem arr_of {args : Array Value} {s : State} {ty : FieldType} (h : (Cond.arrayClass ty).before args s = true) : ∃ cA : ClassId, ArrOfT s cA ty ∧ s.vm.findClass ("[" ++ ty.toString) = some cA := by
  obtain ⟨cA, kA, comp, h1, h2, h3⟩ := Cond.arrayClass_spec h
  exact ⟨cA, fun N z => ⟨(fun k h => by cases h), kA, h2, comp, h3⟩, h1⟩
theorem k_of {args : Array Value} {s : State} (hts : ∀ w ∈ gt, w.before args s = true) (hao : va_AO RX6 s) : ∃ (D : va_G) (a3 : Nat → ClassId), va_K D vwCl [(a3 0, .int), (a3 1, .long), (a3 2, .boolean), (a3 3, .object "ToldFigures$Sheet")] s := by
  have h0 : ∀ c : Nat, ∃ x : ClassId × (Nat → Nat), ∀ q : vw_C, vwCl[c]? = some q → u_Kn s q.1 q.2.1 q.2.2 x.1 x.2 := by
    intro c
    cases hq : vwCl[c]? with
    | none => exact ⟨(0, fun _ => 0), fun q h => by cases h⟩
    | some q =>
      obtain ⟨C, T, N⟩ := q
      obtain ⟨cC, iS, h⟩ := u_known (n := N) hts (clw hq).1 (hts _ (inst_of hq))
      exact ⟨(cC, iS), fun q' hq' => by cases hq'; exact h⟩
  obtain ⟨D, hD⟩ := Classical.axiomOfChoice h0
  obtain ⟨cI, i1, i2⟩ := arr_of (hts _ ac_I)
  obtain ⟨cJ, j1, j2⟩ := arr_of (hts _ ac_J)
  obtain ⟨cZ, z1, z2⟩ := arr_of (hts _ ac_Z)
  obtain ⟨comp, cS, kS, o1, o2, o3, o4, o5⟩ := Cond.arrayOver_spec hao
  have s1 : ArrOfT s cS (.object "ToldFigures$Sheet") := fun N z => ⟨(fun k h => by cases h), kS, o3, comp, o4⟩
  refine ⟨(fun c => (D c).1, fun c => (D c).2), fun j => if j = 0 then cI else if j = 1 then cJ else if j = 2 then cZ else cS, fun c q hq => hD c q hq, fun k q hk => ?_⟩
  match k, hk with
  | 0, hk => cases hk; exact ⟨i1, i2⟩
  | 1, hk => cases hk; exact ⟨j1, j2⟩
  | 2, hk => cases hk; exact ⟨z1, z2⟩
  | 3, hk => cases hk; exact ⟨s1, kS, comp, o3, o4, o1, o5⟩
  | n + 4, hk => simp at hk
abbrev GN : Cond := Jvm.Cond.and given_1 narrow_1
theorem el_PL : ∀ j, j < 7 → Cond.eq (.elem (.static "ToldFigures" "PLACES" "[I") (.int (Int32.ofNat j))) (.int (cPL j)) ∈ flatC GN := by decide +kernel
theorem el_FA : ∀ j, j < 10 → Cond.eq (.elem (.static "ToldFigures" "FACTORIALS" "[I") (.int (Int32.ofNat j))) (.int (cFA j)) ∈ flatC GN := by decide +kernel
theorem el_FI : ∀ j, j < 9 → Cond.eq (.elem (.static "ToldFigures" "FIRST_IN_1000" "[I") (.int (Int32.ofNat j))) (.int (cFI j)) ∈ flatC GN := by decide +kernel
theorem el_SC : ∀ j, j < 3 → Cond.eq (.elem (.static "ToldFigures$ClaimText" "SCALES" "[I") (.int (Int32.ofNat j))) (.int (cSC j)) ∈ flatC GN := by decide +kernel
def tmS (i : Nat) : Term := .string "ToldFigures$ClaimText" (if i = 0 then 57 else 86)
theorem el_S1 : ∀ i, i < 2 → Cond.exactly (tmS i) "java/lang/String" ∈ flatC GN ∧ Cond.eq (.field (tmS i) "java/lang/String" "coder" "B") (.int 0) ∈ flatC GN ∧ Cond.arrayOf (.field (tmS i) "java/lang/String" "value" "[B") .byte ∈ flatC GN ∧ Cond.eq (.length (.field (tmS i) "java/lang/String" "value" "[B")) (.int (Int32.ofNat (([9, 3] : List Nat).getD i 0))) ∈ flatC GN := by decide +kernel
theorem el_S2 : ∀ i, i < 2 → ∀ j, j < ([9, 3] : List Nat).getD i 0 → Cond.eq (.elem (.field (tmS i) "java/lang/String" "value" "[B") (.int (Int32.ofNat j))) (.int ((([cLE, cRU] : List (List Int32)).getD i []).getD j 0)) ∈ flatC GN := by decide +kernel
theorem el_S3 : Cond.not (Cond.eq (tmS 0) (tmS 1)) ∈ flatC GN := by decide +kernel
theorem st_1 {args : Array Value} {s : State} {A : Nat → Prop} {C n : String} {N : Nat} {f : Nat → Int32} (hN : N < 2 ^ 31) (hl : (Cond.laysStatic C n "[I").before args s = true) (hini : (Cond.initialized C).before args s = true) (harr : (Cond.arrayOf (.static C n "[I") .int).before args s = true) (hlen : (Cond.eq (.length (.static C n "[I")) (.int (Int32.ofNat N))).before args s = true) (hel : ∀ j, j < N → (Cond.eq (.elem (.static C n "[I") (.int (Int32.ofNat j))) (.int (f j))).before args s = true) (hA : ∀ a : Nat, a < s.heap.size → ¬ A a) : ∃ t, va_Z C n "[I" (.ref t) A s s.heap ∧ va_T .int t N (fun j => .int (f j)) A s s.heap := by
  obtain ⟨t, ht, hT⟩ := va_Tof (f := fun j => .int (f j)) (A := A) hN harr (va_eqt hlen) (fun j hj => va_eqt (hel j hj)) hA
  exact ⟨t, va_Zof hl hini ht hA, hT⟩
theorem co_of {args : Array Value} {s : State} {A : Nat → Prop} (hts : ∀ w ∈ lw_tbl, w.before args s = true) (hgv : GN.before args s = true) (hA : ∀ a : Nat, a < s.heap.size → ¬ A a) : ∃ ad : Nat → Nat, ∀ E : En, (∀ i, 60 ≤ i → i < 68 → E.2.1 i = ad i) → CO E A s s.heap := by
  have hs := flat_of_before _ hgv
  have tb : ∀ (i : Nat) (w : Cond), lw_tbl[i]? = some w → w.before args s = true := fun i w h => hts w (List.mem_of_getElem? h)
  obtain ⟨a0, p1, p2⟩ := st_1 (A := A) (N := 7) (f := cPL) (by decide) (tb 599 (.laysStatic "ToldFigures" "PLACES" "[I") (by decide +kernel)) (hts _ (gt_in ii_X8)) (hs _ (by decide +kernel)) (hs _ (by decide +kernel)) (fun j hj => hs _ (el_PL j hj)) hA
  obtain ⟨a1, f1, f2⟩ := st_1 (A := A) (N := 10) (f := cFA) (by decide) (tb 651 (.laysStatic "ToldFigures" "FACTORIALS" "[I") (by decide +kernel)) (hts _ (gt_in ii_X8)) (hs _ (by decide +kernel)) (hs _ (by decide +kernel)) (fun j hj => hs _ (el_FA j hj)) hA
  obtain ⟨a2, i1, i2⟩ := st_1 (A := A) (N := 9) (f := cFI) (by decide) (tb 814 (.laysStatic "ToldFigures" "FIRST_IN_1000" "[I") (by decide +kernel)) (hts _ (gt_in ii_X8)) (hs _ (by decide +kernel)) (hs _ (by decide +kernel)) (fun j hj => hs _ (el_FI j hj)) hA
  obtain ⟨a3, c1, c2⟩ := st_1 (A := A) (N := 3) (f := cSC) (by decide) (tb 500 (.laysStatic "ToldFigures$ClaimText" "SCALES" "[I") (by decide +kernel)) (hts _ (gt_in ii_X1)) (hs _ (by decide +kernel)) (hs _ (by decide +kernel)) (fun j hj => hs _ (el_SC j hj)) hA
  have n1 : va_Nw (.fieldLinkNest "ToldFigures$Row" 27 "ToldFigures" "PLACES" "[I" "ToldFigures") s := va_Nw.of rfl (tb 598 _ (by decide +kernel))
  have n2 : va_Nw (.fieldLinkNest "ToldFigures$RowTable" 59 "ToldFigures" "FACTORIALS" "[I" "ToldFigures") s := va_Nw.of rfl (tb 650 _ (by decide +kernel))
  obtain ⟨aK, aV, hS, hR⟩ := vk_Sof (N := 2) (tm := tmS) (len := [9, 3]) (byt := [cLE, cRU]) (A := A) (by decide) (fun i hi => hs _ (el_S1 i hi).1) (fun i hi => hs _ (el_S1 i hi).2.1) (fun i hi => hs _ (el_S1 i hi).2.2.1) (fun i hi => hs _ (el_S1 i hi).2.2.2) (fun i hi j hj => hs _ (el_S2 i hi j hj)) (fun i j hi hj hne => by
    have : (i = 0 ∧ j = 1) ∨ (i = 1 ∧ j = 0) := by omega
    rcases this with ⟨rfl, rfl⟩ | ⟨rfl, rfl⟩
    · exact Or.inl (hs _ el_S3)
    · exact Or.inr (hs _ el_S3)) hA
  have r1 : vk_R "ToldFigures$ClaimText" 57 "msvdchlgo" (aK 0) s := vk_R.of (A := args) (tb 337 _ (by decide +kernel)) (hR 0 (by decide))
  have r2 : vk_R "ToldFigures$ClaimText" 86 "uet" (aK 1) s := vk_R.of (A := args) (tb 448 _ (by decide +kernel)) (hR 1 (by decide))
  have z1 : va_Z "java/lang/String" "COMPACT_STRINGS" "Z" (.int 1) A s s.heap := va_Zof (tb 351 _ (by decide +kernel)) (hts (.initialized "java/lang/String") (by decide +kernel)) (va_eqi (hs _ (by decide +kernel))) hA
  refine ⟨fun i => if i = 60 then a0 else if i = 61 then a1 else if i = 62 then a2 else if i = 63 then a3 else if i = 64 then aK 0 else if i = 65 then aK 1 else if i = 66 then aV 0 else aV 1, fun E hE => ?_⟩
  have e0 : E.2.1 60 = a0 := hE 60 (by decide) (by decide)
  have e1 : E.2.1 61 = a1 := hE 61 (by decide) (by decide)
  have e2 : E.2.1 62 = a2 := hE 62 (by decide) (by decide)
  have e3 : E.2.1 63 = a3 := hE 63 (by decide) (by decide)
  have e4 : E.2.1 64 = aK 0 := hE 64 (by decide) (by decide)
  have e5 : E.2.1 65 = aK 1 := hE 65 (by decide) (by decide)
  have e6 : E.2.1 66 = aV 0 := hE 66 (by decide) (by decide)
  have e7 : E.2.1 67 = aV 1 := hE 67 (by decide) (by decide)
  unfold CO
  rw [e0, e1, e2, e3, e4, e5]
  refine ⟨⟨p1, p2⟩, ⟨f1, f2⟩, ⟨i1, i2⟩, ⟨c1, c2⟩, ⟨n1, n2⟩, ⟨r1, r2⟩, ?_, z1⟩
  obtain ⟨s1, s2⟩ := hS
  have k1 : ∀ i, i < 2 → E.2.1 (64 + i) = aK i := fun i hi => by
    have : i = 0 ∨ i = 1 := by omega
    rcases this with rfl | rfl
    · exact e4
    · exact e5
  have k2 : ∀ i, i < 2 → E.2.1 (66 + i) = aV i := fun i hi => by
    have : i = 0 ∨ i = 1 := by omega
    rcases this with rfl | rfl
    · exact e6
    · exact e7
  refine ⟨fun i hi => ?_, fun i j hi hj h => ?_⟩
  · dsimp only
    rw [k1 i hi, k2 i hi]
    exact s1 i hi
  · dsimp only at h
    rw [k1 i hi, k1 j hj] at h
    exact s2 i j hi hj h
theorem nw_of {args : Array Value} {s : State} (hts : ∀ w ∈ lw_tbl, w.before args s = true) : NW8 s := by
  have tb : ∀ (i : Nat) (w : Cond), lw_tbl[i]? = some w → w.before args s = true := fun i w h => hts w (List.mem_of_getElem? h)
  exact ⟨va_Nw.of rfl (tb 89 _ (by decide +kernel)), va_Nw.of rfl (tb 136 _ (by decide +kernel)), va_Nw.of rfl (tb 170 _ (by decide +kernel)), va_Nw.of rfl (tb 195 _ (by decide +kernel)), va_Nw.of rfl (tb 206 _ (by decide +kernel)), va_Nw.of rfl (tb 228 _ (by decide +kernel)), va_Nw.of rfl (tb 249 _ (by decide +kernel)), va_AO.of (tb 192 _ (by decide +kernel))⟩
theorem nw_warm {s U : State} (hW : s.WarmedH U.vm) (h : NW8 s) : NW8 U := by
  obtain ⟨h1, h2, h3, h4, h5, h6, h7, h8⟩ := h
  exact ⟨h1.warmM hW, h2.warmM hW, h3.warmM hW, h4.warmM hW, h5.warmM hW, h6.warmM hW, h7.warmM hW, h8.moved hW.alike⟩
theorem nw_call (U : State) (g : JFrame) (mk : MethodId) (a : Array Value) (h : NW8 U) : NW8 (U.calling g mk a) := by
  obtain ⟨h1, h2, h3, h4, h5, h6, h7, h8⟩ := h
  exact ⟨h1.same rfl rfl, h2.same rfl rfl, h3.same rfl rfl, h4.same rfl rfl, h5.same rfl rfl, h6.same rfl rfl, h7.same rfl rfl, h8.moved (Vm.Alike.refl U.vm)⟩
