/-! calls, ends, constants -/
def MM (Y : MY) (n : Nat) : Prop := Cond.code Y.1 Y.2.1 Y.2.2.1 Y.2.2.2 ∈ gt ∧ Cond.initialized Y.1.cls ∈ gt ∧ (Y.1.cls ≠ "java/lang/invoke/MethodHandle" ∧ Y.1.cls ≠ "java/lang/invoke/VarHandle" ∧ (parseMethodDescriptor Y.1.desc).map (fun d => d.parameters.length) = some n) ∧ Y.2.2.1 ≤ 19 ∧ plainName Y.1.cls = true
theorem gt_good {w : Cond} (h : w ∈ gt) : (w.onTables && w.keeps) = true ∨ ∃ ty, w = .arrayClass ty := good_of_word (List.mem_filter.mp h).2
theorem goodY {Y : MY} (h : Cond.code Y.1 Y.2.1 Y.2.2.1 Y.2.2.2 ∈ gt) : GoodIn gt (wsY Y) := by
  intro w hw
  rcases List.mem_cons.mp hw with rfl | hw
  · exact ⟨h, gt_good h⟩
  · exact ⟨hw, gt_good hw⟩
theorem mg {w : Cond} (i : Nat) (h : lw_tbl[i]? = some w) (hg : goodWord w = true) : w ∈ gt := List.mem_filter.mpr ⟨List.mem_of_getElem? h, hg⟩
theorem pc_blind (E : En) (A : Nat → Prop) (h : Hp) (as : List Value) : FrameBlind (va_Pc as (fun U => WX E h U U.heap ∧ va_K E.1 vwCl (tyE E) U ∧ CO E A U U.heap)) := by
  intro a U g mk q
  obtain ⟨q0, ⟨q1, q2⟩, q3, q4⟩ := q
  have hv : U.vm.Alike (U.calling g mk a).vm := Vm.Alike.refl U.vm
  exact ⟨q0, ⟨q1, q2.moved hv⟩, va_K.moved hv q3, q4.call g mk a⟩
theorem pc_of {E : En} {A : Nat → Prop} {h : Hp} {s U : State} {H : Heap} {locs : List Loc} (hW : WX E h s H) (hKK : va_K E.1 vwCl (tyE E) s) (hCO : CO E A s s.heap) (hS : va_S A s.heap H locs) (hU : U.heap = H) (hw : s.WarmedH U.vm) : WX E h U U.heap ∧ va_K E.1 vwCl (tyE E) U ∧ CO E A U U.heap := by
  subst hU
  exact ⟨hW.go hw.alike, va_K.moved hw.alike hKK, hCO.to hw hS.2.1⟩
section CALL
variable {d : Nat} {Y : MY} {K : KQT} {pc nx : Nat} {L : List (Option Value)} {S : List Value} {h : Hp}
theorem map_cat (E : En) (S : List Value) : (S.map (emb E)).map (fun v => v.category) = S.map Value.category := by
  rw [List.map_map]
  apply List.map_congr_left
  intro v _
  exact emb_cat E v
theorem r_back {E : En} {A : Nat → Prop} {p : Program} {l : Launch} {e : Env} {R : Room} {s : State} {m : MethodId} {args : Array Value} {below : List Frame} {meth : Method} {c : Code} {cells slots : Nat} {Q : State → Prop} {H : Heap} {locs : List Loc} {ls : Array Slot} {P : Pst} {a : Array Value} {st0 : List Value}
    (B : Bas d Y E A p R s m args meth c cells slots) (hK : K E A s args below meth cells slots Q) (hS : va_S A s.heap H locs) (hl : LH E ls Y.2.2.1 L)
    (run : va_Run p l e R s m args below meth c H locs cells slots 0 0 (F0 m pc ls st0) (S.map (emb E)) (Qx E A P a) A) (k : ∀ rv h1, P rv h1 → Aw d Y K (pc + 3) L (rv.toList ++ S) h1) : W p l e R s m args below meth c H locs cells slots Q (F0 m pc ls st0) := by
  intro T hT X
  obtain ⟨v, st₀, t, T', L', h0, X', hL, e1, e2, ⟨rv, h', hv, hp', hWX, hz, hk⟩, st⟩ := run T hT X
  have hv : v = rv.map (emb E) := by cases hv; rfl
  rw [h0] at hz hk
  have hWs : WX E h' s T'.heap := by
    rw [e1]
    refine hWX.go ?_
    rw [← e2]
    exact X'.warmed.alike.symm
  obtain ⟨t2, a1, b1⟩ := k rv h' hp' E A p l e R s m args below meth c cells slots Q B hK T'.heap (locs ++ L') ls
    ⟨Nat.le_trans hS.1 (by rw [e1]; exact hz), fun q h1 h2 => by rw [e1, hk q (Nat.lt_of_lt_of_le h1 hS.1) h2]; exact hS.2.1 q h1 h2, fun q hq => by
      rcases List.mem_append.mp hq with h | h
      · exact hS.2.2 q h
      · exact hL q h⟩ hWs hl T' rfl X'
  refine ⟨t2, st t2 ?_, b1⟩
  have ef : (F0 m (pc + 3) ls ((rv.toList ++ S).map (emb E))) = { (F0 m pc ls st0) with pc := (F0 m pc ls st0).pc + 3, stack := v.toList ++ S.map (emb E) } := by
    rw [hv]
    cases rv <;> rfl
  rw [← ef]
  exact a1
theorem r_cS {d' : Nat} {Y' : MY} {i : Nat} {as : List Value} {P : Pst} (hd : Ins Y.2.1 pc (.invokestatic i) 3 nx) (hm : MM Y' as.length) (hst : Cond.static Y'.1 ∈ gt) (hlk : Cond.methodLink Y.1.cls i Y'.1 ∈ gt) (hR : Rn d' Y' as h P) (hdd : d' + 1 ≤ d) (hr : (S.map Value.category).sum ≤ 8) (k : ∀ rv h1, P rv h1 → Aw d Y K nx L (rv.toList ++ S) h1) : Aw d Y K pc L (as.reverse ++ S) h := by
  obtain ⟨hd, rfl⟩ := hd
  obtain ⟨hcode, hini, hds, hmx, -⟩ := hm
  intro E A p l e R s m args below meth c cells slots Q B hK H locs ls hS hW hl
  obtain ⟨hx, hb, hml, hown, hts, hKK, hCO, hEO, hsz, hnA, hrt, hlk', hfr, hlo, hce, hsl⟩ := id B
  refine r_back (P := P) (S := S) (a := (as.map (emb E)).toArray) B hK hS hl ?_ k
  have hg := goodY hcode
  refine va_runS (As := as.map (emb E)) (n := as.length) (Ts := gt) (mc := 0) (ms := 0) (bytes := Y'.2.1) (maxL := Y'.2.2.1) (ret := Y'.2.2.2) ⟨hx, hb, hml, hown, hts⟩ (hR l E A hEO hnA) ⟨callB_of as.length hts hg rfl rfl rfl (hts _ hini) (hts _ hlk) hds ⟨by show d' + 1 ≤ R.frames; omega, by show 8 + (Y'.2.2.1 + 11) + 38 * d' ≤ R.locals; omega⟩, hts _ hst⟩ ⟨pc_blind E A h _, fun U hU hWd => ⟨rfl, pc_of hW hKK hCO hS hU hWd⟩⟩ rfl (by simp) hl.1 (by simp) ?_ hd ⟨by omega, by omega⟩
  show 2 * 0 + ((S.map (emb E)).map fun v => v.category).sum ≤ 8
  rw [map_cat]
  omega
theorem r_cVc {d' : Nat} {Y' : MY} {i b : Nat} {as : List Value} {P : Pst} (hd : Ins Y.2.1 pc (.invokevirtual i) 3 nx) (hm : MM Y' as.length) (hst : Cond.instanceMethod Y'.1 ∈ gt) (hse : Cond.selects Y'.1.cls Y'.1 Y'.1 ∈ gt) (hlk : Cond.methodLink Y.1.cls i Y'.1 ∈ gt) (hR : Rn d' Y' (.ref b :: as) h P) (hdd : d' + 1 ≤ d) (hr : (S.map Value.category).sum ≤ 8)
    (hrec : ∀ (E : En) (A : Nat → Prop) (s : State) (H : Heap) (locs : List Loc), va_K E.1 vwCl (tyE E) s → CO E A s s.heap → va_S A s.heap H locs → WX E h s H → ∃ cell : Cell, H[E.2.1 b]? = some cell ∧ cell.vm.isStatics = false ∧ s.vm.findClass Y'.1.cls = some cell.cls) (k : ∀ rv h1, P rv h1 → Aw d Y K nx L (rv.toList ++ S) h1) : Aw d Y K pc L (as.reverse ++ .ref b :: S) h := by
  obtain ⟨hd, rfl⟩ := hd
  obtain ⟨hcode, hini, hds, hmx, -⟩ := hm
  intro E A p l e R s m args below meth c cells slots Q B hK H locs ls hS hW hl
  obtain ⟨hx, hb, hml, hown, hts, hKK, hCO, hEO, hsz, hnA, hrt, hlk', hfr, hlo, hce, hsl⟩ := id B
  refine r_back (P := P) (S := S) (a := (Value.ref (E.2.1 b) :: as.map (emb E)).toArray) B hK hS hl ?_ k
  have hg := goodY hcode
  refine va_runV (As := as.map (emb E)) (b := E.2.1 b) (n := as.length) (Ts := gt) (mc := 0) (ms := 0) (bytes := Y'.2.1) (maxL := Y'.2.2.1) (ret := Y'.2.2.2) ⟨hx, hb, hml, hown, hts⟩ (hR l E A hEO hnA) ⟨callB_of as.length hts hg rfl rfl rfl (hts _ hini) (hts _ hlk) hds ⟨by show d' + 1 ≤ R.frames; omega, by show 8 + (Y'.2.2.1 + 11) + 38 * d' ≤ R.locals; omega⟩, hts _ hst, hts _ hse⟩ ⟨pc_blind E A h _, hrec E A s H locs hKK hCO hS hW, fun U hU hWd => ⟨rfl, pc_of hW hKK hCO hS hU hWd⟩⟩ rfl (by simp) hl.1 (by simp [emb]) ?_ hd ⟨by omega, by omega⟩
  show 2 * 0 + ((S.map (emb E)).map fun v => v.category).sum ≤ 8
  rw [map_cat]
  omega
/-- an object's method -/
theorem r_cV {d' : Nat} {Y' : MY} {i b ci : Nat} {ks : List Nat} {C : String} {T : u_T} {N : Nat} {as : List Value} {P : Pst} (hd : Ins Y.2.1 pc (.invokevirtual i) 3 nx) (hm : MM Y' as.length) (hst : Cond.instanceMethod Y'.1 ∈ gt) (hse : Cond.selects Y'.1.cls Y'.1 Y'.1 ∈ gt) (hlk : Cond.methodLink Y.1.cls i Y'.1 ∈ gt) (ho : oL b = some (ci, ks)) (hc : vwCl[ci]? = some (C, T, N)) (hC : Y'.1.cls = C) (hR : Rn d' Y' (.ref b :: as) h P) (hdd : d' + 1 ≤ d) (hr : (S.map Value.category).sum ≤ 8)
    (k : ∀ rv h1, P rv h1 → Aw d Y K nx L (rv.toList ++ S) h1) : Aw d Y K pc L (as.reverse ++ .ref b :: S) h := by
  refine r_cVc hd hm hst hse hlk hR hdd hr (fun E A s H locs hKK hCO hS hW => ?_) k
  have he := wsH_at E h (oL_lt ho)
  rw [cel_o E h ho] at he
  rw [hC]
  exact va_recv hKK hW.1 hc he
/-- a constant text's method -/
theorem r_cT {d' : Nat} {Y' : MY} {i j : Nat} {as : List Value} {P : Pst} (hd : Ins Y.2.1 pc (.invokevirtual i) 3 nx) (hm : MM Y' as.length) (hst : Cond.instanceMethod Y'.1 ∈ gt) (hse : Cond.selects Y'.1.cls Y'.1 Y'.1 ∈ gt) (hlk : Cond.methodLink Y.1.cls i Y'.1 ∈ gt) (hj : j < 2) (hC : Y'.1.cls = "java/lang/String") (hR : Rn d' Y' (.ref (64 + j) :: as) h P) (hdd : d' + 1 ≤ d) (hr : (S.map Value.category).sum ≤ 8)
    (k : ∀ rv h1, P rv h1 → Aw d Y K nx L (rv.toList ++ S) h1) : Aw d Y K pc L (as.reverse ++ .ref (64 + j) :: S) h := by
  refine r_cVc hd hm hst hse hlk hR hdd hr (fun E A s H locs hKK hCO hS hW => ?_) k
  rw [hC]
  exact vk_recv (i := j) hCO.2.2.2.2.2.2.1 hj hS
theorem lsl_args (E : En) : ∀ (as : List Value) (o i : Nat) (v : Value), (Lsl as)[i]? = some (some v) → (o + i, emb E v) ∈ lv_args o (as.map (emb E)) := by
  intro as
  induction as with
  | nil => intro o i v h; simp [Lsl] at h
  | cons a r ih =>
    intro o i v h
    by_cases hc : a.category = 2
    · have e1 : (emb E a).category = 2 := by rw [emb_cat]; exact hc
      rw [Lsl, if_pos hc] at h
      match i, h with
      | 0, h =>
        have : a = v := by simpa using h
        subst this
        exact List.mem_cons_self
      | 1, h => simp at h
      | i + 2, h =>
        have h1 : (Lsl r)[i]? = some (some v) := by simpa using h
        refine List.mem_cons_of_mem _ ?_
        rw [if_pos e1, show o + (i + 2) = o + 2 + i by omega]
        exact ih (o + 2) i v h1
    · have e1 : ¬ (emb E a).category = 2 := by rw [emb_cat]; exact hc
      rw [Lsl, if_neg hc] at h
      match i, h with
      | 0, h =>
        have : a = v := by simpa using h
        subst this
        exact List.mem_cons_self
      | i + 1, h =>
        have h1 : (Lsl r)[i]? = some (some v) := by simpa using h
        refine List.mem_cons_of_mem _ ?_
        rw [if_neg e1, show o + (i + 1) = o + 1 + i by omega]
        exact ih (o + 1) i v h1
theorem lsl_len (E : En) : ∀ as : List Value, (lg_sl (as.map (emb E))).length = (Lsl as).length := by
  intro as
  induction as with
  | nil => rfl
  | cons a r ih =>
    have ih' : (List.flatMap (fun v => if v.category = 2 then [Slot.val v, Slot.second] else [Slot.val v]) (List.map (emb E) r)).length = (Lsl r).length := ih
    by_cases hc : a.category = 2
    · have e1 : (emb E a).category = 2 := by rw [emb_cat]; exact hc
      simp only [lg_sl, List.map_cons, List.flatMap_cons, List.length_append, ih', Lsl, if_pos hc, if_pos e1, List.length_cons, List.length_nil]
      omega
    · have e1 : ¬ (emb E a).category = 2 := by rw [emb_cat]; exact hc
      simp only [lg_sl, List.map_cons, List.flatMap_cons, List.length_append, ih', Lsl, if_neg hc, if_neg e1, List.length_cons, List.length_nil]
      omega
/-- a method's contract out of the walk of its body -/
theorem rn_of {as : List Value} {P : Pst} {n : Nat} (hm : MM Y n) (hn : (Lsl as).length ≤ Y.2.2.1) (hL : Lent as Y.2.2.1 = L) (k : Aw d Y (Kp P) 0 L [] h) : Rn d Y as h P := by
  intro l E A hEO hnA
  refine Met.ofW (cc := Y.2.1) (maxL := Y.2.2.1) (ret := Y.2.2.2) hm.2.2.2.2 rfl ?_
  intro p e s m args below meth c s₁ B hml hv
  obtain ⟨rfl, hW, hKK, hCO⟩ := hv
  have hts := atoms_spec (ws := wsY Y) B.pre
  have hown := findClass_of_methodNamed B.named
  have hsz : E.2.1 68 < s.heap.size := by
    obtain ⟨scr, h1, -⟩ := hW.2
    exact (Array.getElem?_eq_some_iff.mp h1).1
  have hl := lv_entry (as.map (emb E)) (n := Y.2.2.1) (by rw [lsl_len]; exact hn)
  rw [lg_entry_eq]
  refine k E A p l e _ s m _ below meth c 0 0 _ ⟨B.exec, B.bytes, hml, hown, fun w hw => hts w (List.mem_cons_of_mem _ hw), hKK, hCO, hEO, hsz, hnA, B.returns, B.notSynchronized, Nat.le_refl d, Nat.le_refl (38 * d), Nat.zero_le _, Nat.zero_le _⟩ rfl s.heap [] _ va_S.rf hW ?_
  refine ⟨hl.1, hl.2.1, fun i v hi => ?_⟩
  rw [← hL, Lent] at hi
  have hi2 : (Lsl as)[i]? = some (some v) := by
    by_cases hlt : i < (Lsl as).length
    · rwa [List.getElem?_append_left hlt] at hi
    · rw [List.getElem?_append_right (by omega)] at hi
      rw [List.getElem?_replicate] at hi
      split at hi <;> simp at hi
  have h3 := lsl_args E as 0 i v hi2
  rw [Nat.zero_add] at h3
  exact hl.2.2 _ h3
-- ends
theorem r_iret {P : Pst} {x : Int32} (hd : Ins Y.2.1 pc (.ireturn) 1 nx) (hr : Y.2.2.2 = some .int) (hP : P (some (.int x)) h) : Aw d Y (Kp P) pc L [.int x] h := by
  intro E A p l e R s m args below meth c cells slots Q B hK H locs ls hS hW hl
  obtain ⟨hx, hb, hml, hown, hts, hKK, hCO, hEO, hsz, hnA, hrt, hlk', hfr, hlo, hce, hsl⟩ := id B
  have hK : Q = MQ below (Qx E A P) args s cells slots A := hK
  subst hK
  exact W.iret (v := x) hx hb (hrt.trans hr) (fun t ht hWt => ⟨some (.int x), h, rfl, hP, by rw [ht]; exact hW.go hWt.alike, hS.F ht⟩) hS.2.2 hd.1 hlk'
theorem r_zret {P : Pst} {x : Int32} {ty : FieldType} (hd : Ins Y.2.1 pc (.ireturn) 1 nx) (hr : Y.2.2.2 = some ty) (hn : narrow ty (.int x) = .int x) (hP : P (some (.int x)) h) : Aw d Y (Kp P) pc L [.int x] h := by
  intro E A p l e R s m args below meth c cells slots Q B hK H locs ls hS hW hl
  obtain ⟨hx, hb, hml, hown, hts, hKK, hCO, hEO, hsz, hnA, hrt, hlk', hfr, hlo, hce, hsl⟩ := id B
  have hK : Q = MQ below (Qx E A P) args s cells slots A := hK
  subst hK
  exact W.zret (v := x) hx hb (hrt.trans hr) hn (fun t ht hWt => ⟨some (.int x), h, rfl, hP, by rw [ht]; exact hW.go hWt.alike, hS.F ht⟩) hS.2.2 hd.1 hlk'
theorem r_lret {P : Pst} {x : Int64} (hd : Ins Y.2.1 pc (.lreturn) 1 nx) (hr : Y.2.2.2 = some .long) (hP : P (some (.long x)) h) : Aw d Y (Kp P) pc L [.long x] h := by
  intro E A p l e R s m args below meth c cells slots Q B hK H locs ls hS hW hl
  obtain ⟨hx, hb, hml, hown, hts, hKK, hCO, hEO, hsz, hnA, hrt, hlk', hfr, hlo, hce, hsl⟩ := id B
  have hK : Q = MQ below (Qx E A P) args s cells slots A := hK
  subst hK
  exact W.lret (v := x) hx hb (hrt.trans hr) (fun t ht hWt => ⟨some (.long x), h, rfl, hP, by rw [ht]; exact hW.go hWt.alike, hS.F ht⟩) hS.2.2 hd.1 hlk'
theorem r_vret {P : Pst} (hd : Ins Y.2.1 pc (.return_) 1 nx) (hr : Y.2.2.2 = none) (hP : P none h) : Aw d Y (Kp P) pc L [] h := by
  intro E A p l e R s m args below meth c cells slots Q B hK H locs ls hS hW hl
  obtain ⟨hx, hb, hml, hown, hts, hKK, hCO, hEO, hsz, hnA, hrt, hlk', hfr, hlo, hce, hsl⟩ := id B
  have hK : Q = MQ below (Qx E A P) args s cells slots A := hK
  subst hK
  exact W.vret hx hb (hrt.trans hr) (fun t ht hWt => ⟨none, h, rfl, hP, by rw [ht]; exact hW.go hWt.alike, hS.F ht⟩) hS.2.2 hd.1 hlk'
-- constants
theorem r_gsN60 (hY : Y.1.cls = "ToldFigures$Row") (hd : Ins Y.2.1 pc (.getstatic 27) 3 nx) (k : Aw d Y K nx L (.ref 60 :: S) h) : Aw d Y K pc L S h := by
  obtain ⟨hd, rfl⟩ := hd
  intro E A p l e R s m args below meth c cells slots Q B hK H locs ls hS hW hl
  obtain ⟨hx, hb, hml, hown, hts, hKK, hCO, hEO, hsz, hnA, hrt, hlk', hfr, hlo, hce, hsl⟩ := id B
  rw [hY] at hown
  exact va_getsN hx hb hCO.1.1 hS hown (hCO.2.2.2.2.1.1.use rfl) (fun _ h9 => h9) hd (k E A p l e R s m args below meth c cells slots Q B hK H locs ls hS hW hl)
theorem r_gsN61 (hY : Y.1.cls = "ToldFigures$RowTable") (hd : Ins Y.2.1 pc (.getstatic 59) 3 nx) (k : Aw d Y K nx L (.ref 61 :: S) h) : Aw d Y K pc L S h := by
  obtain ⟨hd, rfl⟩ := hd
  intro E A p l e R s m args below meth c cells slots Q B hK H locs ls hS hW hl
  obtain ⟨hx, hb, hml, hown, hts, hKK, hCO, hEO, hsz, hnA, hrt, hlk', hfr, hlo, hce, hsl⟩ := id B
  rw [hY] at hown
  exact va_getsN hx hb hCO.2.1.1 hS hown (hCO.2.2.2.2.1.2.use rfl) (fun _ h9 => h9) hd (k E A p l e R s m args below meth c cells slots Q B hK H locs ls hS hW hl)
theorem r_gs62 {i : Nat} (hd : Ins Y.2.1 pc (.getstatic i) 3 nx) (hw : Cond.fieldLink Y.1.cls i "ToldFigures" "FIRST_IN_1000" "[I" ∈ gt) (k : Aw d Y K nx L (.ref 62 :: S) h) : Aw d Y K pc L S h := by
  obtain ⟨hd, rfl⟩ := hd
  intro E A p l e R s m args below meth c cells slots Q B hK H locs ls hS hW hl
  obtain ⟨hx, hb, hml, hown, hts, hKK, hCO, hEO, hsz, hnA, hrt, hlk', hfr, hlo, hce, hsl⟩ := id B
  exact va_gets hx hb hCO.2.2.1.1 hS hown (hts _ hw) (fun _ h9 => h9) hd (k E A p l e R s m args below meth c cells slots Q B hK H locs ls hS hW hl)
theorem r_gs63 {i : Nat} (hd : Ins Y.2.1 pc (.getstatic i) 3 nx) (hw : Cond.fieldLink Y.1.cls i "ToldFigures$ClaimText" "SCALES" "[I" ∈ gt) (k : Aw d Y K nx L (.ref 63 :: S) h) : Aw d Y K pc L S h := by
  obtain ⟨hd, rfl⟩ := hd
  intro E A p l e R s m args below meth c cells slots Q B hK H locs ls hS hW hl
  obtain ⟨hx, hb, hml, hown, hts, hKK, hCO, hEO, hsz, hnA, hrt, hlk', hfr, hlo, hce, hsl⟩ := id B
  exact va_gets hx hb hCO.2.2.2.1.1 hS hown (hts _ hw) (fun _ h9 => h9) hd (k E A p l e R s m args below meth c cells slots Q B hK H locs ls hS hW hl)
theorem r_gsCS {i : Nat} (hd : Ins Y.2.1 pc (.getstatic i) 3 nx) (hw : Cond.fieldLink Y.1.cls i "java/lang/String" "COMPACT_STRINGS" "Z" ∈ gt) (k : Aw d Y K nx L (.int 1 :: S) h) : Aw d Y K pc L S h := by
  obtain ⟨hd, rfl⟩ := hd
  intro E A p l e R s m args below meth c cells slots Q B hK H locs ls hS hW hl
  obtain ⟨hx, hb, hml, hown, hts, hKK, hCO, hEO, hsz, hnA, hrt, hlk', hfr, hlo, hce, hsl⟩ := id B
  exact va_gets hx hb hCO.2.2.2.2.2.2.2 hS hown (hts _ hw) (fun _ h9 => h9) hd (k E A p l e R s m args below meth c cells slots Q B hK H locs ls hS hW hl)
theorem r_ildPL {i : Int32} (hd : Ins Y.2.1 pc (.iaload) 1 nx) (hi : vp_in i 7) (k : Aw d Y K nx L (.int (cPL i.toNatClampNeg) :: S) h) : Aw d Y K pc L (.int i :: .ref 60 :: S) h := by
  obtain ⟨hd, rfl⟩ := hd
  intro E A p l e R s m args below meth c cells slots Q B hK H locs ls hS hW hl
  exact va_ti B.1 B.2.1 B.2.2.2.2.2.2.1.1.2 hS hi rfl hd (k E A p l e R s m args below meth c cells slots Q B hK H locs ls hS hW hl)
theorem r_ildFA {i : Int32} (hd : Ins Y.2.1 pc (.iaload) 1 nx) (hi : vp_in i 10) (k : Aw d Y K nx L (.int (cFA i.toNatClampNeg) :: S) h) : Aw d Y K pc L (.int i :: .ref 61 :: S) h := by
  obtain ⟨hd, rfl⟩ := hd
  intro E A p l e R s m args below meth c cells slots Q B hK H locs ls hS hW hl
  exact va_ti B.1 B.2.1 B.2.2.2.2.2.2.1.2.1.2 hS hi rfl hd (k E A p l e R s m args below meth c cells slots Q B hK H locs ls hS hW hl)
theorem r_ildFI {i : Int32} (hd : Ins Y.2.1 pc (.iaload) 1 nx) (hi : vp_in i 9) (k : Aw d Y K nx L (.int (cFI i.toNatClampNeg) :: S) h) : Aw d Y K pc L (.int i :: .ref 62 :: S) h := by
  obtain ⟨hd, rfl⟩ := hd
  intro E A p l e R s m args below meth c cells slots Q B hK H locs ls hS hW hl
  exact va_ti B.1 B.2.1 B.2.2.2.2.2.2.1.2.2.1.2 hS hi rfl hd (k E A p l e R s m args below meth c cells slots Q B hK H locs ls hS hW hl)
theorem r_ildSC {i : Int32} (hd : Ins Y.2.1 pc (.iaload) 1 nx) (hi : vp_in i 3) (k : Aw d Y K nx L (.int (cSC i.toNatClampNeg) :: S) h) : Aw d Y K pc L (.int i :: .ref 63 :: S) h := by
  obtain ⟨hd, rfl⟩ := hd
  intro E A p l e R s m args below meth c cells slots Q B hK H locs ls hS hW hl
  exact va_ti B.1 B.2.1 B.2.2.2.2.2.2.1.2.2.2.1.2 hS hi rfl hd (k E A p l e R s m args below meth c cells slots Q B hK H locs ls hS hW hl)
theorem r_ldc64 (hY : Y.1.cls = "ToldFigures$ClaimText") (hd : Ins Y.2.1 pc (.ldc 57) 2 nx) (k : Aw d Y K nx L (.ref (64 + 0) :: S) h) : Aw d Y K pc L S h := by
  obtain ⟨hd, rfl⟩ := hd
  intro E A p l e R s m args below meth c cells slots Q B hK H locs ls hS hW hl
  obtain ⟨hx, hb, hml, hown, hts, hKK, hCO, hEO, hsz, hnA, hrt, hlk', hfr, hlo, hce, hsl⟩ := id B
  rw [hY] at hown
  exact va_ldcS hx hb hown hCO.2.2.2.2.2.1.1 hd (k E A p l e R s m args below meth c cells slots Q B hK H locs ls hS hW hl)
theorem r_ldc65 (hY : Y.1.cls = "ToldFigures$ClaimText") (hd : Ins Y.2.1 pc (.ldc 86) 2 nx) (k : Aw d Y K nx L (.ref (64 + 1) :: S) h) : Aw d Y K pc L S h := by
  obtain ⟨hd, rfl⟩ := hd
  intro E A p l e R s m args below meth c cells slots Q B hK H locs ls hS hW hl
  obtain ⟨hx, hb, hml, hown, hts, hKK, hCO, hEO, hsz, hnA, hrt, hlk', hfr, hlo, hce, hsl⟩ := id B
  rw [hY] at hown
  exact va_ldcS hx hb hown hCO.2.2.2.2.2.1.2 hd (k E A p l e R s m args below meth c cells slots Q B hK H locs ls hS hW hl)
theorem r_sval {i j : Nat} (hj : j < 2) (hd : Ins Y.2.1 pc (.getfield i) 3 nx) (hw : Cond.fieldLink Y.1.cls i "java/lang/String" "value" "[B" ∈ gt) (k : Aw d Y K nx L (.ref (66 + j) :: S) h) : Aw d Y K pc L (.ref (64 + j) :: S) h := by
  obtain ⟨hd, rfl⟩ := hd
  intro E A p l e R s m args below meth c cells slots Q B hK H locs ls hS hW hl
  obtain ⟨hx, hb, hml, hown, hts, hKK, hCO, hEO, hsz, hnA, hrt, hlk', hfr, hlo, hce, hsl⟩ := id B
  exact vk_getf hx hb (hCO.2.2.2.2.2.2.1.1 j hj).2.2.1 hS hown (hts _ hw) (fun _ h9 => h9) hd (k E A p l e R s m args below meth c cells slots Q B hK H locs ls hS hW hl)
theorem r_scod {i j : Nat} (hj : j < 2) (hd : Ins Y.2.1 pc (.getfield i) 3 nx) (hw : Cond.fieldLink Y.1.cls i "java/lang/String" "coder" "B" ∈ gt) (k : Aw d Y K nx L (.int 0 :: S) h) : Aw d Y K pc L (.ref (64 + j) :: S) h := by
  obtain ⟨hd, rfl⟩ := hd
  intro E A p l e R s m args below meth c cells slots Q B hK H locs ls hS hW hl
  obtain ⟨hx, hb, hml, hown, hts, hKK, hCO, hEO, hsz, hnA, hrt, hlk', hfr, hlo, hce, hsl⟩ := id B
  exact vk_getf hx hb (hCO.2.2.2.2.2.2.1.1 j hj).2.1 hS hown (hts _ hw) (fun _ h9 => h9) hd (k E A p l e R s m args below meth c cells slots Q B hK H locs ls hS hW hl)
theorem r_bldT {i : Int32} {j : Nat} (hj : j < 2) (hd : Ins Y.2.1 pc (.baload) 1 nx) (hi : vp_in i (([9, 3] : List Nat).getD j 0)) (k : Aw d Y K nx L (.int ((([cLE, cRU] : List (List Int32)).getD j []).getD i.toNatClampNeg 0) :: S) h) : Aw d Y K pc L (.int i :: .ref (66 + j) :: S) h := by
  obtain ⟨hd, rfl⟩ := hd
  intro E A p l e R s m args below meth c cells slots Q B hK H locs ls hS hW hl
  exact va_tb B.1 B.2.1 (B.2.2.2.2.2.2.1.2.2.2.2.2.2.1.1 j hj).2.2.2 hS hi rfl hd (k E A p l e R s m args below meth c cells slots Q B hK H locs ls hS hW hl)
theorem r_alenT {j : Nat} {v : Int32} (hj : j < 2) (hd : Ins Y.2.1 pc (.arraylength) 1 nx) (hv : Int32.ofNat (([9, 3] : List Nat).getD j 0) = v) (k : Aw d Y K nx L (.int v :: S) h) : Aw d Y K pc L (.ref (66 + j) :: S) h := by
  obtain ⟨hd, rfl⟩ := hd
  intro E A p l e R s m args below meth c cells slots Q B hK H locs ls hS hW hl
  exact va_tlen B.1 B.2.1 (B.2.2.2.2.2.2.1.2.2.2.2.2.2.1.1 j hj).2.2.2 hS hv hd (k E A p l e R s m args below meth c cells slots Q B hK H locs ls hS hW hl)
-- the script
theorem r_ildX {i : Int32} (hd : Ins Y.2.1 pc (.iaload) 1 nx) (hi : vp_in i (h.1 69 0).toNatClampNeg) (k : Aw d Y K nx L (.int (h.1 68 i.toNatClampNeg) :: S) h) : Aw d Y K pc L (.int i :: .ref 68 :: S) h := by
  obtain ⟨hd, rfl⟩ := hd
  intro E A p l e R s m args below meth c cells slots Q B hK H locs ls hS hW hl
  obtain ⟨hx, hb, hml, hown, hts, hKK, hCO, hEO, hsz, hnA, hrt, hlk', hfr, hlo, hce, hsl⟩ := id B
  have hX0 : va_X (E.2.1 68) (h.1 69 0).toNatClampNeg (h.1 68) s s.heap := hW.2.kept (hS.2.1 _ hsz hnA).symm
  exact va_sld hx hb hX0 hsz hnA hS hi hd (k E A p l e R s m args below meth c cells slots Q B hK H locs ls hS hW hl)
theorem r_alenX {v : Int32} (hd : Ins Y.2.1 pc (.arraylength) 1 nx) (hv : Int32.ofNat (h.1 69 0).toNatClampNeg = v) (k : Aw d Y K nx L (.int v :: S) h) : Aw d Y K pc L (.ref 68 :: S) h := by
  obtain ⟨hd, rfl⟩ := hd
  subst hv
  intro E A p l e R s m args below meth c cells slots Q B hK H locs ls hS hW hl
  obtain ⟨hx, hb, hml, hown, hts, hKK, hCO, hEO, hsz, hnA, hrt, hlk', hfr, hlo, hce, hsl⟩ := id B
  have hX0 : va_X (E.2.1 68) (h.1 69 0).toNatClampNeg (h.1 68) s s.heap := hW.2.kept (hS.2.1 _ hsz hnA).symm
  exact va_slen hx hb hX0 hsz hnA hS hd (k E A p l e R s m args below meth c cells slots Q B hK H locs ls hS hW hl)
end CALL
