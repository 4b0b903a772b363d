/-! steps of a constructor's body: a world that grows -/
/-- what a constructor's body stands on -/
def Bc (Y : MY) (E : En) (A : Nat → Prop) (p : Program) (s : State) (m : MethodId) (args : Array Value) (meth : Method) (c : Code) : Prop :=
  p.tables.exec = Jvm.exec ∧ c.code = Y.2.1 ∧ c.maxLocals = Y.2.2.1 ∧ s.vm.findClass Y.1.cls = some m.cls ∧ (∀ w ∈ gt, w.before args s = true) ∧ va_K E.1 vwCl (tyE E) s ∧ ∀ q, s.heap.size ≤ q → A q
section CTS
variable {p : Program} {l : Launch} {e : Env} {R : Room} {s : State} {m : MethodId} {args : Array Value} {below : List Frame} {meth : Method} {c : Code} {H : Heap} {locs : List Loc} {cells slots : Nat} {Q : State → Prop}
variable {pc nx : Nat} {ls : Array Slot} {rest : List Value} {A : Nat → Prop} {ws : va_W} {Y : MY} {E : En}
theorem k_al {k : Fin 4} {i x : Nat} (B : Bc Y E A p s m args meth c) (hd : Ins Y.2.1 pc (.aload_n k) 1 nx) (hi : (k : Nat) = i) (hl : ls[i]? = some (.val (.ref x))) (kk : W p l e R s m args below meth c H locs cells slots Q (F0 m nx ls (.ref x :: rest))) : W p l e R s m args below meth c H locs cells slots Q (F0 m pc ls rest) := by
  obtain ⟨hd, rfl⟩ := hd
  exact lv_aload_n B.1 B.2.1 hd hi hl kk
theorem k_il {k : Fin 4} {i : Nat} {x : Int32} (B : Bc Y E A p s m args meth c) (hd : Ins Y.2.1 pc (.iload_n k) 1 nx) (hi : (k : Nat) = i) (hl : ls[i]? = some (.val (.int x))) (kk : W p l e R s m args below meth c H locs cells slots Q (F0 m nx ls (.int x :: rest))) : W p l e R s m args below meth c H locs cells slots Q (F0 m pc ls rest) := by
  obtain ⟨hd, rfl⟩ := hd
  exact lv_iload_n B.1 B.2.1 hd hi hl kk
theorem k_ic {n : Int} {v : Int32} (B : Bc Y E A p s m args meth c) (hd : Ins Y.2.1 pc (.iconst n) 1 nx) (hv : Int32.ofInt n = v) (kk : W p l e R s m args below meth c H locs cells slots Q (F0 m nx ls (.int v :: rest))) : W p l e R s m args below meth c H locs cells slots Q (F0 m pc ls rest) := by
  obtain ⟨hd, rfl⟩ := hd
  exact lv_iconst B.1 B.2.1 hd hv kk
theorem k_bp {n : Int} {v : Int32} (B : Bc Y E A p s m args meth c) (hd : Ins Y.2.1 pc (.bipush n) 2 nx) (hv : (Int8.ofInt n).toInt32 = v) (kk : W p l e R s m args below meth c H locs cells slots Q (F0 m nx ls (.int v :: rest))) : W p l e R s m args below meth c H locs cells slots Q (F0 m pc ls rest) := by
  obtain ⟨hd, rfl⟩ := hd
  exact lv_bipush B.1 B.2.1 hd hv kk
theorem k_sp {n : Int} {v : Int32} (B : Bc Y E A p s m args meth c) (hd : Ins Y.2.1 pc (.sipush n) 3 nx) (hv : (Int16.ofInt n).toInt32 = v) (kk : W p l e R s m args below meth c H locs cells slots Q (F0 m nx ls (.int v :: rest))) : W p l e R s m args below meth c H locs cells slots Q (F0 m pc ls rest) := by
  obtain ⟨hd, rfl⟩ := hd
  exact lv_sipush B.1 B.2.1 hd hv kk
theorem k_dup {x : Nat} (B : Bc Y E A p s m args meth c) (hd : Ins Y.2.1 pc (.dup) 1 nx) (kk : W p l e R s m args below meth c H locs cells slots Q (F0 m nx ls (.ref x :: .ref x :: rest))) : W p l e R s m args below meth c H locs cells slots Q (F0 m pc ls (.ref x :: rest)) := by
  obtain ⟨hd, rfl⟩ := hd
  exact lv_dup B.1 B.2.1 hd rfl kk
theorem k_go {off : Int} {tgt : Nat} (B : Bc Y E A p s m args meth c) (hd : Ins Y.2.1 pc (.goto off) 3 nx) (ht : (pc : Int) + off = (tgt : Int)) (kk : W p l e R s m args below meth c H locs cells slots Q (F0 m tgt ls rest)) : W p l e R s m args below meth c H locs cells slots Q (F0 m pc ls rest) := lv_goto B.1 B.2.1 hd.1 ht kk
theorem k_geF {x y : Int32} {off : Int} {tgt : Nat} (B : Bc Y E A p s m args meth c) (hd : Ins Y.2.1 pc (.if_icmp .ge off) 3 nx) (ht : (pc : Int) + off = (tgt : Int)) (h : ¬ y ≤ x) (kk : W p l e R s m args below meth c H locs cells slots Q (F0 m nx ls rest)) : W p l e R s m args below meth c H locs cells slots Q (F0 m pc ls (.int y :: .int x :: rest)) := by
  obtain ⟨hd, rfl⟩ := hd
  exact lv_icmp_ge B.1 B.2.1 hd ht (fun q => absurd q h) (fun _ => kk)
theorem k_geT {x y : Int32} {off : Int} {tgt : Nat} (B : Bc Y E A p s m args meth c) (hd : Ins Y.2.1 pc (.if_icmp .ge off) 3 nx) (ht : (pc : Int) + off = (tgt : Int)) (h : y ≤ x) (kk : W p l e R s m args below meth c H locs cells slots Q (F0 m tgt ls rest)) : W p l e R s m args below meth c H locs cells slots Q (F0 m pc ls (.int y :: .int x :: rest)) := lv_icmp_ge B.1 B.2.1 hd.1 ht (fun _ => kk) (fun q => absurd h q)
theorem k_is {k : Fin 4} {i nL : Nat} {x : Int32} {lv lv' : List (Nat × Value)} (B : Bc Y E A p s m args meth c) (hd : Ins Y.2.1 pc (.istore_n k) 1 nx) (hi : (k : Nat) = i) (h : lv_has ls nL lv) (hn : i < nL) (hl : (i, Value.int x) :: lv.filter (fun q => !(q.1 == i) && !(q.1 + 1 == i && q.2.category == 2)) = lv') (kk : ∀ ls' : Array Slot, lv_has ls' nL lv' → W p l e R s m args below meth c H locs cells slots Q (F0 m nx ls' rest)) : W p l e R s m args below meth c H locs cells slots Q (F0 m pc ls (.int x :: rest)) := by
  obtain ⟨hd, rfl⟩ := hd
  exact lv_istore_n B.1 B.2.1 hd hi h hn hl kk
theorem k_as {k : Fin 4} {i nL x : Nat} {lv lv' : List (Nat × Value)} (B : Bc Y E A p s m args meth c) (hd : Ins Y.2.1 pc (.astore_n k) 1 nx) (hi : (k : Nat) = i) (h : lv_has ls nL lv) (hn : i < nL) (hl : (i, Value.ref x) :: lv.filter (fun q => !(q.1 == i) && !(q.1 + 1 == i && q.2.category == 2)) = lv') (kk : ∀ ls' : Array Slot, lv_has ls' nL lv' → W p l e R s m args below meth c H locs cells slots Q (F0 m nx ls' rest)) : W p l e R s m args below meth c H locs cells slots Q (F0 m pc ls (.ref x :: rest)) := by
  obtain ⟨hd, rfl⟩ := hd
  exact lv_astore_n B.1 B.2.1 hd hi h hn hl kk
theorem k_ii {i nL k : Nat} {n : Int} {x v : Int32} {lv lv' : List (Nat × Value)} (B : Bc Y E A p s m args meth c) (hd : Ins Y.2.1 pc (.iinc i n) 3 nx) (h : lv_has ls nL lv) (hk : lv[k]? = some (i, .int x)) (hv : x + Int32.ofInt n = v) (hn : i < nL) (hl : (i, Value.int v) :: lv.filter (fun q => !(q.1 == i) && !(q.1 + 1 == i && q.2.category == 2)) = lv') (kk : ∀ ls' : Array Slot, lv_has ls' nL lv' → W p l e R s m args below meth c H locs cells slots Q (F0 m nx ls' rest)) : W p l e R s m args below meth c H locs cells slots Q (F0 m pc ls rest) := by
  obtain ⟨hd, rfl⟩ := hd
  exact lv_iinc B.1 B.2.1 hd h hk hv hn hl kk
theorem k_obj {a idx : Nat} (B : Bc Y E A p s m args meth c) (hlk : Cond.methodLink Y.1.cls idx Lib.objectInit ∈ gt) (hsz : ls.size = Y.2.2.1) (hfr : 1 ≤ R.frames) (hlo : 12 + (rest.map fun v => v.category).sum ≤ R.locals) (hd : Ins Y.2.1 pc (.invokespecial idx) 3 nx) (kk : W p l e R s m args below meth c H locs cells slots Q (F0 m nx ls rest)) : W p l e R s m args below meth c H locs cells slots Q (F0 m pc ls (.ref a :: rest)) := by
  obtain ⟨hd, rfl⟩ := hd
  obtain ⟨hx, hb, hml, hown, hts, hK, hA⟩ := B
  refine W.objInit hx hb hown (hts _ hlk) (hts _ oi_im) (hts _ oi_cd) rfl (by rw [hml]; exact hsz) rfl hd hfr ?_ kk
  show 2 * 0 + (rest.map fun v => v.category).sum + 12 ≤ R.locals
  omega
theorem k_putF {i ci k a x q0 : Nat} {ty : FieldType} {fs : List Value} (B : Bc Y E A p s m args meth c) (hin2 : meth.name = "<init>") (hf : FF Y.1.cls i ci k ty) (hP : va_P E.1 vwCl ws H) (hD : va_D A ws) (hS : va_S A s.heap H locs) (he : ws[q0]? = some (a, .inr (ci, fs))) (hn : narrow ty (.ref x) = .ref x) (hfit : fits ty (.ref x) = true) (hl : k < fs.length) (hd : Ins Y.2.1 pc (.putfield i) 3 nx) (kk : ∀ (H1 : Heap) (locs1 : List Loc), va_P E.1 vwCl (ws.set q0 (a, .inr (ci, fs.set k (.ref x)))) H1 → va_D A (ws.set q0 (a, .inr (ci, fs.set k (.ref x)))) → va_S A s.heap H1 locs1 → W p l e R s m args below meth c H1 locs1 cells slots Q (F0 m nx ls rest)) : W p l e R s m args below meth c H locs cells slots Q (F0 m pc ls (.ref x :: .ref a :: rest)) := by
  obtain ⟨hd, rfl⟩ := hd
  obtain ⟨hx, hb, hml, hown, hts, hK, hA⟩ := B
  obtain ⟨C, T, N, hc, hkN, hw, hfin, hdecl, hty⟩ := hf
  obtain ⟨hin, ty0, hty0, hnm⟩ := clw hc
  exact va_putF (D := E.1) hx hb hts hin ty0 hty0 hnm hown hK hP hD hS q0 he hc k hkN (hts _ hw) (fun _ h9 => h9) hfin hin2 hdecl hty hn hfit hl hd kk
theorem k_putI {i ci k a q0 : Nat} {ty : FieldType} {fs : List Value} {x : Int32} (B : Bc Y E A p s m args meth c) (hf : FW Y.1.cls i ci k ty) (hP : va_P E.1 vwCl ws H) (hD : va_D A ws) (hS : va_S A s.heap H locs) (he : ws[q0]? = some (a, .inr (ci, fs))) (hn : narrow ty (.int x) = .int x) (hfit : fits ty (.int x) = true) (hl : k < fs.length) (hd : Ins Y.2.1 pc (.putfield i) 3 nx) (kk : ∀ (H1 : Heap) (locs1 : List Loc), va_P E.1 vwCl (ws.set q0 (a, .inr (ci, fs.set k (.int x)))) H1 → va_D A (ws.set q0 (a, .inr (ci, fs.set k (.int x)))) → va_S A s.heap H1 locs1 → W p l e R s m args below meth c H1 locs1 cells slots Q (F0 m nx ls rest)) : W p l e R s m args below meth c H locs cells slots Q (F0 m pc ls (.int x :: .ref a :: rest)) := by
  obtain ⟨hd, rfl⟩ := hd
  obtain ⟨hx, hb, hml, hown, hts, hK, hA⟩ := B
  obtain ⟨C, T, N, hc, hkN, hw, hfin, hty⟩ := hf
  obtain ⟨hin, ty0, hty0, hnm⟩ := clw hc
  exact va_put (D := E.1) hx hb hts hin ty0 hty0 hnm hown hK hP hD hS q0 he hc k hkN (hts _ hw) (fun _ h9 => h9) hfin hty hn hfit hl hd kk
theorem k_get {i ci k a q0 : Nat} {fs : List Value} {v : Value} (B : Bc Y E A p s m args meth c) (hf : FL Y.1.cls i ci k) (hP : va_P E.1 vwCl ws H) (he : ws[q0]? = some (a, .inr (ci, fs))) (hv : fs[k]? = some v) (hd : Ins Y.2.1 pc (.getfield i) 3 nx) (kk : W p l e R s m args below meth c H locs cells slots Q (F0 m nx ls (v :: rest))) : W p l e R s m args below meth c H locs cells slots Q (F0 m pc ls (.ref a :: rest)) := by
  obtain ⟨hd, rfl⟩ := hd
  obtain ⟨hx, hb, hml, hown, hts, hK, hA⟩ := B
  obtain ⟨C, T, N, hc, hkN, hw⟩ := hf
  exact va_get (D := E.1) hx hb hts (clw hc).1 hown hK hP q0 he hc k hkN (hts _ hw) (fun _ h9 => h9) hv hd kk
theorem k_newI {n : Int32} {N : Nat} (B : Bc Y E A p s m args meth c) (hP : va_P E.1 vwCl ws H) (hD : va_D A ws) (hS : va_S A s.heap H locs) (hn : ¬ n < 0) (hN : n.toNatClampNeg = N) (h4 : N ≤ 100000) (hc : cells + 1 ≤ R.cells) (hs : slots + N ≤ R.slots) (hd : Ins Y.2.1 pc (.newarray .int) 2 nx) (kk : ∀ (q : Nat) (H1 : Heap), va_P E.1 vwCl (ws ++ [(q, .inl (E.2.2 0, N, .inl (fun _ => 0)))]) H1 → va_D A (ws ++ [(q, .inl (E.2.2 0, N, .inl (fun _ => 0)))]) → va_S A s.heap H1 locs → W p l e R s m args below meth c H1 locs (cells + 1) (slots + N) Q (F0 m nx ls (.ref q :: rest))) : W p l e R s m args below meth c H locs cells slots Q (F0 m pc ls (.int n :: rest)) := by
  obtain ⟨hd, rfl⟩ := hd
  obtain ⟨hx, hb, hml, hown, hts, hK, hA⟩ := B
  refine va_newa (atype := .int) (ty := .int) (a0 := (N, .inl (fun _ => 0))) hx hb (hts _ ac_I) rfl hK hP hD hS hA (fun _ => rfl) hn hN (by show N * 4 ≤ _; omega) hc hs hd (fun q cA H1 hK1 hP1 hD1 hS1 => ?_)
  have e1 : s.vm.findClass "[I" = some cA := (hK1.2 4 (cA, .int) rfl).2
  have e2 : s.vm.findClass "[I" = some (E.2.2 0) := (hK.2 0 _ rfl).2
  have e : cA = E.2.2 0 := Option.some.inj (e1.symm.trans e2)
  subst e
  exact kk q H1 hP1 hD1 hS1
theorem k_newJ {n : Int32} {N : Nat} (B : Bc Y E A p s m args meth c) (hP : va_P E.1 vwCl ws H) (hD : va_D A ws) (hS : va_S A s.heap H locs) (hn : ¬ n < 0) (hN : n.toNatClampNeg = N) (h4 : N ≤ 100000) (hc : cells + 1 ≤ R.cells) (hs : slots + N ≤ R.slots) (hd : Ins Y.2.1 pc (.newarray .long) 2 nx) (kk : ∀ (q : Nat) (H1 : Heap), va_P E.1 vwCl (ws ++ [(q, .inl (E.2.2 1, N, .inr (.inl (fun _ => 0))))]) H1 → va_D A (ws ++ [(q, .inl (E.2.2 1, N, .inr (.inl (fun _ => 0))))]) → va_S A s.heap H1 locs → W p l e R s m args below meth c H1 locs (cells + 1) (slots + N) Q (F0 m nx ls (.ref q :: rest))) : W p l e R s m args below meth c H locs cells slots Q (F0 m pc ls (.int n :: rest)) := by
  obtain ⟨hd, rfl⟩ := hd
  obtain ⟨hx, hb, hml, hown, hts, hK, hA⟩ := B
  refine va_newa (atype := .long) (ty := .long) (a0 := (N, .inr (.inl (fun _ => 0)))) hx hb (hts _ ac_J) rfl hK hP hD hS hA (fun _ => rfl) hn hN (by show N * 8 ≤ _; omega) hc hs hd (fun q cA H1 hK1 hP1 hD1 hS1 => ?_)
  have e1 : s.vm.findClass "[J" = some cA := (hK1.2 4 (cA, .long) rfl).2
  have e2 : s.vm.findClass "[J" = some (E.2.2 1) := (hK.2 1 _ rfl).2
  have e : cA = E.2.2 1 := Option.some.inj (e1.symm.trans e2)
  subst e
  exact kk q H1 hP1 hD1 hS1
theorem k_newZ {n : Int32} {N : Nat} (B : Bc Y E A p s m args meth c) (hP : va_P E.1 vwCl ws H) (hD : va_D A ws) (hS : va_S A s.heap H locs) (hn : ¬ n < 0) (hN : n.toNatClampNeg = N) (h4 : N ≤ 100000) (hc : cells + 1 ≤ R.cells) (hs : slots + N ≤ R.slots) (hd : Ins Y.2.1 pc (.newarray .boolean) 2 nx) (kk : ∀ (q : Nat) (H1 : Heap), va_P E.1 vwCl (ws ++ [(q, .inl (E.2.2 2, N, .inl (fun _ => 0)))]) H1 → va_D A (ws ++ [(q, .inl (E.2.2 2, N, .inl (fun _ => 0)))]) → va_S A s.heap H1 locs → W p l e R s m args below meth c H1 locs (cells + 1) (slots + N) Q (F0 m nx ls (.ref q :: rest))) : W p l e R s m args below meth c H locs cells slots Q (F0 m pc ls (.int n :: rest)) := by
  obtain ⟨hd, rfl⟩ := hd
  obtain ⟨hx, hb, hml, hown, hts, hK, hA⟩ := B
  refine va_newa (atype := .boolean) (ty := .boolean) (a0 := (N, .inl (fun _ => 0))) hx hb (hts _ ac_Z) rfl hK hP hD hS hA (fun _ => rfl) hn hN (by show N * 1 ≤ _; omega) hc hs hd (fun q cA H1 hK1 hP1 hD1 hS1 => ?_)
  have e1 : s.vm.findClass "[Z" = some cA := (hK1.2 4 (cA, .boolean) rfl).2
  have e2 : s.vm.findClass "[Z" = some (E.2.2 2) := (hK.2 2 _ rfl).2
  have e : cA = E.2.2 2 := Option.some.inj (e1.symm.trans e2)
  subst e
  exact kk q H1 hP1 hD1 hS1
theorem k_newS {n : Int32} {N i : Nat} (B : Bc Y E A p s m args meth c) (hY : Y.1.cls = RX8) (hlk : Cond.classLink RX8 i RX6 ∈ gt) (hao : va_AO RX6 s) (hP : va_P E.1 vwCl ws H) (hD : va_D A ws) (hS : va_S A s.heap H locs) (hn : ¬ n < 0) (hN : n.toNatClampNeg = N) (h4 : N ≤ 100000) (hc : cells + 1 ≤ R.cells) (hs : slots + N ≤ R.slots) (hd : Ins Y.2.1 pc (.anewarray i) 3 nx) (kk : ∀ (q : Nat) (H1 : Heap), va_P E.1 vwCl (ws ++ [(q, .inl (E.2.2 3, N, .inr (.inr (.inr (.inr (fun _ => none))))))]) H1 → va_D A (ws ++ [(q, .inl (E.2.2 3, N, .inr (.inr (.inr (.inr (fun _ => none))))))]) → va_S A s.heap H1 locs → W p l e R s m args below meth c H1 locs (cells + 1) (slots + N) Q (F0 m nx ls (.ref q :: rest))) : W p l e R s m args below meth c H locs cells slots Q (F0 m pc ls (.int n :: rest)) := by
  obtain ⟨hd, rfl⟩ := hd
  obtain ⟨hx, hb, hml, hown, hts, hK, hA⟩ := B
  rw [hY] at hown
  refine va_newq (C := RX6) hx hb hown (hts _ hlk) hao hK hP hD hS hA hn hN (by omega) hc hs hd (fun q cA H1 hK1 hP1 hD1 hS1 => ?_)
  obtain ⟨_, _, _, _, _, e1⟩ := (hK1.2 4 (cA, .object RX6) rfl).2
  obtain ⟨_, _, _, _, _, e2⟩ := (hK.2 3 _ rfl).2
  have e : cA = E.2.2 3 := Option.some.inj (e1.symm.trans e2)
  subst e
  exact kk q H1 hP1 hD1 hS1
theorem k_new {C : String} {T : u_T} {N ci i : Nat} {fs : List Value} (B : Bc Y E A p s m args meth c) (hc : vwCl[ci]? = some (C, T, N)) (ty : Nat → FieldType) (hty : ∀ k, k < N → parseFieldDescriptor (T k).2.2.1 = some (ty k)) (hlk : Cond.classLink Y.1.cls i C ∈ gt) (hins : Cond.instantiable C N ∈ gt) (hini : Cond.initialized C ∈ gt) (hfs : ∀ j, j < N → defaultValue (ty j) = vp_V fs j) (hP : va_P E.1 vwCl ws H) (hD : va_D A ws) (hS : va_S A s.heap H locs) (hc1 : cells + 1 ≤ R.cells) (hs : slots + N ≤ R.slots) (hd : Ins Y.2.1 pc (.new i) 3 nx) (kk : ∀ (q : Nat) (H1 : Heap), va_P E.1 vwCl (ws ++ [(q, .inr (ci, fs))]) H1 → va_D A (ws ++ [(q, .inr (ci, fs))]) → va_S A s.heap H1 locs → W p l e R s m args below meth c H1 locs (cells + 1) (slots + N) Q (F0 m nx ls (.ref q :: rest))) : W p l e R s m args below meth c H locs cells slots Q (F0 m pc ls rest) := by
  obtain ⟨hd, rfl⟩ := hd
  obtain ⟨hx, hb, hml, hown, hts, hK, hA⟩ := B
  exact va_new hx hb hts (clw hc).1 ty hty hown (hts _ hlk) (hts _ hins) (hts _ hini) hK hP hD hS hA hc hfs hc1 hs hd kk
theorem k_iast {n q0 a : Nat} {f : Nat → Int32} {i x : Int32} (B : Bc Y E A p s m args meth c) (hP : va_P E.1 vwCl ws H) (hD : va_D A ws) (hS : va_S A s.heap H locs) (ha : ws[q0]? = some (a, .inl (E.2.2 0, n, .inl f))) (hin : vp_in i n) (hd : Ins Y.2.1 pc (.iastore) 1 nx) (kk : ∀ (H1 : Heap) (locs1 : List Loc), va_P E.1 vwCl (ws.set q0 (a, .inl (E.2.2 0, n, .inl (upd f i.toNatClampNeg x)))) H1 → va_D A (ws.set q0 (a, .inl (E.2.2 0, n, .inl (upd f i.toNatClampNeg x)))) → va_S A s.heap H1 locs1 → W p l e R s m args below meth c H1 locs1 cells slots Q (F0 m nx ls rest)) : W p l e R s m args below meth c H locs cells slots Q (F0 m pc ls (.int x :: .int i :: .ref a :: rest)) := by
  obtain ⟨hd, rfl⟩ := hd
  obtain ⟨hx, hb, hml, hown, hts, hK, hA⟩ := B
  exact va_iast hx hb hK hP hD hS q0 0 ha rfl hin hd kk
theorem k_aast {n q0 qk a v : Nat} {f : Nat → Option Nat} {i : Int32} {vs : List Value} (B : Bc Y E A p s m args meth c) (hP : va_P E.1 vwCl ws H) (hD : va_D A ws) (hS : va_S A s.heap H locs) (ha : ws[q0]? = some (a, .inl (E.2.2 3, n, .inr (.inr (.inr (.inr f)))))) (hv : ws[qk]? = some (v, .inr (5, vs))) (hin : vp_in i n) (hd : Ins Y.2.1 pc (.aastore) 1 nx) (kk : ∀ (H1 : Heap) (locs1 : List Loc), va_P E.1 vwCl (ws.set q0 (a, .inl (E.2.2 3, n, .inr (.inr (.inr (.inr (va_up f i.toNatClampNeg (some v)))))))) H1 → va_D A (ws.set q0 (a, .inl (E.2.2 3, n, .inr (.inr (.inr (.inr (va_up f i.toNatClampNeg (some v)))))))) → va_S A s.heap H1 locs1 → W p l e R s m args below meth c H1 locs1 cells slots Q (F0 m nx ls rest)) : W p l e R s m args below meth c H locs cells slots Q (F0 m pc ls (.ref v :: .int i :: .ref a :: rest)) := by
  obtain ⟨hd, rfl⟩ := hd
  obtain ⟨hx, hb, hml, hown, hts, hK, hA⟩ := B
  exact va_astq (r := (RX6, TX6, 4)) hx hb hK hP hD hS q0 3 qk 5 ha rfl hv rfl hin hd kk
end CTS
