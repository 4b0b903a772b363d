/-! a constructor's contract, and its call -/
def rmC (d mc ms : Nat) : Room := { frames := d, cells := mc, slots := ms, locals := 38 * d }
/-- on an object x0, fresh: behind it the world w, of the form F -/
def Ctor (Y : MY) (d mc ms : Nat) (x0 : va_E) (N : State → Prop) (F : En → Nat → va_W → Prop) : Prop :=
  ∀ (l : Launch) (E : En) (h0 sz : Nat), Met l Y.1 (wsY Y) (rmC d mc ms) (va_Pc [.ref h0] (fun U => U.heap.size = sz ∧ va_P E.1 vwCl [(h0, x0)] U.heap ∧ va_K E.1 vwCl (tyE E) U ∧ N U)) (va_Qv (fun w : va_W => F E h0 w) (fun w t => va_P E.1 vwCl w t.heap ∧ va_D (va_A [(h0, x0)] sz) w) (va_A [(h0, x0)] sz)) mc ms (va_A [(h0, x0)] sz)
/-- where the body ends well -/
def CEnd (p : Program) (l : Launch) (e : Env) (R : Room) (s : State) (m : MethodId) (args : Array Value) (below : List Frame) (meth : Method) (c : Code) (Y : MY) (E : En) (A : Nat → Prop) (F : En → Nat → va_W → Prop) (h0 mc ms : Nat) (Q : State → Prop) : Prop :=
  ∀ (H : Heap) (locs : List Loc) (pc nx : Nat) (ls : Array Slot) (w : va_W) (cells slots : Nat), Ins Y.2.1 pc (.return_) 1 nx → va_S A s.heap H locs → va_P E.1 vwCl w H → va_D A w → F E h0 w → cells ≤ mc → slots ≤ ms → W p l e R s m args below meth c H locs cells slots Q (F0 m pc ls [])
theorem ctor_of {Y : MY} {d mc ms : Nat} {x0 : va_E} {N : State → Prop} {F : En → Nat → va_W → Prop} (hm : MM Y 0) (hn : Y.1.name = "<init>") (hr : Y.2.2.2 = none) (hL : 1 ≤ Y.2.2.1)
    (k : ∀ (p : Program) (l : Launch) (e : Env) (s : State) (m : MethodId) (args : Array Value) (below : List Frame) (meth : Method) (c : Code) (E : En) (A : Nat → Prop) (h0 : Nat) (Q : State → Prop) (ls : Array Slot), Bc Y E A p s m args meth c → meth.name = "<init>" → N s → CEnd p l e (rmC d mc ms) s m args below meth c Y E A F h0 mc ms Q → lv_has ls Y.2.2.1 [(0, .ref h0)] → va_P E.1 vwCl [(h0, x0)] s.heap → va_D A [(h0, x0)] → va_S A s.heap s.heap [] → W p l e (rmC d mc ms) s m args below meth c s.heap [] 0 0 Q (F0 m 0 ls [])) : Ctor Y d mc ms x0 N F := by
  intro l E h0 sz
  refine Met.ofW (cc := Y.2.1) (maxL := Y.2.2.1) (ret := Y.2.2.2) hm.2.2.2.2 rfl ?_
  intro p e s m args below meth c s₁ B hml hv
  obtain ⟨rfl, hsz, hP, hK, hN⟩ := hv
  have hx := B.exec
  have hb := B.bytes
  have hret := B.returns
  have hts := atoms_spec (ws := wsY Y) B.pre
  have hown := findClass_of_methodNamed B.named
  have hlocks := B.notSynchronized
  have hin : meth.name = "<init>" := (name_of_methodNamed B.named B.method).1.trans hn
  subst hsz
  have hl := lv_entry ([.ref h0] : List Value) (n := Y.2.2.1) (by show 1 ≤ Y.2.2.1; exact hL)
  rw [lg_entry_eq]
  have hD : va_D (va_A [(h0, x0)] s.heap.size) [(h0, x0)] := by
    refine ⟨fun i j x y hx hy _ => ?_, fun k x hx => va_A.in hx⟩
    have hi : i < 1 := (List.getElem?_eq_some_iff.mp hx).1
    have hj : j < 1 := (List.getElem?_eq_some_iff.mp hy).1
    omega
  refine k p l e s m _ below meth c E (va_A [(h0, x0)] s.heap.size) h0 _ _ ⟨hx, hb, hml, hown, fun w hw => hts w (List.mem_cons_of_mem _ hw), hK, fun q h => Or.inr h⟩ hin hN ?_ hl hP hD va_S.rf
  intro H locs pc nx ls w cells slots hd hS hPw hDw hF hc hs
  refine W.widen (k := mc) (n := ms) hc hs ?_
  exact W.vret hx hb (hret.trans hr) (fun t ht hW => ⟨⟨w, rfl, hF, by rw [ht]; exact hPw, hDw⟩, hS.F ht⟩) hS.2.2 hd.1 hlocks
theorem ctor_blind {Y : MY} (E : En) (h0 sz : Nat) (x0 : va_E) {N : State → Prop} (hN : ∀ (U : State) (g : JFrame) (mk : MethodId) (a : Array Value), N U → N (U.calling g mk a)) : FrameBlind (va_Pc [.ref h0] (fun U => U.heap.size = sz ∧ va_P E.1 vwCl [(h0, x0)] U.heap ∧ va_K E.1 vwCl (tyE E) U ∧ N U)) := by
  intro a U g mk q
  obtain ⟨q0, q1, qP, qK, qN⟩ := q
  exact ⟨q0, q1, qP, va_K.moved (u := U) (U := U.calling g mk a) (Vm.Alike.refl U.vm) qK, hN U g mk a qN⟩
section CTC
variable {p : Program} {l : Launch} {e : Env} {R : Room} {s : State} {m : MethodId} {args : Array Value} {below : List Frame} {meth : Method} {c : Code} {H : Heap} {locs : List Loc} {cells slots : Nat} {Q : State → Prop}
variable {pc nx : Nat} {ls : Array Slot} {rest : List Value} {A : Nat → Prop} {ws : va_W} {Y : MY} {E : En}
/-- a nest mate's constructor -/
theorem k_iN {Y' : MY} {d mc ms i b qi : Nat} {x0 : va_E} {F : En → Nat → va_W → Prop} {isR : List Nat} {wr : va_W} {host : String} (B : Bc Y E A p s m args meth c) (hlk : va_Nw (.methodLinkNest Y.1.cls i Y'.1 host) s) (hm : MM Y' 0) (him : Cond.instanceMethod Y'.1 ∈ gt) (hnm : Y'.1.name = "<init>") (hret : Y'.2.2.2 = none) (hC : Ctor Y' d mc ms x0 (fun _ => True) F) (hfr : d + 1 ≤ R.frames) (hlo : 38 * d + 38 ≤ R.locals) (hc : cells + mc ≤ R.cells) (hs : slots + ms ≤ R.slots) (hP : va_P E.1 vwCl ws H) (hD : va_D A ws) (hS : va_S A s.heap H locs) (he : ws[qi]? = some (b, x0)) (hR : isR.map (fun i => ws[i]?) = wr.map some) (hnd : va_nd isR = true) (hdis : ∀ i ∈ isR, i ∉ [qi]) (hsz : ls.size = Y.2.2.1) (hr : (rest.map fun v => v.category).sum ≤ 8) (hd : Ins Y.2.1 pc (.invokespecial i) 3 nx) (kk : ∀ (w : va_W) (H1 : Heap) (locs1 : List Loc), F E b w → va_P E.1 vwCl (wr ++ w) H1 → va_D A (wr ++ w) → va_S A s.heap H1 locs1 → W p l e R s m args below meth c H1 locs1 (cells + mc) (slots + ms) Q (F0 m nx ls rest)) : W p l e R s m args below meth c H locs cells slots Q (F0 m pc ls (.ref b :: rest)) := by
  obtain ⟨hd, rfl⟩ := hd
  obtain ⟨hx, hb, hml, hown, hts, hK, hA⟩ := B
  obtain ⟨hcode, hini, hds, hmx, -⟩ := hm
  have hCC : [qi].map (fun i => ws[i]?) = [(b, x0)].map some := by rw [List.map_cons, he]; rfl
  have hPc : va_P E.1 vwCl [(b, x0)] H := hP.sub [qi] (by rw [List.filterMap_cons, he]; rfl)
  have hFc := va_free (wc := [(b, x0)]) hD hS hA [qi] hCC
  have hg := goodY hcode
  have hw : wsY Y' = Cond.code Y'.1 Y'.2.1 Y'.2.2.1 none :: gt := by unfold wsY; rw [hret]
  refine va_callv (A1 := va_A [(b, x0)] H.size) (va_runIN (As := []) (rest := rest) (n := 0) (Ts := gt) (bytes := Y'.2.1) (maxL := Y'.2.2.1) (host := host) ⟨hx, hb, hml, hown, hts⟩ (hC l E b H.size) ⟨va_cnB 0 hts hg hw rfl rfl hlk (hts _ hini) hds ⟨hfr, by show 8 + (Y'.2.2.1 + 11) + 38 * d ≤ R.locals; omega⟩, hnm, hts _ him⟩ ⟨ctor_blind (Y := Y') E b H.size x0 (fun _ _ _ _ h => h), fun U hU hW => ⟨rfl, by rw [hU], by rw [hU]; exact hPc, va_K.moved hW.alike hK, trivial⟩⟩ rfl rfl hsz rfl ?_ hd ⟨hc, hs⟩) hS (fun q _ h => hFc q h) hFc (fun u t H1 locs1 ht hvm hu hB hz1 hk1 hS1 => ?_)
  · show 2 * 0 + (rest.map fun v => v.category).sum ≤ 8
    omega
  · obtain ⟨hP1, hD1⟩ := hB
    rw [ht] at hP1
    obtain ⟨hP2, hD2⟩ := va_join (wr := wr) (w1 := u) hP hD [qi] isR hCC hR hnd hdis hk1 hFc hP1 hD1
    exact kk u H1 locs1 hu hP2 hD2 hS1
/-- a public constructor -/
theorem k_iP {Y' : MY} {d mc ms i b qi : Nat} {x0 : va_E} {N : State → Prop} {F : En → Nat → va_W → Prop} {isR : List Nat} {wr : va_W} (B : Bc Y E A p s m args meth c) (hlk : Cond.methodLink Y.1.cls i Y'.1 ∈ gt) (hm : MM Y' 0) (him : Cond.instanceMethod Y'.1 ∈ gt) (hnm : Y'.1.name = "<init>") (hret : Y'.2.2.2 = none) (hC : Ctor Y' d mc ms x0 N F) (hNb : ∀ (U : State) (g : JFrame) (mk : MethodId) (a : Array Value), N U → N (U.calling g mk a)) (hNw : ∀ U : State, s.WarmedH U.vm → N U) (hfr : d + 1 ≤ R.frames) (hlo : 38 * d + 38 ≤ R.locals) (hc : cells + mc ≤ R.cells) (hs : slots + ms ≤ R.slots) (hP : va_P E.1 vwCl ws H) (hD : va_D A ws) (hS : va_S A s.heap H locs) (he : ws[qi]? = some (b, x0)) (hR : isR.map (fun i => ws[i]?) = wr.map some) (hnd : va_nd isR = true) (hdis : ∀ i ∈ isR, i ∉ [qi]) (hsz : ls.size = Y.2.2.1) (hr : (rest.map fun v => v.category).sum ≤ 8) (hd : Ins Y.2.1 pc (.invokespecial i) 3 nx) (kk : ∀ (w : va_W) (H1 : Heap) (locs1 : List Loc), F E b w → va_P E.1 vwCl (wr ++ w) H1 → va_D A (wr ++ w) → va_S A s.heap H1 locs1 → W p l e R s m args below meth c H1 locs1 (cells + mc) (slots + ms) Q (F0 m nx ls rest)) : W p l e R s m args below meth c H locs cells slots Q (F0 m pc ls (.ref b :: rest)) := by
  obtain ⟨hd, rfl⟩ := hd
  obtain ⟨hx, hb, hml, hown, hts, hK, hA⟩ := B
  obtain ⟨hcode, hini, hds, hmx, -⟩ := hm
  have hCC : [qi].map (fun i => ws[i]?) = [(b, x0)].map some := by rw [List.map_cons, he]; rfl
  have hPc : va_P E.1 vwCl [(b, x0)] H := hP.sub [qi] (by rw [List.filterMap_cons, he]; rfl)
  have hFc := va_free (wc := [(b, x0)]) hD hS hA [qi] hCC
  have hg := goodY hcode
  have hw : wsY Y' = Cond.code Y'.1 Y'.2.1 Y'.2.2.1 none :: gt := by unfold wsY; rw [hret]
  refine va_callv (A1 := va_A [(b, x0)] H.size) (va_runI (As := []) (rest := rest) (n := 0) (Ts := gt) (bytes := Y'.2.1) (maxL := Y'.2.2.1) ⟨hx, hb, hml, hown, hts⟩ (hC l E b H.size) (cwI 0 hts hg hw rfl rfl (hts _ hini) (hts _ hlk) (hts _ him) hnm hds ⟨hfr, by show 8 + (Y'.2.2.1 + 11) + 38 * d ≤ R.locals; omega⟩) ⟨ctor_blind (Y := Y') E b H.size x0 hNb, fun U hU hW => ⟨rfl, by rw [hU], by rw [hU]; exact hPc, va_K.moved hW.alike hK, hNw U hW⟩⟩ rfl rfl hsz rfl ?_ hd ⟨hc, hs⟩) hS (fun q _ h => hFc q h) hFc (fun u t H1 locs1 ht hvm hu hB hz1 hk1 hS1 => ?_)
  · show 2 * 0 + (rest.map fun v => v.category).sum ≤ 8
    omega
  · obtain ⟨hP1, hD1⟩ := hB
    rw [ht] at hP1
    obtain ⟨hP2, hD2⟩ := va_join (wr := wr) (w1 := u) hP hD [qi] isR hCC hR hnd hdis hk1 hFc hP1 hD1
    exact kk u H1 locs1 hu hP2 hD2 hS1
end CTC
