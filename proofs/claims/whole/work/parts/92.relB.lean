/-! text and rows, as each side holds them -/
theorem rdT_at {G : CT → Option Nat × CT} {bt : Nat → Nat} {n i : Nat} {R : Bool × CT} {a : Nat} (h1 : cAt R.2 ≤ a) (hG : ∀ c, cAt c ≤ a + 1 → cAt (G c).2 ≤ 200) (ha : a ≤ 150) : cAt (rdT G bt n i R).2 ≤ 200 := by
  have h2 := skF_at (bt := bt) (n := n) (ch := 59) (c := R.2)
  unfold rdT
  repeat' split
  · dsimp only; omega
  · dsimp only; omega
  · dsimp only; omega
  · dsimp only; omega
  · exact hG _ (by omega)
theorem rdL_at (bt : Nat → Nat) (n : Nat) : ∀ f i c, i + f = 10 → cAt c ≤ 9 * i → cAt (rdL bt n f i c).2 ≤ 200 := by
  intro f
  induction f with
  | zero => intro i c h1 h2; show cAt c ≤ 200; omega
  | succ f ih =>
    intro i c h1 h2
    have := rcF_at (bt := bt) (n := n) (i := i) (c := c)
    rw [rdL_st]
    exact rdT_at (a := 9 * i + 8) (by omega) (fun d hd => ih (i + 1) d (by omega) (by omega)) (by omega)
theorem rd_at (bt : Nat → Nat) (ln : Nat) : cAt (RDg bt ln).2 ≤ 200 := by
  unfold RDg rdR
  split
  · exact (by decide : cAt ZC ≤ 200)
  · exact rdL_at bt ln 10 0 ZC rfl (by decide)
theorem rFl_some {bt : Nat → Nat} {ln k : Nat} (h : (RDg bt ln).1 = some k) : rFl (RDg bt ln) = -1 := by
  unfold rFl
  rw [h]
theorem rFl_none {bt : Nat → Nat} {ln : Nat} (h : (RDg bt ln).1 = none) : ¬ rFl (RDg bt ln) = -1 := by
  have := rd_at bt ln
  unfold rFl
  rw [h]
  exact nI_nm1 (by omega)
theorem rFl_RQ {x y : Option Nat × CT} (h : RQ x y) : rFl x = rFl y := by
  obtain ⟨h1, h2, _⟩ := h
  unfold rFl
  rw [h1, h2]
theorem g_ok {bt : Nat → Nat} {ln k : Nat} (h : (RDg bt ln).1 = some k) : k ≤ 10 ∧ ∀ i, i < k → (RDg bt ln).2.1 i = nI (gK bt ln i) ∧ gK bt ln i ≤ 8 ∧ (RDg bt ln).2.2.2.2.1 i = nI (gB bt ln i) ∧ gB bt ln i ≤ 2 ∧ (4 ≤ gK bt ln i → (RDg bt ln).2.2.1 i = nI (gM bt ln i) ∧ gM bt ln i < 7) ∧ (gK bt ln i ≤ 5 → (RDg bt ln).2.2.2.1 i = nI (gN bt ln i) ∧ gN bt ln i < 10000) ∧ (gK bt ln i ≤ 3 → gN bt ln i + 1 ≤ 100 * 10 ^ gB bt ln i) ∧ (gR bt ln i = 0 ∨ gR bt ln i = 1 ∨ gR bt ln i = 2) := by
  obtain ⟨k10, cl⟩ := rdR_ClO bt ln ZC h
  refine ⟨k10, fun i hi => ?_⟩
  obtain ⟨kd, mk, v, bh, h1, h2, h3, h4, h5, h6, h7, h8⟩ := cl i hi
  have h1 : (RDg bt ln).2.1 i = nI kd := h1
  have h3 : (RDg bt ln).2.2.2.2.1 i = nI bh := h3
  have eK : gK bt ln i = kd := by unfold gK; rw [h1, nI_clamp (by omega)]
  have eB : gB bt ln i = bh := by unfold gB; rw [h3, nI_clamp (by omega)]
  have h5 : 4 ≤ kd → (RDg bt ln).2.2.1 i = nI mk ∧ mk < 7 := h5
  have h6 : kd ≤ 5 → (RDg bt ln).2.2.2.1 i = nI v ∧ v < 10000 := h6
  have eM : 4 ≤ kd → gM bt ln i = mk := fun q => by unfold gM; rw [(h5 q).1, nI_clamp (by have := (h5 q).2; omega)]
  have eN : kd ≤ 5 → gN bt ln i = v := fun q => by unfold gN; rw [(h6 q).1, nI_clamp (by have := (h6 q).2; omega)]
  rw [eK, eB]
  exact ⟨h1, h2, h3, h4, fun q => by rw [eM q]; exact h5 q, fun q => by rw [eN q]; exact h6 q, fun q => by rw [eN (by omega)]; exact h7 q, h8⟩
theorem hbM_b (C : Nat → Nat) (n : Nat) (Kd Mk Nb Bh : Nat → Nat) (Ru : Nat → Int32) : ∀ k, k ≤ 10 → ∃ x, x < 1024 ∧ hbM C n Kd Mk Nb Bh Ru k = nI x := by
  intro k
  induction k with
  | zero => intro _; exact ⟨0, by decide, rfl⟩
  | succ k ih =>
    intro hk
    obtain ⟨x, x1, x2⟩ := ih (by omega)
    obtain ⟨s1, s2⟩ := sh1 k (by omega)
    unfold hbM at x2 ⊢
    rw [lp_last, Nat.zero_add, x2]
    by_cases c : mhB C n (Kd k) (Mk k) (Nb k) (Bh k) (Ru k) = true
    · rw [if_pos c, s1, or_nN]
      exact ⟨_, or_lt x1 s2, rfl⟩
    · rw [if_neg c, Int32.or_zero]
      exact ⟨x, x1, rfl⟩
theorem gH_ix {bt : Nat → Nat} {ln k : Nat} (h : (RDg bt ln).1 = some k) (n t i : Nat) : gH bt ln n t k i = nI (ix (gH bt ln n t k i)) := by
  obtain ⟨x, x1, x2⟩ := hbM_b (dgt (rowN n t i)) n (gK bt ln) (gM bt ln) (gN bt ln) (gB bt ln) (gR bt ln) k (g_ok h).1
  unfold gH
  rw [x2, ix_nI x1]
section REL
variable {g : Hp} {n t ln : Nat} {bt : Nat → Nat} {B : Nat} {fd : Int32} {sh : Nat → Option Sht}
theorem CR_clm (hC : CR g n t ln bt B fd sh) {k : Nat} (hk : (RDg bt ln).1 = some k) : CLM g k (gK bt ln) (gM bt ln) (gB bt ln) := by
  obtain ⟨_, _, ⟨r1, _⟩, cl, _⟩ := hC
  obtain ⟨k10, ok⟩ := g_ok hk
  rw [hk] at r1
  refine ⟨r1, k10, fun i hi => ?_⟩
  obtain ⟨q1, q2, q3, q4, q5⟩ := (cl k hk).1 i hi
  obtain ⟨o1, o2, o3, o4, o5, _⟩ := ok i hi
  exact ⟨q1.trans o1, o2, q4.trans o3, o4, fun z => ⟨q2.trans (o5 z).1, (o5 z).2⟩⟩
theorem CR_hN (hC : CR g n t ln bt B fd sh) {k : Nat} (hk : (RDg bt ln).1 = some k) {N : Nat} (hs : sg (dgt N) 7 = n) : hbN (fun i => (stl g (gK bt ln) (gB bt ln) (nI n) i).1) (fun i => (stl g (gK bt ln) (gB bt ln) (nI n) i).2) (gK bt ln) (gM bt ln) n k N = hbM (dgt N) n (gK bt ln) (gM bt ln) (gN bt ln) (gB bt ln) (gR bt ln) k := by
  obtain ⟨⟨k1, k2, k3, _⟩, _, _, cl, _⟩ := hC
  obtain ⟨k10, ok⟩ := g_ok hk
  refine hb_eq g (gK bt ln) (gM bt ln) (gN bt ln) (gB bt ln) (gR bt ln) k1 k2 hs (fun i hi => ?_)
  obtain ⟨q1, q2, q3, q4, q5⟩ := (cl k hk).1 i hi
  obtain ⟨o1, o2, o3, o4, o5, o6, o7, o8⟩ := ok i hi
  have q5 : g.1 7 i = gR bt ln i := q5
  refine ⟨o2, o4, fun z => ⟨q2.trans (o5 z).1, (o5 z).2⟩, fun z => ⟨q3.trans (o6 z).1, (o6 z).2⟩, o7, ?_, q5.symm⟩
  rw [q5]; exact o8
theorem CR_Hs (hC : CR g n t ln bt B fd sh) {k : Nat} (hk : (RDg bt ln).1 = some k) {i : Nat} (hi : i < NR n t) : Hs g (gK bt ln) (gM bt ln) (gB bt ln) k n t i = gH bt ln n t k i := by
  obtain ⟨k1, k2, k3, _⟩ := hC.1
  exact CR_hN hC hk (row_ok k1 k2 k3 hi).2.1
theorem CR_KI (hC : CR g n t ln bt B fd sh) {k : Nat} (hk : (RDg bt ln).1 = some k) : KI g n t k (gK bt ln) (gM bt ln) (gB bt ln) := by
  refine ⟨hC.1, CR_clm hC hk, ?_⟩
  rcases (hC.2.2.2.1 k hk).2 with q | ⟨q, c⟩
  · exact Or.inl q
  · exact Or.inr ⟨q, fun z i hi => by rw [CR_Hs hC hk hi]; exact c z i hi⟩
theorem FR_C {g1 : Hp} (f : FR g g1) : FC g g1 := fun q j hq => f.1 q j (nscr j (by omega))
theorem CR_FR {g1 : Hp} (hC : CR g n t ln bt B fd sh) (f : FR g g1) (h11 : g1.1 0 11 = 1) (hT : TB g1 (NR n t) (rowN n t)) (hH : ∀ k, (RDg bt ln).1 = some k → g1.1 0 12 = 0 ∨ (g1.1 0 12 = 1 ∧ (g1.1 0 11 = 1 → ∀ i, i < NR n t → g1.1 14 i = gH bt ln n t k i))) : CR g1 n t ln bt B fd sh := by
  have e : ∀ q j, (q = 1 ∨ q = 2 ∨ q = 3 ∨ q = 4 ∨ q = 5 ∨ q = 6 ∨ q = 7 ∨ 15 ≤ q) → g1.1 q j = g.1 q j := fun q j hq => f.1 q j (nscr j hq)
  have e0 : ∀ j, j ≤ 10 → g1.1 0 j = g.1 0 j := fun j hj => f.1 0 j (by unfold scr; omega)
  obtain ⟨⟨k1, k2, k3, k4, k5, k6⟩, ⟨t1, t2, t3⟩, ⟨r1, r2⟩, cl, ⟨b1, b2⟩, f1, s4, ss⟩ := hC
  have ez : ∀ j, j < 4 → szN g1 (18 + j) = szN g (18 + j) := fun j hj => by unfold szN; rw [e _ _ (by omega)]
  refine ⟨⟨k1, k2, k3, by rw [e0 _ (by omega)]; exact k4, by rw [e0 _ (by omega)]; exact k5, Or.inr ⟨h11, hT⟩⟩, ⟨by rw [e _ _ (by omega)]; exact t1, t2, fun j hj => by rw [e _ _ (by omega)]; exact t3 j hj⟩, ⟨by rw [e _ _ (by omega)]; exact r1, by rw [e _ _ (by omega)]; exact r2⟩, fun k hk => ⟨fun j hj => ?_, hH k hk⟩, ⟨by rw [e0 _ (by omega)]; exact b1, b2⟩, by rw [e0 _ (by omega)]; exact f1, fun j hj => ?_, fun j hj => ?_⟩
  · have := (cl k hk).1 j hj
    unfold QE c0H at this ⊢
    dsimp only at this ⊢
    rw [e 3 j (by omega), e 4 j (by omega), e 5 j (by omega), e 6 j (by omega), e 7 j (by omega)]
    exact this
  · obtain ⟨a, b, c⟩ := s4 j hj
    rw [ez j hj, e (18 + j) 3 (by omega), e (18 + j) 1 (by omega)]
    exact ⟨a, b, c⟩
  · have := ss j hj
    cases hh : sh j with
    | none => rw [hh] at this; show g1.1 (18 + j) 1 = 1; rw [e _ _ (by omega)]; exact this
    | some x =>
      rw [hh] at this
      obtain ⟨a, b, c, d⟩ := this
      refine ⟨by rw [e _ _ (by omega)]; exact a, by rw [e _ _ (by omega)]; exact b, by rw [e _ _ (by omega)]; exact c, ?_⟩
      rw [← d]
      funext x
      exact e _ _ (by omega)
theorem CR_JP {g1 : Hp} (hC : CR g n t ln bt B fd sh) {k : Nat} (hk : (RDg bt ln).1 = some k) (hJ : JP g g1 n t k (gK bt ln) (gM bt ln) (gB bt ln)) : CR g1 n t ln bt B fd sh ∧ FC g g1 ∧ (∀ i, i < NR n t → g1.1 14 i = gH bt ln n t k i) ∧ ∀ i, i < NR n t → g1.1 13 i = nI (rowN n t i) := by
  obtain ⟨f, h11, h12, hT, hH⟩ := hJ
  have h14 : ∀ i, i < NR n t → g1.1 14 i = gH bt ln n t k i := fun i hi => (hH i hi).trans (CR_Hs hC hk hi)
  refine ⟨CR_FR hC f h11 hT (fun k' hk' => ?_), FR_C f, h14, fun i hi => (hT.2.2 i hi).1⟩
  have : k = k' := Option.some.inj (hk.symm.trans hk')
  subst this
  exact Or.inr ⟨h12, fun _ => h14⟩
theorem M_reads (hM : MR g n t ln bt B fd sh) : ∃ g1, Rn 4 MX9_reads [.ref 31] g (EI (rFl (RDg bt ln)) g1) ∧ MR g1 n t ln bt B fd sh ∧ FM g g1 ∧ ∀ k, (RDg bt ln).1 = some k → g1.1 31 10 = nI k ∧ (∀ i, i < k → QE i (c0M g1) (RDg bt ln).2) ∧ MCL g1 k (gK bt ln) (gM bt ln) (gN bt ln) (gB bt ln) ∧ mBel g1 = nI B := by
  obtain ⟨c', i', i10, hs, r⟩ := c_X9_reads hM.2.1
  have hq := rdR_q bt ln (c := c0M g) (d := ZC) rfl
  rw [rFl_RQ hq] at r
  have en : ∀ q j, ¬ (37 ≤ q ∧ q ≤ 41) → ¬ (q = 31 ∧ (j = 9 ∨ j = 10)) → (mpH g c' i').1 q j = g.1 q j := by
    intro q j q1 q2
    unfold mpH
    dsimp only
    rw [if_neg (by omega), if_neg (by omega), if_neg (by omega), if_neg (by omega), if_neg (by omega), if_neg (by omega), if_neg (by omega)]
  refine ⟨_, r, MR_f (fun q j hq => en q j (by omega) (by omega)) hM, fun q j hq => en q j (by omega) (by omega), fun k hk => ?_⟩
  have hk' : (rdR bt ln (c0M g)).1 = some k := hq.1.trans hk
  obtain ⟨e1, e2⟩ := hs k hk'
  have eq : ∀ j, j < k → QE j c' (RDg bt ln).2 := fun j hj => by rw [e1]; exact hq.2.2 k hk' j hj
  have c10 : (mpH g c' i').1 31 10 = nI k := by rw [← e2]; unfold mpH; simp
  obtain ⟨k10, ok⟩ := g_ok hk
  have w37 : ∀ j, (mpH g c' i').1 37 j = c'.1 j := fun j => by unfold mpH; simp
  have w38 : ∀ j, (mpH g c' i').1 38 j = c'.2.1 j := fun j => by unfold mpH; simp
  have w39 : ∀ j, (mpH g c' i').1 39 j = c'.2.2.1 j := fun j => by unfold mpH; simp
  have w40 : ∀ j, (mpH g c' i').1 40 j = c'.2.2.2.1 j := fun j => by unfold mpH; simp
  have w41 : ∀ j, (mpH g c' i').1 41 j = c'.2.2.2.2.1 j := fun j => by unfold mpH; simp
  refine ⟨c10, fun i hi => ?_, ⟨c10, k10, fun i hi => ?_⟩, ?_⟩
  · obtain ⟨q1, q2, q3, q4, q5⟩ := eq i hi
    exact ⟨(w37 i).trans q1, (w38 i).trans q2, (w39 i).trans q3, (w40 i).trans q4, (w41 i).trans q5⟩
  · obtain ⟨q1, q2, q3, q4, q5⟩ := eq i hi
    obtain ⟨o1, o2, o3, o4, o5, o6, o7, o8⟩ := ok i hi
    exact ⟨(w37 i).trans (q1.trans o1), o2, (w40 i).trans (q4.trans o3), o4, fun z => ⟨(w38 i).trans (q2.trans (o5 z).1), (o5 z).2⟩, fun z => ⟨(w39 i).trans (q3.trans (o6 z).1), (o6 z).2⟩⟩
  · unfold mBel
    rw [c10, en 31 16 (by omega) (by omega)]
    exact (hM.2.2.1 k hk).1
/-- the reference's heap when rows and bits stand -/
def MJ (g2 : Hp) (n t ln : Nat) (bt : Nat → Nat) (B k : Nat) : Prop := g2.1 31 20 = nI (NR n t) ∧ (∀ i, i < NR n t → g2.1 44 i = gH bt ln n t k i ∧ g2.1 43 i = nI (rowN n t i)) ∧ g2.1 31 10 = nI k ∧ mBel g2 = nI B ∧ ∀ i, i < k → QE i (c0M g2) (RDg bt ln).2
theorem M_no (hM : MR g n t ln bt B fd sh) (hn : (RDg bt ln).1 = none) : ∃ g1, Rn 5 MX9_isFaulty [.ref 31] g (EI 1 g1) ∧ MR g1 n t ln bt B fd sh ∧ FM g g1 := by
  obtain ⟨g1, r, m, f, _⟩ := M_reads hM
  exact ⟨g1, c_X9_isFaulty_y r (rFl_none hn), m, f⟩
theorem M_ok (hM : MR g n t ln bt B fd sh) {k : Nat} (hk : (RDg bt ln).1 = some k) : ∃ g2, Rn 5 MX9_isFaulty [.ref 31] g (EI 0 g2) ∧ MR g2 n t ln bt B fd sh ∧ FM g g2 ∧ MJ g2 n t ln bt B k := by
  obtain ⟨g1, r, m, f, a⟩ := M_reads hM
  obtain ⟨a1, a2, a3, a4⟩ := a k hk
  rw [rFl_some hk] at r
  obtain ⟨⟨n1, n9, t6, h5, h6⟩, m2⟩ := id m
  have fr := c_X9_findRows n t k (gK bt ln) (gM bt ln) (gN bt ln) (gB bt ln) g1 n1 n9 t6 h5 h6 a3
  have en : ∀ q j, q ≠ 42 → q ≠ 43 → q ≠ 44 → ¬ (q = 31 ∧ j = 20) → (mcD (frB g1 (mBt g1 n t (gK bt ln) (gM bt ln) (gN bt ln) (gB bt ln) k) n t (NR n t)) (dgt (rowN n t (NR n t - 1)))).1 q j = g1.1 q j := fun q j q1 q2 q3 q4 => by rw [mcD_ne _ _ _ q1, frB_ne _ _ _ _ _ _ q2 q3 q4]
  refine ⟨_, c_X9_isFaulty_n r fr, MR_f (fun q j hq => en q j (by omega) (by omega) (by omega) (by omega)) m, f.tr (fun q j hq => en q j (by omega) (by omega) (by omega) (by omega)), ?_, fun i hi => ⟨?_, ?_⟩, ?_, ?_, fun i hi => ?_⟩
  · rw [mcD_ne _ _ _ (by decide), frB_20]
  · rw [mcD_ne _ _ _ (by decide)]
    unfold frB
    rw [pI_g, if_neg (by omega), pA_g, if_pos rfl, if_pos hi]
    unfold mBt gH hbM
    refine lp_cong _ _ _ (fun j b _ hj => ?_)
    have := (a2 j (by omega)).2.2.2.2
    have this : g1.1 41 j = gR bt ln j := this
    rw [this]
  · rw [mcD_ne _ _ _ (by decide)]
    unfold frB
    rw [pI_g, if_neg (by omega), pA_g, if_neg (by decide), pA_g, if_pos rfl, if_pos hi]
  · rw [en 31 10 (by decide) (by decide) (by decide) (by decide)]; exact a1
  · unfold mBel at a4 ⊢
    rw [en 31 10 (by decide) (by decide) (by decide) (by decide), en 31 16 (by decide) (by decide) (by decide) (by decide)]
    exact a4
  · have := a2 i hi
    unfold QE c0M at this ⊢
    dsimp only at this ⊢
    rw [en 37 i (by decide) (by decide) (by decide) (by omega), en 38 i (by decide) (by decide) (by decide) (by omega), en 39 i (by decide) (by decide) (by decide) (by omega), en 40 i (by decide) (by decide) (by decide) (by omega), en 41 i (by decide) (by decide) (by decide) (by omega)]
    exact this
end REL
