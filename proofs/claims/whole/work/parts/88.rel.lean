/-! the state that class and reference share, and how each of them holds it -/
def ZC : CT := (fun _ => 0, fun _ => 0, fun _ => 0, fun _ => 0, fun _ => 0, 0)
/-- what reading the text of ln bytes bt gives -/
def RDg (bt : Nat → Nat) (ln : Nat) : Option Nat × CT := rdR bt ln ZC
def gK (bt : Nat → Nat) (ln i : Nat) : Nat := ((RDg bt ln).2.1 i).toNatClampNeg
def gM (bt : Nat → Nat) (ln i : Nat) : Nat := ((RDg bt ln).2.2.1 i).toNatClampNeg
def gN (bt : Nat → Nat) (ln i : Nat) : Nat := ((RDg bt ln).2.2.2.1 i).toNatClampNeg
def gB (bt : Nat → Nat) (ln i : Nat) : Nat := ((RDg bt ln).2.2.2.2.1 i).toNatClampNeg
def gR (bt : Nat → Nat) (ln i : Nat) : Int32 := (RDg bt ln).2.2.2.2.2.1 i
/-- what row number i holds -/
def gH (bt : Nat → Nat) (ln n t k i : Nat) : Int32 := hbM (dgt (rowN n t i)) n (gK bt ln) (gM bt ln) (gN bt ln) (gB bt ln) (gR bt ln) k
abbrev Sht : Type := Int32 × Nat × (Nat → Int32)
def ShC (g : Hp) (j : Nat) : Option Sht → Prop
  | none => g.1 (18 + j) 1 = 1
  | some x => g.1 (18 + j) 1 = 0 ∧ g.1 (18 + j) 2 = x.1 ∧ g.1 (18 + j) 3 = nI x.2.1 ∧ g.1 (18 + j + 4) = x.2.2
def ShM (g : Hp) (j : Nat) : Option Sht → Prop
  | none => g.1 32 j < 0
  | some x => g.1 32 j = x.1 ∧ okF x.1 ∧ g.1 33 j = nI x.2.1 ∧ x.2.1 ≤ 60 ∧ ∀ i, i < x.2.1 → g.1 34 (60 * j + i) = x.2.2 i
/-- the class holds it -/
def CR (g : Hp) (n t ln : Nat) (bt : Nat → Nat) (B : Nat) (fd : Int32) (sh : Nat → Option Sht) : Prop :=
  KR g n t ∧ TX g bt ln ∧ (g.1 1 9 = rSz (RDg bt ln).1 ∧ g.1 1 10 = rFl (RDg bt ln)) ∧ (∀ k, (RDg bt ln).1 = some k → (∀ j, j < k → QE j (c0H g) (RDg bt ln).2) ∧ (g.1 0 12 = 0 ∨ (g.1 0 12 = 1 ∧ (g.1 0 11 = 1 → ∀ i, i < NR n t → g.1 14 i = gH bt ln n t k i)))) ∧ (g.1 0 9 = nI B ∧ ((RDg bt ln).1 = none → B = 0)) ∧ g.1 0 10 = fd ∧ SH4 g ∧ ∀ j, j < 4 → ShC g j (sh j)
/-- the reference holds it -/
def MR (g : Hp) (n t ln : Nat) (bt : Nat → Nat) (B : Nat) (fd : Int32) (sh : Nat → Option Sht) : Prop :=
  (1 ≤ n ∧ n ≤ 9 ∧ t ≤ 6 ∧ g.1 31 5 = nI n ∧ g.1 31 6 = nI t) ∧ MTX g bt ln ∧ (∀ k, (RDg bt ln).1 = some k → fAll (nI k) &&& (g.1 31 16 ^^^ -1) = nI B ∧ B < 2 ^ k) ∧ g.1 31 4 = fd ∧ MS4 g ∧ ∀ j, j < 4 → ShM g j (sh j)
theorem CR_f {g g' : Hp} {n t ln : Nat} {bt : Nat → Nat} {B : Nat} {fd : Int32} {sh : Nat → Option Sht} (e : ∀ q j, (q ≤ 7 ∨ (12 ≤ q ∧ q ≤ 14) ∨ (18 ≤ q ∧ q ≤ 25)) → g'.1 q j = g.1 q j) (h : CR g n t ln bt B fd sh) : CR g' n t ln bt B fd sh := by
  obtain ⟨⟨k1, k2, k3, k4, k5, k6⟩, ⟨t1, t2, t3⟩, ⟨r1, r2⟩, cl, ⟨b1, b2⟩, f1, s4, ss⟩ := h
  have ez : ∀ j, j < 4 → szN g' (18 + j) = szN g (18 + j) := fun j hj => by unfold szN; rw [e _ _ (by omega)]
  refine ⟨⟨k1, k2, k3, by rw [e _ _ (by omega)]; exact k4, by rw [e _ _ (by omega)]; exact k5, ?_⟩, ⟨by rw [e _ _ (by omega)]; exact t1, t2, fun j hj => by rw [e _ _ (by omega)]; exact t3 j hj⟩, ⟨by rw [e _ _ (by omega)]; exact r1, by rw [e _ _ (by omega)]; exact r2⟩, fun k hk => ?_, ⟨by rw [e _ _ (by omega)]; exact b1, b2⟩, by rw [e _ _ (by omega)]; exact f1, fun j hj => ?_, fun j hj => ?_⟩
  · rw [e 0 11 (by omega)]
    rcases k6 with q | ⟨q, c1, c2, c3⟩
    · exact Or.inl q
    · exact Or.inr ⟨q, by rw [e _ _ (by omega)]; exact c1, c2, fun k hk => by rw [e _ _ (by omega)]; exact c3 k hk⟩
  · obtain ⟨a1, a2⟩ := cl k hk
    refine ⟨fun j hj => ?_, ?_⟩
    · have := a1 j hj
      unfold QE c0H at this ⊢
      dsimp only at this ⊢
      rw [e 3 j (by omega), e 4 j (by omega), e 5 j (by omega), e 6 j (by omega), e 7 j (by omega)]
      exact this
    · rw [e 0 12 (by omega), e 0 11 (by omega)]
      rcases a2 with q | ⟨q, c⟩
      · exact Or.inl q
      · exact Or.inr ⟨q, fun z i hi => by rw [e _ _ (by omega)]; exact c z i hi⟩
  · obtain ⟨a, b, c⟩ := s4 j hj
    rw [ez j hj, e (18 + j) 3 (by omega), e (18 + j) 1 (by omega)]
    exact ⟨a, b, c⟩
  · have := ss j hj
    cases hh : sh j with
    | none => rw [hh] at this; show g'.1 (18 + j) 1 = 1; rw [e _ _ (by omega)]; exact this
    | some x =>
      rw [hh] at this
      obtain ⟨a, b, c, d⟩ := this
      refine ⟨by rw [e _ _ (by omega)]; exact a, by rw [e _ _ (by omega)]; exact b, by rw [e _ _ (by omega)]; exact c, ?_⟩
      rw [← d]
      funext x
      exact e _ _ (by omega)
theorem MR_f {g g' : Hp} {n t ln : Nat} {bt : Nat → Nat} {B : Nat} {fd : Int32} {sh : Nat → Option Sht} (e : ∀ q j, ((q = 31 ∧ (j = 4 ∨ j = 5 ∨ j = 6 ∨ j = 8 ∨ j = 16)) ∨ (32 ≤ q ∧ q ≤ 34) ∨ q = 36) → g'.1 q j = g.1 q j) (h : MR g n t ln bt B fd sh) : MR g' n t ln bt B fd sh := by
  obtain ⟨⟨k1, k2, k3, k4, k5⟩, ⟨t1, t2, t3⟩, cl, f1, s4, ss⟩ := h
  have ez : ∀ j, mz g' j = mz g j := fun j => by unfold mz; rw [e _ _ (by omega)]
  refine ⟨⟨k1, k2, k3, by rw [e _ _ (by omega)]; exact k4, by rw [e _ _ (by omega)]; exact k5⟩, ⟨by rw [e _ _ (by omega)]; exact t1, t2, fun j hj => by rw [e _ _ (by omega)]; exact t3 j hj⟩, fun k hk => by rw [e _ _ (by omega)]; exact cl k hk, by rw [e _ _ (by omega)]; exact f1, fun j hj => ?_, fun j hj => ?_⟩
  · rw [ez, e _ _ (by omega)]; exact s4 j hj
  · have := ss j hj
    cases hh : sh j with
    | none => rw [hh] at this; show g'.1 32 j < 0; rw [e _ _ (by omega)]; exact this
    | some x =>
      rw [hh] at this
      obtain ⟨a, b, c, d, f⟩ := this
      exact ⟨by rw [e _ _ (by omega)]; exact a, b, by rw [e _ _ (by omega)]; exact c, d, fun i hi => by rw [e _ _ (by omega)]; exact f i hi⟩
/-- what is the other's, and the script, stays -/
def FC (g g' : Hp) : Prop := ∀ q j, 31 ≤ q → g'.1 q j = g.1 q j
def FM (g g' : Hp) : Prop := ∀ q j, (q < 31 ∨ 48 ≤ q) → g'.1 q j = g.1 q j
theorem FC.rf (g : Hp) : FC g g := fun _ _ _ => rfl
theorem FM.rf (g : Hp) : FM g g := fun _ _ _ => rfl
theorem FM.tr {a b c : Hp} (h : FM a b) (k : FM b c) : FM a c := fun q j hq => (k q j hq).trans (h q j hq)
/-- both answer v, from the same state to the same state -/
def SimI (Y Y' : MY) (as : List Value) (g : Hp) : Prop := ∃ (v : Int32) (d d' : Nat) (g1 g2 : Hp) (n t ln : Nat) (bt : Nat → Nat) (B : Nat) (fd : Int32) (sh : Nat → Option Sht), d ≤ 12 ∧ d' ≤ 12 ∧ Rn d Y (.ref 0 :: as) g (EI v g1) ∧ Rn d' Y' (.ref 31 :: as) g1 (EI v g2) ∧ (∀ q j, 48 ≤ q → g1.1 q j = g.1 q j) ∧ CR g2 n t ln bt B fd sh ∧ MR g2 n t ln bt B fd sh ∧ ∀ q j, 48 ≤ q → g2.1 q j = g.1 q j
def SimL (Y Y' : MY) (as : List Value) (g : Hp) : Prop := ∃ (v : Int64) (d d' : Nat) (g1 g2 : Hp) (n t ln : Nat) (bt : Nat → Nat) (B : Nat) (fd : Int32) (sh : Nat → Option Sht), d ≤ 12 ∧ d' ≤ 12 ∧ Rn d Y (.ref 0 :: as) g (EL v g1) ∧ Rn d' Y' (.ref 31 :: as) g1 (EL v g2) ∧ (∀ q j, 48 ≤ q → g1.1 q j = g.1 q j) ∧ CR g2 n t ln bt B fd sh ∧ MR g2 n t ln bt B fd sh ∧ ∀ q j, 48 ≤ q → g2.1 q j = g.1 q j
theorem sim_I {Y Y' : MY} {as : List Value} {g g1 : Hp} {v : Int32} {d d' n t ln n' t' ln' : Nat} {bt bt' : Nat → Nat} {B B' : Nat} {fd fd' : Int32} {sh sh' : Nat → Option Sht} (hM : MR g n t ln bt B fd sh) (hd : d ≤ 12) (r1 : Rn d Y (.ref 0 :: as) g (EI v g1)) (c1 : CR g1 n' t' ln' bt' B' fd' sh') (f1 : FC g g1) (hd' : d' ≤ 12) (r2 : MR g1 n t ln bt B fd sh → ∃ g2, Rn d' Y' (.ref 31 :: as) g1 (EI v g2) ∧ MR g2 n' t' ln' bt' B' fd' sh' ∧ FM g1 g2) : SimI Y Y' as g := by
  obtain ⟨g2, a, b, c⟩ := r2 (MR_f (fun q j hq => f1 q j (by omega)) hM)
  exact ⟨v, d, d', g1, g2, n', t', ln', bt', B', fd', sh', hd, hd', r1, a, fun q j hq => f1 q j (by omega), CR_f (fun q j hq => c q j (by omega)) c1, b, fun q j hq => (c q j (by omega)).trans (f1 q j (by omega))⟩
theorem sim_L {Y Y' : MY} {as : List Value} {g g1 : Hp} {v : Int64} {d d' n t ln n' t' ln' : Nat} {bt bt' : Nat → Nat} {B B' : Nat} {fd fd' : Int32} {sh sh' : Nat → Option Sht} (hM : MR g n t ln bt B fd sh) (hd : d ≤ 12) (r1 : Rn d Y (.ref 0 :: as) g (EL v g1)) (c1 : CR g1 n' t' ln' bt' B' fd' sh') (f1 : FC g g1) (hd' : d' ≤ 12) (r2 : MR g1 n t ln bt B fd sh → ∃ g2, Rn d' Y' (.ref 31 :: as) g1 (EL v g2) ∧ MR g2 n' t' ln' bt' B' fd' sh' ∧ FM g1 g2) : SimL Y Y' as g := by
  obtain ⟨g2, a, b, c⟩ := r2 (MR_f (fun q j hq => f1 q j (by omega)) hM)
  exact ⟨v, d, d', g1, g2, n', t', ln', bt', B', fd', sh', hd, hd', r1, a, fun q j hq => f1 q j (by omega), CR_f (fun q j hq => c q j (by omega)) c1, b, fun q j hq => (c q j (by omega)).trans (f1 q j (by omega))⟩
/-- nothing changes on either side -/
theorem sim_0 {Y Y' : MY} {as : List Value} {g : Hp} {v : Int32} {d d' n t ln : Nat} {bt : Nat → Nat} {B : Nat} {fd : Int32} {sh : Nat → Option Sht} (hC : CR g n t ln bt B fd sh) (hM : MR g n t ln bt B fd sh) (hd : d ≤ 12) (r1 : Rn d Y (.ref 0 :: as) g (EI v g)) (hd' : d' ≤ 12) (r2 : Rn d' Y' (.ref 31 :: as) g (EI v g)) : SimI Y Y' as g := sim_I hM hd r1 hC (FC.rf g) hd' (fun h => ⟨g, r2, h, FM.rf g⟩)
theorem sim_0L {Y Y' : MY} {as : List Value} {g : Hp} {v : Int64} {d d' n t ln : Nat} {bt : Nat → Nat} {B : Nat} {fd : Int32} {sh : Nat → Option Sht} (hC : CR g n t ln bt B fd sh) (hM : MR g n t ln bt B fd sh) (hd : d ≤ 12) (r1 : Rn d Y (.ref 0 :: as) g (EL v g)) (hd' : d' ≤ 12) (r2 : Rn d' Y' (.ref 31 :: as) g (EL v g)) : SimL Y Y' as g := sim_L hM hd r1 hC (FC.rf g) hd' (fun h => ⟨g, r2, h, FM.rf g⟩)
/-- a finding is met on both sides -/
theorem CR_fd {g : Hp} {n t ln : Nat} {bt : Nat → Nat} {B : Nat} {fd : Int32} {sh : Nat → Option Sht} (x : Int32) (h : CR g n t ln bt B fd sh) : CR (pI g 0 10 x) n t ln bt B x sh := by
  have e : ∀ q j, ¬ (q = 0 ∧ j = 10) → (pI g 0 10 x).1 q j = g.1 q j := fun q j hq => by rw [pI_g, if_neg hq]
  have hx : (pI g 0 10 x).1 0 10 = x := by rw [pI_g, if_pos ⟨rfl, rfl⟩]
  obtain ⟨⟨k1, k2, k3, k4, k5, k6⟩, ⟨t1, t2, t3⟩, ⟨r1, r2⟩, cl, ⟨b1, b2⟩, f1, s4, ss⟩ := h
  have ez : ∀ j, j < 4 → szN (pI g 0 10 x) (18 + j) = szN g (18 + j) := fun j hj => by unfold szN; rw [e _ _ (by omega)]
  refine ⟨⟨k1, k2, k3, by rw [e _ _ (by omega)]; exact k4, by rw [e _ _ (by omega)]; exact k5, ?_⟩, ⟨by rw [e _ _ (by omega)]; exact t1, t2, fun j hj => by rw [e _ _ (by omega)]; exact t3 j hj⟩, ⟨by rw [e _ _ (by omega)]; exact r1, by rw [e _ _ (by omega)]; exact r2⟩, fun k hk => ?_, ⟨by rw [e _ _ (by omega)]; exact b1, b2⟩, hx, fun j hj => ?_, fun j hj => ?_⟩
  · rw [e 0 11 (by omega)]
    rcases k6 with q | ⟨q, c1, c2, c3⟩
    · exact Or.inl q
    · exact Or.inr ⟨q, by rw [e _ _ (by omega)]; exact c1, c2, fun k hk => by rw [e _ _ (by omega)]; exact c3 k hk⟩
  · obtain ⟨a1, a2⟩ := cl k hk
    refine ⟨fun j hj => ?_, ?_⟩
    · have := a1 j hj
      unfold QE c0H at this ⊢
      dsimp only at this ⊢
      rw [e 3 j (by omega), e 4 j (by omega), e 5 j (by omega), e 6 j (by omega), e 7 j (by omega)]
      exact this
    · rw [e 0 12 (by omega), e 0 11 (by omega)]
      rcases a2 with q | ⟨q, c⟩
      · exact Or.inl q
      · exact Or.inr ⟨q, fun z i hi => by rw [e _ _ (by omega)]; exact c z i hi⟩
  · obtain ⟨a, b, c⟩ := s4 j hj
    rw [ez j hj, e (18 + j) 3 (by omega), e (18 + j) 1 (by omega)]
    exact ⟨a, b, c⟩
  · have := ss j hj
    cases hh : sh j with
    | none => rw [hh] at this; show (pI g 0 10 x).1 (18 + j) 1 = 1; rw [e _ _ (by omega)]; exact this
    | some y =>
      rw [hh] at this
      obtain ⟨a, b, c, d⟩ := this
      refine ⟨by rw [e _ _ (by omega)]; exact a, by rw [e _ _ (by omega)]; exact b, by rw [e _ _ (by omega)]; exact c, ?_⟩
      rw [← d]
      funext w
      exact e _ _ (by omega)
theorem MR_fd {g : Hp} {n t ln : Nat} {bt : Nat → Nat} {B : Nat} {fd : Int32} {sh : Nat → Option Sht} (x : Int32) (h : MR g n t ln bt B fd sh) : MR (pI g 31 4 x) n t ln bt B x sh := by
  have e : ∀ q j, ¬ (q = 31 ∧ j = 4) → (pI g 31 4 x).1 q j = g.1 q j := fun q j hq => by rw [pI_g, if_neg hq]
  have hx : (pI g 31 4 x).1 31 4 = x := by rw [pI_g, if_pos ⟨rfl, rfl⟩]
  obtain ⟨⟨k1, k2, k3, k4, k5⟩, ⟨t1, t2, t3⟩, cl, f1, s4, ss⟩ := h
  have ez : ∀ j, mz (pI g 31 4 x) j = mz g j := fun j => by unfold mz; rw [e _ _ (by omega)]
  refine ⟨⟨k1, k2, k3, by rw [e _ _ (by omega)]; exact k4, by rw [e _ _ (by omega)]; exact k5⟩, ⟨by rw [e _ _ (by omega)]; exact t1, t2, fun j hj => by rw [e _ _ (by omega)]; exact t3 j hj⟩, fun k hk => by rw [e _ _ (by omega)]; exact cl k hk, hx, fun j hj => ?_, fun j hj => ?_⟩
  · rw [ez, e _ _ (by omega)]; exact s4 j hj
  · have := ss j hj
    cases hh : sh j with
    | none => rw [hh] at this; show (pI g 31 4 x).1 32 j < 0; rw [e _ _ (by omega)]; exact this
    | some y =>
      rw [hh] at this
      obtain ⟨a, b, c, d, f⟩ := this
      exact ⟨by rw [e _ _ (by omega)]; exact a, b, by rw [e _ _ (by omega)]; exact c, d, fun i hi => by rw [e _ _ (by omega)]; exact f i hi⟩
theorem FC_fd (g : Hp) (x : Int32) : FC g (pI g 0 10 x) := fun q j hq => by rw [pI_g, if_neg (by omega)]
theorem FM_fd (g : Hp) (x : Int32) : FM g (pI g 31 4 x) := fun q j hq => by rw [pI_g, if_neg (by omega)]
theorem sim_fd {Y Y' : MY} {as : List Value} {g : Hp} {v : Int32} {d d' n t ln : Nat} {bt : Nat → Nat} {B : Nat} {fd : Int32} {sh : Nat → Option Sht} (x : Int32) (hC : CR g n t ln bt B fd sh) (hM : MR g n t ln bt B fd sh) (hd : d ≤ 12) (r1 : Rn d Y (.ref 0 :: as) g (EI v (pI g 0 10 x))) (hd' : d' ≤ 12) (r2 : ∀ g1, MR g1 n t ln bt B fd sh → Rn d' Y' (.ref 31 :: as) g1 (EI v (pI g1 31 4 x))) : SimI Y Y' as g := sim_I hM hd r1 (CR_fd x hC) (FC_fd g x) hd' (fun h => ⟨_, r2 _ h, MR_fd x h, FM_fd _ x⟩)
theorem sim_fdL {Y Y' : MY} {as : List Value} {g : Hp} {v : Int64} {d d' n t ln : Nat} {bt : Nat → Nat} {B : Nat} {fd : Int32} {sh : Nat → Option Sht} (x : Int32) (hC : CR g n t ln bt B fd sh) (hM : MR g n t ln bt B fd sh) (hd : d ≤ 12) (r1 : Rn d Y (.ref 0 :: as) g (EL v (pI g 0 10 x))) (hd' : d' ≤ 12) (r2 : ∀ g1, MR g1 n t ln bt B fd sh → Rn d' Y' (.ref 31 :: as) g1 (EL v (pI g1 31 4 x))) : SimL Y Y' as g := sim_L hM hd r1 (CR_fd x hC) (FC_fd g x) hd' (fun h => ⟨_, r2 _ h, MR_fd x h, FM_fd _ x⟩)
