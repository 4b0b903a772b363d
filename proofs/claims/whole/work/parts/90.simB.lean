/-! class and reference: copies, twice, and what changes sheets -/
section SIM
variable {g : Hp} {n t ln : Nat} {bt : Nat → Nat} {B : Nat} {fd : Int32} {sh : Nat → Option Sht}
theorem rl_c {D D' : Nat → Nat → Int64} {n1 n2 : Nat} (h : ∀ i j, i < n1 → j < n2 → D i j = D' i j) : ∀ f i j, i < n1 → j < n2 → rl D n1 n2 f i j = rl D' n1 n2 f i j := by
  intro f
  induction f with
  | zero => intro i j _ _; rfl
  | succ f ih =>
    intro i j hi hj
    rw [rl, rl]
    by_cases c : j + 1 < n2 ∧ i + 1 < n1
    · rw [h i j hi hj, h (i + 1) (j + 1) c.2 c.1]
      by_cases d : D' (i + 1) (j + 1) = D' i j
      · rw [if_pos ⟨c.1, c.2, d⟩, if_pos ⟨c.1, c.2, d⟩, ih _ _ c.2 c.1]
      · rw [if_neg (fun q => d q.2.2), if_neg (fun q => d q.2.2)]
    · rw [if_neg (fun q => c ⟨q.1, q.2.1⟩), if_neg (fun q => c ⟨q.1, q.2.1⟩)]
theorem cpM_c {D D' : Nat → Nat → Int64} {n1 n2 : Nat} (h : ∀ i j, i < n1 → j < n2 → D i j = D' i j) : cpM D n1 n2 = cpM D' n1 n2 := by
  unfold cpM
  refine lp_cong _ _ _ (fun b st _ hb => ?_)
  refine lp_cong _ _ _ (fun a st _ ha => ?_)
  unfold cmF rowV
  rw [rl_c h _ _ _ (by omega) (by omega)]
theorem cpM_I (D : Nat → Nat → Int64) {n1 n2 : Nat} (h1 : 1 ≤ n1) (h2 : 1 ≤ n2) (h60 : n2 ≤ 60) : cmI n1 n2 (cpM D n1 n2) := by
  unfold cpM
  refine lp_inv (fun b st => lp (cmF D n1 n2 b) 0 n1 st) (fun _ st => cmI n1 n2 st) n2 (fun b st hb hI => ?_) n2 0 _ (by omega) ⟨by decide, by show 0 < n2; omega, by show 0 < n1; omega⟩
  exact lp_inv (cmF D n1 n2 b) (fun _ st => cmI n1 n2 st) n1 (fun a st ha hI => cmF_I h60 ha hb hI) n1 0 st (by omega) hI
theorem ev_cp (D : Nat → Nat → Int64) (st : BM) (h : Hp) (A : Nat → Int32) {W : Nat} (hW : W ≤ 3) : (if W = 0 then (nI st.1).toInt64 else if W = 1 then (nI st.2.1).toInt64 else if W = 2 then (nI st.2.2).toInt64 else D st.2.2 st.2.1) = (if W < 3 then ((stH h A (cvB D st)).1 28 (W + 1)).toInt64 else (stH h A (cvB D st)).2 28 4) := by
  rw [stH_g, stH_2]
  have : W = 0 ∨ W = 1 ∨ W = 2 ∨ W = 3 := by omega
  rcases this with rfl | rfl | rfl | rfl
  · simp [cvB]
  · simp [cvB]
  · simp [cvB]
  · simp [cvB]
theorem s_copies (s u w : Int32) (hC : CR g n t ln bt B fd sh) (hM : MR g n t ln bt B fd sh) : SimL MX8_copies MX9_copies [.int s, .int u, .int w] g := by
  by_cases hb : ¬ okS s ∨ ¬ okS u ∨ w < 0 ∨ 3 < w
  · exact sim_0L hC hM (by decide) (c_X8_copies_bad s u w g hb) (by decide) (c_X9_copies_bad s u w g hb)
  · simp only [not_or, Classical.not_not] at hb
    obtain ⟨h0, h0', h1, h2⟩ := hb
    obtain ⟨a, ha, rfl⟩ := okS_n h0
    obtain ⟨b, hb, rfl⟩ := okS_n h0'
    have s4 : SH4 g := hC.2.2.2.2.2.2.1
    have nul : (sh a = none ∨ sh b = none) → SimL MX8_copies MX9_copies [.int (nI a), .int (nI b), .int w] g := by
      intro q
      refine sim_fdL 1 hC hM (by decide) (c_X8_copies_null a b w g ha hb h1 (Int32.not_lt.mp h2) s4 ?_) (by decide : 2 ≤ 12) (fun g1 h => c_X9_copies_null a b w g1 ha hb h1 h2 ?_)
      · rcases q with q | q
        · exact Or.inl (shC_none hC ha q)
        · exact Or.inr (shC_none hC hb q)
      · rcases q with q | q
        · exact Or.inl (shM_none h ha q)
        · exact Or.inr (shM_none h hb q)
    cases hx : sh a with
    | none => exact nul (Or.inl hx)
    | some x =>
      cases hy : sh b with
      | none => exact nul (Or.inr hy)
      | some y =>
        obtain ⟨m1, m2, m3, m4, m5, m6, m7, m8⟩ := shM_some hM ha hx
        obtain ⟨c1, c2, c3, c4, c5, c6⟩ := shC_some hC ha hx m5
        obtain ⟨m1', m2', m3', m4', m5', m6', m7', m8'⟩ := shM_some hM hb hy
        obtain ⟨c1', c2', c3', c4', c5', c6'⟩ := shC_some hC hb hy m5'
        by_cases z : x.2.1 = 0 ∨ y.2.1 = 0
        · exact sim_0L hC hM (by decide) (c_X8_copies_not a b w g ha hb h1 (Int32.not_lt.mp h2) s4 c1 c1' (by rw [c4, c4']; exact z)) (by decide) (c_X9_copies_not a b w g ha hb h1 h2 m8 m7 m7' (by rw [m4, m4']; exact z))
        · simp only [not_or] at z
          obtain ⟨W, W1, rfl⟩ := nI_of2 (x := w) (M := 3) (n := 3) (by decide) h1 (Int32.not_lt.mp h2)
          have r1 := c_X8_copies a b W g ha hb W1 s4 c1 c1' (by rw [c4]; omega) (by rw [c4']; omega)
          have hD : ∀ g1 : Hp, (∀ i, i < x.2.1 → g1.1 34 (60 * a + i) = x.2.2 i) → (∀ i, i < y.2.1 → g1.1 34 (60 * b + i) = y.2.2 i) → ∀ i j, i < x.2.1 → j < y.2.1 → mD g1 a b i j = stD g (18 + a) (18 + b) i j := by
            intro g1 q1 q2 i j hi hj
            unfold mD stD
            rw [q1 i hi, q2 j hj, c5, c5']
          have hI := cpM_I (stD g (18 + a) (18 + b)) (n1 := x.2.1) (n2 := y.2.1) (by omega) (by omega) m5'
          have e28 : ∀ q j, q ≠ 28 → q ≠ 29 → (cpH g a b).1 q j = g.1 q j := fun q j h1 h2 => by unfold cpH; exact stH_ne _ _ _ _ h1 h2
          have eB : bsD (stD g (18 + a) (18 + b)) (szN g (18 + a)) (szN g (18 + b)) (szN g (18 + b)) (0, g.1 28 2, g.1 28 3, g.2 28 4) = cvB (stD g (18 + a) (18 + b)) (cpM (stD g (18 + a) (18 + b)) x.2.1 y.2.1) := by
            rw [c4, c4']; exact copies_eq _ (by omega) (by omega) _ _ _
          refine sim_L hM (by decide) r1 (CR_f (fun q j hq => e28 q j (by omega) (by omega)) hC) (fun q j hq => e28 q j (by omega) (by omega)) (by decide : 2 ≤ 12) (fun h => ?_)
          obtain ⟨o1, o2, o3, o4, o5, o6, o7, o8⟩ := shM_some h ha hx
          obtain ⟨o1', o2', o3', o4', o5', o6', o7', o8'⟩ := shM_some h hb hy
          have r2 := c_X9_copies a b W _ ha hb W1 o8 o7 o7' (by rw [o4]; omega) (by rw [o4']; omega)
          refine ⟨_, ?_, h, FM.rf _⟩
          have hDD := hD _ o6 o6'
          rw [o4, o4', cpM_c hDD, hDD _ _ hI.2.2 hI.2.1] at r2
          have ev : (if W = 0 then (nI (cpM (stD g (18 + a) (18 + b)) x.2.1 y.2.1).1).toInt64 else if W = 1 then (nI (cpM (stD g (18 + a) (18 + b)) x.2.1 y.2.1).2.1).toInt64 else if W = 2 then (nI (cpM (stD g (18 + a) (18 + b)) x.2.1 y.2.1).2.2).toInt64 else stD g (18 + a) (18 + b) (cpM (stD g (18 + a) (18 + b)) x.2.1 y.2.1).2.2 (cpM (stD g (18 + a) (18 + b)) x.2.1 y.2.1).2.1) = (if W < 3 then ((cpH g a b).1 28 (W + 1)).toInt64 else (cpH g a b).2 28 4) := by
            unfold cpH
            rw [eB]
            exact ev_cp _ _ _ _ W1
          rw [ev] at r2
          exact r2
theorem s_twice (s w : Int32) (hC : CR g n t ln bt B fd sh) (hM : MR g n t ln bt B fd sh) : SimL MX8_twice MX9_twice [.int s, .int w] g := by
  by_cases hb : ¬ okS s ∨ w < 0 ∨ 4 < w
  · exact sim_0L hC hM (by decide) (c_X8_twice_bad s w g hb) (by decide) (c_X9_twice_bad s w g hb)
  · simp only [not_or, Classical.not_not] at hb
    obtain ⟨h0, h1, h2⟩ := hb
    obtain ⟨j, hj, rfl⟩ := okS_n h0
    cases hx : sh j with
    | none => exact sim_fdL 1 hC hM (by decide) (c_X8_twice_null j w g hj h1 (Int32.not_lt.mp h2) (shC_none hC hj hx)) (by decide : 2 ≤ 12) (fun g1 h => c_X9_twice_null j w g1 hj h1 h2 (shM_none h hj hx))
    | some x =>
      obtain ⟨m1, m2, m3, m4, m5, m6, m7, m8⟩ := shM_some hM hj hx
      obtain ⟨c1, c2, c3, c4, c5, c6⟩ := shC_some hC hj hx m5
      have eW : fWithin (fun i => g.1 34 (60 * j + i)) (-10000) 10000 x.2.1 = fWithin x.2.2 (-10000) 10000 x.2.1 := fWithin_c _ _ m6
      by_cases z : x.2.1 = 0 ∨ x.2.1 % 2 = 1 ∨ fWithin x.2.2 (-10000) 10000 x.2.1 = 0
      · exact sim_0L hC hM (by decide) (c_X8_twice_not j w g hj h1 (Int32.not_lt.mp h2) c6 c1 (by rw [c4, c5]; exact z)) (by decide) (c_X9_twice_not j w g hj h1 h2 m8 m7 (by rw [m4, eW]; exact z))
      · simp only [not_or] at z
        obtain ⟨z0, z1, z2⟩ := z
        obtain ⟨k, hk⟩ : ∃ k, x.2.1 = 2 * k := ⟨x.2.1 / 2, by omega⟩
        obtain ⟨W, W1, rfl⟩ := nI_of2 (x := w) (M := 4) (n := 4) (by decide) h1 (Int32.not_lt.mp h2)
        have hw1 := fW_1 z2
        have r1 := c_X8_twice j W k g hj W1 c6 c1 (by rw [c4]; exact hk) (by omega) (by rw [c4, c5]; exact hw1)
        have e30 : ∀ q i, q ≠ 30 → (cmpH g (18 + j + 4) k).1 q i = g.1 q i := fun q i hq => by unfold cmpH; simp only [pL_1]; rw [pI_g, if_neg (fun q2 => hq q2.1)]
        obtain ⟨X1, X2, x1, x2, x3, x4, x5, x6, x7, x8, x9⟩ := tw_eq (a := x.2.2) (n := k) (g.1 30 4) (by omega) (by omega) (by rw [← hk]; exact hw1)
        refine sim_L hM (by decide) r1 (CR_f (fun q i hq => e30 q i (by omega)) hC) (fun q i hq => e30 q i (by omega)) (by decide : 2 ≤ 12) (fun h => ?_)
        obtain ⟨o1, o2, o3, o4, o5, o6, o7, o8⟩ := shM_some h hj hx
        have eR : rdS (fun i => (cmpH g (18 + j + 4) k).1 34 (60 * j + i)) 0 k = rdS x.2.2 0 k := rdS_c 0 (fun i hi => o6 i (by omega))
        have r2 := c_X9_twice j W k X1 X2 _ hj W1 o8 o7 (by rw [o4]; exact hk) (by omega) (by rw [o4, fWithin_c _ _ o6]; exact hw1) (by rw [eR]; exact x3) (by rw [eR]; exact x4) x1 x2
        refine ⟨_, ?_, h, FM.rf _⟩
        rw [eR] at r2
        have ev : (if W = 0 then (rdS x.2.2 0 k).1 / lN (Nat.gcd X1 (2 * k)) else if W = 1 then lN (2 * k) / lN (Nat.gcd X1 (2 * k)) else if W = 2 then (rdS x.2.2 0 k).2.1 / lN (Nat.gcd X2 k) else if W = 3 then lN k / lN (Nat.gcd X2 k) else (rdS x.2.2 0 k).2.2.2.toInt64) = (if W < 4 then (cmpH g (18 + j + 4) k).2 30 W else ((cmpH g (18 + j + 4) k).1 30 4).toInt64) := by
          unfold cmpH
          rw [c5, x5, x6, x7, x8, x9]
          have : W = 0 ∨ W = 1 ∨ W = 2 ∨ W = 3 ∨ W = 4 := by omega
          rcases this with rfl | rfl | rfl | rfl | rfl
          · rfl
          · rfl
          · rfl
          · rfl
          · rfl
        rw [ev] at r2
        exact r2
def uS (sh : Nat → Option Sht) (b : Nat) (o : Option Sht) : Nat → Option Sht := fun j => if j = b then o else sh j
theorem CR_sh {g' : Hp} {b : Nat} {o : Option Sht} (e : ∀ q j, (q ≤ 7 ∨ (12 ≤ q ∧ q ≤ 14) ∨ (18 ≤ q ∧ q ≤ 25 ∧ q ≠ 18 + b ∧ q ≠ 18 + b + 4)) → g'.1 q j = g.1 q j) (hb : b < 4) (s5 : g'.1 (18 + b) 3 = nI (szN g' (18 + b)) ∧ szN g' (18 + b) ≤ 60 ∧ (g'.1 (18 + b) 1 = 0 ∨ g'.1 (18 + b) 1 = 1)) (hs : ShC g' b o) (h : CR g n t ln bt B fd sh) : CR g' n t ln bt B fd (uS sh b o) := by
  obtain ⟨⟨k1, k2, k3, k4, k5, k6⟩, ⟨t1, t2, t3⟩, ⟨r1, r2⟩, cl, ⟨b1, b2⟩, f1, s4, ss⟩ := h
  have ez : ∀ j, j < 4 → j ≠ b → szN g' (18 + j) = szN g (18 + j) := fun j hj hn => by unfold szN; rw [e _ _ (by omega)]
  refine ⟨⟨k1, k2, k3, by rw [e _ _ (by omega)]; exact k4, by rw [e _ _ (by omega)]; exact k5, ?_⟩, ⟨by rw [e _ _ (by omega)]; exact t1, t2, fun j hj => by rw [e _ _ (by omega)]; exact t3 j hj⟩, ⟨by rw [e _ _ (by omega)]; exact r1, by rw [e _ _ (by omega)]; exact r2⟩, fun k hk => ?_, ⟨by rw [e _ _ (by omega)]; exact b1, b2⟩, by rw [e _ _ (by omega)]; exact f1, fun j hj => ?_, fun j hj => ?_⟩
  · rw [e 0 11 (by omega)]
    rcases k6 with q | ⟨q, c1, c2, c3⟩
    · exact Or.inl q
    · exact Or.inr ⟨q, by rw [e _ _ (by omega)]; exact c1, c2, fun k hk => by rw [e _ _ (by omega)]; exact c3 k hk⟩
  · obtain ⟨a1, a2⟩ := cl k hk
    refine ⟨fun j hj => ?_, ?_⟩
    · have := a1 j hj
      unfold QE c0H at this ⊢
      dsimp only at this ⊢
      rw [e 3 j (by omega), e 4 j (by omega), e 5 j (by omega), e 6 j (by omega), e 7 j (by omega)]
      exact this
    · rw [e 0 12 (by omega), e 0 11 (by omega)]
      rcases a2 with q | ⟨q, c⟩
      · exact Or.inl q
      · exact Or.inr ⟨q, fun z i hi => by rw [e _ _ (by omega)]; exact c z i hi⟩
  · by_cases q : j = b
    · subst q; exact s5
    · obtain ⟨a, b, c⟩ := s4 j hj
      rw [ez j hj q, e (18 + j) 3 (by omega), e (18 + j) 1 (by omega)]
      exact ⟨a, b, c⟩
  · unfold uS
    by_cases q : j = b
    · subst q; rw [if_pos rfl]; exact hs
    · rw [if_neg q]
      have := ss j hj
      cases hh : sh j with
      | none => rw [hh] at this; show g'.1 (18 + j) 1 = 1; rw [e _ _ (by omega)]; exact this
      | some x =>
        rw [hh] at this
        obtain ⟨a, b, c, d⟩ := this
        refine ⟨by rw [e _ _ (by omega)]; exact a, by rw [e _ _ (by omega)]; exact b, by rw [e _ _ (by omega)]; exact c, ?_⟩
        rw [← d]
        funext x
        exact e _ _ (by omega)
theorem MR_sh {g' : Hp} {b : Nat} {o : Option Sht} (e : ∀ q j, ((q = 31 ∧ (j = 4 ∨ j = 5 ∨ j = 6 ∨ j = 8 ∨ j = 16)) ∨ ((q = 32 ∨ q = 33) ∧ j ≠ b) ∨ (q = 34 ∧ (j < 60 * b ∨ 60 * b + 60 ≤ j)) ∨ q = 36) → g'.1 q j = g.1 q j) (s5 : g'.1 33 b = nI (mz g' b) ∧ mz g' b ≤ 60) (hs : ShM g' b o) (h : MR g n t ln bt B fd sh) : MR g' n t ln bt B fd (uS sh b o) := by
  obtain ⟨⟨k1, k2, k3, k4, k5⟩, ⟨t1, t2, t3⟩, cl, f1, s4, ss⟩ := h
  have ez : ∀ j, j ≠ b → mz g' j = mz g j := fun j hj => by unfold mz; rw [e _ _ (by omega)]
  refine ⟨⟨k1, k2, k3, by rw [e _ _ (by omega)]; exact k4, by rw [e _ _ (by omega)]; exact k5⟩, ⟨by rw [e _ _ (by omega)]; exact t1, t2, fun j hj => by rw [e _ _ (by omega)]; exact t3 j hj⟩, fun k hk => by rw [e _ _ (by omega)]; exact cl k hk, by rw [e _ _ (by omega)]; exact f1, fun j hj => ?_, fun j hj => ?_⟩
  · by_cases q : j = b
    · subst q; exact s5
    · rw [ez j q, e _ _ (by omega)]; exact s4 j hj
  · unfold uS
    by_cases q : j = b
    · subst q; rw [if_pos rfl]; exact hs
    · rw [if_neg q]
      have := ss j hj
      cases hh : sh j with
      | none => rw [hh] at this; show g'.1 32 j < 0; rw [e _ _ (by omega)]; exact this
      | some x =>
        rw [hh] at this
        obtain ⟨a, b, c, d, f⟩ := this
        exact ⟨by rw [e _ _ (by omega)]; exact a, b, by rw [e _ _ (by omega)]; exact c, d, fun i hi => by rw [e _ _ (by omega)]; exact f i hi⟩
theorem s_lose (s : Int32) (hC : CR g n t ln bt B fd sh) (hM : MR g n t ln bt B fd sh) : SimI MX8_lose MX9_lose [.int s] g := by
  by_cases hb : ¬ okS s
  · exact sim_0 hC hM (by decide) (c_X8_lose_bad s g hb) (by decide) (c_X9_lose_bad s g hb)
  · obtain ⟨j, hj, rfl⟩ := okS_n (Classical.not_not.mp hb)
    cases hx : sh j with
    | none => exact sim_fd 1 hC hM (by decide) (c_X8_lose_null j g hj (shC_none hC hj hx)) (by decide) (fun g1 h => c_X9_lose_null j g1 hj (shM_none h hj hx))
    | some x =>
      obtain ⟨m1, m2, m3, m4, m5, m6, m7, m8⟩ := shM_some hM hj hx
      obtain ⟨c1, c2, c3, c4, c5, c6⟩ := shC_some hC hj hx m5
      have r1 := c_X8_lose j g hj c1
      rw [c3] at r1
      refine sim_I hM (by decide) r1 (CR_sh (b := j) (o := none) (fun q i hq => by rw [pI_g, if_neg (by omega)]) hj ?_ ?_ hC) (fun q i hq => by rw [pI_g, if_neg (by omega)]) (by decide : 2 ≤ 12) (fun h => ?_)
      · have e3 : (pI g (18 + j) 1 1).1 (18 + j) 3 = g.1 (18 + j) 3 := by rw [pI_g, if_neg (by omega)]
        unfold szN
        rw [e3]
        exact ⟨(c6 j hj).1, (c6 j hj).2.1, Or.inr (by rw [pI_g, if_pos ⟨rfl, rfl⟩])⟩
      · show (pI g (18 + j) 1 1).1 (18 + j) 1 = 1
        rw [pI_g, if_pos ⟨rfl, rfl⟩]
      · obtain ⟨o1, o2, o3, o4, o5, o6, o7, o8⟩ := shM_some h hj hx
        have r2 := c_X9_lose j _ hj o7
        rw [o3] at r2
        refine ⟨_, r2, MR_sh (b := j) (o := none) (fun q i hq => by rw [pI_g _ 32, if_neg (by omega)]) ?_ ?_ h, fun q i hq => by rw [pI_g _ 32, if_neg (by omega)]⟩
        · have e3 : (pI (pI g (18 + j) 1 1) 32 j (-1)).1 33 j = (pI g (18 + j) 1 1).1 33 j := by rw [pI_g _ 32, if_neg (by omega)]
          unfold mz
          rw [e3]
          exact o8 j hj
        · show (pI (pI g (18 + j) 1 1) 32 j (-1)).1 32 j < 0
          rw [pI_g, if_pos ⟨rfl, rfl⟩]
          decide
end SIM
