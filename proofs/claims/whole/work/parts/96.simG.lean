/-! class and reference: put, rows, ranked, ways, bound, quarrel -/
section SIM
variable {g : Hp} {n t ln : Nat} {bt : Nat → Nat} {B : Nat} {fd : Int32} {sh : Nat → Option Sht}
theorem tkH_q (N q j : Nat) (h1 : q ≠ 10) (h2 : q ≠ 11) : (tkH g N).1 q j = g.1 q j := rowH_ne _ _ _ _ h1 h2
theorem s_put (r : Int32) (hC : CR g n t ln bt B fd sh) (hM : MR g n t ln bt B fd sh) : SimI MX8_put MX9_put [.int r] g := by
  obtain ⟨k1, k2, k3, k4, k5, k6⟩ := hC.1
  by_cases hb : r < 0 ∨ 9999999 < r
  · exact sim_0 hC hM (by decide) (c_X8_put_bad r g hb) (by decide) (c_X9_put_bad r g hb)
  · simp only [not_or] at hb
    obtain ⟨N, N1, rfl⟩ := nI_of2 (x := r) (M := 9999999) (n := 9999999) (by decide) hb.1 (Int32.not_lt.mp hb.2)
    have cT : CR (tkH g N) n t ln bt B fd sh := CR_f (fun q j hq => tkH_q N q j (by omega) (by omega)) hC
    have fT : FC g (tkH g N) := fun q j hq => tkH_q N q j (by omega) (by omega)
    have hi := put_hi N k3
    by_cases b2 : ¬ sg (dgt N) 7 = n ∨ ¬ grN N ≤ nI t
    · refine sim_I hM (by decide) (c_X8_put_bad2 N n t g N1 k4 k2 k5 b2) cT fT (by decide : 6 ≤ 12) (fun h => ?_)
      refine ⟨_, c_X9_put_bad2 N n t _ N1 h.1.2.2.2.1 k2 h.1.2.2.2.2 k3 ?_, h, FM.rf _⟩
      rcases b2 with q | q
      · exact Or.inl q
      · right
        cases hh : hiF N t 7 with
        | true => rfl
        | false => exact absurd (hi.mpr hh) q
    · simp only [not_or, Classical.not_not] at b2
      obtain ⟨hs, hg⟩ := b2
      have hg' := hi.mp hg
      cases hk : (RDg bt ln).1 with
      | none =>
        refine sim_I hM (by decide) (c_X8_put_not N n t g N1 k4 k5 hs hg (C_no hC hk)) cT fT (by decide : 6 ≤ 12) (fun h => ?_)
        obtain ⟨g1, rr, m, f, _⟩ := M_reads h
        exact ⟨g1, c_X9_put_not N n t N1 h.1.2.2.2.1 h.1.2.2.2.2 k3 hs hg' rr (rFl_none hk), m, f⟩
      | some k =>
        have r1 := c_X8_put N N1 k4 k1 k5 (CR_clm hC hk) hs hg (C_yes hC hk)
        unfold hN1 at r1
        rw [CR_hN hC hk hs] at r1
        have en : ∀ q j, q ≠ 8 → q ≠ 9 → q ≠ 10 → q ≠ 11 → (ptH g (gK bt ln) (gB bt ln) k n N).1 q j = g.1 q j := fun q j h1 h2 h3 h4 => by unfold ptH; rw [sH_ne _ _ _ _ h1 h2, tkH_q N q j h3 h4]
        refine sim_I hM (by decide) r1 (CR_f (fun q j hq => en q j (by omega) (by omega) (by omega) (by omega)) hC) (fun q j hq => en q j (by omega) (by omega) (by omega) (by omega)) (by decide : 6 ≤ 12) (fun h => ?_)
        obtain ⟨g1, rr, m, f, a⟩ := M_reads h
        rw [rFl_some hk] at rr
        obtain ⟨a1, a2, a3, a4⟩ := a k hk
        have r2 := c_X9_put N n t k _ _ _ _ N1 h.1.2.2.2.1 k1 k2 h.1.2.2.2.2 k3 hs hg' rr m.1.2.2.2.1 a3
        rw [hbM_R (R := g1.1 41) (R' := gR bt ln) _ _ _ _ _ _ (fun i hi => (a2 i hi).2.2.2.2)] at r2
        have dn : ∀ q j, q ≠ 42 → (spH g1 N 7).1 q j = g1.1 q j := fun q j hq => by unfold spH; rw [pA_g, if_neg hq]
        exact ⟨_, r2, MR_f (fun q j hq => dn q j (by omega)) m, f.tr (fun q j hq => dn q j (by omega))⟩
theorem s_rows (hC : CR g n t ln bt B fd sh) (hM : MR g n t ln bt B fd sh) : SimI MX8_rows MX9_rows [] g := by
  obtain ⟨g1, r1, fr, h11, hT, hh⟩ := c_X8_rows hC.1
  have c1 : CR g1 n t ln bt B fd sh := CR_FR hC fr h11 hT (fun k hk => by
    rcases hh with q | q
    · rw [q]; exact (hC.2.2.2.1 k hk).2
    · exact Or.inl q)
  refine sim_I hM (by decide) r1 c1 (FR_C fr) (by decide : 4 ≤ 12) (fun h => ?_)
  obtain ⟨⟨n1, n9, t6, h5, h6⟩, m2⟩ := id h
  have w : ∀ q j, ¬ (q = 31 ∧ j = 10) → (pI g1 31 10 0).1 q j = g1.1 q j := fun q j hq => by rw [pI_g, if_neg hq]
  have f := c_X9_findRows n t 0 (fun _ => 0) (fun _ => 0) (fun _ => 0) (fun _ => 0) (pI g1 31 10 0) n1 n9 t6 (by rw [w _ _ (by decide)]; exact h5) (by rw [w _ _ (by decide)]; exact h6) ⟨by rw [pI_g, if_pos ⟨rfl, rfl⟩]; rfl, by decide, fun i hi => absurd hi (Nat.not_lt_zero i)⟩
  have r2 := c_X9_rows f
  generalize mBt (pI g1 31 10 0) n t (fun _ => 0) (fun _ => 0) (fun _ => 0) (fun _ => 0) 0 = MB at *
  have e20 : (mcD (frB (pI g1 31 10 0) MB n t (NR n t)) (dgt (rowN n t (NR n t - 1)))).1 31 20 = nI (NR n t) := by rw [mcD_ne _ _ _ (by decide), frB_20]
  rw [e20] at r2
  have dn : ∀ q j, q ≠ 42 → q ≠ 43 → q ≠ 44 → ¬ (q = 31 ∧ (j = 20 ∨ j = 10)) → (mcD (frB (pI g1 31 10 0) MB n t (NR n t)) (dgt (rowN n t (NR n t - 1)))).1 q j = g1.1 q j := fun q j q1 q2 q3 q4 => by rw [mcD_ne _ _ _ q1, frB_ne _ _ _ _ _ _ q2 q3 (by omega), w _ _ (by omega)]
  exact ⟨_, r2, MR_f (fun q j hq => dn q j (by omega) (by omega) (by omega) (by omega)) h, fun q j hq => dn q j (by omega) (by omega) (by omega) (by omega)⟩
theorem s_ranked (i : Int32) (hC : CR g n t ln bt B fd sh) (hM : MR g n t ln bt B fd sh) : SimI MX8_ranked MX9_ranked [.int i] g := by
  by_cases hi : i < 0
  · exact sim_0 hC hM (by decide) (c_X8_ranked_bad i g hi) (by decide) (c_X9_ranked_bad i g hi)
  · cases hk : (RDg bt ln).1 with
    | none =>
      refine sim_I hM (by decide) (c_X8_ranked_not i g hi (C_no hC hk)) hC (FC.rf g) (by decide : 6 ≤ 12) (fun h => ?_)
      obtain ⟨g1, r, m, f⟩ := M_no h hk
      exact ⟨g1, c_X9_ranked_n i hi r, m, f⟩
    | some k =>
      obtain ⟨g1, r, hJ⟩ := c_X8_ranked i hi (CR_KI hC hk) (C_yes hC hk)
      obtain ⟨j1, j2, _⟩ := CR_JP hC hk hJ
      rw [rkF_c (H' := gH bt ln n t k) (Nb' := fun i => nI (rowN n t i)) _ i (fun x hx => ⟨CR_Hs hC hk hx, rfl⟩) (NR n t) 0 0 (Nat.zero_add _), hC.2.2.2.2.1.1] at r
      refine sim_I hM (by decide) r j1 j2 (by decide : 6 ≤ 12) (fun h => ?_)
      obtain ⟨g2, r2, m, f, a1, a2, a3, a4, a5⟩ := M_ok h hk
      have r3 := c_X9_ranked (NR n t) i hi r2 a1 (NRm_lt hM)
      rw [rk_eq (g2.1 44) (g2.1 43) (mBel g2) i (NR n t) 0 0 i (Int32.add_zero i), rkF_c (H' := gH bt ln n t k) (Nb' := fun i => nI (rowN n t i)) _ i (fun x hx => a2 x hx) (NR n t) 0 0 (Nat.zero_add _), a4] at r3
      exact ⟨g2, r3, m, f⟩
theorem s_ways (hC : CR g n t ln bt B fd sh) (hM : MR g n t ln bt B fd sh) : SimL MX8_ways MX9_ways [] g := by
  cases hk : (RDg bt ln).1 with
  | none =>
    refine sim_L hM (by decide) (c_X8_ways_not g (C_no hC hk)) hC (FC.rf g) (by decide : 6 ≤ 12) (fun h => ?_)
    obtain ⟨g1, r, m, f⟩ := M_no h hk
    exact ⟨g1, c_X9_ways_n r, m, f⟩
  | some k =>
    obtain ⟨g1, r, hJ⟩ := c_X8_ways (CR_KI hC hk) (C_yes hC hk)
    obtain ⟨j1, j2, _⟩ := CR_JP hC hk hJ
    rw [fOr_c _ _ _ (fun x hx => CR_Hs hC hk hx), hC.2.2.2.2.1.1] at r
    refine sim_L hM (by decide) r j1 j2 (by decide : 6 ≤ 12) (fun h => ?_)
    obtain ⟨g2, r2, m, f, a1, a2, a3, a4, a5⟩ := M_ok h hk
    have r3 := c_X9_ways (NR n t) n (rowN n t) r2 a1 (NRm_lt hM) m.1.2.2.2.1 hM.1.2.1 (fun i hi => ⟨(a2 i hi).2, row7 hM hi⟩)
    rw [← or_eq _ _ _ _ hM.1.2.1, fOr_c _ _ _ (fun x hx => (a2 x hx).1), a4] at r3
    exact ⟨g2, r3, m, f⟩
theorem m_o {m : Int32} (h1 : ¬ m < -1) (h2 : ¬ 7 ≤ m) : ∃ o, o2i o = m ∧ ∀ j, o = some j → j < 7 := by
  by_cases c : m < 0
  · refine ⟨none, ?_, fun j q => absurd q (fun z => nomatch z)⟩
    show (-1 : Int32) = m
    rw [fa_eq]
    rw [fa_lt] at h1 c
    have e0 : (0 : Int32).toInt = 0 := by decide
    have e1 : (-1 : Int32).toInt = -1 := by decide
    omega
  · obtain ⟨j, j1, j2, _⟩ := pk_mu (L := 7) c h2 (by decide)
    exact ⟨some j, j2.symm, fun i q => by have := Option.some.inj q; omega⟩
theorem e_b {e : Int32} (h1 : ¬ e < 0) (h2 : ¬ 1 < e) : ∃ b, b2i b = e := by
  obtain ⟨x, x1, rfl⟩ := nI_of2 (x := e) (M := 1) (n := 1) (by decide) h1 (Int32.not_lt.mp h2)
  have : x = 0 ∨ x = 1 := by omega
  rcases this with rfl | rfl
  · exact ⟨false, rfl⟩
  · exact ⟨true, rfl⟩
theorem s_bound (m e : Int32) (hC : CR g n t ln bt B fd sh) (hM : MR g n t ln bt B fd sh) : SimI MX8_bound MX9_bound [.int m, .int e] g := by
  by_cases hb : m < -1 ∨ 7 ≤ m ∨ e < 0 ∨ 1 < e
  · exact sim_0 hC hM (by decide) (c_X8_bound_bad m e g hb) (by decide) (c_X9_bound_bad m e g (by rw [c67] at hb; exact hb))
  · simp only [not_or] at hb
    obtain ⟨h1, h2, h3, h4⟩ := hb
    obtain ⟨o, rfl, ho⟩ := m_o h1 h2
    obtain ⟨b, rfl⟩ := e_b h3 h4
    cases hk : (RDg bt ln).1 with
    | none =>
      refine sim_I hM (by decide) (c_X8_bound_not _ _ g h1 h2 h3 (Int32.not_lt.mp h4) (C_no hC hk)) hC (FC.rf g) (by decide : 6 ≤ 12) (fun h => ?_)
      obtain ⟨g1, r, m, f⟩ := M_no h hk
      exact ⟨g1, c_X9_bound_n o b ho r, m, f⟩
    | some k =>
      obtain ⟨g1, r, hJ⟩ := c_X8_bound o b ho (CR_KI hC hk) (C_yes hC hk)
      obtain ⟨j1, j2, _⟩ := CR_JP hC hk hJ
      rw [fOM_c _ _ _ _ (fun x hx => CR_Hs hC hk hx), hC.2.2.2.2.1.1] at r
      refine sim_I hM (by decide) r j1 j2 (by decide : 6 ≤ 12) (fun h => ?_)
      obtain ⟨g2, r2, m, f, a1, a2, a3, a4, a5⟩ := M_ok h hk
      have r3 := c_X9_bound (NR n t) (rowN n t) o b ho r2 a1 (NRm_lt hM) (fun i hi => ⟨(a2 i hi).2, row7 hM hi⟩)
      rw [fOM_c _ _ _ _ (fun x hx => (a2 x hx).1), a4] at r3
      exact ⟨g2, r3, m, f⟩
theorem s_quarrel (hC : CR g n t ln bt B fd sh) (hM : MR g n t ln bt B fd sh) : SimI MX8_quarrel MX9_quarrel [] g := by
  cases hk : (RDg bt ln).1 with
  | none =>
    refine sim_I hM (by decide) (c_X8_quarrel_not g (C_no hC hk)) hC (FC.rf g) (by decide : 6 ≤ 12) (fun h => ?_)
    obtain ⟨g1, r, m, f⟩ := M_no h hk
    exact ⟨g1, c_X9_quarrel_n r, m, f⟩
  | some k =>
    obtain ⟨g1, r, hJ⟩ := c_X8_quarrel (CR_KI hC hk) (C_yes hC hk)
    obtain ⟨j1, j2, j3, _⟩ := CR_JP hC hk hJ
    rw [quarrel_TM (g1.1 14) (gH bt ln n t k) (z15_0 g1) (z' := fun _ => 0) (fun _ _ => rfl) j3, hC.2.2.2.2.1.1] at r
    refine sim_I hM (by decide) r (CR_f (fun q j hq => by rw [pA_g, if_neg (by omega)]) j1) (fun q j hq => by rw [pA_g, if_neg (by omega)]; exact j2 q j hq) (by decide : 6 ≤ 12) (fun h => ?_)
    obtain ⟨g2, r2, m, f, a⟩ := M_ok h hk
    obtain ⟨d1, d2, d3, d4, d5⟩ := M_made h hk m a
    have r3 := c_X9_quarrel (mkM (g2.1 44) (NR n t) (z45 g2)) r2 d1 (by funext j; rw [pA_g, if_pos rfl])
    rw [d5, ← quarrel_TM (gH bt ln n t k) (g2.1 44) (z := fun _ => 0) (fun _ _ => rfl) (z45_0 g2) (fun i hi => (a.2.1 i hi).1.symm), quarrel_TM (gH bt ln n t k) (gH bt ln n t k) (z := fun _ => 0) (fun _ _ => rfl) (z' := fun _ => 0) (fun _ _ => rfl) (fun _ _ => rfl)] at r3
    exact ⟨_, r3, d2, f.tr d3⟩
end SIM
