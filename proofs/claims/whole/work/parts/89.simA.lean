/-! class and reference: sheets and what is asked of them -/
section SIM
variable {g : Hp} {n t ln : Nat} {bt : Nat → Nat} {B : Nat} {fd : Int32} {sh : Nat → Option Sht}
theorem sh_none (hC : CR g n t ln bt B fd sh) (hM : MR g n t ln bt B fd sh) {j : Nat} (hj : j < 4) (hx : sh j = none) : g.1 (18 + j) 1 = 1 ∧ g.1 32 j < 0 := by
  obtain ⟨_, _, _, _, _, _, _, ss⟩ := hC
  obtain ⟨_, _, _, _, _, sm⟩ := hM
  have a := ss j hj
  have b := sm j hj
  rw [hx] at a b
  exact ⟨a, b⟩
theorem shM_none (hM : MR g n t ln bt B fd sh) {j : Nat} (hj : j < 4) (hx : sh j = none) : g.1 32 j < 0 := by
  obtain ⟨_, _, _, _, _, sm⟩ := hM
  have b := sm j hj
  rw [hx] at b
  exact b
theorem shC_none (hC : CR g n t ln bt B fd sh) {j : Nat} (hj : j < 4) (hx : sh j = none) : g.1 (18 + j) 1 = 1 := by
  obtain ⟨_, _, _, _, _, _, _, ss⟩ := hC
  have a := ss j hj
  rw [hx] at a
  exact a
theorem shC_some (hC : CR g n t ln bt B fd sh) {j : Nat} {x : Sht} (hj : j < 4) (hx : sh j = some x) (h60 : x.2.1 ≤ 60) : g.1 (18 + j) 1 = 0 ∧ g.1 (18 + j) 2 = x.1 ∧ g.1 (18 + j) 3 = nI x.2.1 ∧ szN g (18 + j) = x.2.1 ∧ g.1 (18 + j + 4) = x.2.2 ∧ SH4 g := by
  obtain ⟨_, _, _, _, _, _, s4, ss⟩ := hC
  have a := ss j hj
  rw [hx] at a
  obtain ⟨a1, a2, a3, a4⟩ := a
  refine ⟨a1, a2, a3, ?_, a4, s4⟩
  unfold szN
  rw [a3, nI_clamp (by omega)]
theorem shM_some (hM : MR g n t ln bt B fd sh) {j : Nat} {x : Sht} (hj : j < 4) (hx : sh j = some x) : g.1 32 j = x.1 ∧ okF x.1 ∧ g.1 33 j = nI x.2.1 ∧ mz g j = x.2.1 ∧ x.2.1 ≤ 60 ∧ (∀ i, i < x.2.1 → g.1 34 (60 * j + i) = x.2.2 i) ∧ ¬ g.1 32 j < 0 ∧ MS4 g := by
  obtain ⟨_, _, _, _, s4, sm⟩ := hM
  have b := sm j hj
  rw [hx] at b
  obtain ⟨b1, b2, b3, b4, b5⟩ := b
  refine ⟨b1, b2, b3, ?_, b4, b5, by rw [b1]; exact b2.1, s4⟩
  unfold mz
  rw [b3, nI_clamp (by omega)]
theorem cntF_c (g' : Int32 → Int32) (f : Int32) {a b : Nat → Int32} {z : Nat} (h : ∀ i, i < z → a i = b i) : cntF g' f a z = cntF g' f b z := by
  unfold cntF
  refine lp_cong _ _ _ (fun i c _ hi => ?_)
  rw [h i (by omega)]
theorem fWithin_c (lo hi : Int32) {a b : Nat → Int32} {z : Nat} (h : ∀ i, i < z → a i = b i) : fWithin a lo hi z = fWithin b lo hi z := by
  unfold fWithin
  have e : (∀ j, j < z → ¬ a j < lo ∧ a j ≤ hi) ↔ ∀ j, j < z → ¬ b j < lo ∧ b j ≤ hi := ⟨fun q j hj => by rw [← h j hj]; exact q j hj, fun q j hj => by rw [h j hj]; exact q j hj⟩
  by_cases c : ∀ j, j < z → ¬ a j < lo ∧ a j ≤ hi
  · rw [if_pos c, if_pos (e.mp c)]
  · rw [if_neg c, if_neg (fun q => c (e.mpr q))]
theorem fMostE_c {a b : Nat → Int32} {z : Nat} (h : ∀ i, i < z → a i = b i) : fMostE a z = fMostE b z := by
  unfold fMostE
  refine lp_cong _ _ _ (fun i c _ hi => ?_)
  rw [cntF_c fEnd (nI i) h]
theorem csR_c (r : Int32) (T : Nat) {a b : Nat → Int32} {z : Nat} (h : ∀ i, i < z → a i = b i) : csR a r T z = csR b r T z := by
  unfold csR
  have e : lp (csS a r T) 0 z (0, 0, 1) = lp (csS b r T) 0 z (0, 0, 1) := by
    refine lp_cong _ _ _ (fun i c _ hi => ?_)
    unfold csS
    rw [h i (by omega)]
  rw [e]
theorem rdS_c (w : Int32) {a b : Nat → Int32} {z : Nat} (h : ∀ i, i < 2 * z → a i = b i) : rdS a w z = rdS b w z := by
  unfold rdS
  refine lp_cong _ _ _ (fun i c _ hi => ?_)
  unfold rdF
  rw [h (2 * i) (by omega), h (2 * i + 1) (by omega)]
theorem fW_in {a : Nat → Int32} {lo hi : Int32} {z : Nat} (h : ¬ fWithin a lo hi z = 0) : ∀ j, j < z → ¬ a j < lo ∧ a j ≤ hi := by
  unfold fWithin at h
  by_cases c : ∀ j, j < z → ¬ a j < lo ∧ a j ≤ hi
  · exact c
  · rw [if_neg c] at h; exact absurd rfl h
theorem fW_1 {a : Nat → Int32} {lo hi : Int32} {z : Nat} (h : ¬ fWithin a lo hi z = 0) : fWithin a lo hi z = 1 := by
  unfold fWithin
  rw [if_pos (fW_in h)]
theorem s_last (s f : Int32) (hC : CR g n t ln bt B fd sh) (hM : MR g n t ln bt B fd sh) : SimI MX8_last MX9_last [.int s, .int f] g := by
  by_cases hb : ¬ okS s ∨ f < 0 ∨ 9 < f
  · exact sim_0 hC hM (by decide) (c_X8_last_bad s f g hb) (by decide) (c_X9_last_bad s f g hb)
  · simp only [not_or, Classical.not_not] at hb
    obtain ⟨h0, h1, h2⟩ := hb
    obtain ⟨j, hj, rfl⟩ := okS_n h0
    cases hx : sh j with
    | none => exact sim_fd 1 hC hM (by decide) (c_X8_last_null j f g hj h1 (Int32.not_lt.mp h2) (shC_none hC hj hx)) (by decide) (fun g1 h => c_X9_last_null j f g1 hj h1 h2 (shM_none h hj hx))
    | some x =>
      obtain ⟨m1, m2, m3, m4, m5, m6, m7, m8⟩ := shM_some hM hj hx
      obtain ⟨c1, c2, c3, c4, c5, c6⟩ := shC_some hC hj hx m5
      have r1 := c_X8_last j f g hj h1 (Int32.not_lt.mp h2) c6 c1
      have r2 := c_X9_last j f g hj h1 h2 m8 m7
      rw [c4, c5] at r1
      rw [m4, cntF_c fEnd f m6] at r2
      exact sim_0 hC hM (by decide) r1 (by decide) r2
theorem s_first (s f : Int32) (hC : CR g n t ln bt B fd sh) (hM : MR g n t ln bt B fd sh) : SimI MX8_first MX9_first [.int s, .int f] g := by
  by_cases hb : ¬ okS s ∨ f < 1 ∨ 9 < f
  · exact sim_0 hC hM (by decide) (c_X8_first_bad s f g hb) (by decide) (c_X9_first_bad s f g hb)
  · simp only [not_or, Classical.not_not] at hb
    obtain ⟨h0, h1, h2⟩ := hb
    obtain ⟨j, hj, rfl⟩ := okS_n h0
    cases hx : sh j with
    | none => exact sim_fd 1 hC hM (by decide) (c_X8_first_null j f g hj h1 (Int32.not_lt.mp h2) (shC_none hC hj hx)) (by decide) (fun g1 h => c_X9_first_null j f g1 hj h1 h2 (shM_none h hj hx))
    | some x =>
      obtain ⟨m1, m2, m3, m4, m5, m6, m7, m8⟩ := shM_some hM hj hx
      obtain ⟨c1, c2, c3, c4, c5, c6⟩ := shC_some hC hj hx m5
      have r1 := c_X8_first j f g hj h1 (Int32.not_lt.mp h2) c6 c1
      have r2 := c_X9_first j f g hj h1 h2 m8 m7
      rw [c4, c5] at r1
      rw [m4, cntF_c fFirst f m6] at r2
      exact sim_0 hC hM (by decide) r1 (by decide) r2
theorem okRu3 {r : Int32} (h : okRu r) : r = 0 ∨ r = 1 ∨ r = 2 := by
  obtain ⟨k, k1, k2⟩ := nI_of2 (n := 2) (by decide) h.1 (Int32.not_lt.mp h.2)
  have : k = 0 ∨ k = 1 ∨ k = 2 := by omega
  rcases this with rfl | rfl | rfl
  · exact Or.inl k2
  · exact Or.inr (Or.inl k2)
  · exact Or.inr (Or.inr k2)
theorem s_shares (s r w : Int32) (hC : CR g n t ln bt B fd sh) (hM : MR g n t ln bt B fd sh) : SimI MX8_shares MX9_shares [.int s, .int r, .int w] g := by
  by_cases hb : ¬ okS s ∨ ¬ okRu r ∨ w < 0 ∨ 1 < w
  · exact sim_0 hC hM (by decide) (c_X8_shares_bad s r w g hb) (by decide) (c_X9_shares_bad s r w g hb)
  · simp only [not_or, Classical.not_not] at hb
    obtain ⟨h0, hr, h1, h2⟩ := hb
    obtain ⟨j, hj, rfl⟩ := okS_n h0
    cases hx : sh j with
    | none => exact sim_fd 1 hC hM (by decide) (c_X8_shares_null j r w g hj hr h1 (Int32.not_lt.mp h2) (shC_none hC hj hx)) (by decide) (fun g1 h => c_X9_shares_no j r w (-11) g1 _ hj hr h1 h2 (by decide) (c_X9_noShares_null j g1 hj (shM_none h hj hx)))
    | some x =>
      obtain ⟨m1, m2, m3, m4, m5, m6, m7, m8⟩ := shM_some hM hj hx
      obtain ⟨c1, c2, c3, c4, c5, c6⟩ := shC_some hC hj hx m5
      have r1 := c_X8_shares j r w g hj hr h1 (Int32.not_lt.mp h2) c6 c1
      rw [c4, c5] at r1
      have eW : fWithin (fun i => g.1 34 (60 * j + i)) 0 100 x.2.1 = fWithin x.2.2 0 100 x.2.1 := fWithin_c 0 100 m6
      by_cases cw : fWithin x.2.2 0 100 x.2.1 = 0
      · rw [if_pos cw] at r1
        have r2 := c_X9_shares_no j r w (-3) g g hj hr h1 h2 (by decide) (c_X9_noShares_n j g hj m8 m7 (by rw [m4, eW]; exact cw))
        exact sim_0 hC hM (by decide) r1 (by decide) r2
      · rw [if_neg cw] at r1
        have r2 := c_X9_shares j r w g hj m8 hr h1 h2 m7 (by rw [m4, eW]; exact fW_1 cw)
        have eF : (fun T => csR (fun i => g.1 34 (60 * j + i)) r T (mz g j)) = fun T => csR x.2.2 r T x.2.1 := funext fun T => by rw [m4]; exact csR_c r T m6
        obtain ⟨q1, q2⟩ := shares_eq x.2.2 r (okRu3 hr) m5 (fW_in cw)
        rw [eF, ← q1, ← q2] at r2
        exact sim_0 hC hM (by decide) r1 (by decide) r2
theorem s_share (s r w : Int32) (hC : CR g n t ln bt B fd sh) (hM : MR g n t ln bt B fd sh) : SimI MX8_share MX9_share [.int s, .int r, .int w] g := by
  by_cases hb : ¬ okS s ∨ ¬ okRu r ∨ w < 1 ∨ 300 < w
  · exact sim_0 hC hM (by decide) (c_X8_share_bad s r w g hb) (by decide) (c_X9_share_bad s r w g hb)
  · simp only [not_or, Classical.not_not] at hb
    obtain ⟨h0, hr, h1, h2⟩ := hb
    obtain ⟨j, hj, rfl⟩ := okS_n h0
    cases hx : sh j with
    | none => exact sim_fd 1 hC hM (by decide) (c_X8_share_null j r w g hj hr h1 (Int32.not_lt.mp h2) (shC_none hC hj hx)) (by decide) (fun g1 h => c_X9_share_no j r w (-11) g1 _ hj hr h1 h2 (by decide) (c_X9_noShares_null j g1 hj (shM_none h hj hx)))
    | some x =>
      obtain ⟨m1, m2, m3, m4, m5, m6, m7, m8⟩ := shM_some hM hj hx
      obtain ⟨c1, c2, c3, c4, c5, c6⟩ := shC_some hC hj hx m5
      have r1 := c_X8_share j r w g hj hr h1 (Int32.not_lt.mp h2) c6 c1
      rw [c4, c5] at r1
      have eW : fWithin (fun i => g.1 34 (60 * j + i)) 0 100 x.2.1 = fWithin x.2.2 0 100 x.2.1 := fWithin_c 0 100 m6
      by_cases cw : fWithin x.2.2 0 100 x.2.1 = 0
      · rw [if_pos cw] at r1
        have r2 := c_X9_share_no j r w (-3) g g hj hr h1 h2 (by decide) (c_X9_noShares_n j g hj m8 m7 (by rw [m4, eW]; exact cw))
        exact sim_0 hC hM (by decide) r1 (by decide) r2
      · rw [if_neg cw] at r1
        have hw0 : ¬ w < 0 := fun q => h1 (Int32.lt_trans q (by decide))
        obtain ⟨T, T1, rfl⟩ := nI_of2 (x := w) (M := 300) (n := 300) (by decide) hw0 (Int32.not_lt.mp h2)
        have T0 : 1 ≤ T := by
          apply Classical.byContradiction
          intro q
          have : T = 0 := by omega
          subst this
          exact h1 (by decide)
        have r2 := c_X9_share j T r g hj m8 hr T0 T1 m7 (by rw [m4, eW]; exact fW_1 cw)
        rw [m4, csR_c r T m6, ← cbt_eq x.2.2 r T0 T1 (okRu3 hr) m5 (fW_in cw)] at r2
        exact sim_0 hC hM (by decide) r1 (by decide) r2
theorem s_lastChance (s : Int32) (hC : CR g n t ln bt B fd sh) (hM : MR g n t ln bt B fd sh) : SimI MX8_lastChance MX9_lastChance [.int s] g := by
  by_cases hb : ¬ okS s
  · exact sim_0 hC hM (by decide) (c_X8_lastChance_bad s g hb) (by decide) (c_X9_lastChance_bad s g hb)
  · obtain ⟨j, hj, rfl⟩ := okS_n (Classical.not_not.mp hb)
    cases hx : sh j with
    | none => exact sim_fd 1 hC hM (by decide) (c_X8_lastChance_null j g hj (shC_none hC hj hx)) (by decide) (fun g1 h => c_X9_lastChance_null j g1 hj (shM_none h hj hx))
    | some x =>
      obtain ⟨m1, m2, m3, m4, m5, m6, m7, m8⟩ := shM_some hM hj hx
      obtain ⟨c1, c2, c3, c4, c5, c6⟩ := shC_some hC hj hx m5
      by_cases hf : 12 < x.2.1
      · exact sim_0 hC hM (by decide) (c_X8_lastChance_full j g hj c6 c1 (by rw [c4]; exact hf)) (by decide) (c_X9_lastChance_full j g hj m8 m7 (by rw [m4]; exact hf))
      · by_cases z : x.2.1 = 0
        · have q := c_X0_ofSome0 (fMostE (g.1 (18 + j + 4)) (szN g (18 + j))) g
          have r1 := c_X8_lastChance j 1000000 g g hj c6 c1 (by rw [c4]; omega) (by rw [c4, z] at q ⊢; exact q)
          exact sim_0 hC hM (by decide) r1 (by decide) (c_X9_lastChance_0 j g hj m8 m7 (by rw [m4]; exact z))
        · have eo := mo_eq x.2.2 (n := x.2.1) (by omega)
          have lo := mo_le x.2.2 (n := x.2.1) (by omega)
          have po := mo_pos x.2.2 (n := x.2.1) (by omega) (by omega)
          have q := c_X0_ofSomeFigure x.2.1 (moN x.2.2 x.2.1) g (by omega) (by omega) po (by omega)
          have r1 := c_X8_lastChance j (fSome x.2.1 (moN x.2.2 x.2.1)) g _ hj c6 c1 (by rw [c4]; omega) (by rw [c4, c5, eo]; exact q)
          refine sim_I hM (by decide) r1 (CR_f (fun q j _ => rfl) hC) (fun q j _ => rfl) (by decide : 2 ≤ 12) (fun h => ?_)
          obtain ⟨m1, m2, m3, m4, m5, m6, m7, m8⟩ := shM_some h hj hx
          refine ⟨_, c_X9_lastChance j x.2.1 (moN x.2.2 x.2.1) _ hj m8 m7 m4 (by omega) (by omega) (by rw [fMostE_c m6]; exact eo) (by omega), MR_f (fun q j _ => rfl) h, fun q j _ => rfl⟩
theorem cFI_p : ∀ f, f < 9 → ∀ e, e < 7 → (¬ powL (cFI f).toInt64 e < 1) ∧ ¬ powL (1000 - cFI f).toInt64 e < 1 := by decide +kernel
theorem s_firstChance (s f : Int32) (hC : CR g n t ln bt B fd sh) (hM : MR g n t ln bt B fd sh) : SimI MX8_firstChance MX9_firstChance [.int s, .int f] g := by
  by_cases hb : ¬ okS s ∨ f < 1 ∨ 9 < f
  · exact sim_0 hC hM (by decide) (c_X8_firstChance_bad s f g hb) (by decide) (c_X9_firstChance_bad s f g hb)
  · simp only [not_or, Classical.not_not] at hb
    obtain ⟨h0, h1, h2⟩ := hb
    obtain ⟨j, hj, rfl⟩ := okS_n h0
    cases hx : sh j with
    | none => exact sim_fd 1 hC hM (by decide) (c_X8_firstChance_null j f g hj h1 (Int32.not_lt.mp h2) (shC_none hC hj hx)) (by decide) (fun g1 h => c_X9_firstChance_null j f g1 hj h1 h2 (shM_none h hj hx))
    | some x =>
      obtain ⟨m1, m2, m3, m4, m5, m6, m7, m8⟩ := shM_some hM hj hx
      obtain ⟨c1, c2, c3, c4, c5, c6⟩ := shC_some hC hj hx m5
      have e0 := cn_eq fFirst 0 x.2.2 x.2.1
      have l0 := cn_le fFirst 0 x.2.2 x.2.1
      have ek : nI x.2.1 - cntF fFirst 0 x.2.2 x.2.1 = nI (x.2.1 - cnN fFirst 0 x.2.2 x.2.1) := by rw [e0, pk_sub l0]
      have kC : nI (szN g (18 + j)) - cntF fFirst 0 (g.1 (18 + j + 4)) (szN g (18 + j)) = nI (x.2.1 - cnN fFirst 0 x.2.2 x.2.1) := by rw [c4, c5, ek]
      have kM : nI (mz g j) - cntF fFirst 0 (fun i => g.1 34 (60 * j + i)) (mz g j) = nI (x.2.1 - cnN fFirst 0 x.2.2 x.2.1) := by rw [m4, cntF_c fFirst 0 m6, ek]
      by_cases hf : 6 < x.2.1 - cnN fFirst 0 x.2.2 x.2.1
      · exact sim_0 hC hM (by decide) (c_X8_firstChance_full j _ f g hj h1 (Int32.not_lt.mp h2) c6 c1 kC hf (by omega)) (by decide) (c_X9_firstChance_full j _ f g hj h1 h2 m8 m7 kM hf (by omega))
      · have hw0 : ¬ f < 0 := fun q => h1 (Int32.lt_trans q (by decide))
        obtain ⟨F, F1, rfl⟩ := nI_of2 (x := f) (M := 9) (n := 9) (by decide) hw0 (Int32.not_lt.mp h2)
        have F0 : 1 ≤ F := by
          apply Classical.byContradiction
          intro q
          have : F = 0 := by omega
          subst this
          exact h1 (by decide)
        have e2 := cn_eq fFirst (nI F) x.2.2 x.2.1
        have l2 := cn_le fFirst (nI F) x.2.2 x.2.1
        have r1 := c_X8_firstChance j _ F (cnN fFirst (nI F) x.2.2 x.2.1) g hj F0 F1 c6 c1 kC (by omega) (by rw [c4, c5, e2]) (by omega) (fun e he => (cFI_p (F - 1) (by omega) e (by omega)).1) (fun e he => (cFI_p (F - 1) (by omega) e (by omega)).2)
        have r2 := c_X9_firstChance j _ F (cnN fFirst (nI F) x.2.2 x.2.1) g hj F0 F1 m8 m7 kM (by omega) (by rw [m4, cntF_c fFirst (nI F) m6, e2]) (by omega)
        exact sim_0 hC hM (by decide) r1 (by decide) r2
end SIM
