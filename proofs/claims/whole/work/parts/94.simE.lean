/-! class and reference: believe, count -/
section SIM
variable {g : Hp} {n t ln : Nat} {bt : Nat → Nat} {B : Nat} {fd : Int32} {sh : Nat → Option Sht}
theorem and_not0 {b m : Int32} (h : b &&& (m ^^^ -1) = 0) : b &&& m = b := by
  apply Int32.toBitVec_inj.mp
  have h' := congrArg Int32.toBitVec h
  rw [Int32.toBitVec_and, Int32.toBitVec_xor, show (-1 : Int32).toBitVec = BitVec.allOnes 32 by decide, show (0 : Int32).toBitVec = 0#32 by decide] at h'
  rw [Int32.toBitVec_and]
  apply BitVec.eq_of_getLsbD_eq
  intro i hi
  have q := congrArg (fun v => BitVec.getLsbD v i) h'
  simp only [BitVec.getLsbD_and, BitVec.getLsbD_xor, BitVec.getLsbD_allOnes, BitVec.getLsbD_zero] at q
  rw [decide_eq_true hi] at q
  rw [BitVec.getLsbD_and]
  cases hb : b.toBitVec.getLsbD i <;> cases hm : m.toBitVec.getLsbD i <;> simp_all
theorem bel_iff {x k : Nat} (hx : x < 2 ^ 31) (hk : k ≤ 10) : nI x &&& (fAll (nI k) ^^^ (-1)) = 0 ↔ x < 2 ^ k := by
  obtain ⟨f1, f2⟩ := fAll_N k (by omega)
  have hp := Nat.pow_pos (n := k) (show 0 < 2 by decide)
  rw [f1]
  constructor
  · intro h
    have e := and_not0 h
    have e2 := pk_andN (n := x) (by omega) (m := nI (2 ^ k - 1)) k (by rw [pk_tn (by omega)])
    rw [e2] at e
    have hm := Nat.mod_lt x hp
    have e3 : x % 2 ^ k = x := (nI_eq (by omega) hx).mp e
    omega
  · intro h
    have hx10 : x < 1024 := by omega
    rw [and_nN hx10 f2]
    have : dif x (2 ^ k - 1) = 0 := (dif_0 hx10).mpr (fun j q => by
      by_cases c : j < 10
      · rw [tb_all k (by omega) j c, decide_eq_true_eq]
        apply Classical.byContradiction
        intro z
        have := Nat.testBit_lt_two_pow (x := x) (i := j) (Nat.lt_of_lt_of_le h (Nat.pow_le_pow_right (by decide) (by omega)))
        rw [this] at q
        exact absurd q (by decide)
      · rw [tb_hi hx10 (by omega)] at q
        exact absurd q (by decide))
    unfold dif at this
    rw [this]
    rfl
theorem dbl {k x : Nat} (hk : k ≤ 10) (hx : x < 2 ^ k) : fAll (nI k) &&& ((fAll (nI k) &&& (nI x ^^^ -1)) ^^^ -1) = nI x := by
  obtain ⟨f1, f2⟩ := fAll_N k (by omega)
  have hx10 : x < 1024 := by omega
  rw [f1, and_nN f2 hx10]
  have hd : dif (2 ^ k - 1) x < 1024 := dif_lt f2 x
  show nI (2 ^ k - 1) &&& (nI (dif (2 ^ k - 1) x) ^^^ -1) = nI x
  rw [and_nN f2 hd]
  congr 1
  show dif (2 ^ k - 1) (dif (2 ^ k - 1) x) = x
  apply Nat.eq_of_testBit_eq
  intro j
  rw [dif_tb f2, dif_tb f2]
  by_cases c : j < 10
  · rw [tb_all k (by omega) j c]
    by_cases q : j < k
    · rw [decide_eq_true q]
      cases x.testBit j <;> rfl
    · rw [decide_eq_false q]
      have := Nat.testBit_lt_two_pow (x := x) (i := j) (Nat.lt_of_lt_of_le hx (Nat.pow_le_pow_right (by decide) (by omega)))
      rw [this]
      rfl
  · rw [tb_hi f2 (by omega), tb_hi hx10 (by omega)]
    rfl
theorem CR_bel {x : Nat} (hC : CR g n t ln bt B fd sh) {k : Nat} (hk : (RDg bt ln).1 = some k) : CR (pI g 0 9 (nI x)) n t ln bt x fd sh := by
  have e : ∀ q j, ¬ (q = 0 ∧ j = 9) → (pI g 0 9 (nI x)).1 q j = g.1 q j := fun q j hq => by rw [pI_g, if_neg hq]
  obtain ⟨⟨k1, k2, k3, k4, k5, k6⟩, ⟨t1, t2, t3⟩, ⟨r1, r2⟩, cl, ⟨b1, b2⟩, f1, s4, ss⟩ := hC
  have ez : ∀ j, j < 4 → szN (pI g 0 9 (nI x)) (18 + j) = szN g (18 + j) := fun j hj => by unfold szN; rw [e _ _ (by omega)]
  refine ⟨⟨k1, k2, k3, by rw [e _ _ (by omega)]; exact k4, by rw [e _ _ (by omega)]; exact k5, ?_⟩, ⟨by rw [e _ _ (by omega)]; exact t1, t2, fun j hj => by rw [e _ _ (by omega)]; exact t3 j hj⟩, ⟨by rw [e _ _ (by omega)]; exact r1, by rw [e _ _ (by omega)]; exact r2⟩, fun k hk => ?_, ⟨by rw [pI_g, if_pos ⟨rfl, rfl⟩], fun q => by rw [hk] at q; exact absurd q (fun z => nomatch z)⟩, by rw [e _ _ (by omega)]; exact f1, fun j hj => ?_, fun j hj => ?_⟩
  · rw [e 0 11 (by omega)]
    rcases k6 with q | ⟨q, c1, c2, c3⟩
    · exact Or.inl q
    · exact Or.inr ⟨q, by rw [e _ _ (by omega)]; exact c1, c2, fun k hk => by rw [e _ _ (by omega)]; exact c3 k hk⟩
  · obtain ⟨a1, a2⟩ := cl k hk
    refine ⟨fun j hj => ?_, ?_⟩
    · have := a1 j hj
      unfold QE c0H at this ⊢
      dsimp only at this ⊢
      rw [e 3 j (by omega), e 4 j (by omega), e 5 j (by omega), e 6 j (by omega), e 7 j (by omega)]
      exact this
    · rw [e 0 12 (by omega), e 0 11 (by omega)]
      rcases a2 with q | ⟨q, c⟩
      · exact Or.inl q
      · exact Or.inr ⟨q, fun z i hi => by rw [e _ _ (by omega)]; exact c z i hi⟩
  · obtain ⟨a, b, c⟩ := s4 j hj
    rw [ez j hj, e (18 + j) 3 (by omega), e (18 + j) 1 (by omega)]
    exact ⟨a, b, c⟩
  · have := ss j hj
    cases hh : sh j with
    | none => rw [hh] at this; show (pI g 0 9 (nI x)).1 (18 + j) 1 = 1; rw [e _ _ (by omega)]; exact this
    | some y =>
      rw [hh] at this
      obtain ⟨a, b, c, d⟩ := this
      refine ⟨by rw [e _ _ (by omega)]; exact a, by rw [e _ _ (by omega)]; exact b, by rw [e _ _ (by omega)]; exact c, ?_⟩
      rw [← d]
      funext w
      exact e _ _ (by omega)
theorem MR_bel {x : Nat} {y : Int32} (hM : MR g n t ln bt B fd sh) {k : Nat} (hk : (RDg bt ln).1 = some k) (hx : x < 2 ^ k) (hy : fAll (nI k) &&& (y ^^^ -1) = nI x) : MR (pI g 31 16 y) n t ln bt x fd sh := by
  have e : ∀ q j, ¬ (q = 31 ∧ j = 16) → (pI g 31 16 y).1 q j = g.1 q j := fun q j hq => by rw [pI_g, if_neg hq]
  obtain ⟨⟨k1, k2, k3, k4, k5⟩, ⟨t1, t2, t3⟩, cl, f1, s4, ss⟩ := hM
  have ez : ∀ j, mz (pI g 31 16 y) j = mz g j := fun j => by unfold mz; rw [e _ _ (by omega)]
  refine ⟨⟨k1, k2, k3, by rw [e _ _ (by omega)]; exact k4, by rw [e _ _ (by omega)]; exact k5⟩, ⟨by rw [e _ _ (by omega)]; exact t1, t2, fun j hj => by rw [e _ _ (by omega)]; exact t3 j hj⟩, fun k' hk' => ?_, by rw [e _ _ (by omega)]; exact f1, fun j hj => ?_, fun j hj => ?_⟩
  · have : k = k' := Option.some.inj (hk.symm.trans hk')
    subst this
    exact ⟨by rw [pI_g, if_pos ⟨rfl, rfl⟩]; exact hy, hx⟩
  · rw [ez, e _ _ (by omega)]; exact s4 j hj
  · have := ss j hj
    cases hh : sh j with
    | none => rw [hh] at this; show (pI g 31 16 y).1 32 j < 0; rw [e _ _ (by omega)]; exact this
    | some z =>
      rw [hh] at this
      obtain ⟨a, b, c, d, f⟩ := this
      exact ⟨by rw [e _ _ (by omega)]; exact a, b, by rw [e _ _ (by omega)]; exact c, d, fun i hi => by rw [e _ _ (by omega)]; exact f i hi⟩
theorem s_believe (b : Int32) (hC : CR g n t ln bt B fd sh) (hM : MR g n t ln bt B fd sh) : SimI MX8_believe MX9_believe [.int b] g := by
  obtain ⟨_, _, ⟨r9, r10⟩, cl, ⟨b9, _⟩, _⟩ := id hC
  by_cases hb : b < 0
  · exact sim_0 hC hM (by decide) (c_X8_believe_bad b g hb) (by decide) (c_X9_believe_bad b g hb)
  · cases hk : (RDg bt ln).1 with
    | none =>
      refine sim_I hM (by decide) (c_X8_believe_not b g hb (by rw [r10]; exact rFl_none hk)) hC (FC.rf g) (by decide : 5 ≤ 12) (fun h => ?_)
      obtain ⟨g1, r, m, f, _⟩ := M_reads h
      exact ⟨g1, c_X9_believe_not b hb r (rFl_none hk), m, f⟩
    | some k =>
      have k10 := (g_ok hk).1
      have e9 : g.1 1 9 = nI k := by rw [r9, hk]; rfl
      obtain ⟨x, x1, rfl⟩ := nI_of hb
      have r1 := c_X8_believe (nI x) g hb (by rw [r10]; exact rFl_some hk)
      rw [e9] at r1
      obtain ⟨f1, f2⟩ := fAll_N k (by omega)
      have hp := Nat.pow_pos (n := k) (show 0 < 2 by decide)
      by_cases c : x < 2 ^ k
      · rw [if_pos ((bel_iff x1 k10).mpr c), b9] at r1
        refine sim_I hM (by decide) r1 (CR_bel hC hk) (fun q j hq => by rw [pI_g, if_neg (by omega)]) (by decide : 5 ≤ 12) (fun h => ?_)
        obtain ⟨g1, r, m, f, a⟩ := M_reads h
        rw [rFl_some hk] at r
        obtain ⟨a1, a2, a3, a4⟩ := a k hk
        have r2 := c_X9_believe (nI x) hb r (by rw [a1, f1]; exact nI_le (by omega) (by omega))
        rw [a4, a1] at r2
        exact ⟨_, r2, MR_bel m hk c (dbl k10 c), f.tr (fun q j hq => by rw [pI_g, if_neg (by omega)])⟩
      · rw [if_neg (fun q => c ((bel_iff x1 k10).mp q))] at r1
        refine sim_I hM (by decide) r1 hC (FC.rf g) (by decide : 5 ≤ 12) (fun h => ?_)
        obtain ⟨g1, r, m, f, a⟩ := M_reads h
        rw [rFl_some hk] at r
        obtain ⟨a1, a2, a3, a4⟩ := a k hk
        exact ⟨g1, c_X9_believe_big (nI x) hb r (by rw [a1, f1]; exact nI_ge (by omega) x1), m, f⟩
theorem there_iff (hC : CR g n t ln bt B fd sh) {w : Hp} (hM : MR w n t ln bt B fd sh) : fThere g = mTh w := by
  refine fThere_eq (fun j hj => ?_)
  cases hx : sh j with
  | none =>
    rw [shC_none hC hj hx]
    exact ⟨fun q => absurd q (by decide), fun q => absurd (shM_none hM hj hx) q⟩
  | some x =>
    obtain ⟨m1, m2, m3, m4, m5, m6, m7, m8⟩ := shM_some hM hj hx
    obtain ⟨c1, _⟩ := shC_some hC hj hx m5
    exact ⟨fun _ => m7, fun _ => c1⟩
theorem M_c3 (hM : MR g n t ln bt B fd sh) (hB : (RDg bt ln).1 = none → B = 0) : ∃ g1, Rn 5 MX9_count [.ref 31, .int (nI 3)] g (EI (nI B) g1) ∧ MR g1 n t ln bt B fd sh ∧ FM g g1 := by
  obtain ⟨g1, r, m, f, a⟩ := M_reads hM
  cases hk : (RDg bt ln).1 with
  | none =>
    have e := hB hk
    subst e
    exact ⟨g1, c_X9_count3_n r (rFl_none hk), m, f⟩
  | some k =>
    rw [rFl_some hk] at r
    have r2 := c_X9_count3_y r
    rw [(a k hk).2.2.2] at r2
    exact ⟨g1, r2, m, f⟩
theorem s_count (w : Int32) (hC : CR g n t ln bt B fd sh) (hM : MR g n t ln bt B fd sh) : SimI MX8_count MX9_count [.int w] g := by
  obtain ⟨⟨k1, k2, k3, k4, k5, k6⟩, ⟨t1, _⟩, ⟨r9, r10⟩, cl, ⟨b9, bn⟩, f1, s4, _⟩ := id hC
  obtain ⟨⟨_, _, _, m4, m5⟩, ⟨u1, _⟩, _, g1, _⟩ := id hM
  by_cases hb : w < 0 ∨ 8 < w ∨ w = 5 ∨ w = 6 ∨ w = 7
  · exact sim_0 hC hM (by decide) (c_X8_count_bad w g hb) (by decide) (c_X9_count_bad w g hb)
  · simp only [not_or] at hb
    obtain ⟨h1, h2, h5, h6, h7⟩ := hb
    obtain ⟨x, x1, rfl⟩ := nI_of2 (x := w) (M := 8) (n := 8) (by decide) h1 (Int32.not_lt.mp h2)
    have : x = 0 ∨ x = 1 ∨ x = 2 ∨ x = 3 ∨ x = 4 ∨ x = 5 ∨ x = 6 ∨ x = 7 ∨ x = 8 := by omega
    rcases this with rfl | rfl | rfl | rfl | rfl | rfl | rfl | rfl | rfl
    · have q1 := c_X8_count0 g
      have q2 := c_X9_count0 g
      rw [k4] at q1
      rw [m4] at q2
      exact sim_0 hC hM (by decide) q1 (by decide) q2
    · have q1 := c_X8_count1 g
      have q2 := c_X9_count1 g
      rw [k5] at q1
      rw [m5] at q2
      exact sim_0 hC hM (by decide) q1 (by decide) q2
    · have q1 := c_X8_count2 g
      have q2 := c_X9_count2 g
      rw [t1] at q1
      rw [u1] at q2
      exact sim_0 hC hM (by decide) q1 (by decide) q2
    · have q1 := c_X8_count3 g
      rw [b9] at q1
      exact sim_I hM (by decide) q1 hC (FC.rf g) (by decide : 5 ≤ 12) (fun h => M_c3 h bn)
    · have q1 := c_X8_count4 g s4
      have q2 := c_X9_count4 g
      rw [there_iff hC hM] at q1
      exact sim_0 hC hM (by decide) q1 (by decide) q2
    · exact absurd rfl h5
    · exact absurd rfl h6
    · exact absurd rfl h7
    · have q1 := c_X8_count8 g
      have q2 := c_X9_count8 g
      rw [f1] at q1
      rw [g1] at q2
      exact sim_0 hC hM (by decide) q1 (by decide) q2
end SIM
