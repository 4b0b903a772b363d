/-! ToldFigures: text and rows -/
def KR (h : Hp) (n t : Nat) : Prop := 1 ≤ n ∧ n ≤ 9 ∧ t ≤ 6 ∧ h.1 0 7 = nI n ∧ h.1 0 8 = nI t ∧ (h.1 0 11 = 0 ∨ (h.1 0 11 = 1 ∧ TB h (NR n t) (rowN n t)))
def scr (q j : Nat) : Prop := q = 8 ∨ q = 9 ∨ q = 10 ∨ q = 11 ∨ q = 13 ∨ q = 14 ∨ (q = 12 ∧ j = 4) ∨ (q = 0 ∧ (j = 11 ∨ j = 12))
/-- all but what the rows and their judging need stays -/
def FR (h h1 : Hp) : Prop := (∀ q j, ¬ scr q j → h1.1 q j = h.1 q j) ∧ h1.2 = h.2
theorem FR.rf (h : Hp) : FR h h := ⟨fun _ _ _ => rfl, rfl⟩
theorem FR.tr {h h1 h2 : Hp} (a : FR h h1) (b : FR h1 h2) : FR h h2 := ⟨fun q j hq => (b.1 q j hq).trans (a.1 q j hq), b.2.trans a.2⟩
theorem NR_le {n t : Nat} (h1 : 1 ≤ n) (h2 : n ≤ 9) (h3 : t ≤ 6) : 1 ≤ NR n t ∧ NR n t ≤ 5005 := by
  obtain ⟨a, b, -⟩ := run_facts n t 5005 _ (okR h1 h2 h3)
  exact ⟨a, b⟩
theorem row_ok {n t k : Nat} (h1 : 1 ≤ n) (h2 : n ≤ 9) (h3 : t ≤ 6) (hk : k < NR n t) : rowN n t k < 10000000 ∧ sg (dgt (rowN n t k)) 7 = n ∧ ∀ j, j < 7 → t < j → dgt (rowN n t k) j = 0 := by
  obtain ⟨-, -, f, -⟩ := run_facts n t 5005 _ (okR h1 h2 h3)
  exact okOne_of (f k hk)
theorem c_X8_layRows {h : Hp} {n t : Nat} (hK : KR h n t) : ∃ h1, Rn 3 MX8_layRows [.ref 0] h (EV h1) ∧ FR h h1 ∧ h1.1 0 11 = 1 ∧ TB h1 (NR n t) (rowN n t) ∧ (h1 = h ∨ h1.1 0 12 = 0) := by
  obtain ⟨k1, k2, k3, k4, k5, k6⟩ := hK
  rcases k6 with q | ⟨q, hT⟩
  · refine ⟨pI (pI (fH h (nbA (h.1 13) n t (NR n t)) (dgt (rowN n t (NR n t - 1))) (nI (NR n t))) 0 11 1) 0 12 0, ?_, ⟨fun x j hx => ?_, rfl⟩, ?_, ?_, Or.inr ?_⟩
    · refine rn_of mm_X8_layRows (le_b rfl) rfl ?_
      refine r_aload0 dX8_layRows_0 ?_
      refine r_getI dX8_layRows_1 fl_X8_65 rfl rfl ?_
      refine r_ifne (tgt := 36) dX8_layRows_4 (by decide) (fun c9 => absurd (q) c9) (fun _ => ?_)
      refine r_aload0 dX8_layRows_7 ?_
      refine r_getR dX8_layRows_8 fl_X8_26 rfl rfl ?_
      refine r_aload0 dX8_layRows_11 ?_
      refine r_getI dX8_layRows_12 fl_X8_57 rfl rfl ?_
      refine r_aload0 dX8_layRows_15 ?_
      refine r_getI dX8_layRows_16 fl_X8_61 rfl rfl ?_
      refine r_aload0 dX8_layRows_19 ?_
      refine r_getR dX8_layRows_20 fl_X8_19 rfl rfl ?_
      rw [k4, k5]
      refine r_cV3V dX8_layRows_23 mm_X5_fill im_X5_fill se_X5_fill ml_X8_295 rfl rfl rfl (c_X5_fill n t h k1 k2 k3) (by decide) (Nat.le_of_ble_eq_true rfl) ?_
      refine r_aload0 dX8_layRows_26 ?_
      refine r_iconst_1 dX8_layRows_27 ?_
      refine r_putZ dX8_layRows_28 fw_X8_65 rfl rfl (by decide) ?_
      refine r_aload0 dX8_layRows_31 ?_
      refine r_iconst_0 dX8_layRows_32 ?_
      refine r_putZ dX8_layRows_33 fw_X8_292 rfl rfl (by decide) ?_
      exact r_vretE dX8_layRows_36 rfl (rfl)
    · simp only [pI_g, fH]
      unfold scr at hx
      simp only [not_or] at hx
      obtain ⟨a1, a2, a3, a4, a5, a6, a7, a8⟩ := hx
      by_cases e0 : x = 0
      · subst e0
        simp only [true_and, not_or] at a8
        simp [a8.1, a8.2]
      · simp [e0, a4, a5, a7]
    · simp [pI_g]
    · have hl := NR_le k1 k2 k3
      refine ⟨by simp [pI_g, fH], hl.2, fun k hk => ⟨?_, (row_ok k1 k2 k3 hk).1⟩⟩
      simp [pI_g, fH, nbA, hk]
    · simp [pI_g]
  · refine ⟨h, ?_, FR.rf h, q, hT, Or.inl rfl⟩
    refine rn_of mm_X8_layRows (le_b rfl) rfl ?_
    refine r_aload0 dX8_layRows_0 ?_
    refine r_getI dX8_layRows_1 fl_X8_65 rfl rfl ?_
    refine r_ifne (tgt := 36) dX8_layRows_4 (by decide) (fun _ => ?_) (fun c9 => absurd c9 (by rw [q]; decide))
    exact r_vretE dX8_layRows_36 rfl (rfl)
/-- what the k-th row holds -/
def Hs (h : Hp) (Kd Mk Bh : Nat → Nat) (kc n t : Nat) : Nat → Int32 := fun k => hbN (fun i => (stl h Kd Bh (nI n) i).1) (fun i => (stl h Kd Bh (nI n) i).2) Kd Mk n kc (rowN n t k)
def KI (h : Hp) (n t kc : Nat) (Kd Mk Bh : Nat → Nat) : Prop := KR h n t ∧ CLM h kc Kd Mk Bh ∧ (h.1 0 12 = 0 ∨ (h.1 0 12 = 1 ∧ (h.1 0 11 = 1 → ∀ k, k < NR n t → h.1 14 k = Hs h Kd Mk Bh kc n t k)))
theorem nscr {q : Nat} (j : Nat) (h : q = 1 ∨ q = 2 ∨ q = 3 ∨ q = 4 ∨ q = 5 ∨ q = 6 ∨ q = 7 ∨ 15 ≤ q) : ¬ scr q j := by
  unfold scr
  omega
theorem FR.clm {h h1 : Hp} {kc : Nat} {Kd Mk Bh : Nat → Nat} (f : FR h h1) (hC : CLM h kc Kd Mk Bh) : CLM h1 kc Kd Mk Bh := by
  obtain ⟨c1, c2, c3⟩ := hC
  refine ⟨by rw [f.1 _ _ (nscr _ (by omega))]; exact c1, c2, fun i hi => ?_⟩
  obtain ⟨d1, d2, d3, d4, d5⟩ := c3 i hi
  exact ⟨by rw [f.1 _ _ (nscr _ (by omega))]; exact d1, d2, by rw [f.1 _ _ (nscr _ (by omega))]; exact d3, d4, fun h4 => by rw [f.1 _ _ (nscr _ (by omega))]; exact d5 h4⟩
theorem FR.stlE {h h1 : Hp} (f : FR h h1) (Kd Bh : Nat → Nat) (n : Int32) (i : Nat) : stl h1 Kd Bh n i = stl h Kd Bh n i := by
  unfold stl
  rw [f.1 5 i (nscr _ (by omega)), f.1 7 i (nscr _ (by omega)), f.1 4 i (nscr _ (by omega))]
theorem FR.HsE {h h1 : Hp} (f : FR h h1) (Kd Mk Bh : Nat → Nat) (kc n t k : Nat) : Hs h1 Kd Mk Bh kc n t k = Hs h Kd Mk Bh kc n t k := by
  unfold Hs
  have e : stl h1 Kd Bh (nI n) = stl h Kd Bh (nI n) := funext fun i => f.stlE Kd Bh (nI n) i
  rw [e]
theorem hbN_cong {lo hi lo' hi' : Nat → Int32} {Kd Mk : Nat → Nat} {n kc N : Nat} (h : ∀ i, i < kc → lo i = lo' i ∧ hi i = hi' i) : hbN lo hi Kd Mk n kc N = hbN lo' hi' Kd Mk n kc N := by
  unfold hbN
  apply lp_cong
  intro i b _ hi2
  obtain ⟨a, b⟩ := h i (by omega)
  rw [a, b]
/-- behind judgeRows: rows and bits stand -/
def JP (h h1 : Hp) (n t kc : Nat) (Kd Mk Bh : Nat → Nat) : Prop := FR h h1 ∧ h1.1 0 11 = 1 ∧ h1.1 0 12 = 1 ∧ TB h1 (NR n t) (rowN n t) ∧ ∀ k, k < NR n t → h1.1 14 k = Hs h Kd Mk Bh kc n t k
theorem c_X8_judgeRows {h : Hp} {n t kc : Nat} {Kd Mk Bh : Nat → Nat} (hK : KI h n t kc Kd Mk Bh) : ∃ h1, Rn 5 MX8_judgeRows [.ref 0] h (EV h1) ∧ JP h h1 n t kc Kd Mk Bh := by
  obtain ⟨hR, hC, hH⟩ := hK
  obtain ⟨k1, k2, k3, k4, k5, k6⟩ := id hR
  obtain ⟨h1, r1, f1, s1, t1, c1⟩ := c_X8_layRows hR
  by_cases hz : h1.1 0 12 = 0
  · have hC1 := f1.clm hC
    have n1 : h1.1 0 7 = nI n := by rw [f1.1 0 7 (by unfold scr; omega)]; exact k4
    have rs := c_X1_settle kc Kd Mk Bh (nI n) h1 hC1
    have fs : ∀ q j, q ≠ 8 → q ≠ 9 → (sH h1 kc (stl h1 Kd Bh (nI n))).1 q j = h1.1 q j := fun q j a b => sH_ne _ _ _ _ a b
    have f2 : FR h1 (sH h1 kc (stl h1 Kd Bh (nI n))) := ⟨fun q j hq => fs q j (fun e => hq (Or.inl e)) (fun e => hq (Or.inr (Or.inl e))), rfl⟩
    have hT2 : TB (sH h1 kc (stl h1 Kd Bh (nI n))) (NR n t) (rowN n t) := by
      obtain ⟨a1, a2, a3⟩ := t1
      refine ⟨by rw [fs _ _ (by decide) (by decide)]; exact a1, a2, fun k hk => ?_⟩
      obtain ⟨b1, b2⟩ := a3 k hk
      exact ⟨by rw [fs _ _ (by decide) (by decide)]; exact b1, b2⟩
    obtain ⟨C, a, rj⟩ := c_X5_judge (NR n t) n kc (rowN n t) Kd Mk Bh (sH h1 kc (stl h1 Kd Bh (nI n))) hT2 (f2.clm hC1) k1 (by omega) (fun k hk => (row_ok k1 k2 k3 hk).2.1)
    generalize hB : hdA ((sH h1 kc (stl h1 Kd Bh (nI n))).1 14) (fun k => hbN ((sH h1 kc (stl h1 Kd Bh (nI n))).1 8) ((sH h1 kc (stl h1 Kd Bh (nI n))).1 9) Kd Mk n kc (rowN n t k)) (NR n t) = B at rj
    generalize hg : sH h1 kc (stl h1 Kd Bh (nI n)) = g at rs f2 hT2 rj hB fs
    have e8 : ∀ k, k < NR n t → B k = Hs h Kd Mk Bh kc n t k := by
      intro k hk
      rw [← hB, hdA, if_pos hk]
      unfold Hs
      apply hbN_cong
      intro i hi
      rw [← hg]
      constructor
      · show (sH h1 kc (stl h1 Kd Bh (nI n))).1 8 i = _
        unfold sH
        rw [pA_g, if_neg (by decide), pA_g, if_pos rfl, if_pos hi, f1.stlE]
      · show (sH h1 kc (stl h1 Kd Bh (nI n))).1 9 i = _
        unfold sH
        rw [pA_g, if_pos rfl, if_pos hi, f1.stlE]
    refine ⟨pI (rowH (pA g 14 B) C a) 0 12 1, ?_, ⟨fun q j hq => ?_, ?_⟩, ?_, ?_, ?_, ?_⟩
    · refine rn_of mm_X8_judgeRows (le_b rfl) rfl ?_
      refine r_aload0 dX8_judgeRows_0 ?_
      refine r_cV0V dX8_judgeRows_1 mm_X8_layRows im_X8_layRows se_X8_layRows ml_X8_116 rfl rfl rfl (r1) (by decide) (Nat.le_of_ble_eq_true rfl) ?_
      refine r_aload0 dX8_judgeRows_4 ?_
      refine r_getI dX8_judgeRows_5 fl_X8_292 rfl rfl ?_
      refine r_ifne (tgt := 42) dX8_judgeRows_8 (by decide) (fun c9 => absurd (hz) c9) (fun _ => ?_)
      refine r_aload0 dX8_judgeRows_11 ?_
      refine r_getR dX8_judgeRows_12 fl_X8_12 rfl rfl ?_
      refine r_aload0 dX8_judgeRows_15 ?_
      refine r_getI dX8_judgeRows_16 fl_X8_57 rfl rfl ?_
      rw [n1]
      refine r_cV1V dX8_judgeRows_19 mm_X1_settle im_X1_settle se_X1_settle ml_X8_109 rfl rfl rfl (rs) (by decide) (Nat.le_of_ble_eq_true rfl) ?_
      refine r_aload0 dX8_judgeRows_22 ?_
      refine r_getR dX8_judgeRows_23 fl_X8_26 rfl rfl ?_
      refine r_aload0 dX8_judgeRows_26 ?_
      refine r_getR dX8_judgeRows_27 fl_X8_12 rfl rfl ?_
      refine r_aload0 dX8_judgeRows_30 ?_
      refine r_getR dX8_judgeRows_31 fl_X8_19 rfl rfl ?_
      refine r_cV2V dX8_judgeRows_34 mm_X5_judge im_X5_judge se_X5_judge ml_X8_299 rfl rfl rfl (rj) (by decide) (Nat.le_of_ble_eq_true rfl) ?_
      refine r_aload0 dX8_judgeRows_37 ?_
      refine r_iconst_1 dX8_judgeRows_38 ?_
      refine r_putZ dX8_judgeRows_39 fw_X8_292 rfl rfl (by decide) ?_
      exact r_vretE dX8_judgeRows_42 rfl (rfl)
    · have hq' := hq
      unfold scr at hq
      rw [pI_g, if_neg (by omega), rowH_ne _ _ _ _ (by omega) (by omega), pA_g, if_neg (by omega), fs _ _ (by omega) (by omega)]
      exact f1.1 q j hq'
    · show g.2 = h.2
      rw [f2.2, f1.2]
    · rw [pI_g, if_neg (by decide), rowH_ne _ _ _ _ (by decide) (by decide), pA_g, if_neg (by decide), fs _ _ (by decide) (by decide)]
      exact s1
    · rw [pI_g, if_pos ⟨rfl, rfl⟩]
    · obtain ⟨a1, a2, a3⟩ := hT2
      refine ⟨?_, a2, fun k hk => ⟨?_, (a3 k hk).2⟩⟩
      · rw [pI_g, if_neg (by decide), rowH_ne _ _ _ _ (by decide) (by decide), pA_g, if_neg (by decide)]; exact a1
      · rw [pI_g, if_neg (by omega), rowH_ne _ _ _ _ (by decide) (by decide), pA_g, if_neg (by decide)]; exact (a3 k hk).1
    · intro k hk
      rw [pI_g, if_neg (by omega), rowH_ne _ _ _ _ (by decide) (by decide), pA_g, if_pos rfl]
      exact e8 k hk
  · have e : h1 = h := by
      rcases c1 with q | q
      · exact q
      · exact absurd q hz
    subst e
    rcases hH with q | ⟨q, hv⟩
    · exact absurd q hz
    · refine ⟨h1, ?_, FR.rf h1, s1, q, t1, hv s1⟩
      refine rn_of mm_X8_judgeRows (le_b rfl) rfl ?_
      refine r_aload0 dX8_judgeRows_0 ?_
      refine r_cV0V dX8_judgeRows_1 mm_X8_layRows im_X8_layRows se_X8_layRows ml_X8_116 rfl rfl rfl (r1) (by decide) (Nat.le_of_ble_eq_true rfl) ?_
      refine r_aload0 dX8_judgeRows_4 ?_
      refine r_getI dX8_judgeRows_5 fl_X8_292 rfl rfl ?_
      refine r_ifne (tgt := 42) dX8_judgeRows_8 (by decide) (fun _ => ?_) (fun c9 => absurd c9 (hz))
      exact r_vretE dX8_judgeRows_42 rfl (rfl)
theorem JP.ki {h h1 : Hp} {n t kc : Nat} {Kd Mk Bh : Nat → Nat} (hK : KI h n t kc Kd Mk Bh) (j : JP h h1 n t kc Kd Mk Bh) : KI h1 n t kc Kd Mk Bh := by
  obtain ⟨⟨k1, k2, k3, k4, k5, k6⟩, hC, hH⟩ := hK
  obtain ⟨f, s1, s2, tb, hv⟩ := j
  refine ⟨⟨k1, k2, k3, by rw [f.1 0 7 (by unfold scr; omega)]; exact k4, by rw [f.1 0 8 (by unfold scr; omega)]; exact k5, Or.inr ⟨s1, tb⟩⟩, f.clm hC, Or.inr ⟨s2, fun _ k hk => ?_⟩⟩
  rw [f.HsE]
  exact hv k hk
