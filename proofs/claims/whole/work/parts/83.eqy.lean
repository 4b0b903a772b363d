/-! which claims a row holds: class and reference -/
theorem ten_f {b : Nat} (hb : b ≤ 2) : cSC b = nI (tenN b) ∧ 10 ^ b = tenN b ∧ 1 ≤ tenN b ∧ tenN b ≤ 100 := by
  have : b = 0 ∨ b = 1 ∨ b = 2 := by omega
  rcases this with rfl | rfl | rfl <;> exact ⟨by decide, by decide, by decide, by decide⟩
theorem ite_b {c : Prop} [Decidable c] {a b x : Nat} (h1 : a ≤ x) (h2 : b ≤ x) : (if c then a else b) ≤ x := by split <;> assumption
theorem lsN_b (v : Nat) (r : Int32) {f d : Nat} (hf : 1 ≤ f) (hv : v < 10000) (hd : d ≤ 300) : lsN v r f d < 2 ^ 31 := by
  have hl := lo_le v r
  have h1 : loN v r * d ≤ 20000 * 300 := Nat.mul_le_mul (by omega) hd
  unfold lsN
  refine Nat.lt_of_le_of_lt (Nat.div_le_div_right (c := 2 * f) (b := loN v r * d + 2 * f) (ite_b (by omega) (by omega))) ?_
  rw [Nat.add_div_right _ (by omega)]
  have := Nat.div_le_self (loN v r * d) (2 * f)
  omega
theorem msN_b (v : Nat) (r : Int32) {f d : Nat} (hv : v < 10000) (hd : d ≤ 300) : msN v r f d < 2 ^ 31 := by
  have hl := lo_le v r
  have h1 : hiN v r * d ≤ 20002 * 300 := Nat.mul_le_mul (by omega) hd
  unfold msN
  exact Nat.lt_of_le_of_lt (Nat.div_le_self _ _) (Nat.lt_of_le_of_lt (ite_b (x := hiN v r * d) (by omega) (Nat.le_refl _)) (by omega))
theorem sq_b {a f d : Nat} (h : a ≤ 200 * f) : a * a * d ≤ (10000 * d) * (4 * f * f) := by
  have h1 : a * a ≤ 200 * f * (200 * f) := Nat.mul_le_mul h h
  have h2 := Nat.mul_le_mul_right d h1
  have e : 200 * f * (200 * f) * d = (10000 * d) * (4 * f * f) := by
    have e1 : 200 * f * (200 * f) = 40000 * (f * f) := by rw [Nat.mul_mul_mul_comm]
    have e2 : 4 * f * f = 4 * (f * f) := Nat.mul_assoc ..
    rw [e1, e2]
    generalize f * f = q
    rw [Nat.mul_mul_mul_comm, Nat.mul_comm d q, Nat.mul_assoc]
  omega
theorem lsR_b (v : Nat) (r : Int32) {f d : Nat} (hf : 1 ≤ f) (hf2 : f ≤ 1000) (hv : v + 1 ≤ 100 * f) (hd : d ≤ 300) : lsR v r f d < 2 ^ 31 := by
  have hl := lo_le v r
  have hq := ff_b hf hf2
  have h1 := sq_b (d := d) (show loN v r ≤ 200 * f by omega)
  unfold lsR
  refine Nat.lt_of_le_of_lt (Nat.div_le_div_right (c := 4 * f * f) (b := loN v r * loN v r * d + 4 * f * f) (ite_b (by omega) (by omega))) ?_
  rw [Nat.add_div_right _ (by omega)]
  have := Nat.div_le_div_right (c := 4 * f * f) h1
  rw [Nat.mul_div_cancel _ (by omega)] at this
  omega
theorem msR_b (v : Nat) (r : Int32) {f d : Nat} (hf : 1 ≤ f) (hf2 : f ≤ 1000) (hv : v + 1 ≤ 100 * f) (hd : d ≤ 300) : msR v r f d < 2 ^ 31 := by
  have hl := lo_le v r
  have hq := ff_b hf hf2
  have h1 := sq_b (d := d) (show hiN v r ≤ 200 * f by omega)
  unfold msR
  refine Nat.lt_of_le_of_lt (Nat.div_le_div_right (c := 4 * f * f) (b := hiN v r * hiN v r * d) (ite_b (by omega) (by omega))) ?_
  have := Nat.div_le_div_right (c := 4 * f * f) h1
  rw [Nat.mul_div_cancel _ (by omega)] at this
  omega
theorem in_N {x a b : Nat} (hx : x < 2 ^ 31) (ha : a < 2 ^ 31) (hb : b < 2 ^ 31) : (¬ nI x < nI a ∧ ¬ nI b < nI x) ↔ (a ≤ x ∧ x ≤ b) := by
  rw [nI_ltI hx ha, nI_ltI hb hx]
  omega
theorem in_E {x a : Nat} (hx : x < 2 ^ 31) (ha : a < 2 ^ 31) : (¬ nI x < nI a ∧ ¬ nI a < nI x) ↔ x = a := by
  rw [in_N hx ha ha]
  omega
theorem mx1_N {x : Nat} (hx : x < 2 ^ 31) : mx1 (nI x) = nI (if x = 0 then 1 else x) := by
  unfold mx1
  by_cases z : x = 0
  · subst z; rfl
  · rw [if_neg z, if_neg (show ¬ nI x < 1 from nI_nlt (b := 1) (by omega) hx)]
theorem hb_rt {x v f d : Nat} (r : Int32) (hx : x < 2 ^ 31) (hf : 1 ≤ f) (hf2 : f ≤ 100) (hd : 1 ≤ d) (hd2 : d ≤ 300) (hv : v + 1 ≤ 100 * f) (hr : r = 0 ∨ r = 1 ∨ r = 2) : (¬ nI x < fLeastR (nI v) r (nI f) (nI d) ∧ ¬ fMostR (nI v) r (nI f) (nI d) < nI x) ↔ rtB (x * f * f) d v r = true := by
  rw [fLeastR_N r (by omega) hf (by omega) (by omega), fMostR_N r (by omega) hf (by omega) hd (by omega), in_N hx (lsR_b v r hf (by omega) hv hd2) (msR_b v r hf (by omega) hv hd2), rt_bounds r hf (by omega) hd hr]
theorem hb_rd {x v f d : Nat} (r : Int32) (hx : x < 2 ^ 31) (hf : 1 ≤ f) (hf2 : f ≤ 100) (hd : 1 ≤ d) (hd2 : d ≤ 300) (hv : v < 10000) (hr : r = 0 ∨ r = 1 ∨ r = 2) : (¬ nI x < fLeast (nI v) r (nI f) (nI d) ∧ ¬ fMost (nI v) r (nI f) (nI d) < nI x) ↔ rdN (x * f) d r = v := by
  rw [fLeast_N r (by omega) hf (by omega) (by omega), fMost_N r (by omega) hf (by omega) hd (by omega), in_N hx (lsN_b v r hf hv hd2) (msN_b v r hv hd2), rd_bounds r hf hd hr]
theorem frm_le (C : Nat → Nat) {m : Nat} (hm : m < 7) : frm C m ≤ sg C 7 := by
  have : m = 0 ∨ m = 1 ∨ m = 2 ∨ m = 3 ∨ m = 4 ∨ m = 5 ∨ m = 6 := by omega
  rcases this with rfl | rfl | rfl | rfl | rfl | rfl | rfl <;> simp [frm, sg] <;> omega
theorem hb_one (h : Hp) (Kd Mk Bh : Nat → Nat) {n i N v : Nat} (hn : 1 ≤ n) (hn9 : n ≤ 9) (hs : sg (dgt N) 7 = n) (hk : Kd i ≤ 8) (hb : Bh i ≤ 2) (h4 : 4 ≤ Kd i → h.1 4 i = nI (Mk i) ∧ Mk i < 7) (h5 : Kd i ≤ 5 → h.1 5 i = nI v ∧ v < 10000) (h3 : Kd i ≤ 3 → v + 1 ≤ 100 * 10 ^ Bh i) (hr : h.1 7 i = 0 ∨ h.1 7 i = 1 ∨ h.1 7 i = 2) : (¬ figN N n (Kd i) (Mk i) < (stl h Kd Bh (nI n) i).1 ∧ ¬ (stl h Kd Bh (nI n) i).2 < figN N n (Kd i) (Mk i)) ↔ mhB (dgt N) n (Kd i) (Mk i) v (Bh i) (h.1 7 i) = true := by
  obtain ⟨t1, t2, t3, t4⟩ := ten_f hb
  have b1 : S1 (dgt N) 7 ≤ 54 := by simp only [S1, sg] at hs ⊢; omega
  have b2 : S2 (dgt N) 7 ≤ 324 := by simp only [S2, sg] at hs ⊢; omega
  have hCS : S1 (dgt N) 7 * S1 (dgt N) 7 ≤ n * S2 (dgt N) 7 := by
    have := cs2 (dgt N) 7
    rw [hs] at this
    exact this
  have dl := dgt_lt N
  have fs : (tk0 (dgt N)).1 * (tk0 (dgt N)).2.2.1 - (tk0 (dgt N)).2.1 * (tk0 (dgt N)).2.1 = nI (n * S2 (dgt N) 7 - S1 (dgt N) 7 * S1 (dgt N) 7) := by
    have e1 : (tk0 (dgt N)).1 = nI n := by
      unfold tk0
      rw [tk_1, hs]
      exact Int32.zero_add _
    rw [e1, tk0_s1, tk0_s2, pk_mul, pk_mul, pk_sub hCS]
  have bx : n * S2 (dgt N) 7 - S1 (dgt N) 7 * S1 (dgt N) 7 < 2 ^ 31 := by
    have : n * S2 (dgt N) 7 ≤ 9 * 324 := Nat.mul_le_mul hn9 b2
    omega
  have mk7 : ∀ p, mkA (dgt N) p ≤ 7 := fun p => upF7 _
  rw [t2] at h3
  unfold figN stl mhB
  generalize h.1 7 i = r at *
  generalize Kd i = kd at *
  have : kd = 0 ∨ kd = 1 ∨ kd = 2 ∨ kd = 3 ∨ kd = 4 ∨ kd = 5 ∨ kd = 6 ∨ kd = 7 ∨ kd = 8 := by omega
  rcases this with rfl | rfl | rfl | rfl | rfl | rfl | rfl | rfl | rfl
  · obtain ⟨v1, v2⟩ := h5 (by decide)
    rw [if_pos rfl, if_pos rfl, if_pos rfl, tk0_s1, v1, t1, decide_eq_true_eq]
    exact hb_rd r (by omega) t3 t4 hn (by omega) v2 hr
  · obtain ⟨v1, v2⟩ := h5 (by decide)
    have h3 := h3 (by decide)
    rw [if_neg (by decide), if_pos (Or.inl rfl), if_neg (by decide), if_pos rfl, if_neg (by decide), if_pos rfl, v1, t1, fs, show nI n - 1 = nI (n - 1) from pk_sub (b := 1) hn, pk_mul]
    have bd : n * (n - 1) ≤ 9 * 8 := Nat.mul_le_mul hn9 (by omega)
    rw [mx1_N (by omega)]
    by_cases z : n = 1
    · subst z
      rw [if_pos rfl, if_pos rfl, one_s2 _ hs, decide_eq_true_eq, ← rt_0 (tenN (Bh i)) v r]
      exact hb_rt r (by decide) t3 t4 (by decide) (by decide) h3 hr
    · have nz : 1 * 1 ≤ n * (n - 1) := Nat.mul_le_mul hn (by omega)
      rw [if_neg z, if_neg (by omega)]
      exact hb_rt r bx t3 t4 (by omega) (by omega) h3 hr
  · obtain ⟨v1, v2⟩ := h5 (by decide)
    have h3 := h3 (by decide)
    rw [if_neg (by decide), if_pos (Or.inr rfl), if_neg (by decide), if_neg (by decide), if_pos rfl, if_neg (by decide), if_neg (by decide), if_pos rfl, v1, t1, fs, pk_mul]
    have bd : n * n ≤ 9 * 9 := Nat.mul_le_mul hn9 hn9
    have nz : 1 * 1 ≤ n * n := Nat.mul_le_mul hn hn
    rw [mx1_N (by omega), if_neg (by omega)]
    by_cases z : n = 1
    · subst z
      rw [if_pos rfl, one_s2 _ hs, decide_eq_true_eq, ← rt_0 (tenN (Bh i)) v r]
      exact hb_rt r (by decide) t3 t4 (by decide) (by decide) h3 hr
    · rw [if_neg z]
      exact hb_rt r bx t3 t4 (by omega) (by omega) h3 hr
  · obtain ⟨v1, v2⟩ := h5 (by decide)
    have m1 := mk7 ((n - 1) / 2)
    have m2 := mk7 (n / 2)
    rw [if_neg (by decide), if_neg (by decide), if_pos rfl, if_neg (by decide), if_neg (by decide), if_neg (by decide), if_pos rfl, if_neg (by decide), if_neg (by decide), if_neg (by decide), if_pos rfl, v1, t1, mid2_eq, decide_eq_true_eq]
    exact hb_rd (d := 2) r (by omega) t3 t4 (by decide) (by decide) v2 hr
  · obtain ⟨v1, v2⟩ := h5 (by decide)
    have := dl (Mk i)
    rw [if_neg (by decide), if_neg (by decide), if_neg (by decide), if_pos rfl, if_neg (by decide), if_neg (by decide), if_neg (by decide), if_neg (by decide), if_pos rfl, if_neg (by decide), if_neg (by decide), if_neg (by decide), if_neg (by decide), if_pos rfl, v1, decide_eq_true_eq]
    exact in_E (by omega) (by omega)
  · obtain ⟨v1, v2⟩ := h5 (by decide)
    obtain ⟨m1, m2⟩ := h4 (by decide)
    have fb : frm (dgt N) (Mk i) ≤ n := by
      rw [← hs]
      exact frm_le _ m2
    simp only [show ¬ (5 = 0) by decide, show ¬ (5 = 1 ∨ 5 = 2) by decide, show ¬ (5 = 1) by decide, show ¬ (5 = 2) by decide, show ¬ (5 = 3) by decide, show ¬ (5 = 4) by decide, if_false, if_true]
    rw [v1, decide_eq_true_eq, Nat.mul_comm 100]
    exact hb_rd (f := 100) r (by omega) (by decide) (by decide) hn (by omega) v2 hr
  · obtain ⟨m1, m2⟩ := h4 (by decide)
    simp only [show ¬ (6 = 0) by decide, show ¬ (6 = 1 ∨ 6 = 2) by decide, show ¬ (6 = 1) by decide, show ¬ (6 = 2) by decide, show ¬ (6 = 3) by decide, show ¬ (6 = 4) by decide, show ¬ (6 = 5) by decide, if_false, if_true]
    have := mk7 0
    rw [m1, decide_eq_true_eq, tk0_l _ (by omega)]
    exact in_E (by omega) (by omega)
  · obtain ⟨m1, m2⟩ := h4 (by decide)
    simp only [show ¬ (7 = 0) by decide, show ¬ (7 = 1 ∨ 7 = 2) by decide, show ¬ (7 = 1) by decide, show ¬ (7 = 2) by decide, show ¬ (7 = 3) by decide, show ¬ (7 = 4) by decide, show ¬ (7 = 5) by decide, show ¬ (7 = 6) by decide, if_false, if_true]
    have := mk7 (n - 1)
    rw [m1, decide_eq_true_eq, tk0_g N hs hn]
    exact in_E (by omega) (by omega)
  · obtain ⟨m1, m2⟩ := h4 (by decide)
    simp only [show ¬ (8 = 0) by decide, show ¬ (8 = 1 ∨ 8 = 2) by decide, show ¬ (8 = 1) by decide, show ¬ (8 = 2) by decide, show ¬ (8 = 3) by decide, show ¬ (8 = 4) by decide, show ¬ (8 = 5) by decide, show ¬ (8 = 6) by decide, show ¬ (8 = 7) by decide, if_false]
    have := moK_lt (dgt N) 7 (Nat.le_refl _)
    rw [m1, decide_eq_true_eq, tk0_m _ (fun j => by have := dl j; omega) (by omega)]
    exact in_E (by omega) (by omega)
theorem hb_eq (h : Hp) (Kd Mk Nb Bh : Nat → Nat) (Ru : Nat → Int32) {n N kc : Nat} (hn : 1 ≤ n) (hn9 : n ≤ 9) (hs : sg (dgt N) 7 = n) (hc : ∀ i, i < kc → Kd i ≤ 8 ∧ Bh i ≤ 2 ∧ (4 ≤ Kd i → h.1 4 i = nI (Mk i) ∧ Mk i < 7) ∧ (Kd i ≤ 5 → h.1 5 i = nI (Nb i) ∧ Nb i < 10000) ∧ (Kd i ≤ 3 → Nb i + 1 ≤ 100 * 10 ^ Bh i) ∧ (h.1 7 i = 0 ∨ h.1 7 i = 1 ∨ h.1 7 i = 2) ∧ Ru i = h.1 7 i) : hbN (fun i => (stl h Kd Bh (nI n) i).1) (fun i => (stl h Kd Bh (nI n) i).2) Kd Mk n kc N = hbM (dgt N) n Kd Mk Nb Bh Ru kc := by
  unfold hbN hbM
  apply lp_cong
  intro i b _ hi
  obtain ⟨c1, c2, c3, c4, c5, c6, c7⟩ := hc i (by omega)
  have e := hb_one h Kd Mk Bh hn hn9 hs c1 c2 c3 c4 c5 c6
  rw [c7]
  dsimp only
  by_cases a : figN N n (Kd i) (Mk i) < (stl h Kd Bh (nI n) i).1
  · rw [if_pos a, if_neg (fun q => (e.mpr q).1 a)]
    exact (Int32.or_zero).symm
  · rw [if_neg a]
    by_cases a2 : (stl h Kd Bh (nI n) i).2 < figN N n (Kd i) (Mk i)
    · rw [if_pos a2, if_neg (fun q => (e.mpr q).2 a2)]
      exact (Int32.or_zero).symm
    · rw [if_neg a2, if_pos (e.mp ⟨a, a2⟩)]
