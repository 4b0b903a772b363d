/-! the reference: holdBits, findRows -/
def MCL (h : Hp) (k : Nat) (Kd Mk Nb Bh : Nat → Nat) : Prop := h.1 31 10 = nI k ∧ k ≤ 10 ∧ ∀ i, i < k → CLm h i (Kd i) (Mk i) (Nb i) (Bh i)
def hbM (C : Nat → Nat) (n : Nat) (Kd Mk Nb Bh : Nat → Nat) (Ru : Nat → Int32) (k : Nat) : Int32 := lp (fun i b => b ||| (if mhB C n (Kd i) (Mk i) (Nb i) (Bh i) (Ru i) then 1 <<< (nI i &&& 31) else 0)) 0 k 0
theorem two_kj (k j : Nat) : 2 * (k * j) ≤ k * k + j * j := by
  by_cases h : k ≤ j
  · obtain ⟨d, rfl⟩ : ∃ d, j = k + d := ⟨j - k, by omega⟩
    simp only [Nat.mul_add, Nat.add_mul]
    have : d * k = k * d := Nat.mul_comm ..
    omega
  · obtain ⟨d, rfl⟩ : ∃ d, k = j + d := ⟨k - j, by omega⟩
    simp only [Nat.mul_add, Nat.add_mul]
    have : d * j = j * d := Nat.mul_comm ..
    omega
theorem cs1 (C : Nat → Nat) (k : Nat) : ∀ j, 2 * (k * S1 C j) ≤ k * k * sg C j + S2 C j := by
  intro j
  induction j with
  | zero => simp [S1, sg]
  | succ j ih =>
    have e1 : S1 C (j + 1) = S1 C j + j * C j := rfl
    have e2 : S2 C (j + 1) = S2 C j + j * j * C j := rfl
    rw [e1, e2, sg_s, Nat.mul_add, Nat.mul_add (k * k)]
    have h1 := Nat.mul_le_mul_right (C j) (two_kj k j)
    have h2 : 2 * (k * j) * C j = 2 * (k * (j * C j)) := by rw [Nat.mul_assoc, Nat.mul_assoc]
    have h3 : (k * k + j * j) * C j = k * k * C j + j * j * C j := Nat.add_mul ..
    omega
theorem cs2 (C : Nat → Nat) : ∀ k, S1 C k * S1 C k ≤ sg C k * S2 C k := by
  intro k
  induction k with
  | zero => exact Nat.le_refl _
  | succ k ih =>
    have e1 : S1 C (k + 1) = S1 C k + k * C k := rfl
    have e2 : S2 C (k + 1) = S2 C k + k * k * C k := rfl
    have h1 := Nat.mul_le_mul_right (C k) (cs1 C k k)
    rw [e1, e2, sg_s]
    generalize S1 C k = s at *
    generalize S2 C k = q at *
    generalize sg C k = m at *
    generalize C k = c at *
    have l : (s + k * c) * (s + k * c) = s * s + 2 * (k * s) * c + k * k * c * c := by
      simp only [Nat.mul_add, Nat.add_mul]
      have a1 : k * c * s = k * s * c := by rw [Nat.mul_assoc, Nat.mul_comm c s, ← Nat.mul_assoc]
      have a2 : s * (k * c) = k * s * c := by rw [← Nat.mul_assoc, Nat.mul_comm s k]
      have a3 : k * c * (k * c) = k * k * c * c := by rw [Nat.mul_assoc k c, ← Nat.mul_assoc c k c, Nat.mul_comm c k, Nat.mul_assoc k c c, ← Nat.mul_assoc k k, ← Nat.mul_assoc]
      have a4 : 2 * (k * s) * c = 2 * (k * s * c) := Nat.mul_assoc ..
      rw [a1, a2, a3, a4]
      omega
    have r : (m + c) * (q + k * k * c) = m * q + (k * k * m + q) * c + k * k * c * c := by
      simp only [Nat.mul_add, Nat.add_mul]
      have a1 : m * (k * k * c) = k * k * m * c := by rw [← Nat.mul_assoc, Nat.mul_comm m]
      have a2 : c * q = q * c := Nat.mul_comm ..
      have a3 : c * (k * k * c) = k * k * c * c := Nat.mul_comm ..
      rw [a1, a2, a3]
      omega
    rw [l, r]
    omega
theorem c_X9_holdBits (C : Nat → Nat) (n k : Nat) (Kd Mk Nb Bh : Nat → Nat) (h : Hp) (hC : MC h C) (hn : 1 ≤ n) (hn9 : n ≤ 9) (h5 : h.1 31 5 = nI n) (hs : sg C 7 = n) (hcl : MCL h k Kd Mk Nb Bh) : Rn 2 MX9_holdBits [.ref 31] h (EI (hbM C n Kd Mk Nb Bh (h.1 41) k) h) := by
  obtain ⟨c1, c2, c3⟩ := hcl
  have hCS : S1 C 7 * S1 C 7 ≤ n * S2 C 7 := by
    have := cs2 C 7
    rw [hs] at this
    exact this
  refine rn_of mm_X9_holdBits (le_b rfl) rfl ?_
  refine r_iconst_0 dX9_holdBits_0 ?_
  refine r_istore1 dX9_holdBits_1 rfl (by decide) ?_
  refine r_iconst_0 dX9_holdBits_2 ?_
  refine r_istore2 dX9_holdBits_3 rfl (by decide) ?_
  refine lpA (fun i b => b ||| (if mhB C n (Kd i) (Mk i) (Nb i) (Bh i) (h.1 41 i) then 1 <<< (nI i &&& 31) else 0)) (fun i b => Aw 2 MX9_holdBits (Kp (EI (hbM C n Kd Mk Nb Bh (h.1 41) k) h)) 4 [some (.ref 31), some (.int b), some (.int (nI i))] [] h) k ?_ 0 ?_
  · intro i b hi kk
    have rh := c_X9_holds C n i (Kd i) (Mk i) (Nb i) (Bh i) h hC hn hn9 h5 hs hCS (by omega) (c3 i hi)
    by_cases e : mhB C n (Kd i) (Mk i) (Nb i) (Bh i) (h.1 41 i) = true
    · rw [if_pos e] at kk
      rw [e] at rh
      refine r_iload2 dX9_holdBits_4 ?_
      refine r_aload0 dX9_holdBits_5 ?_
      refine r_getI dX9_holdBits_6 fl_X9_120 rfl rfl ?_
      refine r_icmpge (tgt := 36) dX9_holdBits_9 (by decide) (fun c9 => absurd c9 (by rw [c1]; exact nI_ge hi (by omega))) (fun _ => ?_)
      refine r_iload1 dX9_holdBits_12 ?_
      refine r_aload0 dX9_holdBits_13 ?_
      refine r_iload2 dX9_holdBits_14 ?_
      refine r_cV1I dX9_holdBits_15 mm_X9_holds im_X9_holds se_X9_holds ml_X9_177 rfl rfl rfl (rh) (by decide) (Nat.le_of_ble_eq_true rfl) ?_
      refine r_ifeq (tgt := 27) dX9_holdBits_18 (by decide) (fun c9 => absurd c9 ((by decide : ¬ (1 : Int32) = 0))) (fun _ => ?_)
      refine r_iconst_1 dX9_holdBits_21 ?_
      refine r_iload2 dX9_holdBits_22 ?_
      refine r_ishl dX9_holdBits_23 ?_
      refine r_goto (tgt := 28) dX9_holdBits_24 (by decide) ?_
      refine r_ior dX9_holdBits_28 ?_
      refine r_istore1 dX9_holdBits_29 rfl (by decide) ?_
      refine r_iinc2_1 dX9_holdBits_30 rfl (by decide) ?_
      refine r_goto (tgt := 4) dX9_holdBits_33 (by decide) ?_
      rw [nI_1]
      exact kk
    · rw [if_neg e] at kk
      rw [show mhB C n (Kd i) (Mk i) (Nb i) (Bh i) (h.1 41 i) = false from Bool.eq_false_iff.mpr e] at rh
      refine r_iload2 dX9_holdBits_4 ?_
      refine r_aload0 dX9_holdBits_5 ?_
      refine r_getI dX9_holdBits_6 fl_X9_120 rfl rfl ?_
      refine r_icmpge (tgt := 36) dX9_holdBits_9 (by decide) (fun c9 => absurd c9 (by rw [c1]; exact nI_ge hi (by omega))) (fun _ => ?_)
      refine r_iload1 dX9_holdBits_12 ?_
      refine r_aload0 dX9_holdBits_13 ?_
      refine r_iload2 dX9_holdBits_14 ?_
      refine r_cV1I dX9_holdBits_15 mm_X9_holds im_X9_holds se_X9_holds ml_X9_177 rfl rfl rfl (rh) (by decide) (Nat.le_of_ble_eq_true rfl) ?_
      refine r_ifeq (tgt := 27) dX9_holdBits_18 (by decide) (fun _ => ?_) (fun c9 => absurd (rfl) c9)
      refine r_iconst_0 dX9_holdBits_27 ?_
      refine r_ior dX9_holdBits_28 ?_
      refine r_istore1 dX9_holdBits_29 rfl (by decide) ?_
      refine r_iinc2_1 dX9_holdBits_30 rfl (by decide) ?_
      refine r_goto (tgt := 4) dX9_holdBits_33 (by decide) ?_
      rw [nI_1]
      exact kk
  · refine r_iload2 dX9_holdBits_4 ?_
    refine r_aload0 dX9_holdBits_5 ?_
    refine r_getI dX9_holdBits_6 fl_X9_120 rfl rfl ?_
    refine r_icmpge (tgt := 36) dX9_holdBits_9 (by decide) (fun _ => ?_) (fun c9 => absurd (by rw [c1]; exact Int32.le_refl _) c9)
    refine r_iload1 dX9_holdBits_36 ?_
    exact r_iretE dX9_holdBits_37 rfl (rfl) (rfl)
def frB (h : Hp) (B : Nat → Int32) (n t k : Nat) : Hp := pI (pA (pA h 43 (fun j => if j < k then nI (rowN n t j) else h.1 43 j)) 44 (fun j => if j < k then B j else h.1 44 j)) 31 20 (nI k)
theorem frB_ne (h : Hp) (B : Nat → Int32) (n t k : Nat) {q : Nat} (j : Nat) (h1 : q ≠ 43) (h2 : q ≠ 44) (h3 : ¬ (q = 31 ∧ j = 20)) : (frB h B n t k).1 q j = h.1 q j := by
  unfold frB
  rw [pI_g, if_neg h3, pA_g, if_neg h2, pA_g, if_neg h1]
theorem frB_20 (h : Hp) (B : Nat → Int32) (n t k : Nat) : (frB h B n t k).1 31 20 = nI k := by
  unfold frB
  rw [pI_g, if_pos ⟨rfl, rfl⟩]
theorem mcD_q (h : Hp) (D : Nat → Nat) {q : Nat} (k : Nat) (x : Int32) (hq : q ≠ 42) : pI (mcD h D) q k x = mcD (pI h q k x) D := by
  unfold mcD
  refine hp_ext (fun p j => ?_) (fun p j => rfl)
  simp only [pI_g, pA_g]
  by_cases e : p = 42
  · subst e
    have : ¬ (42 = q ∧ j = k) := fun z => hq z.1.symm
    simp [this]
  · simp [e]
theorem frB_s (h : Hp) (B : Nat → Int32) (n t k : Nat) : pI (pI (pI (frB h B n t k) 43 k (nI (rowN n t k))) 44 k (B k)) 31 20 (nI (k + 1)) = frB h B n t (k + 1) := by
  unfold frB
  refine hp_ext (fun p j => ?_) (fun p j => rfl)
  simp only [pI_g, pA_g]
  by_cases e1 : p = 31 ∧ j = 20
  · simp [e1]
  · by_cases e2 : p = 44
    · subst e2
      by_cases e3 : j = k
      · subst e3; simp
      · by_cases e4 : j < k
        · have : j < k + 1 := by omega
          simp [e3, e4, this]
        · have : ¬ j < k + 1 := by omega
          simp [e3, e4, this]
    · by_cases e5 : p = 43
      · subst e5
        by_cases e3 : j = k
        · subst e3; simp
        · by_cases e4 : j < k
          · have : j < k + 1 := by omega
            simp [e3, e4, this]
          · have : ¬ j < k + 1 := by omega
            simp [e3, e4, this]
      · simp [e1, e2, e5]
theorem clm_ne {h g : Hp} {k : Nat} {Kd Mk Nb Bh : Nat → Nat} (e : ∀ q j, (37 ≤ q ∧ q ≤ 41 ∨ q = 31 ∧ j = 10) → g.1 q j = h.1 q j) (hc : MCL h k Kd Mk Nb Bh) : MCL g k Kd Mk Nb Bh := by
  obtain ⟨c1, c2, c3⟩ := hc
  refine ⟨by rw [e 31 10 (Or.inr ⟨rfl, rfl⟩), c1], c2, fun i hi => ?_⟩
  have := c3 i hi
  unfold CLm at this ⊢
  rw [e 37 i (Or.inl (by omega)), e 38 i (Or.inl (by omega)), e 39 i (Or.inl (by omega)), e 40 i (Or.inl (by omega))]
  exact this
/-- the bits of row number k -/
def mBt (h : Hp) (n t : Nat) (Kd Mk Nb Bh : Nat → Nat) (kc : Nat) : Nat → Int32 := fun k => hbM (dgt (rowN n t k)) n Kd Mk Nb Bh (h.1 41) kc
theorem c_X9_findRows (n t kc : Nat) (Kd Mk Nb Bh : Nat → Nat) (h : Hp) (hn : 1 ≤ n) (hn9 : n ≤ 9) (ht : t ≤ 6) (h5 : h.1 31 5 = nI n) (h6 : h.1 31 6 = nI t) (hcl : MCL h kc Kd Mk Nb Bh) : Rn 3 MX9_findRows [.ref 31] h (EV (mcD (frB h (mBt h n t Kd Mk Nb Bh kc) n t (NR n t)) (dgt (rowN n t (NR n t - 1))))) := by
  obtain ⟨f1, f2, f3, f4, f5⟩ := run_facts n t 5005 (n * 1000000) (okR hn hn9 ht)
  generalize hB : mBt h n t Kd Mk Nb Bh kc = B
  refine rn_of mm_X9_findRows (le_b rfl) rfl ?_
  refine r_iconst_0 dX9_findRows_0 ?_
  refine r_istore1 dX9_findRows_1 rfl (by decide) ?_
  have main : ∀ f k, k + f + 1 = NR n t → Aw 3 MX9_findRows (Kp (EV (mcD (frB h B n t (NR n t)) (dgt (rowN n t (NR n t - 1)))))) 39 [some (.ref 31), some (.int 1)] [] (mcD (frB h B n t k) (dgt (rowN n t k))) := by
    have step : ∀ k, k < NR n t → ∀ P, Aw 3 MX9_findRows P 79 [some (.ref 31), some (.int 1)] [] (mcD (frB h B n t (k + 1)) (dgt (rowN n t k))) → Aw 3 MX9_findRows P 39 [some (.ref 31), some (.int 1)] [] (mcD (frB h B n t k) (dgt (rowN n t k))) := by
      intro k hk P kk
      have hk5 : k < 5005 := Nat.lt_of_lt_of_le hk f2
      obtain ⟨o1, o2, o3⟩ := okOne_of (f3 k hk)
      have e20 : ∀ g : Hp, ∀ D, (mcD g D).1 31 20 = g.1 31 20 := fun g D => mcD_ne g D 20 (by decide)
      have rw1 := c_X9_rowNow (dgt (rowN n t k)) (mcD (frB h B n t k) (dgt (rowN n t k))) (mcD_C _ _)
      rw [show numN (dgt (rowN n t k)) 7 = rowN n t k from num_dgt o1] at rw1
      refine r_iload1 dX9_findRows_39 ?_
      refine r_ifeq (tgt := 87) dX9_findRows_40 (by decide) (fun c9 => absurd c9 (by decide)) (fun _ => ?_)
      refine r_aload0 dX9_findRows_43 ?_
      refine r_getR dX9_findRows_44 fl_X9_50 rfl rfl ?_
      refine r_aload0 dX9_findRows_47 ?_
      refine r_getI dX9_findRows_48 fl_X9_183 rfl rfl ?_
      rw [e20, frB_20]
      refine r_aload0 dX9_findRows_51 ?_
      refine r_cV0I dX9_findRows_52 mm_X9_rowNow im_X9_rowNow se_X9_rowNow ml_X9_186 rfl rfl rfl (rw1) (by decide) (Nat.le_of_ble_eq_true rfl) ?_
      refine r_iastN dX9_findRows_55 rfl hk5 ?_
      rw [mcD_q _ _ _ _ (by decide)]
      refine r_aload0 dX9_findRows_56 ?_
      refine r_getR dX9_findRows_57 fl_X9_53 rfl rfl ?_
      refine r_aload0 dX9_findRows_60 ?_
      refine r_getI dX9_findRows_61 fl_X9_183 rfl rfl ?_
      rw [e20, pI_ne _ _ _ (by decide), frB_20]
      have hb := c_X9_holdBits (dgt (rowN n t k)) n kc Kd Mk Nb Bh (mcD (pI (frB h B n t k) 43 k (nI (rowN n t k))) (dgt (rowN n t k))) (mcD_C _ _) hn hn9 (by rw [mcD_ne _ _ _ (by decide), pI_ne _ _ _ (by decide), frB_ne _ _ _ _ _ _ (by decide) (by decide) (by decide), h5]) o2 (clm_ne (fun q j hq => by
        have q1 : q ≠ 42 := by omega
        have q2 : q ≠ 43 := by omega
        have q3 : q ≠ 44 := by omega
        rw [mcD_ne _ _ _ q1, pI_ne _ _ _ q2, frB_ne _ _ _ _ _ _ q2 q3 (by omega)]) hcl)
      have e41 : (mcD (pI (frB h B n t k) 43 k (nI (rowN n t k))) (dgt (rowN n t k))).1 41 = h.1 41 := by
        funext j
        rw [mcD_ne _ _ _ (by decide), pI_ne _ _ _ (by decide), frB_ne _ _ _ _ _ _ (by decide) (by decide) (by omega)]
      have eB : hbM (dgt (rowN n t k)) n Kd Mk Nb Bh (h.1 41) kc = B k := by rw [← hB]; rfl
      rw [e41, eB] at hb
      refine r_aload0 dX9_findRows_64 ?_
      refine r_cV0I dX9_findRows_65 mm_X9_holdBits im_X9_holdBits se_X9_holdBits ml_X9_189 rfl rfl rfl (hb) (by decide) (Nat.le_of_ble_eq_true rfl) ?_
      refine r_iastN dX9_findRows_68 rfl hk5 ?_
      rw [mcD_q _ _ _ _ (by decide)]
      refine r_aload0 dX9_findRows_69 ?_
      refine r_dup rfl dX9_findRows_70 ?_
      refine r_getI dX9_findRows_71 fl_X9_183 rfl rfl ?_
      refine r_iconst_1 dX9_findRows_74 ?_
      refine r_iadd dX9_findRows_75 ?_
      rw [e20, pI_ne _ _ _ (by decide), pI_ne _ _ _ (by decide), frB_20, nI_1]
      refine r_putI dX9_findRows_76 fw_X9_183 rfl rfl ?_
      rw [mcD_q _ _ _ _ (by decide), frB_s]
      exact kk
    have gs : ∀ k, k < NR n t → (fm (dgt (rowN n t k)) t = none → Rn 0 MX9_goes [.ref 31] (mcD (frB h B n t (k + 1)) (dgt (rowN n t k))) (EI 0 (mcD (frB h B n t (k + 1)) (dgt (rowN n t k))))) ∧ (∀ m, fm (dgt (rowN n t k)) t = some m → Rn 0 MX9_goes [.ref 31] (mcD (frB h B n t (k + 1)) (dgt (rowN n t k))) (EI 1 (mcD (frB h B n t (k + 1)) (stepC (dgt (rowN n t k)) t m)))) := by
      intro k hk
      exact c_X9_goes t (dgt (rowN n t k)) (frB h B n t (k + 1)) ht (fun j hj => by have := dgt_lt (rowN n t k) j; omega) (by rw [frB_ne _ _ _ _ _ _ (by decide) (by decide) (by decide), h6])
    intro f
    induction f with
    | zero =>
      intro k hk
      have ek : k = NR n t - 1 := by omega
      have f5 : fm (dgt (rowN n t (NR n t - 1))) t = none := f5
      rw [← ek] at f5 ⊢
      refine step k (by omega) _ ?_
      have g := (gs k (by omega)).1 f5
      rw [show k + 1 = NR n t by omega] at g ⊢
      refine r_aload0 dX9_findRows_79 ?_
      refine r_cV0I dX9_findRows_80 mm_X9_goes im_X9_goes se_X9_goes ml_X9_192 rfl rfl rfl (g) (by decide) (Nat.le_of_ble_eq_true rfl) ?_
      refine r_istore1 dX9_findRows_83 rfl (by decide) ?_
      refine r_goto (tgt := 39) dX9_findRows_84 (by decide) ?_
      refine r_iload1 dX9_findRows_39 ?_
      refine r_ifeq (tgt := 87) dX9_findRows_40 (by decide) (fun _ => ?_) (fun c9 => absurd (rfl) c9)
      exact r_vretE dX9_findRows_87 rfl (rfl)
    | succ f ih =>
      intro k hk
      obtain ⟨m, m1, m2⟩ := f4 k (show k + 1 < NR n t by omega)
      have m1 : fm (dgt (rowN n t k)) t = some m := m1
      have m2 := okTo_of m2
      refine step k (by omega) _ ?_
      have g := (gs k (by omega)).2 m m1
      rw [show mcD (frB h B n t (k + 1)) (stepC (dgt (rowN n t k)) t m) = mcD (frB h B n t (k + 1)) (dgt (rowN n t (k + 1))) from mcD_cong _ (fun j hj => (m2 j hj).symm)] at g
      refine r_aload0 dX9_findRows_79 ?_
      refine r_cV0I dX9_findRows_80 mm_X9_goes im_X9_goes se_X9_goes ml_X9_192 rfl rfl rfl (g) (by decide) (Nat.le_of_ble_eq_true rfl) ?_
      refine r_istore1 dX9_findRows_83 rfl (by decide) ?_
      refine r_goto (tgt := 39) dX9_findRows_84 (by decide) ?_
      exact ih (k + 1) (by omega)
  have k0 := main (NR n t - 1) 0 (by have : 1 ≤ NR n t := f1; omega)
  have init : ∀ r i, i + r = 7 → Aw 3 MX9_findRows (Kp (EV (mcD (frB h B n t (NR n t)) (dgt (rowN n t (NR n t - 1)))))) 2 [some (.ref 31), some (.int (nI i))] [] (pA h 42 (fun j => if j < i then nI (if j = 0 then n else 0) else h.1 42 j)) := by
    intro r
    induction r with
    | zero =>
      intro i hi
      have : i = 7 := by omega
      subst this
      refine r_iload1 dX9_findRows_2 ?_
      refine r_bipush bv_7 dX9_findRows_3 ?_
      refine r_icmpge (tgt := 32) dX9_findRows_5 (by decide) (fun _ => ?_) (fun c9 => absurd (by decide) c9)
      refine r_aload0 dX9_findRows_32 ?_
      refine r_iconst_0 dX9_findRows_33 ?_
      refine r_putI dX9_findRows_34 fw_X9_183 rfl rfl ?_
      refine r_iconst_1 dX9_findRows_37 ?_
      refine r_istore1 dX9_findRows_38 rfl (by decide) ?_
      have e : pI (pA h 42 (fun j => if j < 7 then nI (if j = 0 then n else 0) else h.1 42 j)) 31 20 0 = mcD (frB h B n t 0) (dgt (rowN n t 0)) := by
        refine hp_ext (fun p j => ?_) (fun p j => rfl)
        unfold mcD frB
        simp only [pI_g, pA_g]
        by_cases e1 : p = 42
        · subst e1
          simp only [if_pos]
          by_cases e2 : j < 7
          · have := dgt0 n (by omega) j e2
            have e3 : rowN n t 0 = n * 1000000 := rfl
            simp [e2, e3, this]
          · simp [e2]
        · by_cases e2 : p = 31 ∧ j = 20
          · obtain ⟨rfl, rfl⟩ := e2; simp; rfl
          · by_cases e3 : p = 44
            · subst e3; simp
            · by_cases e4 : p = 43
              · subst e4; simp
              · simp [e1, e2, e3, e4]
      rw [e]
      exact k0
    | succ r ih =>
      intro i hi
      have e : ∀ x, x = (if i = 0 then n else 0) → pI (pA h 42 (fun j => if j < i then nI (if j = 0 then n else 0) else h.1 42 j)) 42 i (nI x) = pA h 42 (fun j => if j < i + 1 then nI (if j = 0 then n else 0) else h.1 42 j) := by
        intro x hx
        subst hx
        rw [pI_pA]
        congr 1
        funext y
        unfold upd
        by_cases c : y = i
        · subst c; rw [if_pos rfl, if_pos (show y < y + 1 by omega)]
        · rw [if_neg c]
          dsimp only
          by_cases d : y < i
          · rw [if_pos d, if_pos (show y < i + 1 by omega)]
          · rw [if_neg d, if_neg (show ¬ y < i + 1 by omega)]
      by_cases z : i = 0
      · refine r_iload1 dX9_findRows_2 ?_
        refine r_bipush bv_7 dX9_findRows_3 ?_
        refine r_icmpge (tgt := 32) dX9_findRows_5 (by decide) (fun c9 => absurd c9 (nI_ge (b := 7) (by omega) (by decide))) (fun _ => ?_)
        refine r_aload0 dX9_findRows_8 ?_
        refine r_getR dX9_findRows_9 fl_X9_47 rfl rfl ?_
        refine r_iload1 dX9_findRows_12 ?_
        refine r_iload1 dX9_findRows_13 ?_
        refine r_ifne (tgt := 24) dX9_findRows_14 (by decide) (fun c9 => absurd (by rw [z]; rfl) c9) (fun _ => ?_)
        refine r_aload0 dX9_findRows_17 ?_
        refine r_getI dX9_findRows_18 fl_X9_22 rfl rfl ?_
        rw [pA_g, if_neg (by decide), h5]
        refine r_goto (tgt := 25) dX9_findRows_21 (by decide) ?_
        refine r_iastN dX9_findRows_25 rfl (by omega) ?_
        rw [e n (by rw [if_pos z])]
        refine r_iinc1_1 dX9_findRows_26 rfl (by decide) ?_
        refine r_goto (tgt := 2) dX9_findRows_29 (by decide) ?_
        rw [nI_1]
        exact ih (i + 1) (by omega)
      · refine r_iload1 dX9_findRows_2 ?_
        refine r_bipush bv_7 dX9_findRows_3 ?_
        refine r_icmpge (tgt := 32) dX9_findRows_5 (by decide) (fun c9 => absurd c9 (nI_ge (b := 7) (by omega) (by decide))) (fun _ => ?_)
        refine r_aload0 dX9_findRows_8 ?_
        refine r_getR dX9_findRows_9 fl_X9_47 rfl rfl ?_
        refine r_iload1 dX9_findRows_12 ?_
        refine r_iload1 dX9_findRows_13 ?_
        refine r_ifne (tgt := 24) dX9_findRows_14 (by decide) (fun _ => ?_) (fun c9 => absurd c9 (nI_ne0 (by omega) (by omega)))
        refine r_iconst_0 dX9_findRows_24 ?_
        refine r_iastN dX9_findRows_25 rfl (by omega) ?_
        rw [show (0 : Int32) = nI 0 from rfl, e 0 (by rw [if_neg z])]
        refine r_iinc1_1 dX9_findRows_26 rfl (by decide) ?_
        refine r_goto (tgt := 2) dX9_findRows_29 (by decide) ?_
        rw [nI_1]
        exact ih (i + 1) (by omega)
  have i0 := init 7 0 rfl
  have e0 : pA h 42 (fun j => if j < 0 then nI (if j = 0 then n else 0) else h.1 42 j) = h := by
    refine hp_ext (fun p j => ?_) (fun p j => rfl)
    rw [pA_g]
    by_cases e : p = 42
    · subst e; rw [if_pos rfl, if_neg (by omega)]
    · rw [if_neg e]
  rw [e0] at i0
  exact i0
